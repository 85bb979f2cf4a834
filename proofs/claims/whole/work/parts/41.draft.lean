/-! CONSTRUCTORS: the contracts -/
/-- an empty Photos at the places b .. b + 8 of a list -/
def phL (g : xG) (u : va_W) (b a : Nat) : Prop := ∃ (q : Nat) (r : Nat → Nat), u[b]? = some (a, .inr (2, [.ref q, .int 0])) ∧ u[b + 1]? = some (q, .inl (xR g, 7, .inr (.inr (.inr (.inr (fun i => if i < 7 then some (r i) else none)))))) ∧ ∀ w, w < 7 → u[b + 2 + w]? = some (r w, .inl (xI g, 10, .inl (fun _ => 0)))
theorem phL.keep {g : xG} {u u1 : va_W} {b a : Nat} (h : phL g u b a) (hk : ∀ j, b ≤ j → j < b + 9 → u1[j]? = u[j]?) : phL g u1 b a := by
  obtain ⟨q, r, h1, h2, h3⟩ := h
  exact ⟨q, r, (hk b (by omega) (by omega)).trans h1, (hk _ (by omega) (by omega)).trans h2, fun w hw => (hk _ (by omega) (by omega)).trans (h3 w hw)⟩
/-- what a constructor leaves as it was -/
def yO (wl u : va_W) (n k : Nat) : Prop := u.length = wl.length + n ∧ ∀ i, i < wl.length → i ≠ k → u[i]? = wl[i]?
set_option maxHeartbeats 4000000 in
set_option maxRecDepth 100000 in
theorem c_X2_init (l : Launch) (g : xG) (wl : va_W) (sz k a : Nat) (hk0 : wl[k]? = some (a, .inr (2, [.null, .int 0]))) : Met l yX2_init wsX2_init ({ frames := 1, cells := 8, slots := 77, locals := 12 }) (yPc g [.ref a] sz wl) (yQ g sz wl (fun u => yO wl u 8 k ∧ ∃ (q : Nat) (r : Nat → Nat), u[k]? = some (a, .inr (2, [.ref q, .int 0])) ∧ u[wl.length]? = some (q, .inl (xR g, 7, .inr (.inr (.inr (.inr (fun i => if i < 7 then some (r i) else none)))))) ∧ ∀ w, w < 7 → u[wl.length + 1 + w]? = some (r w, .inl (xI g, 10, .inl (fun _ => 0))))) 8 77 (va_A wl sz) := by
  refine y_met (ws' := _) (by decide) rfl (Nat.le_of_ble_eq_true rfl) ?_
  intro pz ez s m below meth cz ls S hr hlocks hin2 hsz hP hK hD0 hl
  have hl : lv_has ls 1 [(0, .ref a)] := hl
  subst hsz
  have hD := hD0.self (sz := s.heap.size)
  have hA : ∀ q, s.heap.size ≤ q → va_A wl s.heap.size q := fun q h => Or.inr h
  have hS : va_S (va_A wl s.heap.size) s.heap s.heap [] := va_S.rf
  have hkl := (List.getElem?_eq_some_iff.mp hk0).1
  have ck := hk0
  have hfr : ∀ i, i < wl.length → i ≠ k → wl[i]? = wl[i]? := fun _ _ _ => rfl
  have hlen : wl.length = wl.length + 0 := rfl
  refine lv_aload_n S.1 S.2.1 dX2_init_0 rfl (lv_at hl 0 rfl) ?_
  refine y_obj S hl.1 dX2_init_1 (by decide +kernel) (by decide +kernel) (by decide +kernel) (Nat.le_of_ble_eq_true rfl) (Nat.le_of_ble_eq_true rfl) ?_
  refine lv_aload_n S.1 S.2.1 dX2_init_4 rfl (lv_at hl 0 rfl) ?_
  refine lv_bipush (v := 7) S.1 S.2.1 dX2_init_5 (by decide) ?_
  refine lv_bipush (v := 10) S.1 S.2.1 dX2_init_7 (by decide) ?_
  refine y_mna S hK hP hD hS hA dX2_init_9 (by decide +kernel) (by decide +kernel) (Nat.le_of_ble_eq_true rfl) (Nat.le_of_ble_eq_true rfl) (fun q r H w1 e1 e2 e3 e4 hP hD hS => ?_)
  have ck : w1[k]? = some (a, .inr (2, [.null, .int 0])) := (e4 k (by omega)).trans ck
  have hfr : ∀ i, i < wl.length → i ≠ k → w1[i]? = wl[i]? := fun i h1 h2 => e4 i h1
  have hlen : w1.length = wl.length + 8 := e1
  refine y_putF S hin2 hK.1 hP hD hS dX2_init_13 (k) ck (RX2, TX2, 2) rfl (by decide +kernel) tyX2 tyX2_ok nmX2 0 (by decide) (by decide +kernel) rfl rfl rfl rfl (Nat.le_of_ble_eq_true rfl) (fun H locs w2 hs hP hD hS => ?_)
  have ck : w2[k]? = some (a, .inr (2, [.ref q, .int 0])) := hs.2.1
  have hfr : ∀ i, i < wl.length → i ≠ k → w2[i]? = wl[i]? := fun i h1 h2 => (hs.2.2 i h2).trans (hfr i h1 h2)
  have hlen : w2.length = wl.length + 8 := by have h9 := hs.1; omega
  exact y_vret S hr hlocks hP hD hS dX2_init_16 ⟨⟨hlen, hfr⟩, ⟨q, r, ck, (hs.2.2 _ (by omega)).trans e2, fun w hw => (hs.2.2 _ (by omega)).trans (e3 w hw)⟩⟩
set_option maxHeartbeats 4000000 in
set_option maxRecDepth 100000 in
theorem c_X4_init (l : Launch) (g : xG) (wl : va_W) (sz k a : Nat) (hk0 : wl[k]? = some (a, .inr (4, [.null, .int 0, .int 0, .int 0]))) : Met l yX4_init wsX4_init ({ frames := 1, cells := 1, slots := 60, locals := 13 }) (yPc g [.ref a] sz wl) (yQ g sz wl (fun u => yO wl u 1 k ∧ ∃ q, u[k]? = some (a, .inr (4, [.ref q, .int 0, .int 0, .int 0])) ∧ u[wl.length]? = some (q, .inl (xC g, 60, .inl (fun _ => 0))))) 1 60 (va_A wl sz) := by
  refine y_met (ws' := _) (by decide) rfl (Nat.le_of_ble_eq_true rfl) ?_
  intro pz ez s m below meth cz ls S hr hlocks hin2 hsz hP hK hD0 hl
  have hl : lv_has ls 1 [(0, .ref a)] := hl
  subst hsz
  have hD := hD0.self (sz := s.heap.size)
  have hA : ∀ q, s.heap.size ≤ q → va_A wl s.heap.size q := fun q h => Or.inr h
  have hS : va_S (va_A wl s.heap.size) s.heap s.heap [] := va_S.rf
  have hkl := (List.getElem?_eq_some_iff.mp hk0).1
  have ck := hk0
  have hfr : ∀ i, i < wl.length → i ≠ k → wl[i]? = wl[i]? := fun _ _ _ => rfl
  have hlen : wl.length = wl.length + 0 := rfl
  refine lv_aload_n S.1 S.2.1 dX4_init_0 rfl (lv_at hl 0 rfl) ?_
  refine y_obj S hl.1 dX4_init_1 (by decide +kernel) (by decide +kernel) (by decide +kernel) (Nat.le_of_ble_eq_true rfl) (Nat.le_of_ble_eq_true rfl) ?_
  refine lv_aload_n S.1 S.2.1 dX4_init_4 rfl (lv_at hl 0 rfl) ?_
  refine lv_bipush (v := 60) S.1 S.2.1 dX4_init_5 (by decide) ?_
  refine y_newc S hK.1 hP hD hS hA dX4_init_7 (by decide +kernel) 60 rfl (by decide) (Nat.le_of_ble_eq_true rfl) (Nat.le_of_ble_eq_true rfl) (fun p0 H w1 hg hP hD hS => ?_)
  have ck : w1[k]? = some (a, .inr (4, [.null, .int 0, .int 0, .int 0])) := (hg.2.2 _ (by omega)).trans ck
  have hfr : ∀ i, i < wl.length → i ≠ k → w1[i]? = wl[i]? := fun i h1 h2 => (hg.2.2 i (by omega)).trans (hfr i h1 h2)
  have c0 : w1[wl.length]? = some (p0, .inl (xC g, 60, .inl (fun _ => 0))) := by have h9 := hg.2.1; rw [hlen] at h9; exact h9
  have hlen : w1.length = wl.length + 1 := by have h9 := hg.1; omega
  refine y_putF S hin2 hK.1 hP hD hS dX4_init_9 (k) ck (RX4, TX4, 4) rfl (by decide +kernel) tyX4 tyX4_ok nmX4 0 (by decide) (by decide +kernel) rfl rfl rfl rfl (Nat.le_of_ble_eq_true rfl) (fun H locs w2 hs hP hD hS => ?_)
  have ck : w2[k]? = some (a, .inr (4, [.ref p0, .int 0, .int 0, .int 0])) := hs.2.1
  have c0 : w2[wl.length]? = some (p0, .inl (xC g, 60, .inl (fun _ => 0))) := (hs.2.2 _ (by omega)).trans c0
  have hfr : ∀ i, i < wl.length → i ≠ k → w2[i]? = wl[i]? := fun i h1 h2 => (hs.2.2 i h2).trans (hfr i h1 h2)
  have hlen : w2.length = wl.length + 1 := by have h9 := hs.1; omega
  exact y_vret S hr hlocks hP hD hS dX4_init_12 ⟨⟨hlen, hfr⟩, ⟨_, ck, c0⟩⟩
set_option maxHeartbeats 4000000 in
set_option maxRecDepth 100000 in
theorem c_X0_init (l : Launch) (g : xG) (wl : va_W) (sz k a : Nat) (b : Nat) (hk0 : wl[k]? = some (a, .inr (0, [.null, .int 0, .int 0, .int 0]))) : Met l yX0_init wsX0_init ({ frames := 1, cells := 0, slots := 0, locals := 14 }) (yPc g [.ref a, .ref b] sz wl) (yQ g sz wl (fun u => yO wl u 0 k ∧ u[k]? = some (a, .inr (0, [.ref b, .int 0, .int 0, .int 0])))) 0 0 (va_A wl sz) := by
  refine y_met (ws' := _) (by decide) rfl (Nat.le_of_ble_eq_true rfl) ?_
  intro pz ez s m below meth cz ls S hr hlocks hin2 hsz hP hK hD0 hl
  have hl : lv_has ls 2 [(0, .ref a), (1, .ref b)] := hl
  subst hsz
  have hD := hD0.self (sz := s.heap.size)
  have hA : ∀ q, s.heap.size ≤ q → va_A wl s.heap.size q := fun q h => Or.inr h
  have hS : va_S (va_A wl s.heap.size) s.heap s.heap [] := va_S.rf
  have hkl := (List.getElem?_eq_some_iff.mp hk0).1
  have ck := hk0
  have hfr : ∀ i, i < wl.length → i ≠ k → wl[i]? = wl[i]? := fun _ _ _ => rfl
  have hlen : wl.length = wl.length + 0 := rfl
  refine lv_aload_n S.1 S.2.1 dX0_init_0 rfl (lv_at hl 0 rfl) ?_
  refine y_obj S hl.1 dX0_init_1 (by decide +kernel) (by decide +kernel) (by decide +kernel) (Nat.le_of_ble_eq_true rfl) (Nat.le_of_ble_eq_true rfl) ?_
  refine lv_aload_n S.1 S.2.1 dX0_init_4 rfl (lv_at hl 0 rfl) ?_
  refine lv_aload_n S.1 S.2.1 dX0_init_5 rfl (lv_at hl 1 rfl) ?_
  refine y_putF S hin2 hK.1 hP hD hS dX0_init_6 (k) ck (RX0, TX0, 4) rfl (by decide +kernel) tyX0 tyX0_ok nmX0 0 (by decide) (by decide +kernel) rfl rfl rfl rfl (Nat.le_of_ble_eq_true rfl) (fun H locs w1 hs hP hD hS => ?_)
  have ck : w1[k]? = some (a, .inr (0, [.ref b, .int 0, .int 0, .int 0])) := hs.2.1
  have hfr : ∀ i, i < wl.length → i ≠ k → w1[i]? = wl[i]? := fun i h1 h2 => (hs.2.2 i h2).trans (hfr i h1 h2)
  have hlen : w1.length = wl.length + 0 := by have h9 := hs.1; omega
  exact y_vret S hr hlocks hP hD hS dX0_init_9 ⟨⟨hlen, hfr⟩, ck⟩
set_option maxHeartbeats 4000000 in
set_option maxRecDepth 100000 in
theorem c_X3_init (l : Launch) (g : xG) (wl : va_W) (sz k a : Nat) (b : Nat) (hk0 : wl[k]? = some (a, .inr (3, [.null, .int 0, .int 0, .int 0]))) : Met l yX3_init wsX3_init ({ frames := 1, cells := 0, slots := 0, locals := 14 }) (yPc g [.ref a, .ref b] sz wl) (yQ g sz wl (fun u => yO wl u 0 k ∧ u[k]? = some (a, .inr (3, [.ref b, .int 0, .int 0, .int 0])))) 0 0 (va_A wl sz) := by
  refine y_met (ws' := _) (by decide) rfl (Nat.le_of_ble_eq_true rfl) ?_
  intro pz ez s m below meth cz ls S hr hlocks hin2 hsz hP hK hD0 hl
  have hl : lv_has ls 2 [(0, .ref a), (1, .ref b)] := hl
  subst hsz
  have hD := hD0.self (sz := s.heap.size)
  have hA : ∀ q, s.heap.size ≤ q → va_A wl s.heap.size q := fun q h => Or.inr h
  have hS : va_S (va_A wl s.heap.size) s.heap s.heap [] := va_S.rf
  have hkl := (List.getElem?_eq_some_iff.mp hk0).1
  have ck := hk0
  have hfr : ∀ i, i < wl.length → i ≠ k → wl[i]? = wl[i]? := fun _ _ _ => rfl
  have hlen : wl.length = wl.length + 0 := rfl
  refine lv_aload_n S.1 S.2.1 dX3_init_0 rfl (lv_at hl 0 rfl) ?_
  refine y_obj S hl.1 dX3_init_1 (by decide +kernel) (by decide +kernel) (by decide +kernel) (Nat.le_of_ble_eq_true rfl) (Nat.le_of_ble_eq_true rfl) ?_
  refine lv_aload_n S.1 S.2.1 dX3_init_4 rfl (lv_at hl 0 rfl) ?_
  refine lv_aload_n S.1 S.2.1 dX3_init_5 rfl (lv_at hl 1 rfl) ?_
  refine y_putF S hin2 hK.1 hP hD hS dX3_init_6 (k) ck (RX3, TX3, 4) rfl (by decide +kernel) tyX3 tyX3_ok nmX3 0 (by decide) (by decide +kernel) rfl rfl rfl rfl (Nat.le_of_ble_eq_true rfl) (fun H locs w1 hs hP hD hS => ?_)
  have ck : w1[k]? = some (a, .inr (3, [.ref b, .int 0, .int 0, .int 0])) := hs.2.1
  have hfr : ∀ i, i < wl.length → i ≠ k → w1[i]? = wl[i]? := fun i h1 h2 => (hs.2.2 i h2).trans (hfr i h1 h2)
  have hlen : w1.length = wl.length + 0 := by have h9 := hs.1; omega
  exact y_vret S hr hlocks hP hD hS dX3_init_9 ⟨⟨hlen, hfr⟩, ck⟩
set_option maxHeartbeats 4000000 in
set_option maxRecDepth 100000 in
theorem c_X5_init (l : Launch) (g : xG) (wl : va_W) (sz k a : Nat) (b c9 : Nat) (hk0 : wl[k]? = some (a, .inr (5, [.null, .null, .null, .null]))) : Met l yX5_init wsX5_init ({ frames := 1, cells := 2, slots := 22, locals := 16 }) (yPc g [.ref a, .ref b, .ref c9] sz wl) (yQ g sz wl (fun u => yO wl u 2 k ∧ ∃ q1 q2, u[k]? = some (a, .inr (5, [.ref b, .ref c9, .ref q1, .ref q2])) ∧ u[wl.length]? = some (q1, .inl (xI g, 11, .inl (fun _ => 0))) ∧ u[wl.length + 1]? = some (q2, .inl (xI g, 11, .inl (fun _ => 0))))) 2 22 (va_A wl sz) := by
  refine y_met (ws' := _) (by decide) rfl (Nat.le_of_ble_eq_true rfl) ?_
  intro pz ez s m below meth cz ls S hr hlocks hin2 hsz hP hK hD0 hl
  have hl : lv_has ls 3 [(0, .ref a), (1, .ref b), (2, .ref c9)] := hl
  subst hsz
  have hD := hD0.self (sz := s.heap.size)
  have hA : ∀ q, s.heap.size ≤ q → va_A wl s.heap.size q := fun q h => Or.inr h
  have hS : va_S (va_A wl s.heap.size) s.heap s.heap [] := va_S.rf
  have hkl := (List.getElem?_eq_some_iff.mp hk0).1
  have ck := hk0
  have hfr : ∀ i, i < wl.length → i ≠ k → wl[i]? = wl[i]? := fun _ _ _ => rfl
  have hlen : wl.length = wl.length + 0 := rfl
  refine lv_aload_n S.1 S.2.1 dX5_init_0 rfl (lv_at hl 0 rfl) ?_
  refine y_obj S hl.1 dX5_init_1 (by decide +kernel) (by decide +kernel) (by decide +kernel) (Nat.le_of_ble_eq_true rfl) (Nat.le_of_ble_eq_true rfl) ?_
  refine lv_aload_n S.1 S.2.1 dX5_init_4 rfl (lv_at hl 0 rfl) ?_
  refine lv_bipush (v := 11) S.1 S.2.1 dX5_init_5 (by decide) ?_
  refine y_newi S hK.1 hP hD hS hA dX5_init_7 (by decide +kernel) 11 rfl (by decide) (Nat.le_of_ble_eq_true rfl) (Nat.le_of_ble_eq_true rfl) (fun p0 H w1 hg hP hD hS => ?_)
  have ck : w1[k]? = some (a, .inr (5, [.null, .null, .null, .null])) := (hg.2.2 _ (by omega)).trans ck
  have hfr : ∀ i, i < wl.length → i ≠ k → w1[i]? = wl[i]? := fun i h1 h2 => (hg.2.2 i (by omega)).trans (hfr i h1 h2)
  have c0 : w1[wl.length]? = some (p0, .inl (xI g, 11, .inl (fun _ => 0))) := by have h9 := hg.2.1; rw [hlen] at h9; exact h9
  have hlen : w1.length = wl.length + 1 := by have h9 := hg.1; omega
  refine y_putF S hin2 hK.1 hP hD hS dX5_init_9 (k) ck (RX5, TX5, 4) rfl (by decide +kernel) tyX5 tyX5_ok nmX5 2 (by decide) (by decide +kernel) rfl rfl rfl rfl (Nat.le_of_ble_eq_true rfl) (fun H locs w2 hs hP hD hS => ?_)
  have ck : w2[k]? = some (a, .inr (5, [.null, .null, .ref p0, .null])) := hs.2.1
  have c0 : w2[wl.length]? = some (p0, .inl (xI g, 11, .inl (fun _ => 0))) := (hs.2.2 _ (by omega)).trans c0
  have hfr : ∀ i, i < wl.length → i ≠ k → w2[i]? = wl[i]? := fun i h1 h2 => (hs.2.2 i h2).trans (hfr i h1 h2)
  have hlen : w2.length = wl.length + 1 := by have h9 := hs.1; omega
  refine lv_aload_n S.1 S.2.1 dX5_init_12 rfl (lv_at hl 0 rfl) ?_
  refine lv_bipush (v := 11) S.1 S.2.1 dX5_init_13 (by decide) ?_
  refine y_newi S hK.1 hP hD hS hA dX5_init_15 (by decide +kernel) 11 rfl (by decide) (Nat.le_of_ble_eq_true rfl) (Nat.le_of_ble_eq_true rfl) (fun p1 H w3 hg hP hD hS => ?_)
  have ck : w3[k]? = some (a, .inr (5, [.null, .null, .ref p0, .null])) := (hg.2.2 _ (by omega)).trans ck
  have c0 : w3[wl.length]? = some (p0, .inl (xI g, 11, .inl (fun _ => 0))) := (hg.2.2 _ (by omega)).trans c0
  have hfr : ∀ i, i < wl.length → i ≠ k → w3[i]? = wl[i]? := fun i h1 h2 => (hg.2.2 i (by omega)).trans (hfr i h1 h2)
  have c1 : w3[wl.length + 1]? = some (p1, .inl (xI g, 11, .inl (fun _ => 0))) := by have h9 := hg.2.1; rw [hlen] at h9; exact h9
  have hlen : w3.length = wl.length + 2 := by have h9 := hg.1; omega
  refine y_putF S hin2 hK.1 hP hD hS dX5_init_17 (k) ck (RX5, TX5, 4) rfl (by decide +kernel) tyX5 tyX5_ok nmX5 3 (by decide) (by decide +kernel) rfl rfl rfl rfl (Nat.le_of_ble_eq_true rfl) (fun H locs w4 hs hP hD hS => ?_)
  have ck : w4[k]? = some (a, .inr (5, [.null, .null, .ref p0, .ref p1])) := hs.2.1
  have c0 : w4[wl.length]? = some (p0, .inl (xI g, 11, .inl (fun _ => 0))) := (hs.2.2 _ (by omega)).trans c0
  have c1 : w4[wl.length + 1]? = some (p1, .inl (xI g, 11, .inl (fun _ => 0))) := (hs.2.2 _ (by omega)).trans c1
  have hfr : ∀ i, i < wl.length → i ≠ k → w4[i]? = wl[i]? := fun i h1 h2 => (hs.2.2 i h2).trans (hfr i h1 h2)
  have hlen : w4.length = wl.length + 2 := by have h9 := hs.1; omega
  refine lv_aload_n S.1 S.2.1 dX5_init_20 rfl (lv_at hl 0 rfl) ?_
  refine lv_aload_n S.1 S.2.1 dX5_init_21 rfl (lv_at hl 1 rfl) ?_
  refine y_putF S hin2 hK.1 hP hD hS dX5_init_22 (k) ck (RX5, TX5, 4) rfl (by decide +kernel) tyX5 tyX5_ok nmX5 0 (by decide) (by decide +kernel) rfl rfl rfl rfl (Nat.le_of_ble_eq_true rfl) (fun H locs w5 hs hP hD hS => ?_)
  have ck : w5[k]? = some (a, .inr (5, [.ref b, .null, .ref p0, .ref p1])) := hs.2.1
  have c0 : w5[wl.length]? = some (p0, .inl (xI g, 11, .inl (fun _ => 0))) := (hs.2.2 _ (by omega)).trans c0
  have c1 : w5[wl.length + 1]? = some (p1, .inl (xI g, 11, .inl (fun _ => 0))) := (hs.2.2 _ (by omega)).trans c1
  have hfr : ∀ i, i < wl.length → i ≠ k → w5[i]? = wl[i]? := fun i h1 h2 => (hs.2.2 i h2).trans (hfr i h1 h2)
  have hlen : w5.length = wl.length + 2 := by have h9 := hs.1; omega
  refine lv_aload_n S.1 S.2.1 dX5_init_25 rfl (lv_at hl 0 rfl) ?_
  refine lv_aload_n S.1 S.2.1 dX5_init_26 rfl (lv_at hl 2 rfl) ?_
  refine y_putF S hin2 hK.1 hP hD hS dX5_init_27 (k) ck (RX5, TX5, 4) rfl (by decide +kernel) tyX5 tyX5_ok nmX5 1 (by decide) (by decide +kernel) rfl rfl rfl rfl (Nat.le_of_ble_eq_true rfl) (fun H locs w6 hs hP hD hS => ?_)
  have ck : w6[k]? = some (a, .inr (5, [.ref b, .ref c9, .ref p0, .ref p1])) := hs.2.1
  have c0 : w6[wl.length]? = some (p0, .inl (xI g, 11, .inl (fun _ => 0))) := (hs.2.2 _ (by omega)).trans c0
  have c1 : w6[wl.length + 1]? = some (p1, .inl (xI g, 11, .inl (fun _ => 0))) := (hs.2.2 _ (by omega)).trans c1
  have hfr : ∀ i, i < wl.length → i ≠ k → w6[i]? = wl[i]? := fun i h1 h2 => (hs.2.2 i h2).trans (hfr i h1 h2)
  have hlen : w6.length = wl.length + 2 := by have h9 := hs.1; omega
  exact y_vret S hr hlocks hP hD hS dX5_init_30 ⟨⟨hlen, hfr⟩, ⟨_, _, ck, c0, c1⟩⟩
set_option maxHeartbeats 4000000 in
set_option maxRecDepth 100000 in
theorem c_X1_init (l : Launch) (g : xG) (wl : va_W) (sz k a : Nat) (hk0 : wl[k]? = some (a, .inr (1, [.null, .int 0]))) : Met l yX1_init wsX1_init ({ frames := 2, cells := 37, slots := 321, locals := 40 }) (yPc g [.ref a] sz wl) (yQ g sz wl (fun u => yO wl u 37 k ∧ ∃ (q : Nat) (f : Nat → Option Nat), u[k]? = some (a, .inr (1, [.ref q, .int 0])) ∧ u[wl.length]? = some (q, .inl (xQ g, 4, .inr (.inr (.inr (.inr f))))) ∧ ∀ i, i < 4 → ∃ p, f i = some p ∧ phL g u (wl.length + 1 + 9 * i) p)) 37 321 (va_A wl sz) := by
  refine y_met (ws' := _) (by decide) rfl (Nat.le_of_ble_eq_true rfl) ?_
  intro pz ez s m below meth cz ls S hr hlocks hin2 hsz hP hK hD0 hl
  have hl : lv_has ls 2 [(0, .ref a)] := hl
  subst hsz
  have hD := hD0.self (sz := s.heap.size)
  have hA : ∀ q, s.heap.size ≤ q → va_A wl s.heap.size q := fun q h => Or.inr h
  have hS : va_S (va_A wl s.heap.size) s.heap s.heap [] := va_S.rf
  have hkl := (List.getElem?_eq_some_iff.mp hk0).1
  have ck := hk0
  have hfr : ∀ i, i < wl.length → i ≠ k → wl[i]? = wl[i]? := fun _ _ _ => rfl
  have hlen : wl.length = wl.length + 0 := rfl
  refine lv_aload_n S.1 S.2.1 dX1_init_0 rfl (lv_at hl 0 rfl) ?_
  refine y_obj S hl.1 dX1_init_1 (by decide +kernel) (by decide +kernel) (by decide +kernel) (Nat.le_of_ble_eq_true rfl) (Nat.le_of_ble_eq_true rfl) ?_
  refine lv_aload_n S.1 S.2.1 dX1_init_4 rfl (lv_at hl 0 rfl) ?_
  refine lv_iconst (v := 4) S.1 S.2.1 dX1_init_5 (by decide) ?_
  refine y_newq S hK hP hD hS hA dX1_init_6 (by decide +kernel) 4 rfl (by decide) (Nat.le_of_ble_eq_true rfl) (Nat.le_of_ble_eq_true rfl) (fun p0 H w1 hg hP hD hS => ?_)
  have ck : w1[k]? = some (a, .inr (1, [.null, .int 0])) := (hg.2.2 _ (by omega)).trans ck
  have hfr : ∀ i, i < wl.length → i ≠ k → w1[i]? = wl[i]? := fun i h1 h2 => (hg.2.2 i (by omega)).trans (hfr i h1 h2)
  have c0 : w1[wl.length]? = some (p0, .inl (xQ g, 4, .inr (.inr (.inr (.inr (fun _ => none)))))) := by have h9 := hg.2.1; rw [hlen] at h9; exact h9
  have hlen : w1.length = wl.length + 1 := by have h9 := hg.1; omega
  refine y_putF S hin2 hK.1 hP hD hS dX1_init_9 (k) ck (RX1, TX1, 2) rfl (by decide +kernel) tyX1 tyX1_ok nmX1 0 (by decide) (by decide +kernel) rfl rfl rfl rfl (Nat.le_of_ble_eq_true rfl) (fun H locs w2 hs hP hD hS => ?_)
  have ck : w2[k]? = some (a, .inr (1, [.ref p0, .int 0])) := hs.2.1
  have c0 : w2[wl.length]? = some (p0, .inl (xQ g, 4, .inr (.inr (.inr (.inr (fun _ => none)))))) := (hs.2.2 _ (by omega)).trans c0
  have hfr : ∀ i, i < wl.length → i ≠ k → w2[i]? = wl[i]? := fun i h1 h2 => (hs.2.2 i h2).trans (hfr i h1 h2)
  have hlen : w2.length = wl.length + 1 := by have h9 := hs.1; omega
  refine lv_iconst (v := 0) S.1 S.2.1 dX1_init_12 (by decide) ?_
  refine lv_istore_n (lv' := [(1, .int 0), (0, .ref a)]) S.1 S.2.1 dX1_init_13 rfl hl (by decide) rfl (fun ls hl => ?_)
  refine lv_iload_n S.1 S.2.1 dX1_init_14 rfl (lv_at hl 0 rfl) ?_
  refine lv_iconst (v := 4) S.1 S.2.1 dX1_init_15 (by decide) ?_
  refine lv_icmp_ge (tgt := 38) S.1 S.2.1 dX1_init_16 (by decide) (fun cc => absurd cc (by decide)) (fun cc => ?_)
  refine lv_aload_n S.1 S.2.1 dX1_init_19 rfl (lv_at hl 1 rfl) ?_
  refine y_get S hK.1 hP dX1_init_20 (k) ck (RX1, TX1, 2) rfl (by decide +kernel) 0 (by decide) (by decide +kernel) rfl ?_
  refine lv_iload_n S.1 S.2.1 dX1_init_23 rfl (lv_at hl 0 rfl) ?_
  refine y_new S hK.1 hP hD hS hA dX1_init_24 2 (RX2, TX2, 2) rfl (by decide +kernel) tyX2 tyX2_ok (by decide +kernel) (by decide +kernel) (by decide +kernel) (fs := [.null, .int 0]) (fun j hj => by rcases (show j = 0 ∨ j = 1 by have hj : j < 2 := hj; omega) with rfl | rfl <;> rfl) (Nat.le_of_ble_eq_true rfl) (Nat.le_of_ble_eq_true rfl) (fun p1 H w3 hg hP hD hS => ?_)
  have ck : w3[k]? = some (a, .inr (1, [.ref p0, .int 0])) := (hg.2.2 _ (by omega)).trans ck
  have c0 : w3[wl.length]? = some (p0, .inl (xQ g, 4, .inr (.inr (.inr (.inr (fun _ => none)))))) := (hg.2.2 _ (by omega)).trans c0
  have hfr : ∀ i, i < wl.length → i ≠ k → w3[i]? = wl[i]? := fun i h1 h2 => (hg.2.2 i (by omega)).trans (hfr i h1 h2)
  have c1 : w3[wl.length + 1]? = some (p1, .inr (2, [.null, .int 0])) := by have h9 := hg.2.1; rw [hlen] at h9; exact h9
  have hlen : w3.length = wl.length + 2 := by have h9 := hg.1; omega
  refine lv_dup S.1 S.2.1 dX1_init_27 rfl ?_
  refine y_ci (va_runIN (As := []) (rest := [.ref p1, .int 0, .ref p0]) S (c_X2_init l g w3 _ (wl.length + 1) p1  c1) ⟨va_cnB 0 S.2.2.2.2 gX1_init_X2_init_n17 rfl rfl rfl hK.2.2.2.2.1 (S.2.2.2.2 (.initialized RX2) (by decide +kernel)) (by decide +kernel) ⟨Nat.le_of_ble_eq_true rfl, Nat.le_of_ble_eq_true rfl⟩, rfl, S.2.2.2.2 (.instanceMethod yX2_init) (by decide +kernel)⟩ (y_pre hK hP hD) rfl rfl hl.1 rfl (lv_room (Nat.le_of_ble_eq_true rfl)) dX1_init_28 ⟨Nat.le_of_ble_eq_true rfl, Nat.le_of_ble_eq_true rfl⟩) hD hS hA (fun w4 H locs hu hP hD hS => ?_)
  obtain ⟨ho, hnew⟩ := hu
  have ck : w4[k]? = some (a, .inr (1, [.ref p0, .int 0])) := (ho.2 _ (by omega) (by omega)).trans ck
  have c0 : w4[wl.length]? = some (p0, .inl (xQ g, 4, .inr (.inr (.inr (.inr (fun _ => none)))))) := (ho.2 _ (by omega) (by omega)).trans c0
  have hfr : ∀ i, i < wl.length → i ≠ k → w4[i]? = wl[i]? := fun i h1 h2 => (ho.2 i (by omega) (by omega)).trans (hfr i h1 h2)
  have hlen0 := hlen
  have hlen : w4.length = wl.length + 10 := by have h9 := ho.1; omega
  obtain ⟨q9, r9, h1, h2, h3⟩ := hnew
  have ph_p1 : phL g w4 (wl.length + 1) p1 := ⟨q9, r9, h1, by rw [hlen0] at h2; exact h2, fun w hw => by have h9 := h3 w hw; rw [hlen0] at h9; rw [show wl.length + 1 + 2 + w = wl.length + 2 + 1 + w by omega]; exact h9⟩
  obtain ⟨q9, r9, hq9, -⟩ := id ph_p1
  refine y_astq S hK.1 hP hD hS dX1_init_31 (wl.length) (wl.length + 1) c0 hq9 0 rfl (by decide) (by decide) (fun H locs w5 hs hP hD hS => ?_)
  have ck : w5[k]? = some (a, .inr (1, [.ref p0, .int 0])) := (hs.2.2 _ (by omega)).trans ck
  have c0 : w5[wl.length]? = some (p0, .inl (xQ g, 4, .inr (.inr (.inr (.inr (va_up (fun _ => none) 0 (some p1))))))) := hs.2.1
  have ph_p1 : phL g w5 (wl.length + 1) p1 := ph_p1.keep (fun j h1 h2 => hs.2.2 j (by omega))
  have hfr : ∀ i, i < wl.length → i ≠ k → w5[i]? = wl[i]? := fun i h1 h2 => (hs.2.2 i (by omega)).trans (hfr i h1 h2)
  have hlen : w5.length = wl.length + 10 := by have h9 := hs.1; omega
  refine lv_iinc (v := 1) (lv' := [(1, .int 1), (0, .ref a)]) S.1 S.2.1 dX1_init_32 hl (k := 0) rfl (by decide) (by decide) rfl (fun ls hl => ?_)
  refine lv_goto (tgt := 14) S.1 S.2.1 dX1_init_35 (by decide) ?_
  refine lv_iload_n S.1 S.2.1 dX1_init_14 rfl (lv_at hl 0 rfl) ?_
  refine lv_iconst (v := 4) S.1 S.2.1 dX1_init_15 (by decide) ?_
  refine lv_icmp_ge (tgt := 38) S.1 S.2.1 dX1_init_16 (by decide) (fun cc => absurd cc (by decide)) (fun cc => ?_)
  refine lv_aload_n S.1 S.2.1 dX1_init_19 rfl (lv_at hl 1 rfl) ?_
  refine y_get S hK.1 hP dX1_init_20 (k) ck (RX1, TX1, 2) rfl (by decide +kernel) 0 (by decide) (by decide +kernel) rfl ?_
  refine lv_iload_n S.1 S.2.1 dX1_init_23 rfl (lv_at hl 0 rfl) ?_
  refine y_new S hK.1 hP hD hS hA dX1_init_24 2 (RX2, TX2, 2) rfl (by decide +kernel) tyX2 tyX2_ok (by decide +kernel) (by decide +kernel) (by decide +kernel) (fs := [.null, .int 0]) (fun j hj => by rcases (show j = 0 ∨ j = 1 by have hj : j < 2 := hj; omega) with rfl | rfl <;> rfl) (Nat.le_of_ble_eq_true rfl) (Nat.le_of_ble_eq_true rfl) (fun p10 H w6 hg hP hD hS => ?_)
  have ck : w6[k]? = some (a, .inr (1, [.ref p0, .int 0])) := (hg.2.2 _ (by omega)).trans ck
  have c0 : w6[wl.length]? = some (p0, .inl (xQ g, 4, .inr (.inr (.inr (.inr (va_up (fun _ => none) 0 (some p1))))))) := (hg.2.2 _ (by omega)).trans c0
  have ph_p1 : phL g w6 (wl.length + 1) p1 := ph_p1.keep (fun j h1 h2 => hg.2.2 j (by omega))
  have hfr : ∀ i, i < wl.length → i ≠ k → w6[i]? = wl[i]? := fun i h1 h2 => (hg.2.2 i (by omega)).trans (hfr i h1 h2)
  have c10 : w6[wl.length + 10]? = some (p10, .inr (2, [.null, .int 0])) := by have h9 := hg.2.1; rw [hlen] at h9; exact h9
  have hlen : w6.length = wl.length + 11 := by have h9 := hg.1; omega
  refine lv_dup S.1 S.2.1 dX1_init_27 rfl ?_
  refine y_ci (va_runIN (As := []) (rest := [.ref p10, .int 1, .ref p0]) S (c_X2_init l g w6 _ (wl.length + 10) p10  c10) ⟨va_cnB 0 S.2.2.2.2 gX1_init_X2_init_n17 rfl rfl rfl hK.2.2.2.2.1 (S.2.2.2.2 (.initialized RX2) (by decide +kernel)) (by decide +kernel) ⟨Nat.le_of_ble_eq_true rfl, Nat.le_of_ble_eq_true rfl⟩, rfl, S.2.2.2.2 (.instanceMethod yX2_init) (by decide +kernel)⟩ (y_pre hK hP hD) rfl rfl hl.1 rfl (lv_room (Nat.le_of_ble_eq_true rfl)) dX1_init_28 ⟨Nat.le_of_ble_eq_true rfl, Nat.le_of_ble_eq_true rfl⟩) hD hS hA (fun w7 H locs hu hP hD hS => ?_)
  obtain ⟨ho, hnew⟩ := hu
  have ck : w7[k]? = some (a, .inr (1, [.ref p0, .int 0])) := (ho.2 _ (by omega) (by omega)).trans ck
  have c0 : w7[wl.length]? = some (p0, .inl (xQ g, 4, .inr (.inr (.inr (.inr (va_up (fun _ => none) 0 (some p1))))))) := (ho.2 _ (by omega) (by omega)).trans c0
  have ph_p1 : phL g w7 (wl.length + 1) p1 := ph_p1.keep (fun j h1 h2 => ho.2 j (by omega) (by omega))
  have hfr : ∀ i, i < wl.length → i ≠ k → w7[i]? = wl[i]? := fun i h1 h2 => (ho.2 i (by omega) (by omega)).trans (hfr i h1 h2)
  have hlen0 := hlen
  have hlen : w7.length = wl.length + 19 := by have h9 := ho.1; omega
  obtain ⟨q9, r9, h1, h2, h3⟩ := hnew
  have ph_p10 : phL g w7 (wl.length + 10) p10 := ⟨q9, r9, h1, by rw [hlen0] at h2; exact h2, fun w hw => by have h9 := h3 w hw; rw [hlen0] at h9; rw [show wl.length + 10 + 2 + w = wl.length + 11 + 1 + w by omega]; exact h9⟩
  obtain ⟨q9, r9, hq9, -⟩ := id ph_p10
  refine y_astq S hK.1 hP hD hS dX1_init_31 (wl.length) (wl.length + 10) c0 hq9 1 rfl (by decide) (by decide) (fun H locs w8 hs hP hD hS => ?_)
  have ck : w8[k]? = some (a, .inr (1, [.ref p0, .int 0])) := (hs.2.2 _ (by omega)).trans ck
  have c0 : w8[wl.length]? = some (p0, .inl (xQ g, 4, .inr (.inr (.inr (.inr (va_up (va_up (fun _ => none) 0 (some p1)) 1 (some p10))))))) := hs.2.1
  have ph_p1 : phL g w8 (wl.length + 1) p1 := ph_p1.keep (fun j h1 h2 => hs.2.2 j (by omega))
  have ph_p10 : phL g w8 (wl.length + 10) p10 := ph_p10.keep (fun j h1 h2 => hs.2.2 j (by omega))
  have hfr : ∀ i, i < wl.length → i ≠ k → w8[i]? = wl[i]? := fun i h1 h2 => (hs.2.2 i (by omega)).trans (hfr i h1 h2)
  have hlen : w8.length = wl.length + 19 := by have h9 := hs.1; omega
  refine lv_iinc (v := 2) (lv' := [(1, .int 2), (0, .ref a)]) S.1 S.2.1 dX1_init_32 hl (k := 0) rfl (by decide) (by decide) rfl (fun ls hl => ?_)
  refine lv_goto (tgt := 14) S.1 S.2.1 dX1_init_35 (by decide) ?_
  refine lv_iload_n S.1 S.2.1 dX1_init_14 rfl (lv_at hl 0 rfl) ?_
  refine lv_iconst (v := 4) S.1 S.2.1 dX1_init_15 (by decide) ?_
  refine lv_icmp_ge (tgt := 38) S.1 S.2.1 dX1_init_16 (by decide) (fun cc => absurd cc (by decide)) (fun cc => ?_)
  refine lv_aload_n S.1 S.2.1 dX1_init_19 rfl (lv_at hl 1 rfl) ?_
  refine y_get S hK.1 hP dX1_init_20 (k) ck (RX1, TX1, 2) rfl (by decide +kernel) 0 (by decide) (by decide +kernel) rfl ?_
  refine lv_iload_n S.1 S.2.1 dX1_init_23 rfl (lv_at hl 0 rfl) ?_
  refine y_new S hK.1 hP hD hS hA dX1_init_24 2 (RX2, TX2, 2) rfl (by decide +kernel) tyX2 tyX2_ok (by decide +kernel) (by decide +kernel) (by decide +kernel) (fs := [.null, .int 0]) (fun j hj => by rcases (show j = 0 ∨ j = 1 by have hj : j < 2 := hj; omega) with rfl | rfl <;> rfl) (Nat.le_of_ble_eq_true rfl) (Nat.le_of_ble_eq_true rfl) (fun p19 H w9 hg hP hD hS => ?_)
  have ck : w9[k]? = some (a, .inr (1, [.ref p0, .int 0])) := (hg.2.2 _ (by omega)).trans ck
  have c0 : w9[wl.length]? = some (p0, .inl (xQ g, 4, .inr (.inr (.inr (.inr (va_up (va_up (fun _ => none) 0 (some p1)) 1 (some p10))))))) := (hg.2.2 _ (by omega)).trans c0
  have ph_p1 : phL g w9 (wl.length + 1) p1 := ph_p1.keep (fun j h1 h2 => hg.2.2 j (by omega))
  have ph_p10 : phL g w9 (wl.length + 10) p10 := ph_p10.keep (fun j h1 h2 => hg.2.2 j (by omega))
  have hfr : ∀ i, i < wl.length → i ≠ k → w9[i]? = wl[i]? := fun i h1 h2 => (hg.2.2 i (by omega)).trans (hfr i h1 h2)
  have c19 : w9[wl.length + 19]? = some (p19, .inr (2, [.null, .int 0])) := by have h9 := hg.2.1; rw [hlen] at h9; exact h9
  have hlen : w9.length = wl.length + 20 := by have h9 := hg.1; omega
  refine lv_dup S.1 S.2.1 dX1_init_27 rfl ?_
  refine y_ci (va_runIN (As := []) (rest := [.ref p19, .int 2, .ref p0]) S (c_X2_init l g w9 _ (wl.length + 19) p19  c19) ⟨va_cnB 0 S.2.2.2.2 gX1_init_X2_init_n17 rfl rfl rfl hK.2.2.2.2.1 (S.2.2.2.2 (.initialized RX2) (by decide +kernel)) (by decide +kernel) ⟨Nat.le_of_ble_eq_true rfl, Nat.le_of_ble_eq_true rfl⟩, rfl, S.2.2.2.2 (.instanceMethod yX2_init) (by decide +kernel)⟩ (y_pre hK hP hD) rfl rfl hl.1 rfl (lv_room (Nat.le_of_ble_eq_true rfl)) dX1_init_28 ⟨Nat.le_of_ble_eq_true rfl, Nat.le_of_ble_eq_true rfl⟩) hD hS hA (fun w10 H locs hu hP hD hS => ?_)
  obtain ⟨ho, hnew⟩ := hu
  have ck : w10[k]? = some (a, .inr (1, [.ref p0, .int 0])) := (ho.2 _ (by omega) (by omega)).trans ck
  have c0 : w10[wl.length]? = some (p0, .inl (xQ g, 4, .inr (.inr (.inr (.inr (va_up (va_up (fun _ => none) 0 (some p1)) 1 (some p10))))))) := (ho.2 _ (by omega) (by omega)).trans c0
  have ph_p1 : phL g w10 (wl.length + 1) p1 := ph_p1.keep (fun j h1 h2 => ho.2 j (by omega) (by omega))
  have ph_p10 : phL g w10 (wl.length + 10) p10 := ph_p10.keep (fun j h1 h2 => ho.2 j (by omega) (by omega))
  have hfr : ∀ i, i < wl.length → i ≠ k → w10[i]? = wl[i]? := fun i h1 h2 => (ho.2 i (by omega) (by omega)).trans (hfr i h1 h2)
  have hlen0 := hlen
  have hlen : w10.length = wl.length + 28 := by have h9 := ho.1; omega
  obtain ⟨q9, r9, h1, h2, h3⟩ := hnew
  have ph_p19 : phL g w10 (wl.length + 19) p19 := ⟨q9, r9, h1, by rw [hlen0] at h2; exact h2, fun w hw => by have h9 := h3 w hw; rw [hlen0] at h9; rw [show wl.length + 19 + 2 + w = wl.length + 20 + 1 + w by omega]; exact h9⟩
  obtain ⟨q9, r9, hq9, -⟩ := id ph_p19
  refine y_astq S hK.1 hP hD hS dX1_init_31 (wl.length) (wl.length + 19) c0 hq9 2 rfl (by decide) (by decide) (fun H locs w11 hs hP hD hS => ?_)
  have ck : w11[k]? = some (a, .inr (1, [.ref p0, .int 0])) := (hs.2.2 _ (by omega)).trans ck
  have c0 : w11[wl.length]? = some (p0, .inl (xQ g, 4, .inr (.inr (.inr (.inr (va_up (va_up (va_up (fun _ => none) 0 (some p1)) 1 (some p10)) 2 (some p19))))))) := hs.2.1
  have ph_p1 : phL g w11 (wl.length + 1) p1 := ph_p1.keep (fun j h1 h2 => hs.2.2 j (by omega))
  have ph_p10 : phL g w11 (wl.length + 10) p10 := ph_p10.keep (fun j h1 h2 => hs.2.2 j (by omega))
  have ph_p19 : phL g w11 (wl.length + 19) p19 := ph_p19.keep (fun j h1 h2 => hs.2.2 j (by omega))
  have hfr : ∀ i, i < wl.length → i ≠ k → w11[i]? = wl[i]? := fun i h1 h2 => (hs.2.2 i (by omega)).trans (hfr i h1 h2)
  have hlen : w11.length = wl.length + 28 := by have h9 := hs.1; omega
  refine lv_iinc (v := 3) (lv' := [(1, .int 3), (0, .ref a)]) S.1 S.2.1 dX1_init_32 hl (k := 0) rfl (by decide) (by decide) rfl (fun ls hl => ?_)
  refine lv_goto (tgt := 14) S.1 S.2.1 dX1_init_35 (by decide) ?_
  refine lv_iload_n S.1 S.2.1 dX1_init_14 rfl (lv_at hl 0 rfl) ?_
  refine lv_iconst (v := 4) S.1 S.2.1 dX1_init_15 (by decide) ?_
  refine lv_icmp_ge (tgt := 38) S.1 S.2.1 dX1_init_16 (by decide) (fun cc => absurd cc (by decide)) (fun cc => ?_)
  refine lv_aload_n S.1 S.2.1 dX1_init_19 rfl (lv_at hl 1 rfl) ?_
  refine y_get S hK.1 hP dX1_init_20 (k) ck (RX1, TX1, 2) rfl (by decide +kernel) 0 (by decide) (by decide +kernel) rfl ?_
  refine lv_iload_n S.1 S.2.1 dX1_init_23 rfl (lv_at hl 0 rfl) ?_
  refine y_new S hK.1 hP hD hS hA dX1_init_24 2 (RX2, TX2, 2) rfl (by decide +kernel) tyX2 tyX2_ok (by decide +kernel) (by decide +kernel) (by decide +kernel) (fs := [.null, .int 0]) (fun j hj => by rcases (show j = 0 ∨ j = 1 by have hj : j < 2 := hj; omega) with rfl | rfl <;> rfl) (Nat.le_of_ble_eq_true rfl) (Nat.le_of_ble_eq_true rfl) (fun p28 H w12 hg hP hD hS => ?_)
  have ck : w12[k]? = some (a, .inr (1, [.ref p0, .int 0])) := (hg.2.2 _ (by omega)).trans ck
  have c0 : w12[wl.length]? = some (p0, .inl (xQ g, 4, .inr (.inr (.inr (.inr (va_up (va_up (va_up (fun _ => none) 0 (some p1)) 1 (some p10)) 2 (some p19))))))) := (hg.2.2 _ (by omega)).trans c0
  have ph_p1 : phL g w12 (wl.length + 1) p1 := ph_p1.keep (fun j h1 h2 => hg.2.2 j (by omega))
  have ph_p10 : phL g w12 (wl.length + 10) p10 := ph_p10.keep (fun j h1 h2 => hg.2.2 j (by omega))
  have ph_p19 : phL g w12 (wl.length + 19) p19 := ph_p19.keep (fun j h1 h2 => hg.2.2 j (by omega))
  have hfr : ∀ i, i < wl.length → i ≠ k → w12[i]? = wl[i]? := fun i h1 h2 => (hg.2.2 i (by omega)).trans (hfr i h1 h2)
  have c28 : w12[wl.length + 28]? = some (p28, .inr (2, [.null, .int 0])) := by have h9 := hg.2.1; rw [hlen] at h9; exact h9
  have hlen : w12.length = wl.length + 29 := by have h9 := hg.1; omega
  refine lv_dup S.1 S.2.1 dX1_init_27 rfl ?_
  refine y_ci (va_runIN (As := []) (rest := [.ref p28, .int 3, .ref p0]) S (c_X2_init l g w12 _ (wl.length + 28) p28  c28) ⟨va_cnB 0 S.2.2.2.2 gX1_init_X2_init_n17 rfl rfl rfl hK.2.2.2.2.1 (S.2.2.2.2 (.initialized RX2) (by decide +kernel)) (by decide +kernel) ⟨Nat.le_of_ble_eq_true rfl, Nat.le_of_ble_eq_true rfl⟩, rfl, S.2.2.2.2 (.instanceMethod yX2_init) (by decide +kernel)⟩ (y_pre hK hP hD) rfl rfl hl.1 rfl (lv_room (Nat.le_of_ble_eq_true rfl)) dX1_init_28 ⟨Nat.le_of_ble_eq_true rfl, Nat.le_of_ble_eq_true rfl⟩) hD hS hA (fun w13 H locs hu hP hD hS => ?_)
  obtain ⟨ho, hnew⟩ := hu
  have ck : w13[k]? = some (a, .inr (1, [.ref p0, .int 0])) := (ho.2 _ (by omega) (by omega)).trans ck
  have c0 : w13[wl.length]? = some (p0, .inl (xQ g, 4, .inr (.inr (.inr (.inr (va_up (va_up (va_up (fun _ => none) 0 (some p1)) 1 (some p10)) 2 (some p19))))))) := (ho.2 _ (by omega) (by omega)).trans c0
  have ph_p1 : phL g w13 (wl.length + 1) p1 := ph_p1.keep (fun j h1 h2 => ho.2 j (by omega) (by omega))
  have ph_p10 : phL g w13 (wl.length + 10) p10 := ph_p10.keep (fun j h1 h2 => ho.2 j (by omega) (by omega))
  have ph_p19 : phL g w13 (wl.length + 19) p19 := ph_p19.keep (fun j h1 h2 => ho.2 j (by omega) (by omega))
  have hfr : ∀ i, i < wl.length → i ≠ k → w13[i]? = wl[i]? := fun i h1 h2 => (ho.2 i (by omega) (by omega)).trans (hfr i h1 h2)
  have hlen0 := hlen
  have hlen : w13.length = wl.length + 37 := by have h9 := ho.1; omega
  obtain ⟨q9, r9, h1, h2, h3⟩ := hnew
  have ph_p28 : phL g w13 (wl.length + 28) p28 := ⟨q9, r9, h1, by rw [hlen0] at h2; exact h2, fun w hw => by have h9 := h3 w hw; rw [hlen0] at h9; rw [show wl.length + 28 + 2 + w = wl.length + 29 + 1 + w by omega]; exact h9⟩
  obtain ⟨q9, r9, hq9, -⟩ := id ph_p28
  refine y_astq S hK.1 hP hD hS dX1_init_31 (wl.length) (wl.length + 28) c0 hq9 3 rfl (by decide) (by decide) (fun H locs w14 hs hP hD hS => ?_)
  have ck : w14[k]? = some (a, .inr (1, [.ref p0, .int 0])) := (hs.2.2 _ (by omega)).trans ck
  have c0 : w14[wl.length]? = some (p0, .inl (xQ g, 4, .inr (.inr (.inr (.inr (va_up (va_up (va_up (va_up (fun _ => none) 0 (some p1)) 1 (some p10)) 2 (some p19)) 3 (some p28))))))) := hs.2.1
  have ph_p1 : phL g w14 (wl.length + 1) p1 := ph_p1.keep (fun j h1 h2 => hs.2.2 j (by omega))
  have ph_p10 : phL g w14 (wl.length + 10) p10 := ph_p10.keep (fun j h1 h2 => hs.2.2 j (by omega))
  have ph_p19 : phL g w14 (wl.length + 19) p19 := ph_p19.keep (fun j h1 h2 => hs.2.2 j (by omega))
  have ph_p28 : phL g w14 (wl.length + 28) p28 := ph_p28.keep (fun j h1 h2 => hs.2.2 j (by omega))
  have hfr : ∀ i, i < wl.length → i ≠ k → w14[i]? = wl[i]? := fun i h1 h2 => (hs.2.2 i (by omega)).trans (hfr i h1 h2)
  have hlen : w14.length = wl.length + 37 := by have h9 := hs.1; omega
  refine lv_iinc (v := 4) (lv' := [(1, .int 4), (0, .ref a)]) S.1 S.2.1 dX1_init_32 hl (k := 0) rfl (by decide) (by decide) rfl (fun ls hl => ?_)
  refine lv_goto (tgt := 14) S.1 S.2.1 dX1_init_35 (by decide) ?_
  refine lv_iload_n S.1 S.2.1 dX1_init_14 rfl (lv_at hl 0 rfl) ?_
  refine lv_iconst (v := 4) S.1 S.2.1 dX1_init_15 (by decide) ?_
  refine lv_icmp_ge (tgt := 38) S.1 S.2.1 dX1_init_16 (by decide) (fun cc => ?_) (fun cc => absurd (by decide) cc)
  exact y_vret S hr hlocks hP hD hS dX1_init_38 ⟨⟨hlen, hfr⟩, ⟨_, _, ck, c0, fun i hi => by have h4 : i = 0 ∨ i = 1 ∨ i = 2 ∨ i = 3 := (by omega); rcases h4 with rfl | rfl | rfl | rfl; exact ⟨_, rfl, ph_p1⟩; exact ⟨_, rfl, ph_p10⟩; exact ⟨_, rfl, ph_p19⟩; exact ⟨_, rfl, ph_p28⟩⟩⟩
set_option maxHeartbeats 4000000 in
set_option maxRecDepth 100000 in
theorem c_X6_init (l : Launch) (g : xG) (wl : va_W) (sz k a : Nat) (hk0 : wl[k]? = some (a, .inr (6, [.null, .null, .int 0, .null, .null, .null, .null, .null, .null]))) : Met l yX6_init wsX6_init ({ frames := 3, cells := 64, slots := 585, locals := 80 }) (yPc g [.ref a] sz wl) (yQ g sz wl (fun u => yO wl u 64 k ∧ ∃ (p0 p9 p18 p56 p58 p59 p60 p63 q19 q57 q61 q62 : Nat) (f : Nat → Option Nat), u[k]? = some (a, .inr (6, [.ref p0, .ref p9, .int 0, .ref p18, .ref p56, .ref p58, .ref p59, .ref p60, .ref p63])) ∧ phL g u (wl.length) p0 ∧ phL g u (wl.length + 9) p9 ∧ u[wl.length + 18]? = some (p18, .inr (1, [.ref q19, .int 0])) ∧ u[wl.length + 19]? = some (q19, .inl (xQ g, 4, .inr (.inr (.inr (.inr f))))) ∧ (∀ i, i < 4 → ∃ p, f i = some p ∧ phL g u (wl.length + 20 + 9 * i) p) ∧ u[wl.length + 56]? = some (p56, .inr (4, [.ref q57, .int 0, .int 0, .int 0])) ∧ u[wl.length + 57]? = some (q57, .inl (xC g, 60, .inl (fun _ => 0))) ∧ u[wl.length + 58]? = some (p58, .inl (xI g, 6, .inl (fun _ => 0))) ∧ u[wl.length + 59]? = some (p59, .inr (0, [.ref p0, .int 0, .int 0, .int 0])) ∧ u[wl.length + 60]? = some (p60, .inr (5, [.ref p0, .ref p59, .ref q61, .ref q62])) ∧ u[wl.length + 61]? = some (q61, .inl (xI g, 11, .inl (fun _ => 0))) ∧ u[wl.length + 62]? = some (q62, .inl (xI g, 11, .inl (fun _ => 0))) ∧ u[wl.length + 63]? = some (p63, .inr (3, [.ref p0, .int 0, .int 0, .int 0])))) 64 585 (va_A wl sz) := by
  refine y_met (ws' := _) (by decide) rfl (Nat.le_of_ble_eq_true rfl) ?_
  intro pz ez s m below meth cz ls S hr hlocks hin2 hsz hP hK hD0 hl
  have hl : lv_has ls 1 [(0, .ref a)] := hl
  subst hsz
  have hD := hD0.self (sz := s.heap.size)
  have hA : ∀ q, s.heap.size ≤ q → va_A wl s.heap.size q := fun q h => Or.inr h
  have hS : va_S (va_A wl s.heap.size) s.heap s.heap [] := va_S.rf
  have hkl := (List.getElem?_eq_some_iff.mp hk0).1
  have ck := hk0
  have hfr : ∀ i, i < wl.length → i ≠ k → wl[i]? = wl[i]? := fun _ _ _ => rfl
  have hlen : wl.length = wl.length + 0 := rfl
  refine lv_aload_n S.1 S.2.1 dX6_init_0 rfl (lv_at hl 0 rfl) ?_
  refine y_obj S hl.1 dX6_init_1 (by decide +kernel) (by decide +kernel) (by decide +kernel) (Nat.le_of_ble_eq_true rfl) (Nat.le_of_ble_eq_true rfl) ?_
  refine lv_aload_n S.1 S.2.1 dX6_init_4 rfl (lv_at hl 0 rfl) ?_
  refine y_new S hK.1 hP hD hS hA dX6_init_5 2 (RX2, TX2, 2) rfl (by decide +kernel) tyX2 tyX2_ok (by decide +kernel) (by decide +kernel) (by decide +kernel) (fs := [.null, .int 0]) (fun j hj => by rcases (show j = 0 ∨ j = 1 by have hj : j < 2 := hj; omega) with rfl | rfl <;> rfl) (Nat.le_of_ble_eq_true rfl) (Nat.le_of_ble_eq_true rfl) (fun p0 H w1 hg hP hD hS => ?_)
  have ck : w1[k]? = some (a, .inr (6, [.null, .null, .int 0, .null, .null, .null, .null, .null, .null])) := (hg.2.2 _ (by omega)).trans ck
  have hfr : ∀ i, i < wl.length → i ≠ k → w1[i]? = wl[i]? := fun i h1 h2 => (hg.2.2 i (by omega)).trans (hfr i h1 h2)
  have c0 : w1[wl.length]? = some (p0, .inr (2, [.null, .int 0])) := by have h9 := hg.2.1; rw [hlen] at h9; exact h9
  have hlen : w1.length = wl.length + 1 := by have h9 := hg.1; omega
  refine lv_dup S.1 S.2.1 dX6_init_8 rfl ?_
  refine y_ci (va_runIN (As := []) (rest := [.ref p0, .ref a]) S (c_X2_init l g w1 _ (wl.length) p0  c0) ⟨va_cnB 0 S.2.2.2.2 gX6_init_X2_init_n9 rfl rfl rfl hK.2.2.2.1 (S.2.2.2.2 (.initialized RX2) (by decide +kernel)) (by decide +kernel) ⟨Nat.le_of_ble_eq_true rfl, Nat.le_of_ble_eq_true rfl⟩, rfl, S.2.2.2.2 (.instanceMethod yX2_init) (by decide +kernel)⟩ (y_pre hK hP hD) rfl rfl hl.1 rfl (lv_room (Nat.le_of_ble_eq_true rfl)) dX6_init_9 ⟨Nat.le_of_ble_eq_true rfl, Nat.le_of_ble_eq_true rfl⟩) hD hS hA (fun w2 H locs hu hP hD hS => ?_)
  obtain ⟨ho, hnew⟩ := hu
  have ck : w2[k]? = some (a, .inr (6, [.null, .null, .int 0, .null, .null, .null, .null, .null, .null])) := (ho.2 _ (by omega) (by omega)).trans ck
  have hfr : ∀ i, i < wl.length → i ≠ k → w2[i]? = wl[i]? := fun i h1 h2 => (ho.2 i (by omega) (by omega)).trans (hfr i h1 h2)
  have hlen0 := hlen
  have hlen : w2.length = wl.length + 9 := by have h9 := ho.1; omega
  obtain ⟨q9, r9, h1, h2, h3⟩ := hnew
  have ph_p0 : phL g w2 (wl.length) p0 := ⟨q9, r9, h1, by rw [hlen0] at h2; exact h2, fun w hw => by have h9 := h3 w hw; rw [hlen0] at h9; rw [show wl.length + 2 + w = wl.length + 1 + 1 + w by omega]; exact h9⟩
  refine y_putF S hin2 hK.1 hP hD hS dX6_init_12 (k) ck (RX6, TX6, 9) rfl (by decide +kernel) tyX6 tyX6_ok nmX6 0 (by decide) (by decide +kernel) rfl rfl rfl rfl (Nat.le_of_ble_eq_true rfl) (fun H locs w3 hs hP hD hS => ?_)
  have ck : w3[k]? = some (a, .inr (6, [.ref p0, .null, .int 0, .null, .null, .null, .null, .null, .null])) := hs.2.1
  have ph_p0 : phL g w3 (wl.length) p0 := ph_p0.keep (fun j h1 h2 => hs.2.2 j (by omega))
  have hfr : ∀ i, i < wl.length → i ≠ k → w3[i]? = wl[i]? := fun i h1 h2 => (hs.2.2 i h2).trans (hfr i h1 h2)
  have hlen : w3.length = wl.length + 9 := by have h9 := hs.1; omega
  refine lv_aload_n S.1 S.2.1 dX6_init_15 rfl (lv_at hl 0 rfl) ?_
  refine y_new S hK.1 hP hD hS hA dX6_init_16 2 (RX2, TX2, 2) rfl (by decide +kernel) tyX2 tyX2_ok (by decide +kernel) (by decide +kernel) (by decide +kernel) (fs := [.null, .int 0]) (fun j hj => by rcases (show j = 0 ∨ j = 1 by have hj : j < 2 := hj; omega) with rfl | rfl <;> rfl) (Nat.le_of_ble_eq_true rfl) (Nat.le_of_ble_eq_true rfl) (fun p9 H w4 hg hP hD hS => ?_)
  have ck : w4[k]? = some (a, .inr (6, [.ref p0, .null, .int 0, .null, .null, .null, .null, .null, .null])) := (hg.2.2 _ (by omega)).trans ck
  have ph_p0 : phL g w4 (wl.length) p0 := ph_p0.keep (fun j h1 h2 => hg.2.2 j (by omega))
  have hfr : ∀ i, i < wl.length → i ≠ k → w4[i]? = wl[i]? := fun i h1 h2 => (hg.2.2 i (by omega)).trans (hfr i h1 h2)
  have c9 : w4[wl.length + 9]? = some (p9, .inr (2, [.null, .int 0])) := by have h9 := hg.2.1; rw [hlen] at h9; exact h9
  have hlen : w4.length = wl.length + 10 := by have h9 := hg.1; omega
  refine lv_dup S.1 S.2.1 dX6_init_19 rfl ?_
  refine y_ci (va_runIN (As := []) (rest := [.ref p9, .ref a]) S (c_X2_init l g w4 _ (wl.length + 9) p9  c9) ⟨va_cnB 0 S.2.2.2.2 gX6_init_X2_init_n9 rfl rfl rfl hK.2.2.2.1 (S.2.2.2.2 (.initialized RX2) (by decide +kernel)) (by decide +kernel) ⟨Nat.le_of_ble_eq_true rfl, Nat.le_of_ble_eq_true rfl⟩, rfl, S.2.2.2.2 (.instanceMethod yX2_init) (by decide +kernel)⟩ (y_pre hK hP hD) rfl rfl hl.1 rfl (lv_room (Nat.le_of_ble_eq_true rfl)) dX6_init_20 ⟨Nat.le_of_ble_eq_true rfl, Nat.le_of_ble_eq_true rfl⟩) hD hS hA (fun w5 H locs hu hP hD hS => ?_)
  obtain ⟨ho, hnew⟩ := hu
  have ck : w5[k]? = some (a, .inr (6, [.ref p0, .null, .int 0, .null, .null, .null, .null, .null, .null])) := (ho.2 _ (by omega) (by omega)).trans ck
  have ph_p0 : phL g w5 (wl.length) p0 := ph_p0.keep (fun j h1 h2 => ho.2 j (by omega) (by omega))
  have hfr : ∀ i, i < wl.length → i ≠ k → w5[i]? = wl[i]? := fun i h1 h2 => (ho.2 i (by omega) (by omega)).trans (hfr i h1 h2)
  have hlen0 := hlen
  have hlen : w5.length = wl.length + 18 := by have h9 := ho.1; omega
  obtain ⟨q9, r9, h1, h2, h3⟩ := hnew
  have ph_p9 : phL g w5 (wl.length + 9) p9 := ⟨q9, r9, h1, by rw [hlen0] at h2; exact h2, fun w hw => by have h9 := h3 w hw; rw [hlen0] at h9; rw [show wl.length + 9 + 2 + w = wl.length + 10 + 1 + w by omega]; exact h9⟩
  refine y_putF S hin2 hK.1 hP hD hS dX6_init_23 (k) ck (RX6, TX6, 9) rfl (by decide +kernel) tyX6 tyX6_ok nmX6 1 (by decide) (by decide +kernel) rfl rfl rfl rfl (Nat.le_of_ble_eq_true rfl) (fun H locs w6 hs hP hD hS => ?_)
  have ck : w6[k]? = some (a, .inr (6, [.ref p0, .ref p9, .int 0, .null, .null, .null, .null, .null, .null])) := hs.2.1
  have ph_p0 : phL g w6 (wl.length) p0 := ph_p0.keep (fun j h1 h2 => hs.2.2 j (by omega))
  have ph_p9 : phL g w6 (wl.length + 9) p9 := ph_p9.keep (fun j h1 h2 => hs.2.2 j (by omega))
  have hfr : ∀ i, i < wl.length → i ≠ k → w6[i]? = wl[i]? := fun i h1 h2 => (hs.2.2 i h2).trans (hfr i h1 h2)
  have hlen : w6.length = wl.length + 18 := by have h9 := hs.1; omega
  refine lv_aload_n S.1 S.2.1 dX6_init_26 rfl (lv_at hl 0 rfl) ?_
  refine y_new S hK.1 hP hD hS hA dX6_init_27 1 (RX1, TX1, 2) rfl (by decide +kernel) tyX1 tyX1_ok (by decide +kernel) (by decide +kernel) (by decide +kernel) (fs := [.null, .int 0]) (fun j hj => by rcases (show j = 0 ∨ j = 1 by have hj : j < 2 := hj; omega) with rfl | rfl <;> rfl) (Nat.le_of_ble_eq_true rfl) (Nat.le_of_ble_eq_true rfl) (fun p18 H w7 hg hP hD hS => ?_)
  have ck : w7[k]? = some (a, .inr (6, [.ref p0, .ref p9, .int 0, .null, .null, .null, .null, .null, .null])) := (hg.2.2 _ (by omega)).trans ck
  have ph_p0 : phL g w7 (wl.length) p0 := ph_p0.keep (fun j h1 h2 => hg.2.2 j (by omega))
  have ph_p9 : phL g w7 (wl.length + 9) p9 := ph_p9.keep (fun j h1 h2 => hg.2.2 j (by omega))
  have hfr : ∀ i, i < wl.length → i ≠ k → w7[i]? = wl[i]? := fun i h1 h2 => (hg.2.2 i (by omega)).trans (hfr i h1 h2)
  have c18 : w7[wl.length + 18]? = some (p18, .inr (1, [.null, .int 0])) := by have h9 := hg.2.1; rw [hlen] at h9; exact h9
  have hlen : w7.length = wl.length + 19 := by have h9 := hg.1; omega
  refine lv_dup S.1 S.2.1 dX6_init_30 rfl ?_
  refine y_ci (va_runI (As := []) (rest := [.ref p18, .ref a]) S (c_X1_init l g w7 _ (wl.length + 18) p18  c18) (cwI 0 S.2.2.2.2 gX6_init_X1_init rfl rfl rfl (S.2.2.2.2 (.initialized RX1) (by decide +kernel)) (S.2.2.2.2 (.methodLink RX6 21 yX1_init) (by decide +kernel)) (S.2.2.2.2 (.instanceMethod yX1_init) (by decide +kernel)) rfl (by decide +kernel) ⟨Nat.le_of_ble_eq_true rfl, Nat.le_of_ble_eq_true rfl⟩) (y_pre hK hP hD) rfl rfl hl.1 rfl (lv_room (Nat.le_of_ble_eq_true rfl)) dX6_init_31 ⟨Nat.le_of_ble_eq_true rfl, Nat.le_of_ble_eq_true rfl⟩) hD hS hA (fun w8 H locs hu hP hD hS => ?_)
  obtain ⟨ho, hnew⟩ := hu
  have ck : w8[k]? = some (a, .inr (6, [.ref p0, .ref p9, .int 0, .null, .null, .null, .null, .null, .null])) := (ho.2 _ (by omega) (by omega)).trans ck
  have ph_p0 : phL g w8 (wl.length) p0 := ph_p0.keep (fun j h1 h2 => ho.2 j (by omega) (by omega))
  have ph_p9 : phL g w8 (wl.length + 9) p9 := ph_p9.keep (fun j h1 h2 => ho.2 j (by omega) (by omega))
  have hfr : ∀ i, i < wl.length → i ≠ k → w8[i]? = wl[i]? := fun i h1 h2 => (ho.2 i (by omega) (by omega)).trans (hfr i h1 h2)
  have hlen0 := hlen
  have hlen : w8.length = wl.length + 56 := by have h9 := ho.1; omega
  obtain ⟨q19, f9, c18, h2, h3⟩ := hnew
  have c19 : w8[wl.length + 19]? = some (q19, .inl (xQ g, 4, .inr (.inr (.inr (.inr f9))))) := by rw [hlen0] at h2; exact h2
  obtain ⟨p20, hf0, ph_p20⟩ := h3 0 (by decide)
  have ph_p20 : phL g w8 (wl.length + 20) p20 := by rw [hlen0] at ph_p20; exact ph_p20
  obtain ⟨p29, hf1, ph_p29⟩ := h3 1 (by decide)
  have ph_p29 : phL g w8 (wl.length + 29) p29 := by rw [hlen0] at ph_p29; exact ph_p29
  obtain ⟨p38, hf2, ph_p38⟩ := h3 2 (by decide)
  have ph_p38 : phL g w8 (wl.length + 38) p38 := by rw [hlen0] at ph_p38; exact ph_p38
  obtain ⟨p47, hf3, ph_p47⟩ := h3 3 (by decide)
  have ph_p47 : phL g w8 (wl.length + 47) p47 := by rw [hlen0] at ph_p47; exact ph_p47
  refine y_putF S hin2 hK.1 hP hD hS dX6_init_34 (k) ck (RX6, TX6, 9) rfl (by decide +kernel) tyX6 tyX6_ok nmX6 3 (by decide) (by decide +kernel) rfl rfl rfl rfl (Nat.le_of_ble_eq_true rfl) (fun H locs w9 hs hP hD hS => ?_)
  have ck : w9[k]? = some (a, .inr (6, [.ref p0, .ref p9, .int 0, .ref p18, .null, .null, .null, .null, .null])) := hs.2.1
  have c18 : w9[wl.length + 18]? = some (p18, .inr (1, [.ref q19, .int 0])) := (hs.2.2 _ (by omega)).trans c18
  have c19 : w9[wl.length + 19]? = some (q19, .inl (xQ g, 4, .inr (.inr (.inr (.inr f9))))) := (hs.2.2 _ (by omega)).trans c19
  have ph_p0 : phL g w9 (wl.length) p0 := ph_p0.keep (fun j h1 h2 => hs.2.2 j (by omega))
  have ph_p9 : phL g w9 (wl.length + 9) p9 := ph_p9.keep (fun j h1 h2 => hs.2.2 j (by omega))
  have ph_p20 : phL g w9 (wl.length + 20) p20 := ph_p20.keep (fun j h1 h2 => hs.2.2 j (by omega))
  have ph_p29 : phL g w9 (wl.length + 29) p29 := ph_p29.keep (fun j h1 h2 => hs.2.2 j (by omega))
  have ph_p38 : phL g w9 (wl.length + 38) p38 := ph_p38.keep (fun j h1 h2 => hs.2.2 j (by omega))
  have ph_p47 : phL g w9 (wl.length + 47) p47 := ph_p47.keep (fun j h1 h2 => hs.2.2 j (by omega))
  have hfr : ∀ i, i < wl.length → i ≠ k → w9[i]? = wl[i]? := fun i h1 h2 => (hs.2.2 i h2).trans (hfr i h1 h2)
  have hlen : w9.length = wl.length + 56 := by have h9 := hs.1; omega
  refine lv_aload_n S.1 S.2.1 dX6_init_37 rfl (lv_at hl 0 rfl) ?_
  refine y_new S hK.1 hP hD hS hA dX6_init_38 4 (RX4, TX4, 4) rfl (by decide +kernel) tyX4 tyX4_ok (by decide +kernel) (by decide +kernel) (by decide +kernel) (fs := [.null, .int 0, .int 0, .int 0]) (fun j hj => by rcases (show j = 0 ∨ j = 1 ∨ j = 2 ∨ j = 3 by have hj : j < 4 := hj; omega) with rfl | rfl | rfl | rfl <;> rfl) (Nat.le_of_ble_eq_true rfl) (Nat.le_of_ble_eq_true rfl) (fun p56 H w10 hg hP hD hS => ?_)
  have ck : w10[k]? = some (a, .inr (6, [.ref p0, .ref p9, .int 0, .ref p18, .null, .null, .null, .null, .null])) := (hg.2.2 _ (by omega)).trans ck
  have c18 : w10[wl.length + 18]? = some (p18, .inr (1, [.ref q19, .int 0])) := (hg.2.2 _ (by omega)).trans c18
  have c19 : w10[wl.length + 19]? = some (q19, .inl (xQ g, 4, .inr (.inr (.inr (.inr f9))))) := (hg.2.2 _ (by omega)).trans c19
  have ph_p0 : phL g w10 (wl.length) p0 := ph_p0.keep (fun j h1 h2 => hg.2.2 j (by omega))
  have ph_p9 : phL g w10 (wl.length + 9) p9 := ph_p9.keep (fun j h1 h2 => hg.2.2 j (by omega))
  have ph_p20 : phL g w10 (wl.length + 20) p20 := ph_p20.keep (fun j h1 h2 => hg.2.2 j (by omega))
  have ph_p29 : phL g w10 (wl.length + 29) p29 := ph_p29.keep (fun j h1 h2 => hg.2.2 j (by omega))
  have ph_p38 : phL g w10 (wl.length + 38) p38 := ph_p38.keep (fun j h1 h2 => hg.2.2 j (by omega))
  have ph_p47 : phL g w10 (wl.length + 47) p47 := ph_p47.keep (fun j h1 h2 => hg.2.2 j (by omega))
  have hfr : ∀ i, i < wl.length → i ≠ k → w10[i]? = wl[i]? := fun i h1 h2 => (hg.2.2 i (by omega)).trans (hfr i h1 h2)
  have c56 : w10[wl.length + 56]? = some (p56, .inr (4, [.null, .int 0, .int 0, .int 0])) := by have h9 := hg.2.1; rw [hlen] at h9; exact h9
  have hlen : w10.length = wl.length + 57 := by have h9 := hg.1; omega
  refine lv_dup S.1 S.2.1 dX6_init_41 rfl ?_
  refine y_ci (va_runIN (As := []) (rest := [.ref p56, .ref a]) S (c_X4_init l g w10 _ (wl.length + 56) p56  c56) ⟨va_cnB 0 S.2.2.2.2 gX6_init_X4_init_n28 rfl rfl rfl hK.2.2.2.2.2 (S.2.2.2.2 (.initialized RX4) (by decide +kernel)) (by decide +kernel) ⟨Nat.le_of_ble_eq_true rfl, Nat.le_of_ble_eq_true rfl⟩, rfl, S.2.2.2.2 (.instanceMethod yX4_init) (by decide +kernel)⟩ (y_pre hK hP hD) rfl rfl hl.1 rfl (lv_room (Nat.le_of_ble_eq_true rfl)) dX6_init_42 ⟨Nat.le_of_ble_eq_true rfl, Nat.le_of_ble_eq_true rfl⟩) hD hS hA (fun w11 H locs hu hP hD hS => ?_)
  obtain ⟨ho, hnew⟩ := hu
  have ck : w11[k]? = some (a, .inr (6, [.ref p0, .ref p9, .int 0, .ref p18, .null, .null, .null, .null, .null])) := (ho.2 _ (by omega) (by omega)).trans ck
  have c18 : w11[wl.length + 18]? = some (p18, .inr (1, [.ref q19, .int 0])) := (ho.2 _ (by omega) (by omega)).trans c18
  have c19 : w11[wl.length + 19]? = some (q19, .inl (xQ g, 4, .inr (.inr (.inr (.inr f9))))) := (ho.2 _ (by omega) (by omega)).trans c19
  have ph_p0 : phL g w11 (wl.length) p0 := ph_p0.keep (fun j h1 h2 => ho.2 j (by omega) (by omega))
  have ph_p9 : phL g w11 (wl.length + 9) p9 := ph_p9.keep (fun j h1 h2 => ho.2 j (by omega) (by omega))
  have ph_p20 : phL g w11 (wl.length + 20) p20 := ph_p20.keep (fun j h1 h2 => ho.2 j (by omega) (by omega))
  have ph_p29 : phL g w11 (wl.length + 29) p29 := ph_p29.keep (fun j h1 h2 => ho.2 j (by omega) (by omega))
  have ph_p38 : phL g w11 (wl.length + 38) p38 := ph_p38.keep (fun j h1 h2 => ho.2 j (by omega) (by omega))
  have ph_p47 : phL g w11 (wl.length + 47) p47 := ph_p47.keep (fun j h1 h2 => ho.2 j (by omega) (by omega))
  have hfr : ∀ i, i < wl.length → i ≠ k → w11[i]? = wl[i]? := fun i h1 h2 => (ho.2 i (by omega) (by omega)).trans (hfr i h1 h2)
  have hlen0 := hlen
  have hlen : w11.length = wl.length + 58 := by have h9 := ho.1; omega
  obtain ⟨q57, c56, h2⟩ := hnew
  have c57 : w11[wl.length + 57]? = some (q57, .inl (xC g, 60, .inl (fun _ => 0))) := by rw [hlen0] at h2; exact h2
  refine y_putF S hin2 hK.1 hP hD hS dX6_init_45 (k) ck (RX6, TX6, 9) rfl (by decide +kernel) tyX6 tyX6_ok nmX6 4 (by decide) (by decide +kernel) rfl rfl rfl rfl (Nat.le_of_ble_eq_true rfl) (fun H locs w12 hs hP hD hS => ?_)
  have ck : w12[k]? = some (a, .inr (6, [.ref p0, .ref p9, .int 0, .ref p18, .ref p56, .null, .null, .null, .null])) := hs.2.1
  have c18 : w12[wl.length + 18]? = some (p18, .inr (1, [.ref q19, .int 0])) := (hs.2.2 _ (by omega)).trans c18
  have c19 : w12[wl.length + 19]? = some (q19, .inl (xQ g, 4, .inr (.inr (.inr (.inr f9))))) := (hs.2.2 _ (by omega)).trans c19
  have c56 : w12[wl.length + 56]? = some (p56, .inr (4, [.ref q57, .int 0, .int 0, .int 0])) := (hs.2.2 _ (by omega)).trans c56
  have c57 : w12[wl.length + 57]? = some (q57, .inl (xC g, 60, .inl (fun _ => 0))) := (hs.2.2 _ (by omega)).trans c57
  have ph_p0 : phL g w12 (wl.length) p0 := ph_p0.keep (fun j h1 h2 => hs.2.2 j (by omega))
  have ph_p9 : phL g w12 (wl.length + 9) p9 := ph_p9.keep (fun j h1 h2 => hs.2.2 j (by omega))
  have ph_p20 : phL g w12 (wl.length + 20) p20 := ph_p20.keep (fun j h1 h2 => hs.2.2 j (by omega))
  have ph_p29 : phL g w12 (wl.length + 29) p29 := ph_p29.keep (fun j h1 h2 => hs.2.2 j (by omega))
  have ph_p38 : phL g w12 (wl.length + 38) p38 := ph_p38.keep (fun j h1 h2 => hs.2.2 j (by omega))
  have ph_p47 : phL g w12 (wl.length + 47) p47 := ph_p47.keep (fun j h1 h2 => hs.2.2 j (by omega))
  have hfr : ∀ i, i < wl.length → i ≠ k → w12[i]? = wl[i]? := fun i h1 h2 => (hs.2.2 i h2).trans (hfr i h1 h2)
  have hlen : w12.length = wl.length + 58 := by have h9 := hs.1; omega
  refine lv_aload_n S.1 S.2.1 dX6_init_48 rfl (lv_at hl 0 rfl) ?_
  refine lv_bipush (v := 6) S.1 S.2.1 dX6_init_49 (by decide) ?_
  refine y_newi S hK.1 hP hD hS hA dX6_init_51 (by decide +kernel) 6 rfl (by decide) (Nat.le_of_ble_eq_true rfl) (Nat.le_of_ble_eq_true rfl) (fun p58 H w13 hg hP hD hS => ?_)
  have ck : w13[k]? = some (a, .inr (6, [.ref p0, .ref p9, .int 0, .ref p18, .ref p56, .null, .null, .null, .null])) := (hg.2.2 _ (by omega)).trans ck
  have c18 : w13[wl.length + 18]? = some (p18, .inr (1, [.ref q19, .int 0])) := (hg.2.2 _ (by omega)).trans c18
  have c19 : w13[wl.length + 19]? = some (q19, .inl (xQ g, 4, .inr (.inr (.inr (.inr f9))))) := (hg.2.2 _ (by omega)).trans c19
  have c56 : w13[wl.length + 56]? = some (p56, .inr (4, [.ref q57, .int 0, .int 0, .int 0])) := (hg.2.2 _ (by omega)).trans c56
  have c57 : w13[wl.length + 57]? = some (q57, .inl (xC g, 60, .inl (fun _ => 0))) := (hg.2.2 _ (by omega)).trans c57
  have ph_p0 : phL g w13 (wl.length) p0 := ph_p0.keep (fun j h1 h2 => hg.2.2 j (by omega))
  have ph_p9 : phL g w13 (wl.length + 9) p9 := ph_p9.keep (fun j h1 h2 => hg.2.2 j (by omega))
  have ph_p20 : phL g w13 (wl.length + 20) p20 := ph_p20.keep (fun j h1 h2 => hg.2.2 j (by omega))
  have ph_p29 : phL g w13 (wl.length + 29) p29 := ph_p29.keep (fun j h1 h2 => hg.2.2 j (by omega))
  have ph_p38 : phL g w13 (wl.length + 38) p38 := ph_p38.keep (fun j h1 h2 => hg.2.2 j (by omega))
  have ph_p47 : phL g w13 (wl.length + 47) p47 := ph_p47.keep (fun j h1 h2 => hg.2.2 j (by omega))
  have hfr : ∀ i, i < wl.length → i ≠ k → w13[i]? = wl[i]? := fun i h1 h2 => (hg.2.2 i (by omega)).trans (hfr i h1 h2)
  have c58 : w13[wl.length + 58]? = some (p58, .inl (xI g, 6, .inl (fun _ => 0))) := by have h9 := hg.2.1; rw [hlen] at h9; exact h9
  have hlen : w13.length = wl.length + 59 := by have h9 := hg.1; omega
  refine y_putF S hin2 hK.1 hP hD hS dX6_init_53 (k) ck (RX6, TX6, 9) rfl (by decide +kernel) tyX6 tyX6_ok nmX6 5 (by decide) (by decide +kernel) rfl rfl rfl rfl (Nat.le_of_ble_eq_true rfl) (fun H locs w14 hs hP hD hS => ?_)
  have ck : w14[k]? = some (a, .inr (6, [.ref p0, .ref p9, .int 0, .ref p18, .ref p56, .ref p58, .null, .null, .null])) := hs.2.1
  have c18 : w14[wl.length + 18]? = some (p18, .inr (1, [.ref q19, .int 0])) := (hs.2.2 _ (by omega)).trans c18
  have c19 : w14[wl.length + 19]? = some (q19, .inl (xQ g, 4, .inr (.inr (.inr (.inr f9))))) := (hs.2.2 _ (by omega)).trans c19
  have c56 : w14[wl.length + 56]? = some (p56, .inr (4, [.ref q57, .int 0, .int 0, .int 0])) := (hs.2.2 _ (by omega)).trans c56
  have c57 : w14[wl.length + 57]? = some (q57, .inl (xC g, 60, .inl (fun _ => 0))) := (hs.2.2 _ (by omega)).trans c57
  have c58 : w14[wl.length + 58]? = some (p58, .inl (xI g, 6, .inl (fun _ => 0))) := (hs.2.2 _ (by omega)).trans c58
  have ph_p0 : phL g w14 (wl.length) p0 := ph_p0.keep (fun j h1 h2 => hs.2.2 j (by omega))
  have ph_p9 : phL g w14 (wl.length + 9) p9 := ph_p9.keep (fun j h1 h2 => hs.2.2 j (by omega))
  have ph_p20 : phL g w14 (wl.length + 20) p20 := ph_p20.keep (fun j h1 h2 => hs.2.2 j (by omega))
  have ph_p29 : phL g w14 (wl.length + 29) p29 := ph_p29.keep (fun j h1 h2 => hs.2.2 j (by omega))
  have ph_p38 : phL g w14 (wl.length + 38) p38 := ph_p38.keep (fun j h1 h2 => hs.2.2 j (by omega))
  have ph_p47 : phL g w14 (wl.length + 47) p47 := ph_p47.keep (fun j h1 h2 => hs.2.2 j (by omega))
  have hfr : ∀ i, i < wl.length → i ≠ k → w14[i]? = wl[i]? := fun i h1 h2 => (hs.2.2 i h2).trans (hfr i h1 h2)
  have hlen : w14.length = wl.length + 59 := by have h9 := hs.1; omega
  refine lv_aload_n S.1 S.2.1 dX6_init_56 rfl (lv_at hl 0 rfl) ?_
  refine y_new S hK.1 hP hD hS hA dX6_init_57 0 (RX0, TX0, 4) rfl (by decide +kernel) tyX0 tyX0_ok (by decide +kernel) (by decide +kernel) (by decide +kernel) (fs := [.null, .int 0, .int 0, .int 0]) (fun j hj => by rcases (show j = 0 ∨ j = 1 ∨ j = 2 ∨ j = 3 by have hj : j < 4 := hj; omega) with rfl | rfl | rfl | rfl <;> rfl) (Nat.le_of_ble_eq_true rfl) (Nat.le_of_ble_eq_true rfl) (fun p59 H w15 hg hP hD hS => ?_)
  have ck : w15[k]? = some (a, .inr (6, [.ref p0, .ref p9, .int 0, .ref p18, .ref p56, .ref p58, .null, .null, .null])) := (hg.2.2 _ (by omega)).trans ck
  have c18 : w15[wl.length + 18]? = some (p18, .inr (1, [.ref q19, .int 0])) := (hg.2.2 _ (by omega)).trans c18
  have c19 : w15[wl.length + 19]? = some (q19, .inl (xQ g, 4, .inr (.inr (.inr (.inr f9))))) := (hg.2.2 _ (by omega)).trans c19
  have c56 : w15[wl.length + 56]? = some (p56, .inr (4, [.ref q57, .int 0, .int 0, .int 0])) := (hg.2.2 _ (by omega)).trans c56
  have c57 : w15[wl.length + 57]? = some (q57, .inl (xC g, 60, .inl (fun _ => 0))) := (hg.2.2 _ (by omega)).trans c57
  have c58 : w15[wl.length + 58]? = some (p58, .inl (xI g, 6, .inl (fun _ => 0))) := (hg.2.2 _ (by omega)).trans c58
  have ph_p0 : phL g w15 (wl.length) p0 := ph_p0.keep (fun j h1 h2 => hg.2.2 j (by omega))
  have ph_p9 : phL g w15 (wl.length + 9) p9 := ph_p9.keep (fun j h1 h2 => hg.2.2 j (by omega))
  have ph_p20 : phL g w15 (wl.length + 20) p20 := ph_p20.keep (fun j h1 h2 => hg.2.2 j (by omega))
  have ph_p29 : phL g w15 (wl.length + 29) p29 := ph_p29.keep (fun j h1 h2 => hg.2.2 j (by omega))
  have ph_p38 : phL g w15 (wl.length + 38) p38 := ph_p38.keep (fun j h1 h2 => hg.2.2 j (by omega))
  have ph_p47 : phL g w15 (wl.length + 47) p47 := ph_p47.keep (fun j h1 h2 => hg.2.2 j (by omega))
  have hfr : ∀ i, i < wl.length → i ≠ k → w15[i]? = wl[i]? := fun i h1 h2 => (hg.2.2 i (by omega)).trans (hfr i h1 h2)
  have c59 : w15[wl.length + 59]? = some (p59, .inr (0, [.null, .int 0, .int 0, .int 0])) := by have h9 := hg.2.1; rw [hlen] at h9; exact h9
  have hlen : w15.length = wl.length + 60 := by have h9 := hg.1; omega
  refine lv_dup S.1 S.2.1 dX6_init_60 rfl ?_
  refine lv_aload_n S.1 S.2.1 dX6_init_61 rfl (lv_at hl 0 rfl) ?_
  refine y_get S hK.1 hP dX6_init_62 (k) ck (RX6, TX6, 9) rfl (by decide +kernel) 0 (by decide) (by decide +kernel) rfl ?_
  refine y_ci (va_runI (As := [.ref p0]) (rest := [.ref p59, .ref a]) S (c_X0_init l g w15 _ (wl.length + 59) p59 p0 c59) (cwI 1 S.2.2.2.2 gX6_init_X0_init rfl rfl rfl (S.2.2.2.2 (.initialized RX0) (by decide +kernel)) (S.2.2.2.2 (.methodLink RX6 39 yX0_init) (by decide +kernel)) (S.2.2.2.2 (.instanceMethod yX0_init) (by decide +kernel)) rfl (by decide +kernel) ⟨Nat.le_of_ble_eq_true rfl, Nat.le_of_ble_eq_true rfl⟩) (y_pre hK hP hD) rfl rfl hl.1 rfl (lv_room (Nat.le_of_ble_eq_true rfl)) dX6_init_65 ⟨Nat.le_of_ble_eq_true rfl, Nat.le_of_ble_eq_true rfl⟩) hD hS hA (fun w16 H locs hu hP hD hS => ?_)
  obtain ⟨ho, hnew⟩ := hu
  have ck : w16[k]? = some (a, .inr (6, [.ref p0, .ref p9, .int 0, .ref p18, .ref p56, .ref p58, .null, .null, .null])) := (ho.2 _ (by omega) (by omega)).trans ck
  have c18 : w16[wl.length + 18]? = some (p18, .inr (1, [.ref q19, .int 0])) := (ho.2 _ (by omega) (by omega)).trans c18
  have c19 : w16[wl.length + 19]? = some (q19, .inl (xQ g, 4, .inr (.inr (.inr (.inr f9))))) := (ho.2 _ (by omega) (by omega)).trans c19
  have c56 : w16[wl.length + 56]? = some (p56, .inr (4, [.ref q57, .int 0, .int 0, .int 0])) := (ho.2 _ (by omega) (by omega)).trans c56
  have c57 : w16[wl.length + 57]? = some (q57, .inl (xC g, 60, .inl (fun _ => 0))) := (ho.2 _ (by omega) (by omega)).trans c57
  have c58 : w16[wl.length + 58]? = some (p58, .inl (xI g, 6, .inl (fun _ => 0))) := (ho.2 _ (by omega) (by omega)).trans c58
  have ph_p0 : phL g w16 (wl.length) p0 := ph_p0.keep (fun j h1 h2 => ho.2 j (by omega) (by omega))
  have ph_p9 : phL g w16 (wl.length + 9) p9 := ph_p9.keep (fun j h1 h2 => ho.2 j (by omega) (by omega))
  have ph_p20 : phL g w16 (wl.length + 20) p20 := ph_p20.keep (fun j h1 h2 => ho.2 j (by omega) (by omega))
  have ph_p29 : phL g w16 (wl.length + 29) p29 := ph_p29.keep (fun j h1 h2 => ho.2 j (by omega) (by omega))
  have ph_p38 : phL g w16 (wl.length + 38) p38 := ph_p38.keep (fun j h1 h2 => ho.2 j (by omega) (by omega))
  have ph_p47 : phL g w16 (wl.length + 47) p47 := ph_p47.keep (fun j h1 h2 => ho.2 j (by omega) (by omega))
  have hfr : ∀ i, i < wl.length → i ≠ k → w16[i]? = wl[i]? := fun i h1 h2 => (ho.2 i (by omega) (by omega)).trans (hfr i h1 h2)
  have hlen0 := hlen
  have hlen : w16.length = wl.length + 60 := by have h9 := ho.1; omega
  have c59 := hnew
  refine y_putF S hin2 hK.1 hP hD hS dX6_init_68 (k) ck (RX6, TX6, 9) rfl (by decide +kernel) tyX6 tyX6_ok nmX6 6 (by decide) (by decide +kernel) rfl rfl rfl rfl (Nat.le_of_ble_eq_true rfl) (fun H locs w17 hs hP hD hS => ?_)
  have ck : w17[k]? = some (a, .inr (6, [.ref p0, .ref p9, .int 0, .ref p18, .ref p56, .ref p58, .ref p59, .null, .null])) := hs.2.1
  have c18 : w17[wl.length + 18]? = some (p18, .inr (1, [.ref q19, .int 0])) := (hs.2.2 _ (by omega)).trans c18
  have c19 : w17[wl.length + 19]? = some (q19, .inl (xQ g, 4, .inr (.inr (.inr (.inr f9))))) := (hs.2.2 _ (by omega)).trans c19
  have c56 : w17[wl.length + 56]? = some (p56, .inr (4, [.ref q57, .int 0, .int 0, .int 0])) := (hs.2.2 _ (by omega)).trans c56
  have c57 : w17[wl.length + 57]? = some (q57, .inl (xC g, 60, .inl (fun _ => 0))) := (hs.2.2 _ (by omega)).trans c57
  have c58 : w17[wl.length + 58]? = some (p58, .inl (xI g, 6, .inl (fun _ => 0))) := (hs.2.2 _ (by omega)).trans c58
  have c59 : w17[wl.length + 59]? = some (p59, .inr (0, [.ref p0, .int 0, .int 0, .int 0])) := (hs.2.2 _ (by omega)).trans c59
  have ph_p0 : phL g w17 (wl.length) p0 := ph_p0.keep (fun j h1 h2 => hs.2.2 j (by omega))
  have ph_p9 : phL g w17 (wl.length + 9) p9 := ph_p9.keep (fun j h1 h2 => hs.2.2 j (by omega))
  have ph_p20 : phL g w17 (wl.length + 20) p20 := ph_p20.keep (fun j h1 h2 => hs.2.2 j (by omega))
  have ph_p29 : phL g w17 (wl.length + 29) p29 := ph_p29.keep (fun j h1 h2 => hs.2.2 j (by omega))
  have ph_p38 : phL g w17 (wl.length + 38) p38 := ph_p38.keep (fun j h1 h2 => hs.2.2 j (by omega))
  have ph_p47 : phL g w17 (wl.length + 47) p47 := ph_p47.keep (fun j h1 h2 => hs.2.2 j (by omega))
  have hfr : ∀ i, i < wl.length → i ≠ k → w17[i]? = wl[i]? := fun i h1 h2 => (hs.2.2 i h2).trans (hfr i h1 h2)
  have hlen : w17.length = wl.length + 60 := by have h9 := hs.1; omega
  refine lv_aload_n S.1 S.2.1 dX6_init_71 rfl (lv_at hl 0 rfl) ?_
  refine y_new S hK.1 hP hD hS hA dX6_init_72 5 (RX5, TX5, 4) rfl (by decide +kernel) tyX5 tyX5_ok (by decide +kernel) (by decide +kernel) (by decide +kernel) (fs := [.null, .null, .null, .null]) (fun j hj => by rcases (show j = 0 ∨ j = 1 ∨ j = 2 ∨ j = 3 by have hj : j < 4 := hj; omega) with rfl | rfl | rfl | rfl <;> rfl) (Nat.le_of_ble_eq_true rfl) (Nat.le_of_ble_eq_true rfl) (fun p60 H w18 hg hP hD hS => ?_)
  have ck : w18[k]? = some (a, .inr (6, [.ref p0, .ref p9, .int 0, .ref p18, .ref p56, .ref p58, .ref p59, .null, .null])) := (hg.2.2 _ (by omega)).trans ck
  have c18 : w18[wl.length + 18]? = some (p18, .inr (1, [.ref q19, .int 0])) := (hg.2.2 _ (by omega)).trans c18
  have c19 : w18[wl.length + 19]? = some (q19, .inl (xQ g, 4, .inr (.inr (.inr (.inr f9))))) := (hg.2.2 _ (by omega)).trans c19
  have c56 : w18[wl.length + 56]? = some (p56, .inr (4, [.ref q57, .int 0, .int 0, .int 0])) := (hg.2.2 _ (by omega)).trans c56
  have c57 : w18[wl.length + 57]? = some (q57, .inl (xC g, 60, .inl (fun _ => 0))) := (hg.2.2 _ (by omega)).trans c57
  have c58 : w18[wl.length + 58]? = some (p58, .inl (xI g, 6, .inl (fun _ => 0))) := (hg.2.2 _ (by omega)).trans c58
  have c59 : w18[wl.length + 59]? = some (p59, .inr (0, [.ref p0, .int 0, .int 0, .int 0])) := (hg.2.2 _ (by omega)).trans c59
  have ph_p0 : phL g w18 (wl.length) p0 := ph_p0.keep (fun j h1 h2 => hg.2.2 j (by omega))
  have ph_p9 : phL g w18 (wl.length + 9) p9 := ph_p9.keep (fun j h1 h2 => hg.2.2 j (by omega))
  have ph_p20 : phL g w18 (wl.length + 20) p20 := ph_p20.keep (fun j h1 h2 => hg.2.2 j (by omega))
  have ph_p29 : phL g w18 (wl.length + 29) p29 := ph_p29.keep (fun j h1 h2 => hg.2.2 j (by omega))
  have ph_p38 : phL g w18 (wl.length + 38) p38 := ph_p38.keep (fun j h1 h2 => hg.2.2 j (by omega))
  have ph_p47 : phL g w18 (wl.length + 47) p47 := ph_p47.keep (fun j h1 h2 => hg.2.2 j (by omega))
  have hfr : ∀ i, i < wl.length → i ≠ k → w18[i]? = wl[i]? := fun i h1 h2 => (hg.2.2 i (by omega)).trans (hfr i h1 h2)
  have c60 : w18[wl.length + 60]? = some (p60, .inr (5, [.null, .null, .null, .null])) := by have h9 := hg.2.1; rw [hlen] at h9; exact h9
  have hlen : w18.length = wl.length + 61 := by have h9 := hg.1; omega
  refine lv_dup S.1 S.2.1 dX6_init_75 rfl ?_
  refine lv_aload_n S.1 S.2.1 dX6_init_76 rfl (lv_at hl 0 rfl) ?_
  refine y_get S hK.1 hP dX6_init_77 (k) ck (RX6, TX6, 9) rfl (by decide +kernel) 0 (by decide) (by decide +kernel) rfl ?_
  refine lv_aload_n S.1 S.2.1 dX6_init_80 rfl (lv_at hl 0 rfl) ?_
  refine y_get S hK.1 hP dX6_init_81 (k) ck (RX6, TX6, 9) rfl (by decide +kernel) 6 (by decide) (by decide +kernel) rfl ?_
  refine y_ci (va_runI (As := [.ref p0, .ref p59]) (rest := [.ref p60, .ref a]) S (c_X5_init l g w18 _ (wl.length + 60) p60 p0 p59 c60) (cwI 2 S.2.2.2.2 gX6_init_X5_init rfl rfl rfl (S.2.2.2.2 (.initialized RX5) (by decide +kernel)) (S.2.2.2.2 (.methodLink RX6 48 yX5_init) (by decide +kernel)) (S.2.2.2.2 (.instanceMethod yX5_init) (by decide +kernel)) rfl (by decide +kernel) ⟨Nat.le_of_ble_eq_true rfl, Nat.le_of_ble_eq_true rfl⟩) (y_pre hK hP hD) rfl rfl hl.1 rfl (lv_room (Nat.le_of_ble_eq_true rfl)) dX6_init_84 ⟨Nat.le_of_ble_eq_true rfl, Nat.le_of_ble_eq_true rfl⟩) hD hS hA (fun w19 H locs hu hP hD hS => ?_)
  obtain ⟨ho, hnew⟩ := hu
  have ck : w19[k]? = some (a, .inr (6, [.ref p0, .ref p9, .int 0, .ref p18, .ref p56, .ref p58, .ref p59, .null, .null])) := (ho.2 _ (by omega) (by omega)).trans ck
  have c18 : w19[wl.length + 18]? = some (p18, .inr (1, [.ref q19, .int 0])) := (ho.2 _ (by omega) (by omega)).trans c18
  have c19 : w19[wl.length + 19]? = some (q19, .inl (xQ g, 4, .inr (.inr (.inr (.inr f9))))) := (ho.2 _ (by omega) (by omega)).trans c19
  have c56 : w19[wl.length + 56]? = some (p56, .inr (4, [.ref q57, .int 0, .int 0, .int 0])) := (ho.2 _ (by omega) (by omega)).trans c56
  have c57 : w19[wl.length + 57]? = some (q57, .inl (xC g, 60, .inl (fun _ => 0))) := (ho.2 _ (by omega) (by omega)).trans c57
  have c58 : w19[wl.length + 58]? = some (p58, .inl (xI g, 6, .inl (fun _ => 0))) := (ho.2 _ (by omega) (by omega)).trans c58
  have c59 : w19[wl.length + 59]? = some (p59, .inr (0, [.ref p0, .int 0, .int 0, .int 0])) := (ho.2 _ (by omega) (by omega)).trans c59
  have ph_p0 : phL g w19 (wl.length) p0 := ph_p0.keep (fun j h1 h2 => ho.2 j (by omega) (by omega))
  have ph_p9 : phL g w19 (wl.length + 9) p9 := ph_p9.keep (fun j h1 h2 => ho.2 j (by omega) (by omega))
  have ph_p20 : phL g w19 (wl.length + 20) p20 := ph_p20.keep (fun j h1 h2 => ho.2 j (by omega) (by omega))
  have ph_p29 : phL g w19 (wl.length + 29) p29 := ph_p29.keep (fun j h1 h2 => ho.2 j (by omega) (by omega))
  have ph_p38 : phL g w19 (wl.length + 38) p38 := ph_p38.keep (fun j h1 h2 => ho.2 j (by omega) (by omega))
  have ph_p47 : phL g w19 (wl.length + 47) p47 := ph_p47.keep (fun j h1 h2 => ho.2 j (by omega) (by omega))
  have hfr : ∀ i, i < wl.length → i ≠ k → w19[i]? = wl[i]? := fun i h1 h2 => (ho.2 i (by omega) (by omega)).trans (hfr i h1 h2)
  have hlen0 := hlen
  have hlen : w19.length = wl.length + 63 := by have h9 := ho.1; omega
  obtain ⟨q61, q62, c60, h2, h3⟩ := hnew
  have c61 : w19[wl.length + 61]? = some (q61, .inl (xI g, 11, .inl (fun _ => 0))) := by rw [hlen0] at h2; exact h2
  have c62 : w19[wl.length + 62]? = some (q62, .inl (xI g, 11, .inl (fun _ => 0))) := by rw [hlen0] at h3; exact h3
  refine y_putF S hin2 hK.1 hP hD hS dX6_init_87 (k) ck (RX6, TX6, 9) rfl (by decide +kernel) tyX6 tyX6_ok nmX6 7 (by decide) (by decide +kernel) rfl rfl rfl rfl (Nat.le_of_ble_eq_true rfl) (fun H locs w20 hs hP hD hS => ?_)
  have ck : w20[k]? = some (a, .inr (6, [.ref p0, .ref p9, .int 0, .ref p18, .ref p56, .ref p58, .ref p59, .ref p60, .null])) := hs.2.1
  have c18 : w20[wl.length + 18]? = some (p18, .inr (1, [.ref q19, .int 0])) := (hs.2.2 _ (by omega)).trans c18
  have c19 : w20[wl.length + 19]? = some (q19, .inl (xQ g, 4, .inr (.inr (.inr (.inr f9))))) := (hs.2.2 _ (by omega)).trans c19
  have c56 : w20[wl.length + 56]? = some (p56, .inr (4, [.ref q57, .int 0, .int 0, .int 0])) := (hs.2.2 _ (by omega)).trans c56
  have c57 : w20[wl.length + 57]? = some (q57, .inl (xC g, 60, .inl (fun _ => 0))) := (hs.2.2 _ (by omega)).trans c57
  have c58 : w20[wl.length + 58]? = some (p58, .inl (xI g, 6, .inl (fun _ => 0))) := (hs.2.2 _ (by omega)).trans c58
  have c59 : w20[wl.length + 59]? = some (p59, .inr (0, [.ref p0, .int 0, .int 0, .int 0])) := (hs.2.2 _ (by omega)).trans c59
  have c60 : w20[wl.length + 60]? = some (p60, .inr (5, [.ref p0, .ref p59, .ref q61, .ref q62])) := (hs.2.2 _ (by omega)).trans c60
  have c61 : w20[wl.length + 61]? = some (q61, .inl (xI g, 11, .inl (fun _ => 0))) := (hs.2.2 _ (by omega)).trans c61
  have c62 : w20[wl.length + 62]? = some (q62, .inl (xI g, 11, .inl (fun _ => 0))) := (hs.2.2 _ (by omega)).trans c62
  have ph_p0 : phL g w20 (wl.length) p0 := ph_p0.keep (fun j h1 h2 => hs.2.2 j (by omega))
  have ph_p9 : phL g w20 (wl.length + 9) p9 := ph_p9.keep (fun j h1 h2 => hs.2.2 j (by omega))
  have ph_p20 : phL g w20 (wl.length + 20) p20 := ph_p20.keep (fun j h1 h2 => hs.2.2 j (by omega))
  have ph_p29 : phL g w20 (wl.length + 29) p29 := ph_p29.keep (fun j h1 h2 => hs.2.2 j (by omega))
  have ph_p38 : phL g w20 (wl.length + 38) p38 := ph_p38.keep (fun j h1 h2 => hs.2.2 j (by omega))
  have ph_p47 : phL g w20 (wl.length + 47) p47 := ph_p47.keep (fun j h1 h2 => hs.2.2 j (by omega))
  have hfr : ∀ i, i < wl.length → i ≠ k → w20[i]? = wl[i]? := fun i h1 h2 => (hs.2.2 i h2).trans (hfr i h1 h2)
  have hlen : w20.length = wl.length + 63 := by have h9 := hs.1; omega
  refine lv_aload_n S.1 S.2.1 dX6_init_90 rfl (lv_at hl 0 rfl) ?_
  refine y_new S hK.1 hP hD hS hA dX6_init_91 3 (RX3, TX3, 4) rfl (by decide +kernel) tyX3 tyX3_ok (by decide +kernel) (by decide +kernel) (by decide +kernel) (fs := [.null, .int 0, .int 0, .int 0]) (fun j hj => by rcases (show j = 0 ∨ j = 1 ∨ j = 2 ∨ j = 3 by have hj : j < 4 := hj; omega) with rfl | rfl | rfl | rfl <;> rfl) (Nat.le_of_ble_eq_true rfl) (Nat.le_of_ble_eq_true rfl) (fun p63 H w21 hg hP hD hS => ?_)
  have ck : w21[k]? = some (a, .inr (6, [.ref p0, .ref p9, .int 0, .ref p18, .ref p56, .ref p58, .ref p59, .ref p60, .null])) := (hg.2.2 _ (by omega)).trans ck
  have c18 : w21[wl.length + 18]? = some (p18, .inr (1, [.ref q19, .int 0])) := (hg.2.2 _ (by omega)).trans c18
  have c19 : w21[wl.length + 19]? = some (q19, .inl (xQ g, 4, .inr (.inr (.inr (.inr f9))))) := (hg.2.2 _ (by omega)).trans c19
  have c56 : w21[wl.length + 56]? = some (p56, .inr (4, [.ref q57, .int 0, .int 0, .int 0])) := (hg.2.2 _ (by omega)).trans c56
  have c57 : w21[wl.length + 57]? = some (q57, .inl (xC g, 60, .inl (fun _ => 0))) := (hg.2.2 _ (by omega)).trans c57
  have c58 : w21[wl.length + 58]? = some (p58, .inl (xI g, 6, .inl (fun _ => 0))) := (hg.2.2 _ (by omega)).trans c58
  have c59 : w21[wl.length + 59]? = some (p59, .inr (0, [.ref p0, .int 0, .int 0, .int 0])) := (hg.2.2 _ (by omega)).trans c59
  have c60 : w21[wl.length + 60]? = some (p60, .inr (5, [.ref p0, .ref p59, .ref q61, .ref q62])) := (hg.2.2 _ (by omega)).trans c60
  have c61 : w21[wl.length + 61]? = some (q61, .inl (xI g, 11, .inl (fun _ => 0))) := (hg.2.2 _ (by omega)).trans c61
  have c62 : w21[wl.length + 62]? = some (q62, .inl (xI g, 11, .inl (fun _ => 0))) := (hg.2.2 _ (by omega)).trans c62
  have ph_p0 : phL g w21 (wl.length) p0 := ph_p0.keep (fun j h1 h2 => hg.2.2 j (by omega))
  have ph_p9 : phL g w21 (wl.length + 9) p9 := ph_p9.keep (fun j h1 h2 => hg.2.2 j (by omega))
  have ph_p20 : phL g w21 (wl.length + 20) p20 := ph_p20.keep (fun j h1 h2 => hg.2.2 j (by omega))
  have ph_p29 : phL g w21 (wl.length + 29) p29 := ph_p29.keep (fun j h1 h2 => hg.2.2 j (by omega))
  have ph_p38 : phL g w21 (wl.length + 38) p38 := ph_p38.keep (fun j h1 h2 => hg.2.2 j (by omega))
  have ph_p47 : phL g w21 (wl.length + 47) p47 := ph_p47.keep (fun j h1 h2 => hg.2.2 j (by omega))
  have hfr : ∀ i, i < wl.length → i ≠ k → w21[i]? = wl[i]? := fun i h1 h2 => (hg.2.2 i (by omega)).trans (hfr i h1 h2)
  have c63 : w21[wl.length + 63]? = some (p63, .inr (3, [.null, .int 0, .int 0, .int 0])) := by have h9 := hg.2.1; rw [hlen] at h9; exact h9
  have hlen : w21.length = wl.length + 64 := by have h9 := hg.1; omega
  refine lv_dup S.1 S.2.1 dX6_init_94 rfl ?_
  refine lv_aload_n S.1 S.2.1 dX6_init_95 rfl (lv_at hl 0 rfl) ?_
  refine y_get S hK.1 hP dX6_init_96 (k) ck (RX6, TX6, 9) rfl (by decide +kernel) 0 (by decide) (by decide +kernel) rfl ?_
  refine y_ci (va_runI (As := [.ref p0]) (rest := [.ref p63, .ref a]) S (c_X3_init l g w21 _ (wl.length + 63) p63 p0 c63) (cwI 1 S.2.2.2.2 gX6_init_X3_init rfl rfl rfl (S.2.2.2.2 (.initialized RX3) (by decide +kernel)) (S.2.2.2.2 (.methodLink RX6 57 yX3_init) (by decide +kernel)) (S.2.2.2.2 (.instanceMethod yX3_init) (by decide +kernel)) rfl (by decide +kernel) ⟨Nat.le_of_ble_eq_true rfl, Nat.le_of_ble_eq_true rfl⟩) (y_pre hK hP hD) rfl rfl hl.1 rfl (lv_room (Nat.le_of_ble_eq_true rfl)) dX6_init_99 ⟨Nat.le_of_ble_eq_true rfl, Nat.le_of_ble_eq_true rfl⟩) hD hS hA (fun w22 H locs hu hP hD hS => ?_)
  obtain ⟨ho, hnew⟩ := hu
  have ck : w22[k]? = some (a, .inr (6, [.ref p0, .ref p9, .int 0, .ref p18, .ref p56, .ref p58, .ref p59, .ref p60, .null])) := (ho.2 _ (by omega) (by omega)).trans ck
  have c18 : w22[wl.length + 18]? = some (p18, .inr (1, [.ref q19, .int 0])) := (ho.2 _ (by omega) (by omega)).trans c18
  have c19 : w22[wl.length + 19]? = some (q19, .inl (xQ g, 4, .inr (.inr (.inr (.inr f9))))) := (ho.2 _ (by omega) (by omega)).trans c19
  have c56 : w22[wl.length + 56]? = some (p56, .inr (4, [.ref q57, .int 0, .int 0, .int 0])) := (ho.2 _ (by omega) (by omega)).trans c56
  have c57 : w22[wl.length + 57]? = some (q57, .inl (xC g, 60, .inl (fun _ => 0))) := (ho.2 _ (by omega) (by omega)).trans c57
  have c58 : w22[wl.length + 58]? = some (p58, .inl (xI g, 6, .inl (fun _ => 0))) := (ho.2 _ (by omega) (by omega)).trans c58
  have c59 : w22[wl.length + 59]? = some (p59, .inr (0, [.ref p0, .int 0, .int 0, .int 0])) := (ho.2 _ (by omega) (by omega)).trans c59
  have c60 : w22[wl.length + 60]? = some (p60, .inr (5, [.ref p0, .ref p59, .ref q61, .ref q62])) := (ho.2 _ (by omega) (by omega)).trans c60
  have c61 : w22[wl.length + 61]? = some (q61, .inl (xI g, 11, .inl (fun _ => 0))) := (ho.2 _ (by omega) (by omega)).trans c61
  have c62 : w22[wl.length + 62]? = some (q62, .inl (xI g, 11, .inl (fun _ => 0))) := (ho.2 _ (by omega) (by omega)).trans c62
  have ph_p0 : phL g w22 (wl.length) p0 := ph_p0.keep (fun j h1 h2 => ho.2 j (by omega) (by omega))
  have ph_p9 : phL g w22 (wl.length + 9) p9 := ph_p9.keep (fun j h1 h2 => ho.2 j (by omega) (by omega))
  have ph_p20 : phL g w22 (wl.length + 20) p20 := ph_p20.keep (fun j h1 h2 => ho.2 j (by omega) (by omega))
  have ph_p29 : phL g w22 (wl.length + 29) p29 := ph_p29.keep (fun j h1 h2 => ho.2 j (by omega) (by omega))
  have ph_p38 : phL g w22 (wl.length + 38) p38 := ph_p38.keep (fun j h1 h2 => ho.2 j (by omega) (by omega))
  have ph_p47 : phL g w22 (wl.length + 47) p47 := ph_p47.keep (fun j h1 h2 => ho.2 j (by omega) (by omega))
  have hfr : ∀ i, i < wl.length → i ≠ k → w22[i]? = wl[i]? := fun i h1 h2 => (ho.2 i (by omega) (by omega)).trans (hfr i h1 h2)
  have hlen0 := hlen
  have hlen : w22.length = wl.length + 64 := by have h9 := ho.1; omega
  have c63 := hnew
  refine y_putF S hin2 hK.1 hP hD hS dX6_init_102 (k) ck (RX6, TX6, 9) rfl (by decide +kernel) tyX6 tyX6_ok nmX6 8 (by decide) (by decide +kernel) rfl rfl rfl rfl (Nat.le_of_ble_eq_true rfl) (fun H locs w23 hs hP hD hS => ?_)
  have ck : w23[k]? = some (a, .inr (6, [.ref p0, .ref p9, .int 0, .ref p18, .ref p56, .ref p58, .ref p59, .ref p60, .ref p63])) := hs.2.1
  have c18 : w23[wl.length + 18]? = some (p18, .inr (1, [.ref q19, .int 0])) := (hs.2.2 _ (by omega)).trans c18
  have c19 : w23[wl.length + 19]? = some (q19, .inl (xQ g, 4, .inr (.inr (.inr (.inr f9))))) := (hs.2.2 _ (by omega)).trans c19
  have c56 : w23[wl.length + 56]? = some (p56, .inr (4, [.ref q57, .int 0, .int 0, .int 0])) := (hs.2.2 _ (by omega)).trans c56
  have c57 : w23[wl.length + 57]? = some (q57, .inl (xC g, 60, .inl (fun _ => 0))) := (hs.2.2 _ (by omega)).trans c57
  have c58 : w23[wl.length + 58]? = some (p58, .inl (xI g, 6, .inl (fun _ => 0))) := (hs.2.2 _ (by omega)).trans c58
  have c59 : w23[wl.length + 59]? = some (p59, .inr (0, [.ref p0, .int 0, .int 0, .int 0])) := (hs.2.2 _ (by omega)).trans c59
  have c60 : w23[wl.length + 60]? = some (p60, .inr (5, [.ref p0, .ref p59, .ref q61, .ref q62])) := (hs.2.2 _ (by omega)).trans c60
  have c61 : w23[wl.length + 61]? = some (q61, .inl (xI g, 11, .inl (fun _ => 0))) := (hs.2.2 _ (by omega)).trans c61
  have c62 : w23[wl.length + 62]? = some (q62, .inl (xI g, 11, .inl (fun _ => 0))) := (hs.2.2 _ (by omega)).trans c62
  have c63 : w23[wl.length + 63]? = some (p63, .inr (3, [.ref p0, .int 0, .int 0, .int 0])) := (hs.2.2 _ (by omega)).trans c63
  have ph_p0 : phL g w23 (wl.length) p0 := ph_p0.keep (fun j h1 h2 => hs.2.2 j (by omega))
  have ph_p9 : phL g w23 (wl.length + 9) p9 := ph_p9.keep (fun j h1 h2 => hs.2.2 j (by omega))
  have ph_p20 : phL g w23 (wl.length + 20) p20 := ph_p20.keep (fun j h1 h2 => hs.2.2 j (by omega))
  have ph_p29 : phL g w23 (wl.length + 29) p29 := ph_p29.keep (fun j h1 h2 => hs.2.2 j (by omega))
  have ph_p38 : phL g w23 (wl.length + 38) p38 := ph_p38.keep (fun j h1 h2 => hs.2.2 j (by omega))
  have ph_p47 : phL g w23 (wl.length + 47) p47 := ph_p47.keep (fun j h1 h2 => hs.2.2 j (by omega))
  have hfr : ∀ i, i < wl.length → i ≠ k → w23[i]? = wl[i]? := fun i h1 h2 => (hs.2.2 i h2).trans (hfr i h1 h2)
  have hlen : w23.length = wl.length + 64 := by have h9 := hs.1; omega
  exact y_vret S hr hlocks hP hD hS dX6_init_105 ⟨⟨hlen, hfr⟩, ⟨p0, p9, p18, p56, p58, p59, p60, p63, q19, q57, q61, q62, f9, ck, ph_p0, ph_p9, c18, c19, fun i hi => by have h4 : i = 0 ∨ i = 1 ∨ i = 2 ∨ i = 3 := (by omega); rcases h4 with rfl | rfl | rfl | rfl; exact ⟨_, hf0, ph_p20⟩; exact ⟨_, hf1, ph_p29⟩; exact ⟨_, hf2, ph_p38⟩; exact ⟨_, hf3, ph_p47⟩, c56, c57, c58, c59, c60, c61, c62, c63⟩⟩
set_option maxHeartbeats 4000000 in
set_option maxRecDepth 100000 in
theorem c_X7_init (l : Launch) (g : xG) (wl : va_W) (sz k a : Nat) (hk0 : wl[k]? = some (a, .inr (7, [.null, .null, .int 0, .null, .int 0, .null, .int 0, .null, .null, .null, .int 0, .int 0, .int 0, .int 0, .int 0, .null, .int 0, .int 0, .null]))) : Met l yX7_init wsX7_init ({ frames := 1, cells := 9, slots := 526, locals := 13 }) (yPc g [.ref a] sz wl) (yQ g sz wl (fun u => yO wl u 9 k ∧ ∃ (q0 q1 q2 q3 q4 q5 q6 q7 q8 : Nat), u[k]? = some (a, .inr (7, [.ref q0, .ref q1, .int 0, .ref q2, .int 0, .ref q3, .int 0, .ref q4, .ref q5, .ref q6, .int 0, .int 0, .int 0, .int 0, .int 0, .ref q7, .int 0, .int 0, .ref q8])) ∧ u[wl.length]? = some (q0, .inl (xI g, 71, .inl (fun _ => 0))) ∧ u[wl.length + 1]? = some (q1, .inl (xI g, 284, .inl (fun _ => 0))) ∧ u[wl.length + 2]? = some (q2, .inl (xI g, 71, .inl (fun _ => 0))) ∧ u[wl.length + 3]? = some (q3, .inl (xI g, 3, .inl (fun _ => 0))) ∧ u[wl.length + 4]? = some (q4, .inl (xI g, 11, .inl (fun _ => 0))) ∧ u[wl.length + 5]? = some (q5, .inl (xI g, 10, .inl (fun _ => 0))) ∧ u[wl.length + 6]? = some (q6, .inl (xI g, 10, .inl (fun _ => 0))) ∧ u[wl.length + 7]? = some (q7, .inl (xC g, 60, .inl (fun _ => 0))) ∧ u[wl.length + 8]? = some (q8, .inl (xI g, 6, .inl (fun _ => 0))))) 9 526 (va_A wl sz) := by
  refine y_met (ws' := _) (by decide) rfl (Nat.le_of_ble_eq_true rfl) ?_
  intro pz ez s m below meth cz ls S hr hlocks hin2 hsz hP hK hD0 hl
  have hl : lv_has ls 1 [(0, .ref a)] := hl
  subst hsz
  have hD := hD0.self (sz := s.heap.size)
  have hA : ∀ q, s.heap.size ≤ q → va_A wl s.heap.size q := fun q h => Or.inr h
  have hS : va_S (va_A wl s.heap.size) s.heap s.heap [] := va_S.rf
  have hkl := (List.getElem?_eq_some_iff.mp hk0).1
  have ck := hk0
  have hfr : ∀ i, i < wl.length → i ≠ k → wl[i]? = wl[i]? := fun _ _ _ => rfl
  have hlen : wl.length = wl.length + 0 := rfl
  refine lv_aload_n S.1 S.2.1 dX7_init_0 rfl (lv_at hl 0 rfl) ?_
  refine y_obj S hl.1 dX7_init_1 (by decide +kernel) (by decide +kernel) (by decide +kernel) (Nat.le_of_ble_eq_true rfl) (Nat.le_of_ble_eq_true rfl) ?_
  refine lv_aload_n S.1 S.2.1 dX7_init_4 rfl (lv_at hl 0 rfl) ?_
  refine lv_bipush (v := 71) S.1 S.2.1 dX7_init_5 (by decide) ?_
  refine y_newi S hK.1 hP hD hS hA dX7_init_7 (by decide +kernel) 71 rfl (by decide) (Nat.le_of_ble_eq_true rfl) (Nat.le_of_ble_eq_true rfl) (fun p0 H w1 hg hP hD hS => ?_)
  have ck : w1[k]? = some (a, .inr (7, [.null, .null, .int 0, .null, .int 0, .null, .int 0, .null, .null, .null, .int 0, .int 0, .int 0, .int 0, .int 0, .null, .int 0, .int 0, .null])) := (hg.2.2 _ (by omega)).trans ck
  have hfr : ∀ i, i < wl.length → i ≠ k → w1[i]? = wl[i]? := fun i h1 h2 => (hg.2.2 i (by omega)).trans (hfr i h1 h2)
  have c0 : w1[wl.length]? = some (p0, .inl (xI g, 71, .inl (fun _ => 0))) := by have h9 := hg.2.1; rw [hlen] at h9; exact h9
  have hlen : w1.length = wl.length + 1 := by have h9 := hg.1; omega
  refine y_putF S hin2 hK.1 hP hD hS dX7_init_9 (k) ck (RX7, TX7, 19) rfl (by decide +kernel) tyX7 tyX7_ok nmX7 0 (by decide) (by decide +kernel) rfl rfl rfl rfl (Nat.le_of_ble_eq_true rfl) (fun H locs w2 hs hP hD hS => ?_)
  have ck : w2[k]? = some (a, .inr (7, [.ref p0, .null, .int 0, .null, .int 0, .null, .int 0, .null, .null, .null, .int 0, .int 0, .int 0, .int 0, .int 0, .null, .int 0, .int 0, .null])) := hs.2.1
  have c0 : w2[wl.length]? = some (p0, .inl (xI g, 71, .inl (fun _ => 0))) := (hs.2.2 _ (by omega)).trans c0
  have hfr : ∀ i, i < wl.length → i ≠ k → w2[i]? = wl[i]? := fun i h1 h2 => (hs.2.2 i h2).trans (hfr i h1 h2)
  have hlen : w2.length = wl.length + 1 := by have h9 := hs.1; omega
  refine lv_aload_n S.1 S.2.1 dX7_init_12 rfl (lv_at hl 0 rfl) ?_
  refine lv_sipush (v := 284) S.1 S.2.1 dX7_init_13 (by decide) ?_
  refine y_newi S hK.1 hP hD hS hA dX7_init_16 (by decide +kernel) 284 rfl (by decide) (Nat.le_of_ble_eq_true rfl) (Nat.le_of_ble_eq_true rfl) (fun p1 H w3 hg hP hD hS => ?_)
  have ck : w3[k]? = some (a, .inr (7, [.ref p0, .null, .int 0, .null, .int 0, .null, .int 0, .null, .null, .null, .int 0, .int 0, .int 0, .int 0, .int 0, .null, .int 0, .int 0, .null])) := (hg.2.2 _ (by omega)).trans ck
  have c0 : w3[wl.length]? = some (p0, .inl (xI g, 71, .inl (fun _ => 0))) := (hg.2.2 _ (by omega)).trans c0
  have hfr : ∀ i, i < wl.length → i ≠ k → w3[i]? = wl[i]? := fun i h1 h2 => (hg.2.2 i (by omega)).trans (hfr i h1 h2)
  have c1 : w3[wl.length + 1]? = some (p1, .inl (xI g, 284, .inl (fun _ => 0))) := by have h9 := hg.2.1; rw [hlen] at h9; exact h9
  have hlen : w3.length = wl.length + 2 := by have h9 := hg.1; omega
  refine y_putF S hin2 hK.1 hP hD hS dX7_init_18 (k) ck (RX7, TX7, 19) rfl (by decide +kernel) tyX7 tyX7_ok nmX7 1 (by decide) (by decide +kernel) rfl rfl rfl rfl (Nat.le_of_ble_eq_true rfl) (fun H locs w4 hs hP hD hS => ?_)
  have ck : w4[k]? = some (a, .inr (7, [.ref p0, .ref p1, .int 0, .null, .int 0, .null, .int 0, .null, .null, .null, .int 0, .int 0, .int 0, .int 0, .int 0, .null, .int 0, .int 0, .null])) := hs.2.1
  have c0 : w4[wl.length]? = some (p0, .inl (xI g, 71, .inl (fun _ => 0))) := (hs.2.2 _ (by omega)).trans c0
  have c1 : w4[wl.length + 1]? = some (p1, .inl (xI g, 284, .inl (fun _ => 0))) := (hs.2.2 _ (by omega)).trans c1
  have hfr : ∀ i, i < wl.length → i ≠ k → w4[i]? = wl[i]? := fun i h1 h2 => (hs.2.2 i h2).trans (hfr i h1 h2)
  have hlen : w4.length = wl.length + 2 := by have h9 := hs.1; omega
  refine lv_aload_n S.1 S.2.1 dX7_init_21 rfl (lv_at hl 0 rfl) ?_
  refine lv_bipush (v := 71) S.1 S.2.1 dX7_init_22 (by decide) ?_
  refine y_newi S hK.1 hP hD hS hA dX7_init_24 (by decide +kernel) 71 rfl (by decide) (Nat.le_of_ble_eq_true rfl) (Nat.le_of_ble_eq_true rfl) (fun p2 H w5 hg hP hD hS => ?_)
  have ck : w5[k]? = some (a, .inr (7, [.ref p0, .ref p1, .int 0, .null, .int 0, .null, .int 0, .null, .null, .null, .int 0, .int 0, .int 0, .int 0, .int 0, .null, .int 0, .int 0, .null])) := (hg.2.2 _ (by omega)).trans ck
  have c0 : w5[wl.length]? = some (p0, .inl (xI g, 71, .inl (fun _ => 0))) := (hg.2.2 _ (by omega)).trans c0
  have c1 : w5[wl.length + 1]? = some (p1, .inl (xI g, 284, .inl (fun _ => 0))) := (hg.2.2 _ (by omega)).trans c1
  have hfr : ∀ i, i < wl.length → i ≠ k → w5[i]? = wl[i]? := fun i h1 h2 => (hg.2.2 i (by omega)).trans (hfr i h1 h2)
  have c2 : w5[wl.length + 2]? = some (p2, .inl (xI g, 71, .inl (fun _ => 0))) := by have h9 := hg.2.1; rw [hlen] at h9; exact h9
  have hlen : w5.length = wl.length + 3 := by have h9 := hg.1; omega
  refine y_putF S hin2 hK.1 hP hD hS dX7_init_26 (k) ck (RX7, TX7, 19) rfl (by decide +kernel) tyX7 tyX7_ok nmX7 3 (by decide) (by decide +kernel) rfl rfl rfl rfl (Nat.le_of_ble_eq_true rfl) (fun H locs w6 hs hP hD hS => ?_)
  have ck : w6[k]? = some (a, .inr (7, [.ref p0, .ref p1, .int 0, .ref p2, .int 0, .null, .int 0, .null, .null, .null, .int 0, .int 0, .int 0, .int 0, .int 0, .null, .int 0, .int 0, .null])) := hs.2.1
  have c0 : w6[wl.length]? = some (p0, .inl (xI g, 71, .inl (fun _ => 0))) := (hs.2.2 _ (by omega)).trans c0
  have c1 : w6[wl.length + 1]? = some (p1, .inl (xI g, 284, .inl (fun _ => 0))) := (hs.2.2 _ (by omega)).trans c1
  have c2 : w6[wl.length + 2]? = some (p2, .inl (xI g, 71, .inl (fun _ => 0))) := (hs.2.2 _ (by omega)).trans c2
  have hfr : ∀ i, i < wl.length → i ≠ k → w6[i]? = wl[i]? := fun i h1 h2 => (hs.2.2 i h2).trans (hfr i h1 h2)
  have hlen : w6.length = wl.length + 3 := by have h9 := hs.1; omega
  refine lv_aload_n S.1 S.2.1 dX7_init_29 rfl (lv_at hl 0 rfl) ?_
  refine lv_iconst (v := 3) S.1 S.2.1 dX7_init_30 (by decide) ?_
  refine y_newi S hK.1 hP hD hS hA dX7_init_31 (by decide +kernel) 3 rfl (by decide) (Nat.le_of_ble_eq_true rfl) (Nat.le_of_ble_eq_true rfl) (fun p3 H w7 hg hP hD hS => ?_)
  have ck : w7[k]? = some (a, .inr (7, [.ref p0, .ref p1, .int 0, .ref p2, .int 0, .null, .int 0, .null, .null, .null, .int 0, .int 0, .int 0, .int 0, .int 0, .null, .int 0, .int 0, .null])) := (hg.2.2 _ (by omega)).trans ck
  have c0 : w7[wl.length]? = some (p0, .inl (xI g, 71, .inl (fun _ => 0))) := (hg.2.2 _ (by omega)).trans c0
  have c1 : w7[wl.length + 1]? = some (p1, .inl (xI g, 284, .inl (fun _ => 0))) := (hg.2.2 _ (by omega)).trans c1
  have c2 : w7[wl.length + 2]? = some (p2, .inl (xI g, 71, .inl (fun _ => 0))) := (hg.2.2 _ (by omega)).trans c2
  have hfr : ∀ i, i < wl.length → i ≠ k → w7[i]? = wl[i]? := fun i h1 h2 => (hg.2.2 i (by omega)).trans (hfr i h1 h2)
  have c3 : w7[wl.length + 3]? = some (p3, .inl (xI g, 3, .inl (fun _ => 0))) := by have h9 := hg.2.1; rw [hlen] at h9; exact h9
  have hlen : w7.length = wl.length + 4 := by have h9 := hg.1; omega
  refine y_putF S hin2 hK.1 hP hD hS dX7_init_33 (k) ck (RX7, TX7, 19) rfl (by decide +kernel) tyX7 tyX7_ok nmX7 5 (by decide) (by decide +kernel) rfl rfl rfl rfl (Nat.le_of_ble_eq_true rfl) (fun H locs w8 hs hP hD hS => ?_)
  have ck : w8[k]? = some (a, .inr (7, [.ref p0, .ref p1, .int 0, .ref p2, .int 0, .ref p3, .int 0, .null, .null, .null, .int 0, .int 0, .int 0, .int 0, .int 0, .null, .int 0, .int 0, .null])) := hs.2.1
  have c0 : w8[wl.length]? = some (p0, .inl (xI g, 71, .inl (fun _ => 0))) := (hs.2.2 _ (by omega)).trans c0
  have c1 : w8[wl.length + 1]? = some (p1, .inl (xI g, 284, .inl (fun _ => 0))) := (hs.2.2 _ (by omega)).trans c1
  have c2 : w8[wl.length + 2]? = some (p2, .inl (xI g, 71, .inl (fun _ => 0))) := (hs.2.2 _ (by omega)).trans c2
  have c3 : w8[wl.length + 3]? = some (p3, .inl (xI g, 3, .inl (fun _ => 0))) := (hs.2.2 _ (by omega)).trans c3
  have hfr : ∀ i, i < wl.length → i ≠ k → w8[i]? = wl[i]? := fun i h1 h2 => (hs.2.2 i h2).trans (hfr i h1 h2)
  have hlen : w8.length = wl.length + 4 := by have h9 := hs.1; omega
  refine lv_aload_n S.1 S.2.1 dX7_init_36 rfl (lv_at hl 0 rfl) ?_
  refine lv_bipush (v := 11) S.1 S.2.1 dX7_init_37 (by decide) ?_
  refine y_newi S hK.1 hP hD hS hA dX7_init_39 (by decide +kernel) 11 rfl (by decide) (Nat.le_of_ble_eq_true rfl) (Nat.le_of_ble_eq_true rfl) (fun p4 H w9 hg hP hD hS => ?_)
  have ck : w9[k]? = some (a, .inr (7, [.ref p0, .ref p1, .int 0, .ref p2, .int 0, .ref p3, .int 0, .null, .null, .null, .int 0, .int 0, .int 0, .int 0, .int 0, .null, .int 0, .int 0, .null])) := (hg.2.2 _ (by omega)).trans ck
  have c0 : w9[wl.length]? = some (p0, .inl (xI g, 71, .inl (fun _ => 0))) := (hg.2.2 _ (by omega)).trans c0
  have c1 : w9[wl.length + 1]? = some (p1, .inl (xI g, 284, .inl (fun _ => 0))) := (hg.2.2 _ (by omega)).trans c1
  have c2 : w9[wl.length + 2]? = some (p2, .inl (xI g, 71, .inl (fun _ => 0))) := (hg.2.2 _ (by omega)).trans c2
  have c3 : w9[wl.length + 3]? = some (p3, .inl (xI g, 3, .inl (fun _ => 0))) := (hg.2.2 _ (by omega)).trans c3
  have hfr : ∀ i, i < wl.length → i ≠ k → w9[i]? = wl[i]? := fun i h1 h2 => (hg.2.2 i (by omega)).trans (hfr i h1 h2)
  have c4 : w9[wl.length + 4]? = some (p4, .inl (xI g, 11, .inl (fun _ => 0))) := by have h9 := hg.2.1; rw [hlen] at h9; exact h9
  have hlen : w9.length = wl.length + 5 := by have h9 := hg.1; omega
  refine y_putF S hin2 hK.1 hP hD hS dX7_init_41 (k) ck (RX7, TX7, 19) rfl (by decide +kernel) tyX7 tyX7_ok nmX7 7 (by decide) (by decide +kernel) rfl rfl rfl rfl (Nat.le_of_ble_eq_true rfl) (fun H locs w10 hs hP hD hS => ?_)
  have ck : w10[k]? = some (a, .inr (7, [.ref p0, .ref p1, .int 0, .ref p2, .int 0, .ref p3, .int 0, .ref p4, .null, .null, .int 0, .int 0, .int 0, .int 0, .int 0, .null, .int 0, .int 0, .null])) := hs.2.1
  have c0 : w10[wl.length]? = some (p0, .inl (xI g, 71, .inl (fun _ => 0))) := (hs.2.2 _ (by omega)).trans c0
  have c1 : w10[wl.length + 1]? = some (p1, .inl (xI g, 284, .inl (fun _ => 0))) := (hs.2.2 _ (by omega)).trans c1
  have c2 : w10[wl.length + 2]? = some (p2, .inl (xI g, 71, .inl (fun _ => 0))) := (hs.2.2 _ (by omega)).trans c2
  have c3 : w10[wl.length + 3]? = some (p3, .inl (xI g, 3, .inl (fun _ => 0))) := (hs.2.2 _ (by omega)).trans c3
  have c4 : w10[wl.length + 4]? = some (p4, .inl (xI g, 11, .inl (fun _ => 0))) := (hs.2.2 _ (by omega)).trans c4
  have hfr : ∀ i, i < wl.length → i ≠ k → w10[i]? = wl[i]? := fun i h1 h2 => (hs.2.2 i h2).trans (hfr i h1 h2)
  have hlen : w10.length = wl.length + 5 := by have h9 := hs.1; omega
  refine lv_aload_n S.1 S.2.1 dX7_init_44 rfl (lv_at hl 0 rfl) ?_
  refine lv_bipush (v := 10) S.1 S.2.1 dX7_init_45 (by decide) ?_
  refine y_newi S hK.1 hP hD hS hA dX7_init_47 (by decide +kernel) 10 rfl (by decide) (Nat.le_of_ble_eq_true rfl) (Nat.le_of_ble_eq_true rfl) (fun p5 H w11 hg hP hD hS => ?_)
  have ck : w11[k]? = some (a, .inr (7, [.ref p0, .ref p1, .int 0, .ref p2, .int 0, .ref p3, .int 0, .ref p4, .null, .null, .int 0, .int 0, .int 0, .int 0, .int 0, .null, .int 0, .int 0, .null])) := (hg.2.2 _ (by omega)).trans ck
  have c0 : w11[wl.length]? = some (p0, .inl (xI g, 71, .inl (fun _ => 0))) := (hg.2.2 _ (by omega)).trans c0
  have c1 : w11[wl.length + 1]? = some (p1, .inl (xI g, 284, .inl (fun _ => 0))) := (hg.2.2 _ (by omega)).trans c1
  have c2 : w11[wl.length + 2]? = some (p2, .inl (xI g, 71, .inl (fun _ => 0))) := (hg.2.2 _ (by omega)).trans c2
  have c3 : w11[wl.length + 3]? = some (p3, .inl (xI g, 3, .inl (fun _ => 0))) := (hg.2.2 _ (by omega)).trans c3
  have c4 : w11[wl.length + 4]? = some (p4, .inl (xI g, 11, .inl (fun _ => 0))) := (hg.2.2 _ (by omega)).trans c4
  have hfr : ∀ i, i < wl.length → i ≠ k → w11[i]? = wl[i]? := fun i h1 h2 => (hg.2.2 i (by omega)).trans (hfr i h1 h2)
  have c5 : w11[wl.length + 5]? = some (p5, .inl (xI g, 10, .inl (fun _ => 0))) := by have h9 := hg.2.1; rw [hlen] at h9; exact h9
  have hlen : w11.length = wl.length + 6 := by have h9 := hg.1; omega
  refine y_putF S hin2 hK.1 hP hD hS dX7_init_49 (k) ck (RX7, TX7, 19) rfl (by decide +kernel) tyX7 tyX7_ok nmX7 8 (by decide) (by decide +kernel) rfl rfl rfl rfl (Nat.le_of_ble_eq_true rfl) (fun H locs w12 hs hP hD hS => ?_)
  have ck : w12[k]? = some (a, .inr (7, [.ref p0, .ref p1, .int 0, .ref p2, .int 0, .ref p3, .int 0, .ref p4, .ref p5, .null, .int 0, .int 0, .int 0, .int 0, .int 0, .null, .int 0, .int 0, .null])) := hs.2.1
  have c0 : w12[wl.length]? = some (p0, .inl (xI g, 71, .inl (fun _ => 0))) := (hs.2.2 _ (by omega)).trans c0
  have c1 : w12[wl.length + 1]? = some (p1, .inl (xI g, 284, .inl (fun _ => 0))) := (hs.2.2 _ (by omega)).trans c1
  have c2 : w12[wl.length + 2]? = some (p2, .inl (xI g, 71, .inl (fun _ => 0))) := (hs.2.2 _ (by omega)).trans c2
  have c3 : w12[wl.length + 3]? = some (p3, .inl (xI g, 3, .inl (fun _ => 0))) := (hs.2.2 _ (by omega)).trans c3
  have c4 : w12[wl.length + 4]? = some (p4, .inl (xI g, 11, .inl (fun _ => 0))) := (hs.2.2 _ (by omega)).trans c4
  have c5 : w12[wl.length + 5]? = some (p5, .inl (xI g, 10, .inl (fun _ => 0))) := (hs.2.2 _ (by omega)).trans c5
  have hfr : ∀ i, i < wl.length → i ≠ k → w12[i]? = wl[i]? := fun i h1 h2 => (hs.2.2 i h2).trans (hfr i h1 h2)
  have hlen : w12.length = wl.length + 6 := by have h9 := hs.1; omega
  refine lv_aload_n S.1 S.2.1 dX7_init_52 rfl (lv_at hl 0 rfl) ?_
  refine lv_bipush (v := 10) S.1 S.2.1 dX7_init_53 (by decide) ?_
  refine y_newi S hK.1 hP hD hS hA dX7_init_55 (by decide +kernel) 10 rfl (by decide) (Nat.le_of_ble_eq_true rfl) (Nat.le_of_ble_eq_true rfl) (fun p6 H w13 hg hP hD hS => ?_)
  have ck : w13[k]? = some (a, .inr (7, [.ref p0, .ref p1, .int 0, .ref p2, .int 0, .ref p3, .int 0, .ref p4, .ref p5, .null, .int 0, .int 0, .int 0, .int 0, .int 0, .null, .int 0, .int 0, .null])) := (hg.2.2 _ (by omega)).trans ck
  have c0 : w13[wl.length]? = some (p0, .inl (xI g, 71, .inl (fun _ => 0))) := (hg.2.2 _ (by omega)).trans c0
  have c1 : w13[wl.length + 1]? = some (p1, .inl (xI g, 284, .inl (fun _ => 0))) := (hg.2.2 _ (by omega)).trans c1
  have c2 : w13[wl.length + 2]? = some (p2, .inl (xI g, 71, .inl (fun _ => 0))) := (hg.2.2 _ (by omega)).trans c2
  have c3 : w13[wl.length + 3]? = some (p3, .inl (xI g, 3, .inl (fun _ => 0))) := (hg.2.2 _ (by omega)).trans c3
  have c4 : w13[wl.length + 4]? = some (p4, .inl (xI g, 11, .inl (fun _ => 0))) := (hg.2.2 _ (by omega)).trans c4
  have c5 : w13[wl.length + 5]? = some (p5, .inl (xI g, 10, .inl (fun _ => 0))) := (hg.2.2 _ (by omega)).trans c5
  have hfr : ∀ i, i < wl.length → i ≠ k → w13[i]? = wl[i]? := fun i h1 h2 => (hg.2.2 i (by omega)).trans (hfr i h1 h2)
  have c6 : w13[wl.length + 6]? = some (p6, .inl (xI g, 10, .inl (fun _ => 0))) := by have h9 := hg.2.1; rw [hlen] at h9; exact h9
  have hlen : w13.length = wl.length + 7 := by have h9 := hg.1; omega
  refine y_putF S hin2 hK.1 hP hD hS dX7_init_57 (k) ck (RX7, TX7, 19) rfl (by decide +kernel) tyX7 tyX7_ok nmX7 9 (by decide) (by decide +kernel) rfl rfl rfl rfl (Nat.le_of_ble_eq_true rfl) (fun H locs w14 hs hP hD hS => ?_)
  have ck : w14[k]? = some (a, .inr (7, [.ref p0, .ref p1, .int 0, .ref p2, .int 0, .ref p3, .int 0, .ref p4, .ref p5, .ref p6, .int 0, .int 0, .int 0, .int 0, .int 0, .null, .int 0, .int 0, .null])) := hs.2.1
  have c0 : w14[wl.length]? = some (p0, .inl (xI g, 71, .inl (fun _ => 0))) := (hs.2.2 _ (by omega)).trans c0
  have c1 : w14[wl.length + 1]? = some (p1, .inl (xI g, 284, .inl (fun _ => 0))) := (hs.2.2 _ (by omega)).trans c1
  have c2 : w14[wl.length + 2]? = some (p2, .inl (xI g, 71, .inl (fun _ => 0))) := (hs.2.2 _ (by omega)).trans c2
  have c3 : w14[wl.length + 3]? = some (p3, .inl (xI g, 3, .inl (fun _ => 0))) := (hs.2.2 _ (by omega)).trans c3
  have c4 : w14[wl.length + 4]? = some (p4, .inl (xI g, 11, .inl (fun _ => 0))) := (hs.2.2 _ (by omega)).trans c4
  have c5 : w14[wl.length + 5]? = some (p5, .inl (xI g, 10, .inl (fun _ => 0))) := (hs.2.2 _ (by omega)).trans c5
  have c6 : w14[wl.length + 6]? = some (p6, .inl (xI g, 10, .inl (fun _ => 0))) := (hs.2.2 _ (by omega)).trans c6
  have hfr : ∀ i, i < wl.length → i ≠ k → w14[i]? = wl[i]? := fun i h1 h2 => (hs.2.2 i h2).trans (hfr i h1 h2)
  have hlen : w14.length = wl.length + 7 := by have h9 := hs.1; omega
  refine lv_aload_n S.1 S.2.1 dX7_init_60 rfl (lv_at hl 0 rfl) ?_
  refine lv_bipush (v := 60) S.1 S.2.1 dX7_init_61 (by decide) ?_
  refine y_newc S hK.1 hP hD hS hA dX7_init_63 (by decide +kernel) 60 rfl (by decide) (Nat.le_of_ble_eq_true rfl) (Nat.le_of_ble_eq_true rfl) (fun p7 H w15 hg hP hD hS => ?_)
  have ck : w15[k]? = some (a, .inr (7, [.ref p0, .ref p1, .int 0, .ref p2, .int 0, .ref p3, .int 0, .ref p4, .ref p5, .ref p6, .int 0, .int 0, .int 0, .int 0, .int 0, .null, .int 0, .int 0, .null])) := (hg.2.2 _ (by omega)).trans ck
  have c0 : w15[wl.length]? = some (p0, .inl (xI g, 71, .inl (fun _ => 0))) := (hg.2.2 _ (by omega)).trans c0
  have c1 : w15[wl.length + 1]? = some (p1, .inl (xI g, 284, .inl (fun _ => 0))) := (hg.2.2 _ (by omega)).trans c1
  have c2 : w15[wl.length + 2]? = some (p2, .inl (xI g, 71, .inl (fun _ => 0))) := (hg.2.2 _ (by omega)).trans c2
  have c3 : w15[wl.length + 3]? = some (p3, .inl (xI g, 3, .inl (fun _ => 0))) := (hg.2.2 _ (by omega)).trans c3
  have c4 : w15[wl.length + 4]? = some (p4, .inl (xI g, 11, .inl (fun _ => 0))) := (hg.2.2 _ (by omega)).trans c4
  have c5 : w15[wl.length + 5]? = some (p5, .inl (xI g, 10, .inl (fun _ => 0))) := (hg.2.2 _ (by omega)).trans c5
  have c6 : w15[wl.length + 6]? = some (p6, .inl (xI g, 10, .inl (fun _ => 0))) := (hg.2.2 _ (by omega)).trans c6
  have hfr : ∀ i, i < wl.length → i ≠ k → w15[i]? = wl[i]? := fun i h1 h2 => (hg.2.2 i (by omega)).trans (hfr i h1 h2)
  have c7 : w15[wl.length + 7]? = some (p7, .inl (xC g, 60, .inl (fun _ => 0))) := by have h9 := hg.2.1; rw [hlen] at h9; exact h9
  have hlen : w15.length = wl.length + 8 := by have h9 := hg.1; omega
  refine y_putF S hin2 hK.1 hP hD hS dX7_init_65 (k) ck (RX7, TX7, 19) rfl (by decide +kernel) tyX7 tyX7_ok nmX7 15 (by decide) (by decide +kernel) rfl rfl rfl rfl (Nat.le_of_ble_eq_true rfl) (fun H locs w16 hs hP hD hS => ?_)
  have ck : w16[k]? = some (a, .inr (7, [.ref p0, .ref p1, .int 0, .ref p2, .int 0, .ref p3, .int 0, .ref p4, .ref p5, .ref p6, .int 0, .int 0, .int 0, .int 0, .int 0, .ref p7, .int 0, .int 0, .null])) := hs.2.1
  have c0 : w16[wl.length]? = some (p0, .inl (xI g, 71, .inl (fun _ => 0))) := (hs.2.2 _ (by omega)).trans c0
  have c1 : w16[wl.length + 1]? = some (p1, .inl (xI g, 284, .inl (fun _ => 0))) := (hs.2.2 _ (by omega)).trans c1
  have c2 : w16[wl.length + 2]? = some (p2, .inl (xI g, 71, .inl (fun _ => 0))) := (hs.2.2 _ (by omega)).trans c2
  have c3 : w16[wl.length + 3]? = some (p3, .inl (xI g, 3, .inl (fun _ => 0))) := (hs.2.2 _ (by omega)).trans c3
  have c4 : w16[wl.length + 4]? = some (p4, .inl (xI g, 11, .inl (fun _ => 0))) := (hs.2.2 _ (by omega)).trans c4
  have c5 : w16[wl.length + 5]? = some (p5, .inl (xI g, 10, .inl (fun _ => 0))) := (hs.2.2 _ (by omega)).trans c5
  have c6 : w16[wl.length + 6]? = some (p6, .inl (xI g, 10, .inl (fun _ => 0))) := (hs.2.2 _ (by omega)).trans c6
  have c7 : w16[wl.length + 7]? = some (p7, .inl (xC g, 60, .inl (fun _ => 0))) := (hs.2.2 _ (by omega)).trans c7
  have hfr : ∀ i, i < wl.length → i ≠ k → w16[i]? = wl[i]? := fun i h1 h2 => (hs.2.2 i h2).trans (hfr i h1 h2)
  have hlen : w16.length = wl.length + 8 := by have h9 := hs.1; omega
  refine lv_aload_n S.1 S.2.1 dX7_init_68 rfl (lv_at hl 0 rfl) ?_
  refine lv_bipush (v := 6) S.1 S.2.1 dX7_init_69 (by decide) ?_
  refine y_newi S hK.1 hP hD hS hA dX7_init_71 (by decide +kernel) 6 rfl (by decide) (Nat.le_of_ble_eq_true rfl) (Nat.le_of_ble_eq_true rfl) (fun p8 H w17 hg hP hD hS => ?_)
  have ck : w17[k]? = some (a, .inr (7, [.ref p0, .ref p1, .int 0, .ref p2, .int 0, .ref p3, .int 0, .ref p4, .ref p5, .ref p6, .int 0, .int 0, .int 0, .int 0, .int 0, .ref p7, .int 0, .int 0, .null])) := (hg.2.2 _ (by omega)).trans ck
  have c0 : w17[wl.length]? = some (p0, .inl (xI g, 71, .inl (fun _ => 0))) := (hg.2.2 _ (by omega)).trans c0
  have c1 : w17[wl.length + 1]? = some (p1, .inl (xI g, 284, .inl (fun _ => 0))) := (hg.2.2 _ (by omega)).trans c1
  have c2 : w17[wl.length + 2]? = some (p2, .inl (xI g, 71, .inl (fun _ => 0))) := (hg.2.2 _ (by omega)).trans c2
  have c3 : w17[wl.length + 3]? = some (p3, .inl (xI g, 3, .inl (fun _ => 0))) := (hg.2.2 _ (by omega)).trans c3
  have c4 : w17[wl.length + 4]? = some (p4, .inl (xI g, 11, .inl (fun _ => 0))) := (hg.2.2 _ (by omega)).trans c4
  have c5 : w17[wl.length + 5]? = some (p5, .inl (xI g, 10, .inl (fun _ => 0))) := (hg.2.2 _ (by omega)).trans c5
  have c6 : w17[wl.length + 6]? = some (p6, .inl (xI g, 10, .inl (fun _ => 0))) := (hg.2.2 _ (by omega)).trans c6
  have c7 : w17[wl.length + 7]? = some (p7, .inl (xC g, 60, .inl (fun _ => 0))) := (hg.2.2 _ (by omega)).trans c7
  have hfr : ∀ i, i < wl.length → i ≠ k → w17[i]? = wl[i]? := fun i h1 h2 => (hg.2.2 i (by omega)).trans (hfr i h1 h2)
  have c8 : w17[wl.length + 8]? = some (p8, .inl (xI g, 6, .inl (fun _ => 0))) := by have h9 := hg.2.1; rw [hlen] at h9; exact h9
  have hlen : w17.length = wl.length + 9 := by have h9 := hg.1; omega
  refine y_putF S hin2 hK.1 hP hD hS dX7_init_73 (k) ck (RX7, TX7, 19) rfl (by decide +kernel) tyX7 tyX7_ok nmX7 18 (by decide) (by decide +kernel) rfl rfl rfl rfl (Nat.le_of_ble_eq_true rfl) (fun H locs w18 hs hP hD hS => ?_)
  have ck : w18[k]? = some (a, .inr (7, [.ref p0, .ref p1, .int 0, .ref p2, .int 0, .ref p3, .int 0, .ref p4, .ref p5, .ref p6, .int 0, .int 0, .int 0, .int 0, .int 0, .ref p7, .int 0, .int 0, .ref p8])) := hs.2.1
  have c0 : w18[wl.length]? = some (p0, .inl (xI g, 71, .inl (fun _ => 0))) := (hs.2.2 _ (by omega)).trans c0
  have c1 : w18[wl.length + 1]? = some (p1, .inl (xI g, 284, .inl (fun _ => 0))) := (hs.2.2 _ (by omega)).trans c1
  have c2 : w18[wl.length + 2]? = some (p2, .inl (xI g, 71, .inl (fun _ => 0))) := (hs.2.2 _ (by omega)).trans c2
  have c3 : w18[wl.length + 3]? = some (p3, .inl (xI g, 3, .inl (fun _ => 0))) := (hs.2.2 _ (by omega)).trans c3
  have c4 : w18[wl.length + 4]? = some (p4, .inl (xI g, 11, .inl (fun _ => 0))) := (hs.2.2 _ (by omega)).trans c4
  have c5 : w18[wl.length + 5]? = some (p5, .inl (xI g, 10, .inl (fun _ => 0))) := (hs.2.2 _ (by omega)).trans c5
  have c6 : w18[wl.length + 6]? = some (p6, .inl (xI g, 10, .inl (fun _ => 0))) := (hs.2.2 _ (by omega)).trans c6
  have c7 : w18[wl.length + 7]? = some (p7, .inl (xC g, 60, .inl (fun _ => 0))) := (hs.2.2 _ (by omega)).trans c7
  have c8 : w18[wl.length + 8]? = some (p8, .inl (xI g, 6, .inl (fun _ => 0))) := (hs.2.2 _ (by omega)).trans c8
  have hfr : ∀ i, i < wl.length → i ≠ k → w18[i]? = wl[i]? := fun i h1 h2 => (hs.2.2 i h2).trans (hfr i h1 h2)
  have hlen : w18.length = wl.length + 9 := by have h9 := hs.1; omega
  exact y_vret S hr hlocks hP hD hS dX7_init_76 ⟨⟨hlen, hfr⟩, ⟨_, _, _, _, _, _, _, _, _, ck, c0, c1, c2, c3, c4, c5, c6, c7, c8⟩⟩
