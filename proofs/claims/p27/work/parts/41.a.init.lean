/-! CONSTRUCTORS: the contracts -/
/-- an empty Photos at the places b .. b + 8 of a list -/
def phL (g : xG) (u : va_W) (b a : Nat) : Prop := ∃ (q : Nat) (r : Nat → Nat), u[b]? = some (a, .inr (2, [.ref q, .int 0])) ∧ u[b + 1]? = some (q, .inl (xR g, 7, .inr (.inr (.inr (.inr (fun i => if i < 7 then some (r i) else none)))))) ∧ ∀ w, w < 7 → u[b + 2 + w]? = some (r w, .inl (xI g, 10, .inl (fun _ => 0)))
theorem phL.keep {g : xG} {u u1 : va_W} {b a : Nat} (h : phL g u b a) (hk : ∀ j, b ≤ j → j < b + 9 → u1[j]? = u[j]?) : phL g u1 b a := by
  obtain ⟨q, r, h1, h2, h3⟩ := h
  exact ⟨q, r, (hk b (by omega) (by omega)).trans h1, (hk _ (by omega) (by omega)).trans h2, fun w hw => (hk _ (by omega) (by omega)).trans (h3 w hw)⟩
/-- what a constructor leaves as it was -/
def yO (wl u : va_W) (n k : Nat) : Prop := u.length = wl.length + n ∧ ∀ i, i < wl.length → i ≠ k → u[i]? = wl[i]?
section YL
variable {g : xG} {u u1 wl : va_W} {L n c k a : Nat} {e : va_E} {x : Option (Nat × va_E)}
theorem kG (h : u[k]? = x) (hg : yG u u1 a e) (hk : k < L) (hl : u.length = L + n) : u1[k]? = x := (hg.2.2 _ (by omega)).trans h
theorem cG (o : Nat) (h : u[L + o]? = x) (hg : yG u u1 a e) (hl : u.length = L + n) (ho : o < n) : u1[L + o]? = x := (hg.2.2 _ (by omega)).trans h
theorem cK (o : Nat) (h : u[L + o]? = x) (hs : yS u u1 k a e) (hk : k < L) : u1[L + o]? = x := (hs.2.2 _ (by omega)).trans h
theorem cS (o j : Nat) (h : u[L + o]? = x) (hs : yS u u1 (L + j) a e) (hne : o ≠ j) : u1[L + o]? = x := (hs.2.2 _ (by omega)).trans h
theorem kS (j : Nat) (h : u[k]? = x) (hs : yS u u1 (L + j) a e) (hk : k < L) : u1[k]? = x := (hs.2.2 _ (by omega)).trans h
theorem cO (o j : Nat) (h : u[L + o]? = x) (ho : yO u u1 c (L + j)) (hl : u.length = L + n) (h1 : o < n) (h2 : o ≠ j) : u1[L + o]? = x := (ho.2 _ (by omega) (by omega)).trans h
theorem kO (j : Nat) (h : u[k]? = x) (ho : yO u u1 c (L + j)) (hk : k < L) (hl : u.length = L + n) : u1[k]? = x := (ho.2 _ (by omega) (by omega)).trans h
theorem phG (o : Nat) {q : Nat} (h : phL g u (L + o) q) (hg : yG u u1 a e) (hl : u.length = L + n) (ho : o + 9 ≤ n) : phL g u1 (L + o) q := h.keep (fun j h1 h2 => hg.2.2 j (by omega))
theorem phK (o : Nat) {q : Nat} (h : phL g u (L + o) q) (hs : yS u u1 k a e) (hk : k < L) : phL g u1 (L + o) q := h.keep (fun j h1 h2 => hs.2.2 j (by omega))
theorem phS (o j : Nat) {q : Nat} (h : phL g u (L + o) q) (hs : yS u u1 (L + j) a e) (hj : j < o ∨ o + 9 ≤ j) : phL g u1 (L + o) q := h.keep (fun i h1 h2 => hs.2.2 i (by omega))
theorem phO (o j : Nat) {q : Nat} (h : phL g u (L + o) q) (ho : yO u u1 c (L + j)) (hl : u.length = L + n) (h1 : o + 9 ≤ n) (hj : j < o ∨ o + 9 ≤ j) : phL g u1 (L + o) q := h.keep (fun i h1 h2 => ho.2 i (by omega) (by omega))
theorem phN (o : Nat) {q q9 : Nat} {r9 : Nat → Nat} (h1 : u1[L + o]? = some (q, .inr (2, [.ref q9, .int 0]))) (h2 : u1[u.length]? = some (q9, .inl (xR g, 7, .inr (.inr (.inr (.inr (fun i => if i < 7 then some (r9 i) else none))))))) (h3 : ∀ w, w < 7 → u1[u.length + 1 + w]? = some (r9 w, .inl (xI g, 10, .inl (fun _ => 0)))) (hl : u.length = L + (o + 1)) : phL g u1 (L + o) q :=
  ⟨q9, r9, h1, by rw [hl] at h2; exact h2, fun w hw => by have h9 := h3 w hw; rw [hl] at h9; rw [show L + o + 2 + w = L + (o + 1) + 1 + w by omega]; exact h9⟩
theorem fG (hf : ∀ i, i < wl.length → i ≠ k → u[i]? = wl[i]?) (hg : yG u u1 a e) (hl : u.length = wl.length + n) : ∀ i, i < wl.length → i ≠ k → u1[i]? = wl[i]? := fun i h1 h2 => (hg.2.2 i (by omega)).trans (hf i h1 h2)
theorem fK (hf : ∀ i, i < wl.length → i ≠ k → u[i]? = wl[i]?) (hs : yS u u1 k a e) : ∀ i, i < wl.length → i ≠ k → u1[i]? = wl[i]? := fun i h1 h2 => (hs.2.2 i h2).trans (hf i h1 h2)
theorem fS (j : Nat) (hf : ∀ i, i < wl.length → i ≠ k → u[i]? = wl[i]?) (hs : yS u u1 (wl.length + j) a e) : ∀ i, i < wl.length → i ≠ k → u1[i]? = wl[i]? := fun i h1 h2 => (hs.2.2 i (by omega)).trans (hf i h1 h2)
theorem fO (j : Nat) (hf : ∀ i, i < wl.length → i ≠ k → u[i]? = wl[i]?) (ho : yO u u1 c (wl.length + j)) (hl : u.length = wl.length + n) : ∀ i, i < wl.length → i ≠ k → u1[i]? = wl[i]? := fun i h1 h2 => (ho.2 i (by omega) (by omega)).trans (hf i h1 h2)
theorem lG {m : Nat} (hg : yG u u1 a e) (hl : u.length = L + n) (hm : m = n + 1) : u1.length = L + m := by have h9 := hg.1; omega
theorem lS (hs : yS u u1 k a e) (hl : u.length = L + n) : u1.length = L + n := by have h9 := hs.1; omega
theorem lO {j m : Nat} (ho : yO u u1 c j) (hl : u.length = L + n) (hm : m = n + c) : u1.length = L + m := by have h9 := ho.1; omega
theorem nG (hg : yG u u1 a e) (hl : u.length = L + n) : u1[L + n]? = some (a, e) := by have h9 := hg.2.1; rw [hl] at h9; exact h9
end YL
set_option maxHeartbeats 4000000 in
set_option maxRecDepth 100000 in
theorem c_X2_init (l : Launch) (g : xG) (wl : va_W) (sz k a : Nat) (hk0 : wl[k]? = some (a, .inr (2, [.null, .int 0]))) : Met l yX2_init wsX2_init ({ frames := 1, cells := 8, slots := 77, locals := 12 }) (yPc g [.ref a] sz wl) (yQ g sz wl (fun u => yO wl u 8 k ∧ ∃ (q : Nat) (r : Nat → Nat), u[k]? = some (a, .inr (2, [.ref q, .int 0])) ∧ u[wl.length]? = some (q, .inl (xR g, 7, .inr (.inr (.inr (.inr (fun i => if i < 7 then some (r i) else none)))))) ∧ ∀ w, w < 7 → u[wl.length + 1 + w]? = some (r w, .inl (xI g, 10, .inl (fun _ => 0))))) 8 77 (va_A wl sz) := by
  refine y_met (ws' := _) (by decide) rfl (Nat.le_of_ble_eq_true rfl) ?_
  intro pz ez s m below meth cz ls S hr hlocks hin2 hsz hP hK hD0 hl
  have hl : lv_has ls 1 [(0, .ref a)] := hl
  subst hsz
  have hD := hD0.self (sz := s.heap.size)
  have hA : ∀ q, s.heap.size ≤ q → va_A wl s.heap.size q := fun q h => Or.inr h
  have hS : va_S (va_A wl s.heap.size) s.heap s.heap [] := va_S.rf
  have hkl := (List.getElem?_eq_some_iff.mp hk0).1
  have ck := hk0
  have hfr : ∀ i, i < wl.length → i ≠ k → wl[i]? = wl[i]? := fun _ _ _ => rfl
  have hlen : wl.length = wl.length + 0 := rfl
  refine lv_aload_n S.1 S.2.1 dX2_init_0 rfl (lv_at hl 0 rfl) ?_
  refine y_obj S hl.1 dX2_init_1 (by decide +kernel) (by decide +kernel) (by decide +kernel) (Nat.le_of_ble_eq_true rfl) (Nat.le_of_ble_eq_true rfl) ?_
  refine lv_aload_n S.1 S.2.1 dX2_init_4 rfl (lv_at hl 0 rfl) ?_
  refine lv_bipush (v := 7) S.1 S.2.1 dX2_init_5 (by decide) ?_
  refine lv_bipush (v := 10) S.1 S.2.1 dX2_init_7 (by decide) ?_
  refine y_mna S hK hP hD hS hA dX2_init_9 (by decide +kernel) (by decide +kernel) (Nat.le_of_ble_eq_true rfl) (Nat.le_of_ble_eq_true rfl) (fun q r H w1 e1 e2 e3 e4 hP hD hS => ?_)
  have ck : w1[k]? = some (a, .inr (2, [.null, .int 0])) := (e4 k (by omega)).trans ck
  have hfr : ∀ i, i < wl.length → i ≠ k → w1[i]? = wl[i]? := fun i h1 h2 => e4 i h1
  have hlen : w1.length = wl.length + 8 := e1
  refine y_putF S hin2 hK.1 hP hD hS dX2_init_13 (k) ck (RX2, TX2, 2) rfl (by decide +kernel) tyX2 tyX2_ok nmX2 0 (by decide) (by decide +kernel) rfl rfl rfl rfl (Nat.le_of_ble_eq_true rfl) (fun H locs w2 hs hP hD hS => ?_)
  have ck : w2[k]? = some (a, .inr (2, [.ref q, .int 0])) := hs.2.1
  have hfr : ∀ i, i < wl.length → i ≠ k → w2[i]? = wl[i]? := fK hfr hs
  have hlen : w2.length = wl.length + 8 := lS hs hlen
  exact y_vret S hr hlocks hP hD hS dX2_init_16 ⟨⟨hlen, hfr⟩, ⟨q, r, ck, (hs.2.2 _ (by omega)).trans e2, fun w hw => (hs.2.2 _ (by omega)).trans (e3 w hw)⟩⟩
set_option maxHeartbeats 4000000 in
set_option maxRecDepth 100000 in
theorem c_X4_init (l : Launch) (g : xG) (wl : va_W) (sz k a : Nat) (hk0 : wl[k]? = some (a, .inr (4, [.null, .int 0, .int 0, .int 0]))) : Met l yX4_init wsX4_init ({ frames := 1, cells := 1, slots := 60, locals := 13 }) (yPc g [.ref a] sz wl) (yQ g sz wl (fun u => yO wl u 1 k ∧ ∃ q, u[k]? = some (a, .inr (4, [.ref q, .int 0, .int 0, .int 0])) ∧ u[wl.length]? = some (q, .inl (xC g, 60, .inl (fun _ => 0))))) 1 60 (va_A wl sz) := by
  refine y_met (ws' := _) (by decide) rfl (Nat.le_of_ble_eq_true rfl) ?_
  intro pz ez s m below meth cz ls S hr hlocks hin2 hsz hP hK hD0 hl
  have hl : lv_has ls 1 [(0, .ref a)] := hl
  subst hsz
  have hD := hD0.self (sz := s.heap.size)
  have hA : ∀ q, s.heap.size ≤ q → va_A wl s.heap.size q := fun q h => Or.inr h
  have hS : va_S (va_A wl s.heap.size) s.heap s.heap [] := va_S.rf
  have hkl := (List.getElem?_eq_some_iff.mp hk0).1
  have ck := hk0
  have hfr : ∀ i, i < wl.length → i ≠ k → wl[i]? = wl[i]? := fun _ _ _ => rfl
  have hlen : wl.length = wl.length + 0 := rfl
  refine lv_aload_n S.1 S.2.1 dX4_init_0 rfl (lv_at hl 0 rfl) ?_
  refine y_obj S hl.1 dX4_init_1 (by decide +kernel) (by decide +kernel) (by decide +kernel) (Nat.le_of_ble_eq_true rfl) (Nat.le_of_ble_eq_true rfl) ?_
  refine lv_aload_n S.1 S.2.1 dX4_init_4 rfl (lv_at hl 0 rfl) ?_
  refine lv_bipush (v := 60) S.1 S.2.1 dX4_init_5 (by decide) ?_
  refine y_newc S hK.1 hP hD hS hA dX4_init_7 (by decide +kernel) 60 rfl (by decide) (Nat.le_of_ble_eq_true rfl) (Nat.le_of_ble_eq_true rfl) (fun p0 H w1 hg hP hD hS => ?_)
  have ck : w1[k]? = some (a, .inr (4, [.null, .int 0, .int 0, .int 0])) := kG ck hg hkl hlen
  have hfr : ∀ i, i < wl.length → i ≠ k → w1[i]? = wl[i]? := fG hfr hg hlen
  have c0 : w1[wl.length]? = some (p0, .inl (xC g, 60, .inl (fun _ => 0))) := nG hg hlen
  have hlen : w1.length = wl.length + 1 := lG hg hlen rfl
  refine y_putF S hin2 hK.1 hP hD hS dX4_init_9 (k) ck (RX4, TX4, 4) rfl (by decide +kernel) tyX4 tyX4_ok nmX4 0 (by decide) (by decide +kernel) rfl rfl rfl rfl (Nat.le_of_ble_eq_true rfl) (fun H locs w2 hs hP hD hS => ?_)
  have ck : w2[k]? = some (a, .inr (4, [.ref p0, .int 0, .int 0, .int 0])) := hs.2.1
  have c0 : w2[wl.length]? = some (p0, .inl (xC g, 60, .inl (fun _ => 0))) := cK 0 c0 hs hkl
  have hfr : ∀ i, i < wl.length → i ≠ k → w2[i]? = wl[i]? := fK hfr hs
  have hlen : w2.length = wl.length + 1 := lS hs hlen
  exact y_vret S hr hlocks hP hD hS dX4_init_12 ⟨⟨hlen, hfr⟩, ⟨_, ck, c0⟩⟩
set_option maxHeartbeats 4000000 in
set_option maxRecDepth 100000 in
theorem c_X0_init (l : Launch) (g : xG) (wl : va_W) (sz k a : Nat) (b : Nat) (hk0 : wl[k]? = some (a, .inr (0, [.null, .int 0, .int 0, .int 0]))) : Met l yX0_init wsX0_init ({ frames := 1, cells := 0, slots := 0, locals := 14 }) (yPc g [.ref a, .ref b] sz wl) (yQ g sz wl (fun u => yO wl u 0 k ∧ u[k]? = some (a, .inr (0, [.ref b, .int 0, .int 0, .int 0])))) 0 0 (va_A wl sz) := by
  refine y_met (ws' := _) (by decide) rfl (Nat.le_of_ble_eq_true rfl) ?_
  intro pz ez s m below meth cz ls S hr hlocks hin2 hsz hP hK hD0 hl
  have hl : lv_has ls 2 [(0, .ref a), (1, .ref b)] := hl
  subst hsz
  have hD := hD0.self (sz := s.heap.size)
  have hA : ∀ q, s.heap.size ≤ q → va_A wl s.heap.size q := fun q h => Or.inr h
  have hS : va_S (va_A wl s.heap.size) s.heap s.heap [] := va_S.rf
  have hkl := (List.getElem?_eq_some_iff.mp hk0).1
  have ck := hk0
  have hfr : ∀ i, i < wl.length → i ≠ k → wl[i]? = wl[i]? := fun _ _ _ => rfl
  have hlen : wl.length = wl.length + 0 := rfl
  refine lv_aload_n S.1 S.2.1 dX0_init_0 rfl (lv_at hl 0 rfl) ?_
  refine y_obj S hl.1 dX0_init_1 (by decide +kernel) (by decide +kernel) (by decide +kernel) (Nat.le_of_ble_eq_true rfl) (Nat.le_of_ble_eq_true rfl) ?_
  refine lv_aload_n S.1 S.2.1 dX0_init_4 rfl (lv_at hl 0 rfl) ?_
  refine lv_aload_n S.1 S.2.1 dX0_init_5 rfl (lv_at hl 1 rfl) ?_
  refine y_putF S hin2 hK.1 hP hD hS dX0_init_6 (k) ck (RX0, TX0, 4) rfl (by decide +kernel) tyX0 tyX0_ok nmX0 0 (by decide) (by decide +kernel) rfl rfl rfl rfl (Nat.le_of_ble_eq_true rfl) (fun H locs w1 hs hP hD hS => ?_)
  have ck : w1[k]? = some (a, .inr (0, [.ref b, .int 0, .int 0, .int 0])) := hs.2.1
  have hfr : ∀ i, i < wl.length → i ≠ k → w1[i]? = wl[i]? := fK hfr hs
  have hlen : w1.length = wl.length + 0 := lS hs hlen
  exact y_vret S hr hlocks hP hD hS dX0_init_9 ⟨⟨hlen, hfr⟩, ck⟩
set_option maxHeartbeats 4000000 in
set_option maxRecDepth 100000 in
theorem c_X3_init (l : Launch) (g : xG) (wl : va_W) (sz k a : Nat) (b : Nat) (hk0 : wl[k]? = some (a, .inr (3, [.null, .int 0, .int 0, .int 0]))) : Met l yX3_init wsX3_init ({ frames := 1, cells := 0, slots := 0, locals := 14 }) (yPc g [.ref a, .ref b] sz wl) (yQ g sz wl (fun u => yO wl u 0 k ∧ u[k]? = some (a, .inr (3, [.ref b, .int 0, .int 0, .int 0])))) 0 0 (va_A wl sz) := by
  refine y_met (ws' := _) (by decide) rfl (Nat.le_of_ble_eq_true rfl) ?_
  intro pz ez s m below meth cz ls S hr hlocks hin2 hsz hP hK hD0 hl
  have hl : lv_has ls 2 [(0, .ref a), (1, .ref b)] := hl
  subst hsz
  have hD := hD0.self (sz := s.heap.size)
  have hA : ∀ q, s.heap.size ≤ q → va_A wl s.heap.size q := fun q h => Or.inr h
  have hS : va_S (va_A wl s.heap.size) s.heap s.heap [] := va_S.rf
  have hkl := (List.getElem?_eq_some_iff.mp hk0).1
  have ck := hk0
  have hfr : ∀ i, i < wl.length → i ≠ k → wl[i]? = wl[i]? := fun _ _ _ => rfl
  have hlen : wl.length = wl.length + 0 := rfl
  refine lv_aload_n S.1 S.2.1 dX3_init_0 rfl (lv_at hl 0 rfl) ?_
  refine y_obj S hl.1 dX3_init_1 (by decide +kernel) (by decide +kernel) (by decide +kernel) (Nat.le_of_ble_eq_true rfl) (Nat.le_of_ble_eq_true rfl) ?_
  refine lv_aload_n S.1 S.2.1 dX3_init_4 rfl (lv_at hl 0 rfl) ?_
  refine lv_aload_n S.1 S.2.1 dX3_init_5 rfl (lv_at hl 1 rfl) ?_
  refine y_putF S hin2 hK.1 hP hD hS dX3_init_6 (k) ck (RX3, TX3, 4) rfl (by decide +kernel) tyX3 tyX3_ok nmX3 0 (by decide) (by decide +kernel) rfl rfl rfl rfl (Nat.le_of_ble_eq_true rfl) (fun H locs w1 hs hP hD hS => ?_)
  have ck : w1[k]? = some (a, .inr (3, [.ref b, .int 0, .int 0, .int 0])) := hs.2.1
  have hfr : ∀ i, i < wl.length → i ≠ k → w1[i]? = wl[i]? := fK hfr hs
  have hlen : w1.length = wl.length + 0 := lS hs hlen
  exact y_vret S hr hlocks hP hD hS dX3_init_9 ⟨⟨hlen, hfr⟩, ck⟩
set_option maxHeartbeats 4000000 in
set_option maxRecDepth 100000 in
theorem c_X5_init (l : Launch) (g : xG) (wl : va_W) (sz k a : Nat) (b c9 : Nat) (hk0 : wl[k]? = some (a, .inr (5, [.null, .null, .null, .null]))) : Met l yX5_init wsX5_init ({ frames := 1, cells := 2, slots := 22, locals := 16 }) (yPc g [.ref a, .ref b, .ref c9] sz wl) (yQ g sz wl (fun u => yO wl u 2 k ∧ ∃ q1 q2, u[k]? = some (a, .inr (5, [.ref b, .ref c9, .ref q1, .ref q2])) ∧ u[wl.length]? = some (q1, .inl (xI g, 11, .inl (fun _ => 0))) ∧ u[wl.length + 1]? = some (q2, .inl (xI g, 11, .inl (fun _ => 0))))) 2 22 (va_A wl sz) := by
  refine y_met (ws' := _) (by decide) rfl (Nat.le_of_ble_eq_true rfl) ?_
  intro pz ez s m below meth cz ls S hr hlocks hin2 hsz hP hK hD0 hl
  have hl : lv_has ls 3 [(0, .ref a), (1, .ref b), (2, .ref c9)] := hl
  subst hsz
  have hD := hD0.self (sz := s.heap.size)
  have hA : ∀ q, s.heap.size ≤ q → va_A wl s.heap.size q := fun q h => Or.inr h
  have hS : va_S (va_A wl s.heap.size) s.heap s.heap [] := va_S.rf
  have hkl := (List.getElem?_eq_some_iff.mp hk0).1
  have ck := hk0
  have hfr : ∀ i, i < wl.length → i ≠ k → wl[i]? = wl[i]? := fun _ _ _ => rfl
  have hlen : wl.length = wl.length + 0 := rfl
  refine lv_aload_n S.1 S.2.1 dX5_init_0 rfl (lv_at hl 0 rfl) ?_
  refine y_obj S hl.1 dX5_init_1 (by decide +kernel) (by decide +kernel) (by decide +kernel) (Nat.le_of_ble_eq_true rfl) (Nat.le_of_ble_eq_true rfl) ?_
  refine lv_aload_n S.1 S.2.1 dX5_init_4 rfl (lv_at hl 0 rfl) ?_
  refine lv_bipush (v := 11) S.1 S.2.1 dX5_init_5 (by decide) ?_
  refine y_newi S hK.1 hP hD hS hA dX5_init_7 (by decide +kernel) 11 rfl (by decide) (Nat.le_of_ble_eq_true rfl) (Nat.le_of_ble_eq_true rfl) (fun p0 H w1 hg hP hD hS => ?_)
  have ck : w1[k]? = some (a, .inr (5, [.null, .null, .null, .null])) := kG ck hg hkl hlen
  have hfr : ∀ i, i < wl.length → i ≠ k → w1[i]? = wl[i]? := fG hfr hg hlen
  have c0 : w1[wl.length]? = some (p0, .inl (xI g, 11, .inl (fun _ => 0))) := nG hg hlen
  have hlen : w1.length = wl.length + 1 := lG hg hlen rfl
  refine y_putF S hin2 hK.1 hP hD hS dX5_init_9 (k) ck (RX5, TX5, 4) rfl (by decide +kernel) tyX5 tyX5_ok nmX5 2 (by decide) (by decide +kernel) rfl rfl rfl rfl (Nat.le_of_ble_eq_true rfl) (fun H locs w2 hs hP hD hS => ?_)
  have ck : w2[k]? = some (a, .inr (5, [.null, .null, .ref p0, .null])) := hs.2.1
  have c0 : w2[wl.length]? = some (p0, .inl (xI g, 11, .inl (fun _ => 0))) := cK 0 c0 hs hkl
  have hfr : ∀ i, i < wl.length → i ≠ k → w2[i]? = wl[i]? := fK hfr hs
  have hlen : w2.length = wl.length + 1 := lS hs hlen
  refine lv_aload_n S.1 S.2.1 dX5_init_12 rfl (lv_at hl 0 rfl) ?_
  refine lv_bipush (v := 11) S.1 S.2.1 dX5_init_13 (by decide) ?_
  refine y_newi S hK.1 hP hD hS hA dX5_init_15 (by decide +kernel) 11 rfl (by decide) (Nat.le_of_ble_eq_true rfl) (Nat.le_of_ble_eq_true rfl) (fun p1 H w3 hg hP hD hS => ?_)
  have ck : w3[k]? = some (a, .inr (5, [.null, .null, .ref p0, .null])) := kG ck hg hkl hlen
  have c0 : w3[wl.length]? = some (p0, .inl (xI g, 11, .inl (fun _ => 0))) := cG 0 c0 hg hlen (by decide)
  have hfr : ∀ i, i < wl.length → i ≠ k → w3[i]? = wl[i]? := fG hfr hg hlen
  have c1 : w3[wl.length + 1]? = some (p1, .inl (xI g, 11, .inl (fun _ => 0))) := nG hg hlen
  have hlen : w3.length = wl.length + 2 := lG hg hlen rfl
  refine y_putF S hin2 hK.1 hP hD hS dX5_init_17 (k) ck (RX5, TX5, 4) rfl (by decide +kernel) tyX5 tyX5_ok nmX5 3 (by decide) (by decide +kernel) rfl rfl rfl rfl (Nat.le_of_ble_eq_true rfl) (fun H locs w4 hs hP hD hS => ?_)
  have ck : w4[k]? = some (a, .inr (5, [.null, .null, .ref p0, .ref p1])) := hs.2.1
  have c0 : w4[wl.length]? = some (p0, .inl (xI g, 11, .inl (fun _ => 0))) := cK 0 c0 hs hkl
  have c1 : w4[wl.length + 1]? = some (p1, .inl (xI g, 11, .inl (fun _ => 0))) := cK 1 c1 hs hkl
  have hfr : ∀ i, i < wl.length → i ≠ k → w4[i]? = wl[i]? := fK hfr hs
  have hlen : w4.length = wl.length + 2 := lS hs hlen
  refine lv_aload_n S.1 S.2.1 dX5_init_20 rfl (lv_at hl 0 rfl) ?_
  refine lv_aload_n S.1 S.2.1 dX5_init_21 rfl (lv_at hl 1 rfl) ?_
  refine y_putF S hin2 hK.1 hP hD hS dX5_init_22 (k) ck (RX5, TX5, 4) rfl (by decide +kernel) tyX5 tyX5_ok nmX5 0 (by decide) (by decide +kernel) rfl rfl rfl rfl (Nat.le_of_ble_eq_true rfl) (fun H locs w5 hs hP hD hS => ?_)
  have ck : w5[k]? = some (a, .inr (5, [.ref b, .null, .ref p0, .ref p1])) := hs.2.1
  have c0 : w5[wl.length]? = some (p0, .inl (xI g, 11, .inl (fun _ => 0))) := cK 0 c0 hs hkl
  have c1 : w5[wl.length + 1]? = some (p1, .inl (xI g, 11, .inl (fun _ => 0))) := cK 1 c1 hs hkl
  have hfr : ∀ i, i < wl.length → i ≠ k → w5[i]? = wl[i]? := fK hfr hs
  have hlen : w5.length = wl.length + 2 := lS hs hlen
  refine lv_aload_n S.1 S.2.1 dX5_init_25 rfl (lv_at hl 0 rfl) ?_
  refine lv_aload_n S.1 S.2.1 dX5_init_26 rfl (lv_at hl 2 rfl) ?_
  refine y_putF S hin2 hK.1 hP hD hS dX5_init_27 (k) ck (RX5, TX5, 4) rfl (by decide +kernel) tyX5 tyX5_ok nmX5 1 (by decide) (by decide +kernel) rfl rfl rfl rfl (Nat.le_of_ble_eq_true rfl) (fun H locs w6 hs hP hD hS => ?_)
  have ck : w6[k]? = some (a, .inr (5, [.ref b, .ref c9, .ref p0, .ref p1])) := hs.2.1
  have c0 : w6[wl.length]? = some (p0, .inl (xI g, 11, .inl (fun _ => 0))) := cK 0 c0 hs hkl
  have c1 : w6[wl.length + 1]? = some (p1, .inl (xI g, 11, .inl (fun _ => 0))) := cK 1 c1 hs hkl
  have hfr : ∀ i, i < wl.length → i ≠ k → w6[i]? = wl[i]? := fK hfr hs
  have hlen : w6.length = wl.length + 2 := lS hs hlen
  exact y_vret S hr hlocks hP hD hS dX5_init_30 ⟨⟨hlen, hfr⟩, ⟨_, _, ck, c0, c1⟩⟩
