/-! PHOTOS: copyFrom, insert, delete; HISTORY: record, takeBack, dropOldest; Photos.numberAt -/
/-- how many photos have times under one: the place of a time -/
def plc (M : Nat → Nat → Int32) (x : Int32) : Nat → Nat → Nat
  | 0, i => i
  | d + 1, i => if M 0 i < x then plc M x d (i + 1) else i
theorem plc_le (M : Nat → Nat → Int32) (x : Int32) : ∀ d i, plc M x d i ≤ i + d
  | 0, i => Nat.le_refl _
  | d + 1, i => by
    unfold plc
    split
    · have := plc_le M x d (i + 1); omega
    · omega
set_option maxHeartbeats 4000000 in
set_option maxRecDepth 100000 in
theorem c_X2_numberAt (l : Launch) (g : xG) (E : Nat → va_E) {b n : Nat} {M : Nat → Nat → Int32} (hp : ePh g E b n M) (x : Int32) : Met l yX2_numberAt wsX2_numberAt ({ frames := 0, cells := 0, slots := 0, locals := 0 }) (xPc g [.ref (xad g b), .int x] E) (vp_Si (fun r => r = nI (plc M x n 0))) 0 0 (fun _ => False) := by
  refine x_met (ws' := _) (by decide) rfl (Nat.le_of_ble_eq_true rfl) ?_
  intro pz ez s m below meth cz ls S hr hlocks hP hK hl
  have hl : lv_has ls 3 [(0, .ref (xad g b)), (1, .int x)] := hl
  have hin2 : ∀ w ∈ u_ws RX2 TX2 2, w ∈ wsX2_numberAt := by decide +kernel
  have fl11 : Cond.fieldLink RX2 11 "DiscArcs$Photos" "rows" "[[I" ∈ wsX2_numberAt := by decide +kernel
  have fl22 : Cond.fieldLink RX2 22 "DiscArcs$Photos" "size" "I" ∈ wsX2_numberAt := by decide +kernel
  have h0 := hp.1
  refine lv_iconst (v := 0) S.1 S.2.1 dX2_numberAt_0 (by decide) ?_
  refine lv_istore_n (lv' := [(2, .int 0), (0, .ref (xad g b)), (1, .int x)]) S.1 S.2.1 dX2_numberAt_1 rfl hl (by decide) rfl (fun ls hl => ?_)
  have loop2 : ∀ (d : Nat) (i : Nat), (hi : i ≤ n) → (hq : plc M x n 0 = plc M x (n - i) i) → (n - i) < d → ∀ ls : Array Slot, lv_has ls 3 [(2, .int (nI i)), (1, .int x), (0, .ref (xad g b))] → W pz l ez ({ frames := 0, cells := 0, slots := 0, locals := 0 }) s m ([.ref (xad g b), .int x] : List Value).toArray below meth cz s.heap [] 0 0 (MQ below (vp_Si (fun r => r = nI (plc M x n 0))) ([.ref (xad g b), .int x] : List Value).toArray s 0 0 (fun _ => False)) (F0 m 2 ls []) := by
    intro d
    induction d with
    | zero => intro i hi hq hd; exact absurd hd (Nat.not_lt_zero _)
    | succ d ih2 =>
      intro i hi hq hd ls hl
      refine lv_iload_n S.1 S.2.1 dX2_numberAt_2 rfl (lv_at hl 0 rfl) ?_
      refine lv_aload_n S.1 S.2.1 dX2_numberAt_3 rfl (lv_at hl 2 rfl) ?_
      refine x_get S hK hP dX2_numberAt_4 hp.2.1 (by have := hp.1; omega) (RX2, TX2, 2) rfl hin2 1 (by decide) fl22 rfl ?_
      refine lv_icmp_ge (tgt := 28) S.1 S.2.1 dX2_numberAt_7 (by decide) (fun c7 => ?_) (fun c7 => ?_)
      · skip
        refine lv_iload_n S.1 S.2.1 dX2_numberAt_28 rfl (lv_at hl 0 rfl) ?_
        exact x_iretR S hr hlocks dX2_numberAt_29 (by rw [hq]; congr 1; first | (rw [show n - i = 0 by have := (nI_leI (a := n) (b := i) (by omega) (by omega)).mp c7; omega]; rfl) | (rw [show n - i = (n - i - 1) + 1 by omega]; unfold plc; rw [if_neg (Int32.not_lt.mpr c19)]))
      · skip
        have hin : i < n := (Nat.not_le.mp (fun h => c7 ((nI_leI (by omega) (by omega)).mpr h)))
        refine lv_aload_n S.1 S.2.1 dX2_numberAt_10 rfl (lv_at hl 2 rfl) ?_
        refine x_get S hK hP dX2_numberAt_11 hp.2.1 (by have := hp.1; omega) (RX2, TX2, 2) rfl hin2 0 (by decide) fl11 rfl ?_
        refine lv_iconst (v := 0) S.1 S.2.1 dX2_numberAt_14 (by decide) ?_
        refine x_row S hK hP dX2_numberAt_15 hp 0 rfl (by omega) ?_
        refine lv_iload_n S.1 S.2.1 dX2_numberAt_16 rfl (lv_at hl 0 rfl) ?_
        refine x_val S hK hP dX2_numberAt_17 hp (w := 0) i rfl (by omega) (by omega) ?_
        refine lv_iload_n S.1 S.2.1 dX2_numberAt_18 rfl (lv_at hl 1 rfl) ?_
        refine lv_icmp_ge (tgt := 28) S.1 S.2.1 dX2_numberAt_19 (by decide) (fun c19 => ?_) (fun c19 => ?_)
        · skip
          refine lv_iload_n S.1 S.2.1 dX2_numberAt_28 rfl (lv_at hl 0 rfl) ?_
          exact x_iretR S hr hlocks dX2_numberAt_29 (by rw [hq]; congr 1; first | (rw [show n - i = 0 by have := (nI_leI (a := n) (b := i) (by omega) (by omega)).mp c7; omega]; rfl) | (rw [show n - i = (n - i - 1) + 1 by omega]; unfold plc; rw [if_neg (Int32.not_lt.mpr c19)]))
        · skip
          refine lv_iinc (v := nI (i + 1)) (lv' := [(2, .int (nI (i + 1))), (1, .int x), (0, .ref (xad g b))]) S.1 S.2.1 dX2_numberAt_22 hl (k := 0) rfl (show nI i + Int32.ofInt 1 = _ from nI_1 _) (by decide) rfl (fun ls hl => ?_)
          refine lv_goto (tgt := 2) S.1 S.2.1 dX2_numberAt_25 (by decide) ?_
          exact ih2 (i + 1) (by omega) (by rw [hq, show n - i = (n - (i + 1)) + 1 by omega]; show (if M 0 i < x then _ else _) = _; rw [if_pos (Int32.not_le.mp c19)]) (by omega) ls (lv_sub hl [0, 1, 2] rfl)
  exact loop2 _ 0 (Nat.zero_le _) rfl (Nat.lt_succ_self _) ls (lv_sub hl [0, 2, 1] rfl)
set_option maxHeartbeats 4000000 in
set_option maxRecDepth 100000 in
/-- Photos.copyFrom -/
theorem c_X2_copyFrom (l : Launch) (g : xG) (hJ : xJ (xad g)) (E : Nat → va_E) {b1 b2 n : Nat} {z : Int32} {M : Nat → Nat → Int32} (hq : ePs g E b1 z) (hp : ePh g E b2 n M) (hd : b1 + 9 ≤ b2 ∨ b2 + 9 ≤ b1) : Met l yX2_copyFrom wsX2_copyFrom ({ frames := 1, cells := 0, slots := 0, locals := 60 }) (xPc g [.ref (xad g b1), .ref (xad g b2)] E) (xQv g (fun E1 => ePh g E1 b1 n M ∧ ∀ j, j < b1 ∨ b1 + 9 ≤ j → E1 j = E j)) 0 0 (xA (xad g)) := by
  refine x_met (ws' := _) (by decide) rfl (Nat.le_of_ble_eq_true rfl) ?_
  intro pz ez s m below meth cz ls S hr hlocks hP hK hl
  have hl : lv_has ls 3 [(0, .ref (xad g b1)), (1, .ref (xad g b2))] := hl
  have hS : va_S (xA (xad g)) s.heap s.heap [] := va_S.rf
  have hin2 : ∀ w ∈ u_ws RX2 TX2 2, w ∈ wsX2_copyFrom := by decide +kernel
  have fl11 : Cond.fieldLink RX2 11 "DiscArcs$Photos" "rows" "[[I" ∈ wsX2_copyFrom := by decide +kernel
  have fl22 : Cond.fieldLink RX2 22 "DiscArcs$Photos" "size" "I" ∈ wsX2_copyFrom := by decide +kernel
  have h0 := hp.1
  have h00 := hq.1
  have hfr : ∀ j, j < b1 ∨ b1 + 9 ≤ j → E j = E j := fun _ _ => rfl
  refine lv_iconst (v := 0) S.1 S.2.1 dX2_copyFrom_0 (by decide) ?_
  refine lv_istore_n (lv' := [(2, .int 0), (0, .ref (xad g b1)), (1, .ref (xad g b2))]) S.1 S.2.1 dX2_copyFrom_1 rfl hl (by decide) rfl (fun ls hl => ?_)
  have loop2 : ∀ (d : Nat) (i : Nat) (EL : Nat → va_E) (H : Heap) (locs : List Loc), (hi : i ≤ 7) → (7 - i) < d → (hq : ePs g EL b1 z) → (hp : ePh g EL b2 n M) → (hfr : ∀ j, j < b1 ∨ b1 + 9 ≤ j → EL j = E j) → (hrw : ∀ w, w < i → ∃ f : Nat → Int32, EL (b1 + 2 + w) = .inl (xI g, 10, .inl f) ∧ ∀ k, k < n → f k = M w k) → xP g EL H → va_S (xA (xad g)) s.heap H locs → ∀ ls : Array Slot, lv_has ls 3 [(2, .int (nI i)), (1, .ref (xad g b2)), (0, .ref (xad g b1))] → W pz l ez ({ frames := 1, cells := 0, slots := 0, locals := 60 }) s m ([.ref (xad g b1), .ref (xad g b2)] : List Value).toArray below meth cz H locs 0 0 (MQ below (xQv g (fun E1 => ePh g E1 b1 n M ∧ ∀ j, j < b1 ∨ b1 + 9 ≤ j → E1 j = E j)) ([.ref (xad g b1), .ref (xad g b2)] : List Value).toArray s 0 0 (xA (xad g))) (F0 m 2 ls []) := by
    intro d
    induction d with
    | zero => intro i EL H locs hi hd; exact absurd hd (Nat.not_lt_zero _)
    | succ d ih2 =>
      intro i EL H locs hi hd hq hp hfr hrw hP hS ls hl
      refine lv_iload_n S.1 S.2.1 dX2_copyFrom_2 rfl (lv_at hl 0 rfl) ?_
      refine lv_bipush (v := 7) S.1 S.2.1 dX2_copyFrom_3 (by decide) ?_
      refine lv_icmp_ge (tgt := 33) S.1 S.2.1 dX2_copyFrom_5 (by decide) (fun c5 => ?_) (fun c5 => ?_)
      · skip
        have hi7 : i = 7 := Nat.le_antisymm hi ((nI_leI (a := 7) (by omega) (by omega)).mp c5)
        subst hi7
        refine lv_aload_n S.1 S.2.1 dX2_copyFrom_33 rfl (lv_at hl 2 rfl) ?_
        refine lv_aload_n S.1 S.2.1 dX2_copyFrom_34 rfl (lv_at hl 1 rfl) ?_
        refine x_get S hK hP dX2_copyFrom_35 hp.2.1 (by have := hp.1; omega) (RX2, TX2, 2) rfl hin2 1 (by decide) fl22 rfl ?_
        refine x_put S hK hJ hP hS dX2_copyFrom_38 hq.2.1 (by have := hq.1; omega) (RX2, TX2, 2) rfl hin2 tyX2 tyX2_ok nmX2 1 (by decide) fl22 rfl rfl rfl (Nat.le_of_ble_eq_true rfl) (fun H locs E1 hu hP hS => ?_)
        have hq : ePs g E1 b1 (nI n) := hq.size hu
        have hp : ePh g E1 b2 n M := hp.keep (fun j h1 h2 => hu.2 j (by omega))
        have hfr : ∀ j, j < b1 ∨ b1 + 9 ≤ j → E1 j = E j := fun j hj => (hu.2 j (by omega)).trans (hfr j hj)
        have hrw : ∀ w, w < 7 → ∃ f : Nat → Int32, E1 (b1 + 2 + w) = .inl (xI g, 10, .inl f) ∧ ∀ k, k < n → f k = M w k := fun w hw => by obtain ⟨f9, g1, g2⟩ := hrw w (by omega); exact ⟨f9, by rw [hu.2 _ (by omega)]; exact g1, g2⟩
        exact x_vret S hr hlocks hP hS dX2_copyFrom_41 (⟨hq.ph h0.2 hrw, hfr⟩)
      · skip
        have hi7 : i < 7 := (Nat.not_le.mp (fun h => c5 ((nI_leI (a := 7) (by omega) (by omega)).mpr h)))
        refine lv_aload_n S.1 S.2.1 dX2_copyFrom_8 rfl (lv_at hl 1 rfl) ?_
        refine x_get S hK hP dX2_copyFrom_9 hp.2.1 (by have := hp.1; omega) (RX2, TX2, 2) rfl hin2 0 (by decide) fl11 rfl ?_
        refine lv_iload_n S.1 S.2.1 dX2_copyFrom_12 rfl (lv_at hl 0 rfl) ?_
        refine x_row S hK hP dX2_copyFrom_13 hp i rfl (by omega) ?_
        refine lv_iconst (v := 0) S.1 S.2.1 dX2_copyFrom_14 (by decide) ?_
        refine lv_aload_n S.1 S.2.1 dX2_copyFrom_15 rfl (lv_at hl 2 rfl) ?_
        refine x_get S hK hP dX2_copyFrom_16 hq.2.1 (by have := hq.1; omega) (RX2, TX2, 2) rfl hin2 0 (by decide) fl11 rfl ?_
        refine lv_iload_n S.1 S.2.1 dX2_copyFrom_19 rfl (lv_at hl 0 rfl) ?_
        refine x_rowS S hK hP dX2_copyFrom_20 hq i rfl (by omega) ?_
        refine lv_iconst (v := 0) S.1 S.2.1 dX2_copyFrom_21 (by decide) ?_
        refine lv_bipush (v := 10) S.1 S.2.1 dX2_copyFrom_22 (by decide) ?_
        obtain ⟨f, hf, hfk⟩ := hp.2.2.2 i hi7
        obtain ⟨f1, hf1⟩ := hq.2.2.2 i hi7
        refine x_copy S hl.1 hK hJ hP hS dX2_copyFrom_24 (by decide +kernel) (by decide +kernel) (by decide +kernel) (by decide +kernel) hf (by omega) hf1 (by omega) (a := 0) (b := 0) (d := 10) rfl rfl rfl (by omega) (by omega) (by decide) (by decide) (Nat.le_of_ble_eq_true rfl) (Nat.le_of_ble_eq_true rfl) (fun H locs E1_1 hu hP hS => ?_)
        have hq : ePs g E1_1 b1 z := hq.row hi7 hu
        have hp : ePh g E1_1 b2 n M := hp.keep (fun j h1 h2 => hu.2 j (by omega))
        have hfr : ∀ j, j < b1 ∨ b1 + 9 ≤ j → E1_1 j = E j := fun j hj => (hu.2 j (by omega)).trans (hfr j hj)
        have hrw : ∀ w, w < i + 1 → ∃ f : Nat → Int32, E1_1 (b1 + 2 + w) = .inl (xI g, 10, .inl f) ∧ ∀ k, k < n → f k = M w k := fun w hw => by
          by_cases e9 : w = i
          · subst e9
            exact ⟨_, hu.1, fun k hk => by rw [pk_cpy_in (Nat.zero_le _) (by omega), Nat.zero_add, Nat.sub_zero]; exact hfk k hk⟩
          · obtain ⟨f9, g1, g2⟩ := hrw w (by omega)
            exact ⟨f9, by rw [hu.2 _ (by omega)]; exact g1, g2⟩
        refine lv_iinc (v := nI (i + 1)) (lv' := [(2, .int (nI (i + 1))), (1, .ref (xad g b2)), (0, .ref (xad g b1))]) S.1 S.2.1 dX2_copyFrom_27 hl (k := 0) rfl (show nI i + Int32.ofInt 1 = _ from nI_1 _) (by decide) rfl (fun ls hl => ?_)
        refine lv_goto (tgt := 2) S.1 S.2.1 dX2_copyFrom_30 (by decide) ?_
        exact ih2 (i + 1) _ _ _ (by omega) (by omega) hq hp hfr hrw hP hS ls (lv_sub hl [0, 1, 2] rfl)
  exact loop2 _ 0 _ _ _ (Nat.zero_le _) (Nat.lt_succ_self _) hq hp hfr (fun w hw => absurd hw (Nat.not_lt_zero _)) hP hS ls (lv_sub hl [0, 2, 1] rfl)
theorem ins_row {M : Nat → Nat → Int32} {f f6 : Nat → Int32} {n q w k : Nat} {x : Int32} (hf : ∀ k, k < n → f k = M w k) (hq : q ≤ n) (hn : n < 10) (hk : k < n + 1) (hx : x = (if w < 6 then f6 w else 0)) : upd (va_cpy f f q (q + 1) (n - q)) q x k = insM M q f6 w k := by
  unfold insM upd
  by_cases e : k = q
  · subst e
    rw [if_pos rfl, if_neg (by omega), if_pos rfl, hx]
  · rw [if_neg e]
    by_cases h : k < q
    · rw [if_pos h, pk_cpy_out (by omega), hf k (by omega)]
    · rw [if_neg h, if_neg e, pk_cpy_in (by omega) (by omega), hf _ (by omega), show q + (k - (q + 1)) = k - 1 by omega]
set_option maxHeartbeats 4000000 in
set_option maxRecDepth 100000 in
/-- Photos.insert -/
theorem c_X2_insert (l : Launch) (g : xG) (hJ : xJ (xad g)) (E : Nat → va_E) {b n : Nat} {M : Nat → Nat → Int32} {f6 : Nat → Int32} (hp : ePh g E b n M) (hb : b + 9 ≤ 59) (hT : E 59 = .inl (xI g, 6, .inl f6)) {q : Nat} (hqn : q ≤ n) (hn : n < 10) : Met l yX2_insert wsX2_insert ({ frames := 1, cells := 0, slots := 0, locals := 60 }) (xPc g [.ref (xad g b), .int (nI q), .ref (xad g 59)] E) (xQv g (fun E1 => ePh g E1 b (n + 1) (insM M q f6) ∧ ∀ j, j < b ∨ b + 9 ≤ j → E1 j = E j)) 0 0 (xA (xad g)) := by
  refine x_met (ws' := _) (by decide) rfl (Nat.le_of_ble_eq_true rfl) ?_
  intro pz ez s m below meth cz ls S hr hlocks hP hK hl
  have hl : lv_has ls 4 [(0, .ref (xad g b)), (1, .int (nI q)), (2, .ref (xad g 59))] := hl
  have hS : va_S (xA (xad g)) s.heap s.heap [] := va_S.rf
  have hin2 : ∀ w ∈ u_ws RX2 TX2 2, w ∈ wsX2_insert := by decide +kernel
  have fl11 : Cond.fieldLink RX2 11 "DiscArcs$Photos" "rows" "[[I" ∈ wsX2_insert := by decide +kernel
  have fl22 : Cond.fieldLink RX2 22 "DiscArcs$Photos" "size" "I" ∈ wsX2_insert := by decide +kernel
  have h0 := hp.1
  have hq := hp.ps
  have hfr : ∀ j, j < b ∨ b + 9 ≤ j → E j = E j := fun _ _ => rfl
  refine lv_iload_n S.1 S.2.1 dX2_insert_0 rfl (lv_at hl 1 rfl) ?_
  refine lv_if_lt (tgt := 21) S.1 S.2.1 dX2_insert_1 (by decide) (fun c1 => ?_) (fun c1 => ?_)
  · skip
    exact absurd c1 (nI_pos (by omega))
  · skip
    refine lv_iload_n S.1 S.2.1 dX2_insert_4 rfl (lv_at hl 1 rfl) ?_
    refine lv_aload_n S.1 S.2.1 dX2_insert_5 rfl (lv_at hl 0 rfl) ?_
    refine x_get S hK hP dX2_insert_6 hp.2.1 (by have := hp.1; omega) (RX2, TX2, 2) rfl hin2 1 (by decide) fl22 rfl ?_
    refine lv_icmp_gt (tgt := 21) S.1 S.2.1 dX2_insert_9 (by decide) (fun c9 => ?_) (fun c9 => ?_)
    · skip
      exact absurd ((nI_ltI (by omega) (by omega)).mp c9) (by omega)
    · skip
      refine lv_aload_n S.1 S.2.1 dX2_insert_12 rfl (lv_at hl 0 rfl) ?_
      refine x_get S hK hP dX2_insert_13 hp.2.1 (by have := hp.1; omega) (RX2, TX2, 2) rfl hin2 1 (by decide) fl22 rfl ?_
      refine lv_bipush (v := 10) S.1 S.2.1 dX2_insert_16 (by decide) ?_
      refine lv_icmp_lt (tgt := 22) S.1 S.2.1 dX2_insert_18 (by decide) (fun c18 => ?_) (fun c18 => ?_)
      · skip
        refine lv_iconst (v := 0) S.1 S.2.1 dX2_insert_22 (by decide) ?_
        refine lv_istore_n (lv' := [(3, .int 0), (0, .ref (xad g b)), (1, .int (nI q)), (2, .ref (xad g 59))]) S.1 S.2.1 dX2_insert_23 rfl hl (by decide) rfl (fun ls hl => ?_)
        have loop24 : ∀ (d : Nat) (i : Nat) (EL : Nat → va_E) (H : Heap) (locs : List Loc), (hi : i ≤ 7) → (7 - i) < d → (hq : ePs g EL b (nI n)) → (hT : EL 59 = .inl (xI g, 6, .inl f6)) → (hfr : ∀ j, j < b ∨ b + 9 ≤ j → EL j = E j) → (hrw : ∀ w, w < i → ∃ f : Nat → Int32, EL (b + 2 + w) = .inl (xI g, 10, .inl f) ∧ ∀ k, k < n + 1 → f k = insM M q f6 w k) → (hrs : ∀ w, i ≤ w → w < 7 → ∃ f : Nat → Int32, EL (b + 2 + w) = .inl (xI g, 10, .inl f) ∧ ∀ k, k < n → f k = M w k) → xP g EL H → va_S (xA (xad g)) s.heap H locs → ∀ ls : Array Slot, lv_has ls 4 [(3, .int (nI i)), (2, .ref (xad g 59)), (1, .int (nI q)), (0, .ref (xad g b))] → W pz l ez ({ frames := 1, cells := 0, slots := 0, locals := 60 }) s m ([.ref (xad g b), .int (nI q), .ref (xad g 59)] : List Value).toArray below meth cz H locs 0 0 (MQ below (xQv g (fun E1 => ePh g E1 b (n + 1) (insM M q f6) ∧ ∀ j, j < b ∨ b + 9 ≤ j → E1 j = E j)) ([.ref (xad g b), .int (nI q), .ref (xad g 59)] : List Value).toArray s 0 0 (xA (xad g))) (F0 m 24 ls []) := by
          intro d
          induction d with
          | zero => intro i EL H locs hi hd; exact absurd hd (Nat.not_lt_zero _)
          | succ d ih24 =>
            intro i EL H locs hi hd hq hT hfr hrw hrs hP hS ls hl
            refine lv_iload_n S.1 S.2.1 dX2_insert_24 rfl (lv_at hl 0 rfl) ?_
            refine lv_bipush (v := 7) S.1 S.2.1 dX2_insert_25 (by decide) ?_
            refine lv_icmp_ge (tgt := 82) S.1 S.2.1 dX2_insert_27 (by decide) (fun c27 => ?_) (fun c27 => ?_)
            · skip
              have hi7 : i = 7 := Nat.le_antisymm hi ((nI_leI (a := 7) (by omega) (by omega)).mp c27)
              refine lv_aload_n S.1 S.2.1 dX2_insert_82 rfl (lv_at hl 3 rfl) ?_
              refine lv_dup S.1 S.2.1 dX2_insert_83 rfl ?_
              refine x_get S hK hP dX2_insert_84 hq.2.1 (by have := hq.1; omega) (RX2, TX2, 2) rfl hin2 1 (by decide) fl22 rfl ?_
              refine lv_iconst (v := 1) S.1 S.2.1 dX2_insert_87 (by decide) ?_
              refine lv_iadd S.1 S.2.1 dX2_insert_88 ?_
              refine x_put S hK hJ hP hS dX2_insert_89 hq.2.1 (by have := hq.1; omega) (RX2, TX2, 2) rfl hin2 tyX2 tyX2_ok nmX2 1 (by decide) fl22 rfl rfl rfl (Nat.le_of_ble_eq_true rfl) (fun H locs E1 hu hP hS => ?_)
              have hq : ePs g E1 b ((nI n) + 1) := hq.size hu
              have hT : E1 59 = .inl (xI g, 6, .inl f6) := (hu.2 _ (by omega)).trans hT
              have hfr : ∀ j, j < b ∨ b + 9 ≤ j → E1 j = E j := fun j hj => (hu.2 j (by omega)).trans (hfr j hj)
              have hrw : ∀ w, w < i → ∃ f : Nat → Int32, E1 (b + 2 + w) = .inl (xI g, 10, .inl f) ∧ ∀ k, k < n + 1 → f k = insM M q f6 w k := fun w hw => by obtain ⟨f9, g1, g2⟩ := hrw w (by omega); exact ⟨f9, by rw [hu.2 _ (by omega)]; exact g1, g2⟩
              exact x_vret S hr hlocks hP hS dX2_insert_92 (⟨ePs.ph (n := n + 1) (by rw [← nI_1]; exact hq) (by omega) (fun w hw => hrw w (by omega)), hfr⟩)
            · skip
              have hi7 : i < 7 := (Nat.not_le.mp (fun h => c27 ((nI_leI (a := 7) (by omega) (by omega)).mpr h)))
              refine lv_aload_n S.1 S.2.1 dX2_insert_30 rfl (lv_at hl 3 rfl) ?_
              refine x_get S hK hP dX2_insert_31 hq.2.1 (by have := hq.1; omega) (RX2, TX2, 2) rfl hin2 0 (by decide) fl11 rfl ?_
              refine lv_iload_n S.1 S.2.1 dX2_insert_34 rfl (lv_at hl 0 rfl) ?_
              refine x_rowS S hK hP dX2_insert_35 hq i rfl (by omega) ?_
              refine lv_iload_n S.1 S.2.1 dX2_insert_36 rfl (lv_at hl 2 rfl) ?_
              refine lv_aload_n S.1 S.2.1 dX2_insert_37 rfl (lv_at hl 3 rfl) ?_
              refine x_get S hK hP dX2_insert_38 hq.2.1 (by have := hq.1; omega) (RX2, TX2, 2) rfl hin2 0 (by decide) fl11 rfl ?_
              refine lv_iload_n S.1 S.2.1 dX2_insert_41 rfl (lv_at hl 0 rfl) ?_
              refine x_rowS S hK hP dX2_insert_42 hq i rfl (by omega) ?_
              refine lv_iload_n S.1 S.2.1 dX2_insert_43 rfl (lv_at hl 2 rfl) ?_
              refine lv_iconst (v := 1) S.1 S.2.1 dX2_insert_44 (by decide) ?_
              refine lv_iadd S.1 S.2.1 dX2_insert_45 ?_
              refine lv_aload_n S.1 S.2.1 dX2_insert_46 rfl (lv_at hl 3 rfl) ?_
              refine x_get S hK hP dX2_insert_47 hq.2.1 (by have := hq.1; omega) (RX2, TX2, 2) rfl hin2 1 (by decide) fl22 rfl ?_
              refine lv_iload_n S.1 S.2.1 dX2_insert_50 rfl (lv_at hl 2 rfl) ?_
              refine lv_isub S.1 S.2.1 dX2_insert_51 ?_
              obtain ⟨f, hf, hfk⟩ := hrs i (Nat.le_refl _) hi7
              refine x_copy S hl.1 hK hJ hP hS dX2_insert_52 (by decide +kernel) (by decide +kernel) (by decide +kernel) (by decide +kernel) hf (by omega) hf (by omega) (a := q) (b := (q + 1)) (d := (n - q)) rfl (nI_1 q) (pk_sub hqn) (by omega) (by omega) (by decide) (by decide) (Nat.le_of_ble_eq_true rfl) (Nat.le_of_ble_eq_true rfl) (fun H locs E1_1 hu hP hS => ?_)
              have hq : ePs g E1_1 b (nI n) := hq.row hi7 hu
              have hrow : E1_1 (b + 2 + i) = .inl (xI g, 10, .inl (va_cpy f f q (q + 1) (n - q))) := hu.1
              have hT : E1_1 59 = .inl (xI g, 6, .inl f6) := (hu.2 _ (by omega)).trans hT
              have hfr : ∀ j, j < b ∨ b + 9 ≤ j → E1_1 j = E j := fun j hj => (hu.2 j (by omega)).trans (hfr j hj)
              have hrw : ∀ w, w < i → ∃ f : Nat → Int32, E1_1 (b + 2 + w) = .inl (xI g, 10, .inl f) ∧ ∀ k, k < n + 1 → f k = insM M q f6 w k := fun w hw => by obtain ⟨f9, g1, g2⟩ := hrw w (by omega); exact ⟨f9, by rw [hu.2 _ (by omega)]; exact g1, g2⟩
              have hrs : ∀ w, i + 1 ≤ w → w < 7 → ∃ f : Nat → Int32, E1_1 (b + 2 + w) = .inl (xI g, 10, .inl f) ∧ ∀ k, k < n → f k = M w k := fun w hw hw7 => by obtain ⟨f9, g1, g2⟩ := hrs w (by omega) hw7; exact ⟨f9, by rw [hu.2 _ (by omega)]; exact g1, g2⟩
              refine lv_aload_n S.1 S.2.1 dX2_insert_55 rfl (lv_at hl 3 rfl) ?_
              refine x_get S hK hP dX2_insert_56 hq.2.1 (by have := hq.1; omega) (RX2, TX2, 2) rfl hin2 0 (by decide) fl11 rfl ?_
              refine lv_iload_n S.1 S.2.1 dX2_insert_59 rfl (lv_at hl 0 rfl) ?_
              refine x_rowS S hK hP dX2_insert_60 hq i rfl (by omega) ?_
              refine lv_iload_n S.1 S.2.1 dX2_insert_61 rfl (lv_at hl 2 rfl) ?_
              refine lv_iload_n S.1 S.2.1 dX2_insert_62 rfl (lv_at hl 0 rfl) ?_
              refine lv_aload_n S.1 S.2.1 dX2_insert_63 rfl (lv_at hl 1 rfl) ?_
              refine x_alen S hK hP dX2_insert_64 hT (by decide) ?_
              refine lv_icmp_ge (tgt := 74) S.1 S.2.1 dX2_insert_65 (by decide) (fun c65 => ?_) (fun c65 => ?_)
              · skip
                have hi6 : ¬ i < 6 := Nat.not_lt.mpr ((nI_leI (a := 6) (by omega) (by omega)).mp c65)
                refine lv_iconst (v := 0) S.1 S.2.1 dX2_insert_74 (by decide) ?_
                refine x_iast S hK hJ hP hS dX2_insert_75 hrow (by omega) (j := q) rfl (by omega) (by decide) (fun H locs E1_2 hu hP hS => ?_)
                have hq : ePs g E1_2 b (nI n) := hq.row (by omega) hu
                have hrow : E1_2 (b + 2 + i) = .inl (xI g, 10, .inl (upd (va_cpy f f q (q + 1) (n - q)) q 0)) := hu.1
                have hT : E1_2 59 = .inl (xI g, 6, .inl f6) := (hu.2 _ (by omega)).trans hT
                have hfr : ∀ j, j < b ∨ b + 9 ≤ j → E1_2 j = E j := fun j hj => (hu.2 j (by omega)).trans (hfr j hj)
                have hrw : ∀ w, w < i + 1 → ∃ f : Nat → Int32, E1_2 (b + 2 + w) = .inl (xI g, 10, .inl f) ∧ ∀ k, k < n + 1 → f k = insM M q f6 w k := fun w hw => by
                  by_cases e9 : w = i
                  · subst e9
                    exact ⟨_, hrow, fun k hk => ins_row hfk hqn (by omega) hk (by first | rw [if_pos hi6] | rw [if_neg hi6])⟩
                  · obtain ⟨f9, g1, g2⟩ := hrw w (by omega)
                    exact ⟨f9, by rw [hu.2 _ (by omega)]; exact g1, g2⟩
                have hrs : ∀ w, i + 1 ≤ w → w < 7 → ∃ f : Nat → Int32, E1_2 (b + 2 + w) = .inl (xI g, 10, .inl f) ∧ ∀ k, k < n → f k = M w k := fun w hw hw7 => by obtain ⟨f9, g1, g2⟩ := hrs w hw hw7; exact ⟨f9, by rw [hu.2 _ (by omega)]; exact g1, g2⟩
                refine lv_iinc (v := nI (i + 1)) (lv' := [(3, .int (nI (i + 1))), (2, .ref (xad g 59)), (1, .int (nI q)), (0, .ref (xad g b))]) S.1 S.2.1 dX2_insert_76 hl (k := 0) rfl (show nI i + Int32.ofInt 1 = _ from nI_1 _) (by decide) rfl (fun ls hl => ?_)
                refine lv_goto (tgt := 24) S.1 S.2.1 dX2_insert_79 (by decide) ?_
                exact ih24 (i + 1) _ _ _ (by omega) (by omega) hq hT hfr hrw hrs hP hS ls (lv_sub hl [0, 1, 2, 3] rfl)
              · skip
                have hi6 : i < 6 := Nat.not_le.mp (fun h => c65 ((nI_leI (by omega) (by omega)).mpr h))
                refine lv_aload_n S.1 S.2.1 dX2_insert_68 rfl (lv_at hl 1 rfl) ?_
                refine lv_iload_n S.1 S.2.1 dX2_insert_69 rfl (lv_at hl 0 rfl) ?_
                refine x_iald S hK hP dX2_insert_70 hT (by decide) (j := i) rfl (by omega) (by decide) ?_
                refine lv_goto (tgt := 75) S.1 S.2.1 dX2_insert_71 (by decide) ?_
                refine x_iast S hK hJ hP hS dX2_insert_75 hrow (by omega) (j := q) rfl (by omega) (by decide) (fun H locs E1_3 hu hP hS => ?_)
                have hq : ePs g E1_3 b (nI n) := hq.row (by omega) hu
                have hrow : E1_3 (b + 2 + i) = .inl (xI g, 10, .inl (upd (va_cpy f f q (q + 1) (n - q)) q (f6 i))) := hu.1
                have hT : E1_3 59 = .inl (xI g, 6, .inl f6) := (hu.2 _ (by omega)).trans hT
                have hfr : ∀ j, j < b ∨ b + 9 ≤ j → E1_3 j = E j := fun j hj => (hu.2 j (by omega)).trans (hfr j hj)
                have hrw : ∀ w, w < i + 1 → ∃ f : Nat → Int32, E1_3 (b + 2 + w) = .inl (xI g, 10, .inl f) ∧ ∀ k, k < n + 1 → f k = insM M q f6 w k := fun w hw => by
                  by_cases e9 : w = i
                  · subst e9
                    exact ⟨_, hrow, fun k hk => ins_row hfk hqn (by omega) hk (by first | rw [if_pos hi6] | rw [if_neg hi6])⟩
                  · obtain ⟨f9, g1, g2⟩ := hrw w (by omega)
                    exact ⟨f9, by rw [hu.2 _ (by omega)]; exact g1, g2⟩
                have hrs : ∀ w, i + 1 ≤ w → w < 7 → ∃ f : Nat → Int32, E1_3 (b + 2 + w) = .inl (xI g, 10, .inl f) ∧ ∀ k, k < n → f k = M w k := fun w hw hw7 => by obtain ⟨f9, g1, g2⟩ := hrs w hw hw7; exact ⟨f9, by rw [hu.2 _ (by omega)]; exact g1, g2⟩
                refine lv_iinc (v := nI (i + 1)) (lv' := [(3, .int (nI (i + 1))), (2, .ref (xad g 59)), (1, .int (nI q)), (0, .ref (xad g b))]) S.1 S.2.1 dX2_insert_76 hl (k := 0) rfl (show nI i + Int32.ofInt 1 = _ from nI_1 _) (by decide) rfl (fun ls hl => ?_)
                refine lv_goto (tgt := 24) S.1 S.2.1 dX2_insert_79 (by decide) ?_
                exact ih24 (i + 1) _ _ _ (by omega) (by omega) hq hT hfr hrw hrs hP hS ls (lv_sub hl [0, 1, 2, 3] rfl)
        exact loop24 _ 0 _ _ _ (Nat.zero_le _) (Nat.lt_succ_self _) hq hT hfr (fun w hw => absurd hw (Nat.not_lt_zero _)) (fun w _ hw => hp.2.2.2 w hw) hP hS ls (lv_sub hl [0, 3, 2, 1] rfl)
      · skip
        exact absurd ((nI_ltI (b := 10) (by omega) (by omega)).mpr hn) c18
theorem del_len {n q : Nat} (h : q < n) : nI n - 1 - nI q = nI (n - 1 - q) := by
  rw [show (1 : Int32) = nI 1 from rfl, pk_sub (by omega), pk_sub (by omega)]
theorem del_row {M : Nat → Nat → Int32} {f : Nat → Int32} {n q w k : Nat} (hf : ∀ k, k < n → f k = M w k) (hq : q < n) (hk : k < n - 1) : va_cpy f f (q + 1) q (n - 1 - q) k = delM M q w k := by
  unfold delM
  by_cases h : k < q
  · rw [if_pos h, pk_cpy_out (by omega), hf k (by omega)]
  · rw [if_neg h, pk_cpy_in (by omega) (by omega), hf _ (by omega), show q + 1 + (k - q) = k + 1 by omega]
set_option maxHeartbeats 4000000 in
set_option maxRecDepth 100000 in
/-- Photos.delete -/
theorem c_X2_delete (l : Launch) (g : xG) (hJ : xJ (xad g)) (E : Nat → va_E) {b n : Nat} {M : Nat → Nat → Int32} (hp : ePh g E b n M) {q : Nat} (hqn : q < n) : Met l yX2_delete wsX2_delete ({ frames := 1, cells := 0, slots := 0, locals := 60 }) (xPc g [.ref (xad g b), .int (nI q)] E) (xQv g (fun E1 => ePh g E1 b (n - 1) (delM M q) ∧ ∀ j, j < b ∨ b + 9 ≤ j → E1 j = E j)) 0 0 (xA (xad g)) := by
  refine x_met (ws' := _) (by decide) rfl (Nat.le_of_ble_eq_true rfl) ?_
  intro pz ez s m below meth cz ls S hr hlocks hP hK hl
  have hl : lv_has ls 3 [(0, .ref (xad g b)), (1, .int (nI q))] := hl
  have hS : va_S (xA (xad g)) s.heap s.heap [] := va_S.rf
  have hin2 : ∀ w ∈ u_ws RX2 TX2 2, w ∈ wsX2_delete := by decide +kernel
  have fl11 : Cond.fieldLink RX2 11 "DiscArcs$Photos" "rows" "[[I" ∈ wsX2_delete := by decide +kernel
  have fl22 : Cond.fieldLink RX2 22 "DiscArcs$Photos" "size" "I" ∈ wsX2_delete := by decide +kernel
  have h0 := hp.1
  have hq := hp.ps
  have hfr : ∀ j, j < b ∨ b + 9 ≤ j → E j = E j := fun _ _ => rfl
  refine lv_aload_n S.1 S.2.1 dX2_delete_0 rfl (lv_at hl 0 rfl) ?_
  refine lv_iload_n S.1 S.2.1 dX2_delete_1 rfl (lv_at hl 1 rfl) ?_
  refine x_si (va_runV (As := [.int (nI q)]) (rest := []) S (c_X2_holds l g E hp (nI q)) (cwV 1 S.2.2.2.2 gX2_delete_X2_holds rfl rfl rfl (by decide +kernel) ⟨Nat.le_of_ble_eq_true rfl, Nat.le_of_ble_eq_true rfl⟩) (x_preV hK hP hp.2.1 (by have := hp.1; omega) rfl) rfl rfl hl.1 rfl (lv_room (Nat.le_of_ble_eq_true rfl)) dX2_delete_2 ⟨Nat.le_of_ble_eq_true rfl, Nat.le_of_ble_eq_true rfl⟩) (fun r2 hr2 => ?_)
  refine lv_if_ne (tgt := 9) S.1 S.2.1 dX2_delete_5 (by decide) (fun c5 => ?_) (fun c5 => ?_)
  · skip
    refine lv_iconst (v := 0) S.1 S.2.1 dX2_delete_9 (by decide) ?_
    refine lv_istore_n (lv' := [(2, .int 0), (0, .ref (xad g b)), (1, .int (nI q))]) S.1 S.2.1 dX2_delete_10 rfl hl (by decide) rfl (fun ls hl => ?_)
    have loop11 : ∀ (d : Nat) (i : Nat) (EL : Nat → va_E) (H : Heap) (locs : List Loc), (hi : i ≤ 7) → (7 - i) < d → (hq : ePs g EL b (nI n)) → (hfr : ∀ j, j < b ∨ b + 9 ≤ j → EL j = E j) → (hrw : ∀ w, w < i → ∃ f : Nat → Int32, EL (b + 2 + w) = .inl (xI g, 10, .inl f) ∧ ∀ k, k < n - 1 → f k = delM M q w k) → (hrs : ∀ w, i ≤ w → w < 7 → ∃ f : Nat → Int32, EL (b + 2 + w) = .inl (xI g, 10, .inl f) ∧ ∀ k, k < n → f k = M w k) → xP g EL H → va_S (xA (xad g)) s.heap H locs → ∀ ls : Array Slot, lv_has ls 3 [(2, .int (nI i)), (1, .int (nI q)), (0, .ref (xad g b))] → W pz l ez ({ frames := 1, cells := 0, slots := 0, locals := 60 }) s m ([.ref (xad g b), .int (nI q)] : List Value).toArray below meth cz H locs 0 0 (MQ below (xQv g (fun E1 => ePh g E1 b (n - 1) (delM M q) ∧ ∀ j, j < b ∨ b + 9 ≤ j → E1 j = E j)) ([.ref (xad g b), .int (nI q)] : List Value).toArray s 0 0 (xA (xad g))) (F0 m 11 ls []) := by
      intro d
      induction d with
      | zero => intro i EL H locs hi hd; exact absurd hd (Nat.not_lt_zero _)
      | succ d ih11 =>
        intro i EL H locs hi hd hq hfr hrw hrs hP hS ls hl
        refine lv_iload_n S.1 S.2.1 dX2_delete_11 rfl (lv_at hl 0 rfl) ?_
        refine lv_bipush (v := 7) S.1 S.2.1 dX2_delete_12 (by decide) ?_
        refine lv_icmp_ge (tgt := 50) S.1 S.2.1 dX2_delete_14 (by decide) (fun c14 => ?_) (fun c14 => ?_)
        · skip
          have hi7 : i = 7 := Nat.le_antisymm hi ((nI_leI (a := 7) (by omega) (by omega)).mp c14)
          refine lv_aload_n S.1 S.2.1 dX2_delete_50 rfl (lv_at hl 2 rfl) ?_
          refine lv_dup S.1 S.2.1 dX2_delete_51 rfl ?_
          refine x_get S hK hP dX2_delete_52 hq.2.1 (by have := hq.1; omega) (RX2, TX2, 2) rfl hin2 1 (by decide) fl22 rfl ?_
          refine lv_iconst (v := 1) S.1 S.2.1 dX2_delete_55 (by decide) ?_
          refine lv_isub S.1 S.2.1 dX2_delete_56 ?_
          refine x_put S hK hJ hP hS dX2_delete_57 hq.2.1 (by have := hq.1; omega) (RX2, TX2, 2) rfl hin2 tyX2 tyX2_ok nmX2 1 (by decide) fl22 rfl rfl rfl (Nat.le_of_ble_eq_true rfl) (fun H locs E1 hu hP hS => ?_)
          have hq : ePs g E1 b ((nI n) - 1) := hq.size hu
          have hfr : ∀ j, j < b ∨ b + 9 ≤ j → E1 j = E j := fun j hj => (hu.2 j (by omega)).trans (hfr j hj)
          have hrw : ∀ w, w < 7 → ∃ f : Nat → Int32, E1 (b + 2 + w) = .inl (xI g, 10, .inl f) ∧ ∀ k, k < n - 1 → f k = delM M q w k := fun w hw => by obtain ⟨f9, g1, g2⟩ := hrw w (by omega); exact ⟨f9, by rw [hu.2 _ (by omega)]; exact g1, g2⟩
          exact x_vret S hr hlocks hP hS dX2_delete_60 (⟨ePs.ph (by rw [← pk_sub (show 1 ≤ n by omega)]; exact hq) (by omega) (fun w hw => hrw w (by omega)), hfr⟩)
        · skip
          have hi7 : i < 7 := (Nat.not_le.mp (fun h => c14 ((nI_leI (a := 7) (by omega) (by omega)).mpr h)))
          refine lv_aload_n S.1 S.2.1 dX2_delete_17 rfl (lv_at hl 2 rfl) ?_
          refine x_get S hK hP dX2_delete_18 hq.2.1 (by have := hq.1; omega) (RX2, TX2, 2) rfl hin2 0 (by decide) fl11 rfl ?_
          refine lv_iload_n S.1 S.2.1 dX2_delete_21 rfl (lv_at hl 0 rfl) ?_
          refine x_rowS S hK hP dX2_delete_22 hq i rfl (by omega) ?_
          refine lv_iload_n S.1 S.2.1 dX2_delete_23 rfl (lv_at hl 1 rfl) ?_
          refine lv_iconst (v := 1) S.1 S.2.1 dX2_delete_24 (by decide) ?_
          refine lv_iadd S.1 S.2.1 dX2_delete_25 ?_
          refine lv_aload_n S.1 S.2.1 dX2_delete_26 rfl (lv_at hl 2 rfl) ?_
          refine x_get S hK hP dX2_delete_27 hq.2.1 (by have := hq.1; omega) (RX2, TX2, 2) rfl hin2 0 (by decide) fl11 rfl ?_
          refine lv_iload_n S.1 S.2.1 dX2_delete_30 rfl (lv_at hl 0 rfl) ?_
          refine x_rowS S hK hP dX2_delete_31 hq i rfl (by omega) ?_
          refine lv_iload_n S.1 S.2.1 dX2_delete_32 rfl (lv_at hl 1 rfl) ?_
          refine lv_aload_n S.1 S.2.1 dX2_delete_33 rfl (lv_at hl 2 rfl) ?_
          refine x_get S hK hP dX2_delete_34 hq.2.1 (by have := hq.1; omega) (RX2, TX2, 2) rfl hin2 1 (by decide) fl22 rfl ?_
          refine lv_iconst (v := 1) S.1 S.2.1 dX2_delete_37 (by decide) ?_
          refine lv_isub S.1 S.2.1 dX2_delete_38 ?_
          refine lv_iload_n S.1 S.2.1 dX2_delete_39 rfl (lv_at hl 1 rfl) ?_
          refine lv_isub S.1 S.2.1 dX2_delete_40 ?_
          obtain ⟨f, hf, hfk⟩ := hrs i (Nat.le_refl _) hi7
          refine x_copy S hl.1 hK hJ hP hS dX2_delete_41 (by decide +kernel) (by decide +kernel) (by decide +kernel) (by decide +kernel) hf (by omega) hf (by omega) (a := (q + 1)) (b := q) (d := (n - 1 - q)) (nI_1 q) rfl (del_len hqn) (by omega) (by omega) (by decide) (by decide) (Nat.le_of_ble_eq_true rfl) (Nat.le_of_ble_eq_true rfl) (fun H locs E1_1 hu hP hS => ?_)
          have hq : ePs g E1_1 b (nI n) := hq.row hi7 hu
          have hfr : ∀ j, j < b ∨ b + 9 ≤ j → E1_1 j = E j := fun j hj => (hu.2 j (by omega)).trans (hfr j hj)
          have hrw : ∀ w, w < i + 1 → ∃ f : Nat → Int32, E1_1 (b + 2 + w) = .inl (xI g, 10, .inl f) ∧ ∀ k, k < n - 1 → f k = delM M q w k := fun w hw => by
            by_cases e9 : w = i
            · subst e9
              exact ⟨_, hu.1, fun k hk => del_row hfk hqn hk⟩
            · obtain ⟨f9, g1, g2⟩ := hrw w (by omega)
              exact ⟨f9, by rw [hu.2 _ (by omega)]; exact g1, g2⟩
          have hrs : ∀ w, i + 1 ≤ w → w < 7 → ∃ f : Nat → Int32, E1_1 (b + 2 + w) = .inl (xI g, 10, .inl f) ∧ ∀ k, k < n → f k = M w k := fun w hw hw7 => by obtain ⟨f9, g1, g2⟩ := hrs w (by omega) hw7; exact ⟨f9, by rw [hu.2 _ (by omega)]; exact g1, g2⟩
          refine lv_iinc (v := nI (i + 1)) (lv' := [(2, .int (nI (i + 1))), (1, .int (nI q)), (0, .ref (xad g b))]) S.1 S.2.1 dX2_delete_44 hl (k := 0) rfl (show nI i + Int32.ofInt 1 = _ from nI_1 _) (by decide) rfl (fun ls hl => ?_)
          refine lv_goto (tgt := 11) S.1 S.2.1 dX2_delete_47 (by decide) ?_
          exact ih11 (i + 1) _ _ _ (by omega) (by omega) hq hfr hrw hrs hP hS ls (lv_sub hl [0, 1, 2] rfl)
    exact loop11 _ 0 _ _ _ (Nat.zero_le _) (Nat.lt_succ_self _) hq hfr (fun w hw => absurd hw (Nat.not_lt_zero _)) (fun w _ hw => hp.2.2.2 w hw) hP hS ls (lv_sub hl [0, 2, 1] rfl)
  · skip
    exact absurd ⟨q, hqn, rfl⟩ (hr2.f c5)
