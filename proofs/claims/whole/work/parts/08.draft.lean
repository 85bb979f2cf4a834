/-! PHOTOS: copyFrom, insert, delete; HISTORY: record, takeBack, dropOldest; Photos.numberAt -/
/-- how many photos have times under one: the place of a time -/
def plc (M : Nat → Nat → Int32) (x : Int32) : Nat → Nat → Nat
  | 0, i => i
  | d + 1, i => if M 0 i < x then plc M x d (i + 1) else i
theorem plc_le (M : Nat → Nat → Int32) (x : Int32) : ∀ d i, plc M x d i ≤ i + d
  | 0, i => Nat.le_refl _
  | d + 1, i => by
    unfold plc
    split
    · have := plc_le M x d (i + 1); omega
    · omega
set_option maxHeartbeats 4000000 in
set_option maxRecDepth 100000 in
theorem c_X2_numberAt (l : Launch) (g : xG) (E : Nat → va_E) {b n : Nat} {M : Nat → Nat → Int32} (hp : ePh g E b n M) (x : Int32) : Met l yX2_numberAt wsX2_numberAt ({ frames := 0, cells := 0, slots := 0, locals := 0 }) (xPc g [.ref (xad g b), .int x] E) (vp_Si (fun r => r = nI (plc M x n 0))) 0 0 (fun _ => False) := by
  refine x_met (ws' := _) (by decide) rfl (Nat.le_of_ble_eq_true rfl) ?_
  intro pz ez s m below meth cz ls S hr hlocks hP hK hl
  have hl : lv_has ls 3 [(0, .ref (xad g b)), (1, .int x)] := hl
  have hin2 : ∀ w ∈ u_ws RX2 TX2 2, w ∈ wsX2_numberAt := by decide +kernel
  have fl11 : Cond.fieldLink RX2 11 "DiscArcs$Photos" "rows" "[[I" ∈ wsX2_numberAt := by decide +kernel
  have fl22 : Cond.fieldLink RX2 22 "DiscArcs$Photos" "size" "I" ∈ wsX2_numberAt := by decide +kernel
  have h0 := hp.1
  refine lv_iconst (v := 0) S.1 S.2.1 dX2_numberAt_0 (by decide) ?_
  refine lv_istore_n (lv' := [(2, .int 0), (0, .ref (xad g b)), (1, .int x)]) S.1 S.2.1 dX2_numberAt_1 rfl hl (by decide) rfl (fun ls hl => ?_)
  have loop2 : ∀ (d : Nat) (i : Nat), (hi : i ≤ n) → (hq : plc M x n 0 = plc M x (n - i) i) → (n - i) < d → ∀ ls : Array Slot, lv_has ls 3 [(2, .int (nI i)), (1, .int x), (0, .ref (xad g b))] → W pz l ez ({ frames := 0, cells := 0, slots := 0, locals := 0 }) s m ([.ref (xad g b), .int x] : List Value).toArray below meth cz s.heap [] 0 0 (MQ below (vp_Si (fun r => r = nI (plc M x n 0))) ([.ref (xad g b), .int x] : List Value).toArray s 0 0 (fun _ => False)) (F0 m 2 ls []) := by
    intro d
    induction d with
    | zero => intro i hi hq hd; exact absurd hd (Nat.not_lt_zero _)
    | succ d ih2 =>
      intro i hi hq hd ls hl
      refine lv_iload_n S.1 S.2.1 dX2_numberAt_2 rfl (lv_at hl 0 rfl) ?_
      refine lv_aload_n S.1 S.2.1 dX2_numberAt_3 rfl (lv_at hl 2 rfl) ?_
      refine x_get S hK hP dX2_numberAt_4 hp.2.1 (by have := hp.1; omega) (RX2, TX2, 2) rfl hin2 1 (by decide) fl22 rfl ?_
      refine lv_icmp_ge (tgt := 28) S.1 S.2.1 dX2_numberAt_7 (by decide) (fun c7 => ?_) (fun c7 => ?_)
      · skip
        refine lv_iload_n S.1 S.2.1 dX2_numberAt_28 rfl (lv_at hl 0 rfl) ?_
        exact x_iretR S hr hlocks dX2_numberAt_29 (by rw [hq]; congr 1; first | (rw [show n - i = 0 by have := (nI_leI (a := n) (b := i) (by omega) (by omega)).mp c7; omega]; rfl) | (rw [show n - i = (n - i - 1) + 1 by omega]; unfold plc; rw [if_neg (Int32.not_lt.mpr c19)]))
      · skip
        have hin : i < n := (Nat.not_le.mp (fun h => c7 ((nI_leI (by omega) (by omega)).mpr h)))
        refine lv_aload_n S.1 S.2.1 dX2_numberAt_10 rfl (lv_at hl 2 rfl) ?_
        refine x_get S hK hP dX2_numberAt_11 hp.2.1 (by have := hp.1; omega) (RX2, TX2, 2) rfl hin2 0 (by decide) fl11 rfl ?_
        refine lv_iconst (v := 0) S.1 S.2.1 dX2_numberAt_14 (by decide) ?_
        refine x_row S hK hP dX2_numberAt_15 hp 0 rfl (by omega) ?_
        refine lv_iload_n S.1 S.2.1 dX2_numberAt_16 rfl (lv_at hl 0 rfl) ?_
        refine x_val S hK hP dX2_numberAt_17 hp (w := 0) i rfl (by omega) (by omega) ?_
        refine lv_iload_n S.1 S.2.1 dX2_numberAt_18 rfl (lv_at hl 1 rfl) ?_
        refine lv_icmp_ge (tgt := 28) S.1 S.2.1 dX2_numberAt_19 (by decide) (fun c19 => ?_) (fun c19 => ?_)
        · skip
          refine lv_iload_n S.1 S.2.1 dX2_numberAt_28 rfl (lv_at hl 0 rfl) ?_
          exact x_iretR S hr hlocks dX2_numberAt_29 (by rw [hq]; congr 1; first | (rw [show n - i = 0 by have := (nI_leI (a := n) (b := i) (by omega) (by omega)).mp c7; omega]; rfl) | (rw [show n - i = (n - i - 1) + 1 by omega]; unfold plc; rw [if_neg (Int32.not_lt.mpr c19)]))
        · skip
          refine lv_iinc (v := nI (i + 1)) (lv' := [(2, .int (nI (i + 1))), (1, .int x), (0, .ref (xad g b))]) S.1 S.2.1 dX2_numberAt_22 hl (k := 0) rfl (show nI i + Int32.ofInt 1 = _ from nI_1 _) (by decide) rfl (fun ls hl => ?_)
          refine lv_goto (tgt := 2) S.1 S.2.1 dX2_numberAt_25 (by decide) ?_
          exact ih2 (i + 1) (by omega) (by rw [hq, show n - i = (n - (i + 1)) + 1 by omega]; show (if M 0 i < x then _ else _) = _; rw [if_pos (Int32.not_le.mp c19)]) (by omega) ls (lv_sub hl [0, 1, 2] rfl)
  exact loop2 _ 0 (Nat.zero_le _) rfl (Nat.lt_succ_self _) ls (lv_sub hl [0, 2, 1] rfl)
set_option maxHeartbeats 4000000 in
set_option maxRecDepth 100000 in
/-- Photos.copyFrom -/
theorem c_X2_copyFrom (l : Launch) (g : xG) (hJ : xJ (xad g)) (E : Nat → va_E) {b1 b2 n : Nat} {z : Int32} {M : Nat → Nat → Int32} (hq : ePs g E b1 z) (hp : ePh g E b2 n M) (hd : b1 + 9 ≤ b2 ∨ b2 + 9 ≤ b1) : Met l yX2_copyFrom wsX2_copyFrom ({ frames := 1, cells := 0, slots := 0, locals := 60 }) (xPc g [.ref (xad g b1), .ref (xad g b2)] E) (xQv g (fun E1 => ePh g E1 b1 n M ∧ ∀ j, j < b1 ∨ b1 + 9 ≤ j → E1 j = E j)) 0 0 (xA (xad g)) := by
  refine x_met (ws' := _) (by decide) rfl (Nat.le_of_ble_eq_true rfl) ?_
  intro pz ez s m below meth cz ls S hr hlocks hP hK hl
  have hl : lv_has ls 3 [(0, .ref (xad g b1)), (1, .ref (xad g b2))] := hl
  have hS : va_S (xA (xad g)) s.heap s.heap [] := va_S.rf
  have hin2 : ∀ w ∈ u_ws RX2 TX2 2, w ∈ wsX2_copyFrom := by decide +kernel
  have fl11 : Cond.fieldLink RX2 11 "DiscArcs$Photos" "rows" "[[I" ∈ wsX2_copyFrom := by decide +kernel
  have fl22 : Cond.fieldLink RX2 22 "DiscArcs$Photos" "size" "I" ∈ wsX2_copyFrom := by decide +kernel
  have h0 := hp.1
  have h00 := hq.1
  have hfr : ∀ j, j < b1 ∨ b1 + 9 ≤ j → E j = E j := fun _ _ => rfl
  refine lv_iconst (v := 0) S.1 S.2.1 dX2_copyFrom_0 (by decide) ?_
  refine lv_istore_n (lv' := [(2, .int 0), (0, .ref (xad g b1)), (1, .ref (xad g b2))]) S.1 S.2.1 dX2_copyFrom_1 rfl hl (by decide) rfl (fun ls hl => ?_)
  have loop2 : ∀ (d : Nat) (i : Nat) (EL : Nat → va_E) (H : Heap) (locs : List Loc), (hi : i ≤ 7) → (7 - i) < d → (hq : ePs g EL b1 z) → (hp : ePh g EL b2 n M) → (hfr : ∀ j, j < b1 ∨ b1 + 9 ≤ j → EL j = E j) → (hrw : ∀ w, w < i → ∃ f : Nat → Int32, EL (b1 + 2 + w) = .inl (xI g, 10, .inl f) ∧ ∀ k, k < n → f k = M w k) → xP g EL H → va_S (xA (xad g)) s.heap H locs → ∀ ls : Array Slot, lv_has ls 3 [(2, .int (nI i)), (1, .ref (xad g b2)), (0, .ref (xad g b1))] → W pz l ez ({ frames := 1, cells := 0, slots := 0, locals := 60 }) s m ([.ref (xad g b1), .ref (xad g b2)] : List Value).toArray below meth cz H locs 0 0 (MQ below (xQv g (fun E1 => ePh g E1 b1 n M ∧ ∀ j, j < b1 ∨ b1 + 9 ≤ j → E1 j = E j)) ([.ref (xad g b1), .ref (xad g b2)] : List Value).toArray s 0 0 (xA (xad g))) (F0 m 2 ls []) := by
    intro d
    induction d with
    | zero => intro i EL H locs hi hd; exact absurd hd (Nat.not_lt_zero _)
    | succ d ih2 =>
      intro i EL H locs hi hd hq hp hfr hrw hP hS ls hl
      refine lv_iload_n S.1 S.2.1 dX2_copyFrom_2 rfl (lv_at hl 0 rfl) ?_
      refine lv_bipush (v := 7) S.1 S.2.1 dX2_copyFrom_3 (by decide) ?_
      refine lv_icmp_ge (tgt := 33) S.1 S.2.1 dX2_copyFrom_5 (by decide) (fun c5 => ?_) (fun c5 => ?_)
      · skip
        have hi7 : i = 7 := Nat.le_antisymm hi ((nI_leI (a := 7) (by omega) (by omega)).mp c5)
        subst hi7
        refine lv_aload_n S.1 S.2.1 dX2_copyFrom_33 rfl (lv_at hl 2 rfl) ?_
        refine lv_aload_n S.1 S.2.1 dX2_copyFrom_34 rfl (lv_at hl 1 rfl) ?_
        refine x_get S hK hP dX2_copyFrom_35 hp.2.1 (by have := hp.1; omega) (RX2, TX2, 2) rfl hin2 1 (by decide) fl22 rfl ?_
        refine x_put S hK hJ hP hS dX2_copyFrom_38 hq.2.1 (by have := hq.1; omega) (RX2, TX2, 2) rfl hin2 tyX2 tyX2_ok nmX2 1 (by decide) fl22 rfl rfl rfl (Nat.le_of_ble_eq_true rfl) (fun H locs E1 hu hP hS => ?_)
        have hq : ePs g E1 b1 (nI n) := hq.size hu
        have hp : ePh g E1 b2 n M := hp.keep (fun j h1 h2 => hu.2 j (by omega))
        have hfr : ∀ j, j < b1 ∨ b1 + 9 ≤ j → E1 j = E j := fun j hj => (hu.2 j (by omega)).trans (hfr j hj)
        have hrw : ∀ w, w < 7 → ∃ f : Nat → Int32, E1 (b1 + 2 + w) = .inl (xI g, 10, .inl f) ∧ ∀ k, k < n → f k = M w k := fun w hw => by obtain ⟨f9, g1, g2⟩ := hrw w (by omega); exact ⟨f9, by rw [hu.2 _ (by omega)]; exact g1, g2⟩
        exact x_vret S hr hlocks hP hS dX2_copyFrom_41 (⟨hq.ph h0.2 hrw, hfr⟩)
      · skip
        have hi7 : i < 7 := (Nat.not_le.mp (fun h => c5 ((nI_leI (a := 7) (by omega) (by omega)).mpr h)))
        refine lv_aload_n S.1 S.2.1 dX2_copyFrom_8 rfl (lv_at hl 1 rfl) ?_
        refine x_get S hK hP dX2_copyFrom_9 hp.2.1 (by have := hp.1; omega) (RX2, TX2, 2) rfl hin2 0 (by decide) fl11 rfl ?_
        refine lv_iload_n S.1 S.2.1 dX2_copyFrom_12 rfl (lv_at hl 0 rfl) ?_
        refine x_row S hK hP dX2_copyFrom_13 hp i rfl (by omega) ?_
        refine lv_iconst (v := 0) S.1 S.2.1 dX2_copyFrom_14 (by decide) ?_
        refine lv_aload_n S.1 S.2.1 dX2_copyFrom_15 rfl (lv_at hl 2 rfl) ?_
        refine x_get S hK hP dX2_copyFrom_16 hq.2.1 (by have := hq.1; omega) (RX2, TX2, 2) rfl hin2 0 (by decide) fl11 rfl ?_
        refine lv_iload_n S.1 S.2.1 dX2_copyFrom_19 rfl (lv_at hl 0 rfl) ?_
        refine x_rowS S hK hP dX2_copyFrom_20 hq i rfl (by omega) ?_
        refine lv_iconst (v := 0) S.1 S.2.1 dX2_copyFrom_21 (by decide) ?_
        refine lv_bipush (v := 10) S.1 S.2.1 dX2_copyFrom_22 (by decide) ?_
        obtain ⟨f, hf, hfk⟩ := hp.2.2.2 i hi7
        obtain ⟨f1, hf1⟩ := hq.2.2.2 i hi7
        refine x_copy S hl.1 hK hJ hP hS dX2_copyFrom_24 (by decide +kernel) (by decide +kernel) (by decide +kernel) (by decide +kernel) hf (by omega) hf1 (by omega) (a := 0) (b := 0) (d := 10) rfl rfl rfl (by omega) (by omega) (by decide) (by decide) (Nat.le_of_ble_eq_true rfl) (Nat.le_of_ble_eq_true rfl) (fun H locs E1_1 hu hP hS => ?_)
        have hq : ePs g E1_1 b1 z := hq.row hi7 hu
        have hp : ePh g E1_1 b2 n M := hp.keep (fun j h1 h2 => hu.2 j (by omega))
        have hfr : ∀ j, j < b1 ∨ b1 + 9 ≤ j → E1_1 j = E j := fun j hj => (hu.2 j (by omega)).trans (hfr j hj)
        have hrw : ∀ w, w < i + 1 → ∃ f : Nat → Int32, E1_1 (b1 + 2 + w) = .inl (xI g, 10, .inl f) ∧ ∀ k, k < n → f k = M w k := fun w hw => by
          by_cases e9 : w = i
          · subst e9
            exact ⟨_, hu.1, fun k hk => by rw [pk_cpy_in (Nat.zero_le _) (by omega), Nat.zero_add, Nat.sub_zero]; exact hfk k hk⟩
          · obtain ⟨f9, g1, g2⟩ := hrw w (by omega)
            exact ⟨f9, by rw [hu.2 _ (by omega)]; exact g1, g2⟩
        refine lv_iinc (v := nI (i + 1)) (lv' := [(2, .int (nI (i + 1))), (1, .ref (xad g b2)), (0, .ref (xad g b1))]) S.1 S.2.1 dX2_copyFrom_27 hl (k := 0) rfl (show nI i + Int32.ofInt 1 = _ from nI_1 _) (by decide) rfl (fun ls hl => ?_)
        refine lv_goto (tgt := 2) S.1 S.2.1 dX2_copyFrom_30 (by decide) ?_
        exact ih2 (i + 1) _ _ _ (by omega) (by omega) hq hp hfr hrw hP hS ls (lv_sub hl [0, 1, 2] rfl)
  exact loop2 _ 0 _ _ _ (Nat.zero_le _) (Nat.lt_succ_self _) hq hp hfr (fun w hw => absurd hw (Nat.not_lt_zero _)) hP hS ls (lv_sub hl [0, 2, 1] rfl)
theorem ins_row {M : Nat → Nat → Int32} {f f6 : Nat → Int32} {n q w k : Nat} {x : Int32} (hf : ∀ k, k < n → f k = M w k) (hq : q ≤ n) (hn : n < 10) (hk : k < n + 1) (hx : x = (if w < 6 then f6 w else 0)) : upd (va_cpy f f q (q + 1) (n - q)) q x k = insM M q f6 w k := by
  unfold insM upd
  by_cases e : k = q
  · subst e
    rw [if_pos rfl, if_neg (by omega), if_pos rfl, hx]
  · rw [if_neg e]
    by_cases h : k < q
    · rw [if_pos h, pk_cpy_out (by omega), hf k (by omega)]
    · rw [if_neg h, if_neg e, pk_cpy_in (by omega) (by omega), hf _ (by omega), show q + (k - (q + 1)) = k - 1 by omega]
set_option maxHeartbeats 4000000 in
set_option maxRecDepth 100000 in
/-- Photos.insert -/
theorem c_X2_insert (l : Launch) (g : xG) (hJ : xJ (xad g)) (E : Nat → va_E) {b n : Nat} {M : Nat → Nat → Int32} {f6 : Nat → Int32} (hp : ePh g E b n M) (hb : b + 9 ≤ 59) (hT : E 59 = .inl (xI g, 6, .inl f6)) {q : Nat} (hqn : q ≤ n) (hn : n < 10) : Met l yX2_insert wsX2_insert ({ frames := 1, cells := 0, slots := 0, locals := 60 }) (xPc g [.ref (xad g b), .int (nI q), .ref (xad g 59)] E) (xQv g (fun E1 => ePh g E1 b (n + 1) (insM M q f6) ∧ ∀ j, j < b ∨ b + 9 ≤ j → E1 j = E j)) 0 0 (xA (xad g)) := by
  refine x_met (ws' := _) (by decide) rfl (Nat.le_of_ble_eq_true rfl) ?_
  intro pz ez s m below meth cz ls S hr hlocks hP hK hl
  have hl : lv_has ls 4 [(0, .ref (xad g b)), (1, .int (nI q)), (2, .ref (xad g 59))] := hl
  have hS : va_S (xA (xad g)) s.heap s.heap [] := va_S.rf
  have hin2 : ∀ w ∈ u_ws RX2 TX2 2, w ∈ wsX2_insert := by decide +kernel
  have fl11 : Cond.fieldLink RX2 11 "DiscArcs$Photos" "rows" "[[I" ∈ wsX2_insert := by decide +kernel
  have fl22 : Cond.fieldLink RX2 22 "DiscArcs$Photos" "size" "I" ∈ wsX2_insert := by decide +kernel
  have h0 := hp.1
  have hq := hp.ps
  have hfr : ∀ j, j < b ∨ b + 9 ≤ j → E j = E j := fun _ _ => rfl
  refine lv_iload_n S.1 S.2.1 dX2_insert_0 rfl (lv_at hl 1 rfl) ?_
  refine lv_if_lt (tgt := 21) S.1 S.2.1 dX2_insert_1 (by decide) (fun c1 => ?_) (fun c1 => ?_)
  · skip
    exact absurd c1 (nI_pos (by omega))
  · skip
    refine lv_iload_n S.1 S.2.1 dX2_insert_4 rfl (lv_at hl 1 rfl) ?_
    refine lv_aload_n S.1 S.2.1 dX2_insert_5 rfl (lv_at hl 0 rfl) ?_
    refine x_get S hK hP dX2_insert_6 hp.2.1 (by have := hp.1; omega) (RX2, TX2, 2) rfl hin2 1 (by decide) fl22 rfl ?_
    refine lv_icmp_gt (tgt := 21) S.1 S.2.1 dX2_insert_9 (by decide) (fun c9 => ?_) (fun c9 => ?_)
    · skip
      exact absurd ((nI_ltI (by omega) (by omega)).mp c9) (by omega)
    · skip
      refine lv_aload_n S.1 S.2.1 dX2_insert_12 rfl (lv_at hl 0 rfl) ?_
      refine x_get S hK hP dX2_insert_13 hp.2.1 (by have := hp.1; omega) (RX2, TX2, 2) rfl hin2 1 (by decide) fl22 rfl ?_
      refine lv_bipush (v := 10) S.1 S.2.1 dX2_insert_16 (by decide) ?_
      refine lv_icmp_lt (tgt := 22) S.1 S.2.1 dX2_insert_18 (by decide) (fun c18 => ?_) (fun c18 => ?_)
      · skip
        refine lv_iconst (v := 0) S.1 S.2.1 dX2_insert_22 (by decide) ?_
        refine lv_istore_n (lv' := [(3, .int 0), (0, .ref (xad g b)), (1, .int (nI q)), (2, .ref (xad g 59))]) S.1 S.2.1 dX2_insert_23 rfl hl (by decide) rfl (fun ls hl => ?_)
        have loop24 : ∀ (d : Nat) (i : Nat) (EL : Nat → va_E) (H : Heap) (locs : List Loc), (hi : i ≤ 7) → (7 - i) < d → (hq : ePs g EL b (nI n)) → (hT : EL 59 = .inl (xI g, 6, .inl f6)) → (hfr : ∀ j, j < b ∨ b + 9 ≤ j → EL j = E j) → (hrw : ∀ w, w < i → ∃ f : Nat → Int32, EL (b + 2 + w) = .inl (xI g, 10, .inl f) ∧ ∀ k, k < n + 1 → f k = insM M q f6 w k) → (hrs : ∀ w, i ≤ w → w < 7 → ∃ f : Nat → Int32, EL (b + 2 + w) = .inl (xI g, 10, .inl f) ∧ ∀ k, k < n → f k = M w k) → xP g EL H → va_S (xA (xad g)) s.heap H locs → ∀ ls : Array Slot, lv_has ls 4 [(3, .int (nI i)), (2, .ref (xad g 59)), (1, .int (nI q)), (0, .ref (xad g b))] → W pz l ez ({ frames := 1, cells := 0, slots := 0, locals := 60 }) s m ([.ref (xad g b), .int (nI q), .ref (xad g 59)] : List Value).toArray below meth cz H locs 0 0 (MQ below (xQv g (fun E1 => ePh g E1 b (n + 1) (insM M q f6) ∧ ∀ j, j < b ∨ b + 9 ≤ j → E1 j = E j)) ([.ref (xad g b), .int (nI q), .ref (xad g 59)] : List Value).toArray s 0 0 (xA (xad g))) (F0 m 24 ls []) := by
          intro d
          induction d with
          | zero => intro i EL H locs hi hd; exact absurd hd (Nat.not_lt_zero _)
          | succ d ih24 =>
            intro i EL H locs hi hd hq hT hfr hrw hrs hP hS ls hl
            refine lv_iload_n S.1 S.2.1 dX2_insert_24 rfl (lv_at hl 0 rfl) ?_
            refine lv_bipush (v := 7) S.1 S.2.1 dX2_insert_25 (by decide) ?_
            refine lv_icmp_ge (tgt := 82) S.1 S.2.1 dX2_insert_27 (by decide) (fun c27 => ?_) (fun c27 => ?_)
            · skip
              have hi7 : i = 7 := Nat.le_antisymm hi ((nI_leI (a := 7) (by omega) (by omega)).mp c27)
              refine lv_aload_n S.1 S.2.1 dX2_insert_82 rfl (lv_at hl 3 rfl) ?_
              refine lv_dup S.1 S.2.1 dX2_insert_83 rfl ?_
              refine x_get S hK hP dX2_insert_84 hq.2.1 (by have := hq.1; omega) (RX2, TX2, 2) rfl hin2 1 (by decide) fl22 rfl ?_
              refine lv_iconst (v := 1) S.1 S.2.1 dX2_insert_87 (by decide) ?_
              refine lv_iadd S.1 S.2.1 dX2_insert_88 ?_
              refine x_put S hK hJ hP hS dX2_insert_89 hq.2.1 (by have := hq.1; omega) (RX2, TX2, 2) rfl hin2 tyX2 tyX2_ok nmX2 1 (by decide) fl22 rfl rfl rfl (Nat.le_of_ble_eq_true rfl) (fun H locs E1 hu hP hS => ?_)
              have hq : ePs g E1 b ((nI n) + 1) := hq.size hu
              have hT : E1 59 = .inl (xI g, 6, .inl f6) := (hu.2 _ (by omega)).trans hT
              have hfr : ∀ j, j < b ∨ b + 9 ≤ j → E1 j = E j := fun j hj => (hu.2 j (by omega)).trans (hfr j hj)
              have hrw : ∀ w, w < i → ∃ f : Nat → Int32, E1 (b + 2 + w) = .inl (xI g, 10, .inl f) ∧ ∀ k, k < n + 1 → f k = insM M q f6 w k := fun w hw => by obtain ⟨f9, g1, g2⟩ := hrw w (by omega); exact ⟨f9, by rw [hu.2 _ (by omega)]; exact g1, g2⟩
              exact x_vret S hr hlocks hP hS dX2_insert_92 (⟨ePs.ph (n := n + 1) (by rw [← nI_1]; exact hq) (by omega) (fun w hw => hrw w (by omega)), hfr⟩)
            · skip
              have hi7 : i < 7 := (Nat.not_le.mp (fun h => c27 ((nI_leI (a := 7) (by omega) (by omega)).mpr h)))
              refine lv_aload_n S.1 S.2.1 dX2_insert_30 rfl (lv_at hl 3 rfl) ?_
              refine x_get S hK hP dX2_insert_31 hq.2.1 (by have := hq.1; omega) (RX2, TX2, 2) rfl hin2 0 (by decide) fl11 rfl ?_
              refine lv_iload_n S.1 S.2.1 dX2_insert_34 rfl (lv_at hl 0 rfl) ?_
              refine x_rowS S hK hP dX2_insert_35 hq i rfl (by omega) ?_
              refine lv_iload_n S.1 S.2.1 dX2_insert_36 rfl (lv_at hl 2 rfl) ?_
              refine lv_aload_n S.1 S.2.1 dX2_insert_37 rfl (lv_at hl 3 rfl) ?_
              refine x_get S hK hP dX2_insert_38 hq.2.1 (by have := hq.1; omega) (RX2, TX2, 2) rfl hin2 0 (by decide) fl11 rfl ?_
              refine lv_iload_n S.1 S.2.1 dX2_insert_41 rfl (lv_at hl 0 rfl) ?_
              refine x_rowS S hK hP dX2_insert_42 hq i rfl (by omega) ?_
              refine lv_iload_n S.1 S.2.1 dX2_insert_43 rfl (lv_at hl 2 rfl) ?_
              refine lv_iconst (v := 1) S.1 S.2.1 dX2_insert_44 (by decide) ?_
              refine lv_iadd S.1 S.2.1 dX2_insert_45 ?_
              refine lv_aload_n S.1 S.2.1 dX2_insert_46 rfl (lv_at hl 3 rfl) ?_
              refine x_get S hK hP dX2_insert_47 hq.2.1 (by have := hq.1; omega) (RX2, TX2, 2) rfl hin2 1 (by decide) fl22 rfl ?_
              refine lv_iload_n S.1 S.2.1 dX2_insert_50 rfl (lv_at hl 2 rfl) ?_
              refine lv_isub S.1 S.2.1 dX2_insert_51 ?_
              obtain ⟨f, hf, hfk⟩ := hrs i (Nat.le_refl _) hi7
              refine x_copy S hl.1 hK hJ hP hS dX2_insert_52 (by decide +kernel) (by decide +kernel) (by decide +kernel) (by decide +kernel) hf (by omega) hf (by omega) (a := q) (b := (q + 1)) (d := (n - q)) rfl (nI_1 q) (pk_sub hqn) (by omega) (by omega) (by decide) (by decide) (Nat.le_of_ble_eq_true rfl) (Nat.le_of_ble_eq_true rfl) (fun H locs E1_1 hu hP hS => ?_)
              have hq : ePs g E1_1 b (nI n) := hq.row hi7 hu
              have hrow : E1_1 (b + 2 + i) = .inl (xI g, 10, .inl (va_cpy f f q (q + 1) (n - q))) := hu.1
              have hT : E1_1 59 = .inl (xI g, 6, .inl f6) := (hu.2 _ (by omega)).trans hT
              have hfr : ∀ j, j < b ∨ b + 9 ≤ j → E1_1 j = E j := fun j hj => (hu.2 j (by omega)).trans (hfr j hj)
              have hrw : ∀ w, w < i → ∃ f : Nat → Int32, E1_1 (b + 2 + w) = .inl (xI g, 10, .inl f) ∧ ∀ k, k < n + 1 → f k = insM M q f6 w k := fun w hw => by obtain ⟨f9, g1, g2⟩ := hrw w (by omega); exact ⟨f9, by rw [hu.2 _ (by omega)]; exact g1, g2⟩
              have hrs : ∀ w, i + 1 ≤ w → w < 7 → ∃ f : Nat → Int32, E1_1 (b + 2 + w) = .inl (xI g, 10, .inl f) ∧ ∀ k, k < n → f k = M w k := fun w hw hw7 => by obtain ⟨f9, g1, g2⟩ := hrs w (by omega) hw7; exact ⟨f9, by rw [hu.2 _ (by omega)]; exact g1, g2⟩
              refine lv_aload_n S.1 S.2.1 dX2_insert_55 rfl (lv_at hl 3 rfl) ?_
              refine x_get S hK hP dX2_insert_56 hq.2.1 (by have := hq.1; omega) (RX2, TX2, 2) rfl hin2 0 (by decide) fl11 rfl ?_
              refine lv_iload_n S.1 S.2.1 dX2_insert_59 rfl (lv_at hl 0 rfl) ?_
              refine x_rowS S hK hP dX2_insert_60 hq i rfl (by omega) ?_
              refine lv_iload_n S.1 S.2.1 dX2_insert_61 rfl (lv_at hl 2 rfl) ?_
              refine lv_iload_n S.1 S.2.1 dX2_insert_62 rfl (lv_at hl 0 rfl) ?_
              refine lv_aload_n S.1 S.2.1 dX2_insert_63 rfl (lv_at hl 1 rfl) ?_
              refine x_alen S hK hP dX2_insert_64 hT (by decide) ?_
              refine lv_icmp_ge (tgt := 74) S.1 S.2.1 dX2_insert_65 (by decide) (fun c65 => ?_) (fun c65 => ?_)
              · skip
                have hi6 : ¬ i < 6 := Nat.not_lt.mpr ((nI_leI (a := 6) (by omega) (by omega)).mp c65)
                refine lv_iconst (v := 0) S.1 S.2.1 dX2_insert_74 (by decide) ?_
                refine x_iast S hK hJ hP hS dX2_insert_75 hrow (by omega) (j := q) rfl (by omega) (by decide) (fun H locs E1_2 hu hP hS => ?_)
                have hq : ePs g E1_2 b (nI n) := hq.row (by omega) hu
                have hrow : E1_2 (b + 2 + i) = .inl (xI g, 10, .inl (upd (va_cpy f f q (q + 1) (n - q)) q 0)) := hu.1
                have hT : E1_2 59 = .inl (xI g, 6, .inl f6) := (hu.2 _ (by omega)).trans hT
                have hfr : ∀ j, j < b ∨ b + 9 ≤ j → E1_2 j = E j := fun j hj => (hu.2 j (by omega)).trans (hfr j hj)
                have hrw : ∀ w, w < i + 1 → ∃ f : Nat → Int32, E1_2 (b + 2 + w) = .inl (xI g, 10, .inl f) ∧ ∀ k, k < n + 1 → f k = insM M q f6 w k := fun w hw => by
                  by_cases e9 : w = i
                  · subst e9
                    exact ⟨_, hrow, fun k hk => ins_row hfk hqn (by omega) hk (by first | rw [if_pos hi6] | rw [if_neg hi6])⟩
                  · obtain ⟨f9, g1, g2⟩ := hrw w (by omega)
                    exact ⟨f9, by rw [hu.2 _ (by omega)]; exact g1, g2⟩
                have hrs : ∀ w, i + 1 ≤ w → w < 7 → ∃ f : Nat → Int32, E1_2 (b + 2 + w) = .inl (xI g, 10, .inl f) ∧ ∀ k, k < n → f k = M w k := fun w hw hw7 => by obtain ⟨f9, g1, g2⟩ := hrs w hw hw7; exact ⟨f9, by rw [hu.2 _ (by omega)]; exact g1, g2⟩
                refine lv_iinc (v := nI (i + 1)) (lv' := [(3, .int (nI (i + 1))), (2, .ref (xad g 59)), (1, .int (nI q)), (0, .ref (xad g b))]) S.1 S.2.1 dX2_insert_76 hl (k := 0) rfl (show nI i + Int32.ofInt 1 = _ from nI_1 _) (by decide) rfl (fun ls hl => ?_)
                refine lv_goto (tgt := 24) S.1 S.2.1 dX2_insert_79 (by decide) ?_
                exact ih24 (i + 1) _ _ _ (by omega) (by omega) hq hT hfr hrw hrs hP hS ls (lv_sub hl [0, 1, 2, 3] rfl)
              · skip
                have hi6 : i < 6 := Nat.not_le.mp (fun h => c65 ((nI_leI (by omega) (by omega)).mpr h))
                refine lv_aload_n S.1 S.2.1 dX2_insert_68 rfl (lv_at hl 1 rfl) ?_
                refine lv_iload_n S.1 S.2.1 dX2_insert_69 rfl (lv_at hl 0 rfl) ?_
                refine x_iald S hK hP dX2_insert_70 hT (by decide) (j := i) rfl (by omega) (by decide) ?_
                refine lv_goto (tgt := 75) S.1 S.2.1 dX2_insert_71 (by decide) ?_
                refine x_iast S hK hJ hP hS dX2_insert_75 hrow (by omega) (j := q) rfl (by omega) (by decide) (fun H locs E1_3 hu hP hS => ?_)
                have hq : ePs g E1_3 b (nI n) := hq.row (by omega) hu
                have hrow : E1_3 (b + 2 + i) = .inl (xI g, 10, .inl (upd (va_cpy f f q (q + 1) (n - q)) q (f6 i))) := hu.1
                have hT : E1_3 59 = .inl (xI g, 6, .inl f6) := (hu.2 _ (by omega)).trans hT
                have hfr : ∀ j, j < b ∨ b + 9 ≤ j → E1_3 j = E j := fun j hj => (hu.2 j (by omega)).trans (hfr j hj)
                have hrw : ∀ w, w < i + 1 → ∃ f : Nat → Int32, E1_3 (b + 2 + w) = .inl (xI g, 10, .inl f) ∧ ∀ k, k < n + 1 → f k = insM M q f6 w k := fun w hw => by
                  by_cases e9 : w = i
                  · subst e9
                    exact ⟨_, hrow, fun k hk => ins_row hfk hqn (by omega) hk (by first | rw [if_pos hi6] | rw [if_neg hi6])⟩
                  · obtain ⟨f9, g1, g2⟩ := hrw w (by omega)
                    exact ⟨f9, by rw [hu.2 _ (by omega)]; exact g1, g2⟩
                have hrs : ∀ w, i + 1 ≤ w → w < 7 → ∃ f : Nat → Int32, E1_3 (b + 2 + w) = .inl (xI g, 10, .inl f) ∧ ∀ k, k < n → f k = M w k := fun w hw hw7 => by obtain ⟨f9, g1, g2⟩ := hrs w hw hw7; exact ⟨f9, by rw [hu.2 _ (by omega)]; exact g1, g2⟩
                refine lv_iinc (v := nI (i + 1)) (lv' := [(3, .int (nI (i + 1))), (2, .ref (xad g 59)), (1, .int (nI q)), (0, .ref (xad g b))]) S.1 S.2.1 dX2_insert_76 hl (k := 0) rfl (show nI i + Int32.ofInt 1 = _ from nI_1 _) (by decide) rfl (fun ls hl => ?_)
                refine lv_goto (tgt := 24) S.1 S.2.1 dX2_insert_79 (by decide) ?_
                exact ih24 (i + 1) _ _ _ (by omega) (by omega) hq hT hfr hrw hrs hP hS ls (lv_sub hl [0, 1, 2, 3] rfl)
        exact loop24 _ 0 _ _ _ (Nat.zero_le _) (Nat.lt_succ_self _) hq hT hfr (fun w hw => absurd hw (Nat.not_lt_zero _)) (fun w _ hw => hp.2.2.2 w hw) hP hS ls (lv_sub hl [0, 3, 2, 1] rfl)
      · skip
        exact absurd ((nI_ltI (b := 10) (by omega) (by omega)).mpr hn) c18
theorem del_len {n q : Nat} (h : q < n) : nI n - 1 - nI q = nI (n - 1 - q) := by
  rw [show (1 : Int32) = nI 1 from rfl, pk_sub (by omega), pk_sub (by omega)]
theorem del_row {M : Nat → Nat → Int32} {f : Nat → Int32} {n q w k : Nat} (hf : ∀ k, k < n → f k = M w k) (hq : q < n) (hk : k < n - 1) : va_cpy f f (q + 1) q (n - 1 - q) k = delM M q w k := by
  unfold delM
  by_cases h : k < q
  · rw [if_pos h, pk_cpy_out (by omega), hf k (by omega)]
  · rw [if_neg h, pk_cpy_in (by omega) (by omega), hf _ (by omega), show q + 1 + (k - q) = k + 1 by omega]
set_option maxHeartbeats 4000000 in
set_option maxRecDepth 100000 in
/-- Photos.delete -/
theorem c_X2_delete (l : Launch) (g : xG) (hJ : xJ (xad g)) (E : Nat → va_E) {b n : Nat} {M : Nat → Nat → Int32} (hp : ePh g E b n M) {q : Nat} (hqn : q < n) : Met l yX2_delete wsX2_delete ({ frames := 1, cells := 0, slots := 0, locals := 60 }) (xPc g [.ref (xad g b), .int (nI q)] E) (xQv g (fun E1 => ePh g E1 b (n - 1) (delM M q) ∧ ∀ j, j < b ∨ b + 9 ≤ j → E1 j = E j)) 0 0 (xA (xad g)) := by
  refine x_met (ws' := _) (by decide) rfl (Nat.le_of_ble_eq_true rfl) ?_
  intro pz ez s m below meth cz ls S hr hlocks hP hK hl
  have hl : lv_has ls 3 [(0, .ref (xad g b)), (1, .int (nI q))] := hl
  have hS : va_S (xA (xad g)) s.heap s.heap [] := va_S.rf
  have hin2 : ∀ w ∈ u_ws RX2 TX2 2, w ∈ wsX2_delete := by decide +kernel
  have fl11 : Cond.fieldLink RX2 11 "DiscArcs$Photos" "rows" "[[I" ∈ wsX2_delete := by decide +kernel
  have fl22 : Cond.fieldLink RX2 22 "DiscArcs$Photos" "size" "I" ∈ wsX2_delete := by decide +kernel
  have h0 := hp.1
  have hq := hp.ps
  have hfr : ∀ j, j < b ∨ b + 9 ≤ j → E j = E j := fun _ _ => rfl
  refine lv_aload_n S.1 S.2.1 dX2_delete_0 rfl (lv_at hl 0 rfl) ?_
  refine lv_iload_n S.1 S.2.1 dX2_delete_1 rfl (lv_at hl 1 rfl) ?_
  refine x_si (va_runV (As := [.int (nI q)]) (rest := []) S (c_X2_holds l g E hp (nI q)) (cwV 1 S.2.2.2.2 gX2_delete_X2_holds rfl rfl rfl (by decide +kernel) ⟨Nat.le_of_ble_eq_true rfl, Nat.le_of_ble_eq_true rfl⟩) (x_preV hK hP hp.2.1 (by have := hp.1; omega) rfl) rfl rfl hl.1 rfl (lv_room (Nat.le_of_ble_eq_true rfl)) dX2_delete_2 ⟨Nat.le_of_ble_eq_true rfl, Nat.le_of_ble_eq_true rfl⟩) (fun r2 hr2 => ?_)
  refine lv_if_ne (tgt := 9) S.1 S.2.1 dX2_delete_5 (by decide) (fun c5 => ?_) (fun c5 => ?_)
  · skip
    refine lv_iconst (v := 0) S.1 S.2.1 dX2_delete_9 (by decide) ?_
    refine lv_istore_n (lv' := [(2, .int 0), (0, .ref (xad g b)), (1, .int (nI q))]) S.1 S.2.1 dX2_delete_10 rfl hl (by decide) rfl (fun ls hl => ?_)
    have loop11 : ∀ (d : Nat) (i : Nat) (EL : Nat → va_E) (H : Heap) (locs : List Loc), (hi : i ≤ 7) → (7 - i) < d → (hq : ePs g EL b (nI n)) → (hfr : ∀ j, j < b ∨ b + 9 ≤ j → EL j = E j) → (hrw : ∀ w, w < i → ∃ f : Nat → Int32, EL (b + 2 + w) = .inl (xI g, 10, .inl f) ∧ ∀ k, k < n - 1 → f k = delM M q w k) → (hrs : ∀ w, i ≤ w → w < 7 → ∃ f : Nat → Int32, EL (b + 2 + w) = .inl (xI g, 10, .inl f) ∧ ∀ k, k < n → f k = M w k) → xP g EL H → va_S (xA (xad g)) s.heap H locs → ∀ ls : Array Slot, lv_has ls 3 [(2, .int (nI i)), (1, .int (nI q)), (0, .ref (xad g b))] → W pz l ez ({ frames := 1, cells := 0, slots := 0, locals := 60 }) s m ([.ref (xad g b), .int (nI q)] : List Value).toArray below meth cz H locs 0 0 (MQ below (xQv g (fun E1 => ePh g E1 b (n - 1) (delM M q) ∧ ∀ j, j < b ∨ b + 9 ≤ j → E1 j = E j)) ([.ref (xad g b), .int (nI q)] : List Value).toArray s 0 0 (xA (xad g))) (F0 m 11 ls []) := by
      intro d
      induction d with
      | zero => intro i EL H locs hi hd; exact absurd hd (Nat.not_lt_zero _)
      | succ d ih11 =>
        intro i EL H locs hi hd hq hfr hrw hrs hP hS ls hl
        refine lv_iload_n S.1 S.2.1 dX2_delete_11 rfl (lv_at hl 0 rfl) ?_
        refine lv_bipush (v := 7) S.1 S.2.1 dX2_delete_12 (by decide) ?_
        refine lv_icmp_ge (tgt := 50) S.1 S.2.1 dX2_delete_14 (by decide) (fun c14 => ?_) (fun c14 => ?_)
        · skip
          have hi7 : i = 7 := Nat.le_antisymm hi ((nI_leI (a := 7) (by omega) (by omega)).mp c14)
          refine lv_aload_n S.1 S.2.1 dX2_delete_50 rfl (lv_at hl 2 rfl) ?_
          refine lv_dup S.1 S.2.1 dX2_delete_51 rfl ?_
          refine x_get S hK hP dX2_delete_52 hq.2.1 (by have := hq.1; omega) (RX2, TX2, 2) rfl hin2 1 (by decide) fl22 rfl ?_
          refine lv_iconst (v := 1) S.1 S.2.1 dX2_delete_55 (by decide) ?_
          refine lv_isub S.1 S.2.1 dX2_delete_56 ?_
          refine x_put S hK hJ hP hS dX2_delete_57 hq.2.1 (by have := hq.1; omega) (RX2, TX2, 2) rfl hin2 tyX2 tyX2_ok nmX2 1 (by decide) fl22 rfl rfl rfl (Nat.le_of_ble_eq_true rfl) (fun H locs E1 hu hP hS => ?_)
          have hq : ePs g E1 b ((nI n) - 1) := hq.size hu
          have hfr : ∀ j, j < b ∨ b + 9 ≤ j → E1 j = E j := fun j hj => (hu.2 j (by omega)).trans (hfr j hj)
          have hrw : ∀ w, w < 7 → ∃ f : Nat → Int32, E1 (b + 2 + w) = .inl (xI g, 10, .inl f) ∧ ∀ k, k < n - 1 → f k = delM M q w k := fun w hw => by obtain ⟨f9, g1, g2⟩ := hrw w (by omega); exact ⟨f9, by rw [hu.2 _ (by omega)]; exact g1, g2⟩
          exact x_vret S hr hlocks hP hS dX2_delete_60 (⟨ePs.ph (by rw [← pk_sub (show 1 ≤ n by omega)]; exact hq) (by omega) hrw, hfr⟩)
        · skip
          have hi7 : i < 7 := (Nat.not_le.mp (fun h => c14 ((nI_leI (a := 7) (by omega) (by omega)).mpr h)))
          refine lv_aload_n S.1 S.2.1 dX2_delete_17 rfl (lv_at hl 2 rfl) ?_
          refine x_get S hK hP dX2_delete_18 hq.2.1 (by have := hq.1; omega) (RX2, TX2, 2) rfl hin2 0 (by decide) fl11 rfl ?_
          refine lv_iload_n S.1 S.2.1 dX2_delete_21 rfl (lv_at hl 0 rfl) ?_
          refine x_rowS S hK hP dX2_delete_22 hq i rfl (by omega) ?_
          refine lv_iload_n S.1 S.2.1 dX2_delete_23 rfl (lv_at hl 1 rfl) ?_
          refine lv_iconst (v := 1) S.1 S.2.1 dX2_delete_24 (by decide) ?_
          refine lv_iadd S.1 S.2.1 dX2_delete_25 ?_
          refine lv_aload_n S.1 S.2.1 dX2_delete_26 rfl (lv_at hl 2 rfl) ?_
          refine x_get S hK hP dX2_delete_27 hq.2.1 (by have := hq.1; omega) (RX2, TX2, 2) rfl hin2 0 (by decide) fl11 rfl ?_
          refine lv_iload_n S.1 S.2.1 dX2_delete_30 rfl (lv_at hl 0 rfl) ?_
          refine x_rowS S hK hP dX2_delete_31 hq i rfl (by omega) ?_
          refine lv_iload_n S.1 S.2.1 dX2_delete_32 rfl (lv_at hl 1 rfl) ?_
          refine lv_aload_n S.1 S.2.1 dX2_delete_33 rfl (lv_at hl 2 rfl) ?_
          refine x_get S hK hP dX2_delete_34 hq.2.1 (by have := hq.1; omega) (RX2, TX2, 2) rfl hin2 1 (by decide) fl22 rfl ?_
          refine lv_iconst (v := 1) S.1 S.2.1 dX2_delete_37 (by decide) ?_
          refine lv_isub S.1 S.2.1 dX2_delete_38 ?_
          refine lv_iload_n S.1 S.2.1 dX2_delete_39 rfl (lv_at hl 1 rfl) ?_
          refine lv_isub S.1 S.2.1 dX2_delete_40 ?_
          obtain ⟨f, hf, hfk⟩ := hrs i (Nat.le_refl _) hi7
          refine x_copy S hl.1 hK hJ hP hS dX2_delete_41 (by decide +kernel) (by decide +kernel) (by decide +kernel) (by decide +kernel) hf (by omega) hf (by omega) (a := (q + 1)) (b := q) (d := (n - 1 - q)) (nI_1 q) rfl (del_len hqn) (by omega) (by omega) (by decide) (by decide) (Nat.le_of_ble_eq_true rfl) (Nat.le_of_ble_eq_true rfl) (fun H locs E1_1 hu hP hS => ?_)
          have hq : ePs g E1_1 b (nI n) := hq.row hi7 hu
          have hfr : ∀ j, j < b ∨ b + 9 ≤ j → E1_1 j = E j := fun j hj => (hu.2 j (by omega)).trans (hfr j hj)
          have hrw : ∀ w, w < i + 1 → ∃ f : Nat → Int32, E1_1 (b + 2 + w) = .inl (xI g, 10, .inl f) ∧ ∀ k, k < n - 1 → f k = delM M q w k := fun w hw => by
            by_cases e9 : w = i
            · subst e9
              exact ⟨_, hu.1, fun k hk => del_row hfk hqn hk⟩
            · obtain ⟨f9, g1, g2⟩ := hrw w (by omega)
              exact ⟨f9, by rw [hu.2 _ (by omega)]; exact g1, g2⟩
          have hrs : ∀ w, i + 1 ≤ w → w < 7 → ∃ f : Nat → Int32, E1_1 (b + 2 + w) = .inl (xI g, 10, .inl f) ∧ ∀ k, k < n → f k = M w k := fun w hw hw7 => by obtain ⟨f9, g1, g2⟩ := hrs w (by omega) hw7; exact ⟨f9, by rw [hu.2 _ (by omega)]; exact g1, g2⟩
          refine lv_iinc (v := nI (i + 1)) (lv' := [(2, .int (nI (i + 1))), (1, .int (nI q)), (0, .ref (xad g b))]) S.1 S.2.1 dX2_delete_44 hl (k := 0) rfl (show nI i + Int32.ofInt 1 = _ from nI_1 _) (by decide) rfl (fun ls hl => ?_)
          refine lv_goto (tgt := 11) S.1 S.2.1 dX2_delete_47 (by decide) ?_
          exact ih11 (i + 1) _ _ _ (by omega) (by omega) hq hfr hrw hrs hP hS ls (lv_sub hl [0, 1, 2] rfl)
    exact loop11 _ 0 _ _ _ (Nat.zero_le _) (Nat.lt_succ_self _) hq hfr (fun w hw => absurd hw (Nat.not_lt_zero _)) (fun w _ hw => hp.2.2.2 w hw) hP hS ls (lv_sub hl [0, 2, 1] rfl)
  · skip
    exact absurd ⟨q, hqn, rfl⟩ (hr2.f c5)
/-! HISTORY -/
/-- the oldest state is dropped: what the i-th is then -/
def rot {α : Type} (B : Nat → α) : Nat → α := fun i => if i < 3 then B (i + 1) else B 0
theorem eHi.keep {g : xG} {E E1 : Nat → va_E} {hs : Nat} {B N : Nat → Nat} {MM : Nat → Nat → Nat → Int32} (h : eHi g E hs B N MM) (hE : ∀ j, 19 ≤ j → j < 57 → E1 j = E j) : eHi g E1 hs B N MM := by
  obtain ⟨h0, h1, ⟨F, h2, h3⟩, h4, h5⟩ := h
  refine ⟨h0, by rw [hE 19 (by omega) (by omega)]; exact h1, ⟨F, by rw [hE 20 (by omega) (by omega)]; exact h2, h3⟩, fun i hi => ?_, h5⟩
  obtain ⟨a1, a2, a3⟩ := h4 i hi
  exact ⟨a1, a2, a3.keep (fun j g1 g2 => hE j (by omega) (by omega))⟩
/-- one of the states is written -/
theorem eHi.put {g : xG} {E E1 : Nat → va_E} {hs q n : Nat} {B N : Nat → Nat} {MM : Nat → Nat → Nat → Int32} {M : Nat → Nat → Int32} (h : eHi g E hs B N MM) (hq : q < 4) (hp : ePh g E1 (B q) n M) (hE : ∀ j, j < B q ∨ B q + 9 ≤ j → E1 j = E j) : eHi g E1 hs B (va_up N q n) (va_up MM q M) := by
  obtain ⟨h0, h1, ⟨F, h2, h3⟩, h4, h5⟩ := h
  obtain ⟨b1, b2, -⟩ := h4 q hq
  refine ⟨h0, by rw [hE 19 (by omega)]; exact h1, ⟨F, by rw [hE 20 (by omega)]; exact h2, h3⟩, fun i hi => ?_, h5⟩
  obtain ⟨a1, a2, a3⟩ := h4 i hi
  refine ⟨a1, a2, ?_⟩
  by_cases e : i = q
  · subst e
    rw [va_up_self, va_up_self]
    exact hp
  · rw [va_up_ne _ _ e, va_up_ne _ _ e]
    have : B i + 9 ≤ B q ∨ B q + 9 ≤ B i := by
      rcases Nat.lt_or_gt_of_ne e with g | g
      · exact h5 i q g hq
      · exact (h5 q i g hi).symm
    exact a3.keep (fun j g1 g2 => hE j (by omega))
/-- its size is written -/
theorem eHi.size {g : xG} {E E1 : Nat → va_E} {hs hs' : Nat} {B N : Nat → Nat} {MM : Nat → Nat → Nat → Int32} (h : eHi g E hs B N MM) (h' : hs' ≤ 4) (hu : xU E 19 (.inr (1, [.ref (xad g 20), .int (nI hs')])) E1) : eHi g E1 hs' B N MM := by
  obtain ⟨h0, h1, ⟨F, h2, h3⟩, h4, h5⟩ := h
  refine ⟨h', hu.1, ⟨F, by rw [hu.2 20 (by omega)]; exact h2, h3⟩, fun i hi => ?_, h5⟩
  obtain ⟨a1, a2, a3⟩ := h4 i hi
  exact ⟨a1, a2, a3.keep (fun j g1 g2 => hu.2 j (by omega))⟩
theorem rot_of {α : Type} (B : Nat → α) {i : Nat} (hi : i < 4) : ∃ j, j < 4 ∧ (i < 3 → j = i + 1) ∧ (¬ i < 3 → j = 0) ∧ rot B i = B j := by
  by_cases h : i < 3
  · exact ⟨i + 1, by omega, fun _ => rfl, fun g => absurd h g, if_pos h⟩
  · exact ⟨0, by omega, fun g => absurd g h, fun _ => rfl, if_neg h⟩
theorem rot_ap {B : Nat → Nat} (h : ∀ i j, i < j → j < 4 → B i + 9 ≤ B j ∨ B j + 9 ≤ B i) : ∀ i j, i < j → j < 4 → rot B i + 9 ≤ rot B j ∨ rot B j + 9 ≤ rot B i := by
  intro i j hij hj
  obtain ⟨a, a1, a2, a3, a4⟩ := rot_of B (show i < 4 by omega)
  obtain ⟨b, b1, b2, b3, b4⟩ := rot_of B hj
  rw [a4, b4]
  rcases Nat.lt_trichotomy a b with c | c | c
  · exact h a b c b1
  · omega
  · exact (h b a c a1).symm
theorem rot_ph {g : xG} {E : Nat → va_E} {B N : Nat → Nat} {MM : Nat → Nat → Nat → Int32} (h : ∀ i, i < 4 → 21 ≤ B i ∧ B i ≤ 48 ∧ ePh g E (B i) (N i) (MM i)) : ∀ i, i < 4 → 21 ≤ rot B i ∧ rot B i ≤ 48 ∧ ePh g E (rot B i) (rot N i) (rot MM i) := by
  intro i hi
  unfold rot
  by_cases c : i < 3
  · rw [if_pos c, if_pos c, if_pos c]
    exact h _ (by omega)
  · rw [if_neg c, if_neg c, if_neg c]
    exact h 0 (by omega)
set_option maxHeartbeats 4000000 in
set_option maxRecDepth 100000 in
/-- History.dropOldest -/
theorem c_X1_dropOldest (l : Launch) (g : xG) (hJ : xJ (xad g)) (E : Nat → va_E) {B N : Nat → Nat} {MM : Nat → Nat → Nat → Int32} (hH : eHi g E 4 B N MM) : Met l yX1_dropOldest wsX1_dropOldest ({ frames := 0, cells := 0, slots := 0, locals := 0 }) (xPc g [.ref (xad g 19)] E) (xQv g (fun E1 => eHi g E1 3 (rot B) (rot N) (rot MM) ∧ ∀ j, j < 19 ∨ 57 ≤ j → E1 j = E j)) 0 0 (xA (xad g)) := by
  refine x_met (ws' := _) (by decide) rfl (Nat.le_of_ble_eq_true rfl) ?_
  intro pz ez s m below meth cz ls S hr hlocks hP hK hl
  have hl : lv_has ls 3 [(0, .ref (xad g 19))] := hl
  have hS : va_S (xA (xad g)) s.heap s.heap [] := va_S.rf
  have hin1 : ∀ w ∈ u_ws RX1 TX1 2, w ∈ wsX1_dropOldest := by decide +kernel
  have fl11 : Cond.fieldLink RX1 11 "DiscArcs$History" "states" "[LDiscArcs$Photos;" ∈ wsX1_dropOldest := by decide +kernel
  have fl18 : Cond.fieldLink RX1 18 "DiscArcs$History" "size" "I" ∈ wsX1_dropOldest := by decide +kernel
  obtain ⟨-, h19, ⟨F, h20, hF0⟩, hB, hap⟩ := hH
  have h19 : E 19 = .inr (1, [.ref (xad g 20), .int 4]) := h19
  have hfr : ∀ j, j < 19 ∨ 57 ≤ j → E j = E j := fun _ _ => rfl
  obtain ⟨b01, b02, -⟩ := hB 0 (by decide)
  have hF : ∀ j, j < 4 → F j = if j + 1 < 1 then some (xad g (B (j + 1))) else some (xad g (B j)) := fun j hj => by rw [if_neg (by omega)]; exact hF0 j hj
  refine lv_aload_n S.1 S.2.1 dX1_dropOldest_0 rfl (lv_at hl 0 rfl) ?_
  refine x_get S hK hP dX1_dropOldest_1 h19 (by decide) (RX1, TX1, 2) rfl hin1 0 (by decide) fl11 rfl ?_
  refine lv_iconst (v := 0) S.1 S.2.1 dX1_dropOldest_4 (by decide) ?_
  refine x_aldp S hK hP dX1_dropOldest_5 h20 (by decide) (j := 0) rfl (by omega) (by decide) (hF0 0 (by decide)) ?_
  refine lv_astore_n (lv' := [(1, .ref (xad g (B 0))), (0, .ref (xad g 19))]) S.1 S.2.1 dX1_dropOldest_6 rfl hl (by decide) rfl (fun ls hl => ?_)
  refine lv_iconst (v := 1) S.1 S.2.1 dX1_dropOldest_7 (by decide) ?_
  refine lv_istore_n (lv' := [(2, .int 1), (1, .ref (xad g (B 0))), (0, .ref (xad g 19))]) S.1 S.2.1 dX1_dropOldest_8 rfl hl (by decide) rfl (fun ls hl => ?_)
  have loop9 : ∀ (d : Nat) (i : Nat) (F : Nat → Option Nat) (EL : Nat → va_E) (H : Heap) (locs : List Loc), (h1i : 1 ≤ i) → (hi : i ≤ 4) → (4 - i) < d → (h19 : EL 19 = .inr (1, [.ref (xad g 20), .int 4])) → (h20 : EL 20 = .inl (xQ g, 4, .inr (.inr (.inr (.inr F))))) → (hB : ∀ i, i < 4 → 21 ≤ B i ∧ B i ≤ 48 ∧ ePh g EL (B i) (N i) (MM i)) → (hfr : ∀ j, j < 19 ∨ 57 ≤ j → EL j = E j) → (hF : ∀ j, j < 4 → F j = if j + 1 < i then some (xad g (B (j + 1))) else some (xad g (B j))) → xP g EL H → va_S (xA (xad g)) s.heap H locs → ∀ ls : Array Slot, lv_has ls 3 [(2, .int (nI i)), (1, .ref (xad g (B 0))), (0, .ref (xad g 19))] → W pz l ez ({ frames := 0, cells := 0, slots := 0, locals := 0 }) s m ([.ref (xad g 19)] : List Value).toArray below meth cz H locs 0 0 (MQ below (xQv g (fun E1 => eHi g E1 3 (rot B) (rot N) (rot MM) ∧ ∀ j, j < 19 ∨ 57 ≤ j → E1 j = E j)) ([.ref (xad g 19)] : List Value).toArray s 0 0 (xA (xad g))) (F0 m 9 ls []) := by
    intro d
    induction d with
    | zero => intro i F EL H locs h1i hi hd; exact absurd hd (Nat.not_lt_zero _)
    | succ d ih9 =>
      intro i F EL H locs h1i hi hd h19 h20 hB hfr hF hP hS ls hl
      refine lv_iload_n S.1 S.2.1 dX1_dropOldest_9 rfl (lv_at hl 0 rfl) ?_
      refine lv_iconst (v := 4) S.1 S.2.1 dX1_dropOldest_10 (by decide) ?_
      refine lv_icmp_ge (tgt := 34) S.1 S.2.1 dX1_dropOldest_11 (by decide) (fun c11 => ?_) (fun c11 => ?_)
      · skip
        have hi4 : i = 4 := Nat.le_antisymm hi ((nI_leI (a := 4) (by omega) (by omega)).mp c11)
        subst hi4
        obtain ⟨b1, b2, b3⟩ := hB 0 (by decide)
        refine lv_aload_n S.1 S.2.1 dX1_dropOldest_34 rfl (lv_at hl 2 rfl) ?_
        refine x_get S hK hP dX1_dropOldest_35 h19 (by decide) (RX1, TX1, 2) rfl hin1 0 (by decide) fl11 rfl ?_
        refine lv_iconst (v := 3) S.1 S.2.1 dX1_dropOldest_38 (by decide) ?_
        refine lv_aload_n S.1 S.2.1 dX1_dropOldest_39 rfl (lv_at hl 1 rfl) ?_
        refine x_astp S hK hJ hP hS dX1_dropOldest_40 h20 (by decide) (j := 3) rfl (by omega) (by decide) b3.2.1 (by omega) (fun H locs E1 hu hP hS => ?_)
        have h19 : E1 19 = .inr (1, [.ref (xad g 20), .int 4]) := (hu.2 _ (by omega)).trans h19
        have h20 : E1 20 = .inl (xQ g, 4, .inr (.inr (.inr (.inr (va_up F 3 (some (xad g (B 0)))))))) := hu.1
        have hB : ∀ i, i < 4 → 21 ≤ B i ∧ B i ≤ 48 ∧ ePh g E1 (B i) (N i) (MM i) := fun i9 hi9 => by obtain ⟨a1, a2, a3⟩ := hB i9 hi9; exact ⟨a1, a2, a3.keep (fun j g1 g2 => hu.2 j (by omega))⟩
        have hfr : ∀ j, j < 19 ∨ 57 ≤ j → E1 j = E j := fun j hj => (hu.2 j (by omega)).trans (hfr j hj)
        have hF : ∀ j, j < 4 → va_up F 3 (some (xad g (B 0))) j = some (xad g (rot B j)) := fun j hj => by
          by_cases e : j = 3
          · subst e; rw [va_up_self]; rfl
          · rw [va_up_ne _ _ e, hF j hj, if_pos (by omega)]; unfold rot; rw [if_pos (by omega)]
        refine lv_aload_n S.1 S.2.1 dX1_dropOldest_41 rfl (lv_at hl 2 rfl) ?_
        refine lv_iconst (v := 3) S.1 S.2.1 dX1_dropOldest_42 (by decide) ?_
        refine x_put S hK hJ hP hS dX1_dropOldest_43 h19 (by decide) (RX1, TX1, 2) rfl hin1 tyX1 tyX1_ok nmX1 1 (by decide) fl18 rfl rfl rfl (Nat.le_of_ble_eq_true rfl) (fun H locs E1_1 hu hP hS => ?_)
        have h19 : E1_1 19 = .inr (1, [.ref (xad g 20), .int 3]) := hu.1
        have h20 : E1_1 20 = .inl (xQ g, 4, .inr (.inr (.inr (.inr (va_up F 3 (some (xad g (B 0)))))))) := (hu.2 _ (by omega)).trans h20
        have hB : ∀ i, i < 4 → 21 ≤ B i ∧ B i ≤ 48 ∧ ePh g E1_1 (B i) (N i) (MM i) := fun i9 hi9 => by obtain ⟨a1, a2, a3⟩ := hB i9 hi9; exact ⟨a1, a2, a3.keep (fun j g1 g2 => hu.2 j (by omega))⟩
        have hfr : ∀ j, j < 19 ∨ 57 ≤ j → E1_1 j = E j := fun j hj => (hu.2 j (by omega)).trans (hfr j hj)
        exact x_vret S hr hlocks hP hS dX1_dropOldest_46 (⟨⟨by decide, h19, ⟨_, h20, hF⟩, rot_ph hB, rot_ap hap⟩, hfr⟩)
      · skip
        have hi4 : i < 4 := (Nat.not_le.mp (fun h => c11 ((nI_leI (a := 4) (by omega) (by omega)).mpr h)))
        obtain ⟨bi1, bi2, bi3⟩ := hB i hi4
        refine lv_aload_n S.1 S.2.1 dX1_dropOldest_14 rfl (lv_at hl 2 rfl) ?_
        refine x_get S hK hP dX1_dropOldest_15 h19 (by decide) (RX1, TX1, 2) rfl hin1 0 (by decide) fl11 rfl ?_
        refine lv_iload_n S.1 S.2.1 dX1_dropOldest_18 rfl (lv_at hl 0 rfl) ?_
        refine lv_iconst (v := 1) S.1 S.2.1 dX1_dropOldest_19 (by decide) ?_
        refine lv_isub S.1 S.2.1 dX1_dropOldest_20 ?_
        refine lv_aload_n S.1 S.2.1 dX1_dropOldest_21 rfl (lv_at hl 2 rfl) ?_
        refine x_get S hK hP dX1_dropOldest_22 h19 (by decide) (RX1, TX1, 2) rfl hin1 0 (by decide) fl11 rfl ?_
        refine lv_iload_n S.1 S.2.1 dX1_dropOldest_25 rfl (lv_at hl 0 rfl) ?_
        refine x_aldp S hK hP dX1_dropOldest_26 h20 (by decide) (j := i) rfl (by omega) (by decide) (by rw [hF i hi4, if_neg (by omega)]) ?_
        refine x_astp S hK hJ hP hS dX1_dropOldest_27 h20 (by decide) (j := (i - 1)) (pk_sub (a := i) (b := 1) (by omega)) (by omega) (by decide) bi3.2.1 (by omega) (fun H locs E1_2 hu hP hS => ?_)
        have h19 : E1_2 19 = .inr (1, [.ref (xad g 20), .int 4]) := (hu.2 _ (by omega)).trans h19
        have h20 : E1_2 20 = .inl (xQ g, 4, .inr (.inr (.inr (.inr (va_up F (i - 1) (some (xad g (B i)))))))) := hu.1
        have hB : ∀ i, i < 4 → 21 ≤ B i ∧ B i ≤ 48 ∧ ePh g E1_2 (B i) (N i) (MM i) := fun i9 hi9 => by obtain ⟨a1, a2, a3⟩ := hB i9 hi9; exact ⟨a1, a2, a3.keep (fun j g1 g2 => hu.2 j (by omega))⟩
        have hfr : ∀ j, j < 19 ∨ 57 ≤ j → E1_2 j = E j := fun j hj => (hu.2 j (by omega)).trans (hfr j hj)
        have hF : ∀ j, j < 4 → va_up F (i - 1) (some (xad g (B i))) j = if j + 1 < i + 1 then some (xad g (B (j + 1))) else some (xad g (B j)) := fun j hj => by
          by_cases e : j = i - 1
          · subst e; rw [va_up_self, if_pos (by omega), show i - 1 + 1 = i by omega]
          · rw [va_up_ne _ _ e, hF j hj]; by_cases h : j + 1 < i
            · rw [if_pos h, if_pos (by omega)]
            · rw [if_neg h, if_neg (by omega)]
        refine lv_iinc (v := nI (i + 1)) (lv' := [(2, .int (nI (i + 1))), (1, .ref (xad g (B 0))), (0, .ref (xad g 19))]) S.1 S.2.1 dX1_dropOldest_28 hl (k := 0) rfl (show nI i + Int32.ofInt 1 = _ from nI_1 _) (by decide) rfl (fun ls hl => ?_)
        refine lv_goto (tgt := 9) S.1 S.2.1 dX1_dropOldest_31 (by decide) ?_
        exact ih9 (i + 1) _ _ _ _ (by omega) (by omega) (by omega) h19 h20 hB hfr hF hP hS ls (lv_sub hl [0, 1, 2] rfl)
  exact loop9 _ 1 F _ _ _ (Nat.le_refl _) (by decide) (Nat.lt_succ_self _) h19 h20 hB hfr hF hP hS ls (lv_sub hl [0, 1, 2] rfl)
/-- a state more: how many there are then; the i-th of them -/
def rcS (hs : Nat) : Nat := if hs < 4 then hs + 1 else 4
def rcV {α : Type} (hs : Nat) (N : Nat → α) (x : α) : Nat → α := fun i => if hs < 4 then (if i < hs then N i else x) else (if i < 3 then N (i + 1) else x)
theorem rec_big {N : Nat → Nat} {MM : Nat → Nat → Nat → Int32} {n i : Nat} {M : Nat → Nat → Int32} (hi : i < rcS 4) : va_up (rot N) 3 n i = (if i < 3 then N (i + 1) else n) ∧ va_up (rot MM) 3 M i = (if i < 3 then MM (i + 1) else M) := by
  have hi : i < 4 := hi
  by_cases h : i < 3
  · rw [if_pos h, if_pos h, va_up_ne _ _ (by omega), va_up_ne _ _ (by omega)]
    exact ⟨if_pos h, if_pos h⟩
  · rw [if_neg h, if_neg h, show i = 3 by omega, va_up_self, va_up_self]
    exact ⟨rfl, rfl⟩
theorem rec_small {N : Nat → Nat} {MM : Nat → Nat → Nat → Int32} {n i hs : Nat} {M : Nat → Nat → Int32} (hi : i < hs + 1) : va_up N hs n i = (if i < hs then N i else n) ∧ va_up MM hs M i = (if i < hs then MM i else M) := by
  by_cases h : i < hs
  · rw [if_pos h, if_pos h, va_up_ne _ _ (by omega), va_up_ne _ _ (by omega)]
    exact ⟨rfl, rfl⟩
  · rw [if_neg h, if_neg h, show i = hs by omega, va_up_self, va_up_self]
    exact ⟨rfl, rfl⟩
set_option maxHeartbeats 4000000 in
set_option maxRecDepth 100000 in
/-- History.record -/
theorem c_X1_record (l : Launch) (g : xG) (hJ : xJ (xad g)) (E : Nat → va_E) {hs : Nat} {B N : Nat → Nat} {MM : Nat → Nat → Nat → Int32} (hH : eHi g E hs B N MM) {n : Nat} {M : Nat → Nat → Int32} (hp : ePh g E 1 n M) : Met l yX1_record wsX1_record ({ frames := 2, cells := 0, slots := 0, locals := 82 }) (xPc g [.ref (xad g 19), .ref (xad g 1)] E) (xQv g (fun E1 => (∃ B2 N2 MM2, eHi g E1 (rcS hs) B2 N2 MM2 ∧ ∀ i, i < rcS hs → N2 i = rcV hs N n i ∧ MM2 i = rcV hs MM M i) ∧ ∀ j, j < 19 ∨ 57 ≤ j → E1 j = E j)) 0 0 (xA (xad g)) := by
  refine x_met (ws' := _) (by decide) rfl (Nat.le_of_ble_eq_true rfl) ?_
  intro pz ez s m below meth cz ls S hr hlocks hP hK hl
  have hl : lv_has ls 2 [(0, .ref (xad g 19)), (1, .ref (xad g 1))] := hl
  have hS : va_S (xA (xad g)) s.heap s.heap [] := va_S.rf
  have hin1 : ∀ w ∈ u_ws RX1 TX1 2, w ∈ wsX1_record := by decide +kernel
  have fl11 : Cond.fieldLink RX1 11 "DiscArcs$History" "states" "[LDiscArcs$Photos;" ∈ wsX1_record := by decide +kernel
  have fl18 : Cond.fieldLink RX1 18 "DiscArcs$History" "size" "I" ∈ wsX1_record := by decide +kernel
  have h19 := hH.2.1
  have h0 := hp.1
  have hfr : ∀ j, j < 19 ∨ 57 ≤ j → E j = E j := fun _ _ => rfl
  refine lv_aload_n S.1 S.2.1 dX1_record_0 rfl (lv_at hl 0 rfl) ?_
  refine x_get S hK hP dX1_record_1 h19 (by decide) (RX1, TX1, 2) rfl hin1 1 (by decide) fl18 rfl ?_
  refine lv_iconst (v := 4) S.1 S.2.1 dX1_record_4 (by decide) ?_
  refine lv_icmp_lt (tgt := 12) S.1 S.2.1 dX1_record_5 (by decide) (fun c5 => ?_) (fun c5 => ?_)
  · skip
    have hs4 : hs < 4 := (nI_ltI (b := 4) (by have := hH.1; omega) (by decide)).mp c5
    obtain ⟨-, h19, ⟨F, h20, hF0⟩, hB, -⟩ := id hH
    obtain ⟨b1, b2, hb3⟩ := hB hs hs4
    refine lv_aload_n S.1 S.2.1 dX1_record_12 rfl (lv_at hl 0 rfl) ?_
    refine x_get S hK hP dX1_record_13 h19 (by decide) (RX1, TX1, 2) rfl hin1 0 (by decide) fl11 rfl ?_
    refine lv_aload_n S.1 S.2.1 dX1_record_16 rfl (lv_at hl 0 rfl) ?_
    refine x_get S hK hP dX1_record_17 h19 (by decide) (RX1, TX1, 2) rfl hin1 1 (by decide) fl18 rfl ?_
    refine x_aldp S hK hP dX1_record_20 h20 (by decide) (j := hs) rfl (by omega) (by decide) (hF0 hs hs4) ?_
    refine lv_aload_n S.1 S.2.1 dX1_record_21 rfl (lv_at hl 1 rfl) ?_
    refine x_qv (va_runV (As := [.ref (xad g 1)]) (rest := []) S (c_X2_copyFrom l g hJ E hb3.ps hp (by omega)) (cwV 1 S.2.2.2.2 gX1_record_X2_copyFrom rfl rfl rfl (by decide +kernel) ⟨Nat.le_of_ble_eq_true rfl, Nat.le_of_ble_eq_true rfl⟩) (x_preV hK hP hb3.2.1 (by have := hb3.1; omega) rfl) rfl rfl hl.1 rfl (lv_room (Nat.le_of_ble_eq_true rfl)) dX1_record_22 ⟨Nat.le_of_ble_eq_true rfl, Nat.le_of_ble_eq_true rfl⟩) hS (fun E1 H locs hq22 hP hS => ?_)
    have hH := hH.put (q := hs) hs4 hq22.1 hq22.2
    have hfr : ∀ j, j < 19 ∨ 57 ≤ j → E1 j = E j := fun j hj => (hq22.2 j (by omega)).trans (hfr j hj)
    have h19 := hH.2.1
    refine lv_aload_n S.1 S.2.1 dX1_record_25 rfl (lv_at hl 0 rfl) ?_
    refine lv_dup S.1 S.2.1 dX1_record_26 rfl ?_
    refine x_get S hK hP dX1_record_27 h19 (by decide) (RX1, TX1, 2) rfl hin1 1 (by decide) fl18 rfl ?_
    refine lv_iconst (v := 1) S.1 S.2.1 dX1_record_30 (by decide) ?_
    refine lv_iadd S.1 S.2.1 dX1_record_31 ?_
    refine x_put S hK hJ hP hS dX1_record_32 h19 (by decide) (RX1, TX1, 2) rfl hin1 tyX1 tyX1_ok nmX1 1 (by decide) fl18 rfl rfl rfl (Nat.le_of_ble_eq_true rfl) (fun H locs E1_1 hu hP hS => ?_)
    have h19 : E1_1 19 = .inr (1, [.ref (xad g 20), .int ((nI hs) + 1)]) := hu.1
    have hfr : ∀ j, j < 19 ∨ 57 ≤ j → E1_1 j = E j := fun j hj => (hu.2 j (by omega)).trans (hfr j hj)
    exact x_vret S hr hlocks hP hS dX1_record_35 (⟨⟨_, _, _, by unfold rcS; rw [if_pos hs4]; exact hH.size (by omega) (by rw [← nI_1]; exact hu), fun i hi => by unfold rcV; rw [if_pos hs4, if_pos hs4]; unfold rcS at hi; rw [if_pos hs4] at hi; exact rec_small hi⟩, hfr⟩)
  · skip
    have hs5 : hs = 4 := by have := hH.1; have := Nat.not_lt.mp (fun h => c5 ((nI_ltI (b := 4) (by omega) (by omega)).mpr h)); omega
    subst hs5
    refine lv_aload_n S.1 S.2.1 dX1_record_8 rfl (lv_at hl 0 rfl) ?_
    refine x_qv (va_runV (As := []) (rest := []) S (c_X1_dropOldest l g hJ E hH) (cwV 0 S.2.2.2.2 gX1_record_X1_dropOldest rfl rfl rfl (by decide +kernel) ⟨Nat.le_of_ble_eq_true rfl, Nat.le_of_ble_eq_true rfl⟩) (x_preV hK hP h19 (by decide) rfl) rfl rfl hl.1 rfl (lv_room (Nat.le_of_ble_eq_true rfl)) dX1_record_9 ⟨Nat.le_of_ble_eq_true rfl, Nat.le_of_ble_eq_true rfl⟩) hS (fun E1_2 H locs hq9 hP hS => ?_)
    have hH := hq9.1
    have hfr := hq9.2
    have hp : ePh g E1_2 1 n M := hp.keep (fun j h1 h2 => hq9.2 j (by omega))
    have h19 := hH.2.1
    obtain ⟨-, h19, ⟨F, h20, hF0⟩, hB, -⟩ := id hH
    obtain ⟨b1, b2, hb3⟩ := hB 3 (by decide)
    refine lv_aload_n S.1 S.2.1 dX1_record_12 rfl (lv_at hl 0 rfl) ?_
    refine x_get S hK hP dX1_record_13 h19 (by decide) (RX1, TX1, 2) rfl hin1 0 (by decide) fl11 rfl ?_
    refine lv_aload_n S.1 S.2.1 dX1_record_16 rfl (lv_at hl 0 rfl) ?_
    refine x_get S hK hP dX1_record_17 h19 (by decide) (RX1, TX1, 2) rfl hin1 1 (by decide) fl18 rfl ?_
    refine x_aldp S hK hP dX1_record_20 h20 (by decide) (j := 3) rfl (by omega) (by decide) (hF0 3 (by decide)) ?_
    refine lv_aload_n S.1 S.2.1 dX1_record_21 rfl (lv_at hl 1 rfl) ?_
    refine x_qv (va_runV (As := [.ref (xad g 1)]) (rest := []) S (c_X2_copyFrom l g hJ E1_2 hb3.ps hp (by omega)) (cwV 1 S.2.2.2.2 gX1_record_X2_copyFrom rfl rfl rfl (by decide +kernel) ⟨Nat.le_of_ble_eq_true rfl, Nat.le_of_ble_eq_true rfl⟩) (x_preV hK hP hb3.2.1 (by have := hb3.1; omega) rfl) rfl rfl hl.1 rfl (lv_room (Nat.le_of_ble_eq_true rfl)) dX1_record_22 ⟨Nat.le_of_ble_eq_true rfl, Nat.le_of_ble_eq_true rfl⟩) hS (fun E1_3 H locs hq22 hP hS => ?_)
    have hH := hH.put (q := 3) (by decide) hq22.1 hq22.2
    have hfr : ∀ j, j < 19 ∨ 57 ≤ j → E1_3 j = E j := fun j hj => (hq22.2 j (by omega)).trans (hfr j hj)
    have h19 := hH.2.1
    refine lv_aload_n S.1 S.2.1 dX1_record_25 rfl (lv_at hl 0 rfl) ?_
    refine lv_dup S.1 S.2.1 dX1_record_26 rfl ?_
    refine x_get S hK hP dX1_record_27 h19 (by decide) (RX1, TX1, 2) rfl hin1 1 (by decide) fl18 rfl ?_
    refine lv_iconst (v := 1) S.1 S.2.1 dX1_record_30 (by decide) ?_
    refine lv_iadd S.1 S.2.1 dX1_record_31 ?_
    refine x_put S hK hJ hP hS dX1_record_32 h19 (by decide) (RX1, TX1, 2) rfl hin1 tyX1 tyX1_ok nmX1 1 (by decide) fl18 rfl rfl rfl (Nat.le_of_ble_eq_true rfl) (fun H locs E1_4 hu hP hS => ?_)
    have h19 : E1_4 19 = .inr (1, [.ref (xad g 20), .int ((nI 3) + 1)]) := hu.1
    have hfr : ∀ j, j < 19 ∨ 57 ≤ j → E1_4 j = E j := fun j hj => (hu.2 j (by omega)).trans (hfr j hj)
    exact x_vret S hr hlocks hP hS dX1_record_35 (⟨⟨_, _, _, hH.size (hs' := 4) (by decide) hu, fun i hi => by unfold rcV; rw [if_neg (by decide), if_neg (by decide)]; exact rec_big hi⟩, hfr⟩)
set_option maxHeartbeats 4000000 in
set_option maxRecDepth 100000 in
/-- History.takeBack -/
theorem c_X1_takeBack (l : Launch) (g : xG) (hJ : xJ (xad g)) (E : Nat → va_E) {hs : Nat} {B N : Nat → Nat} {MM : Nat → Nat → Nat → Int32} (hH : eHi g E hs B N MM) {z : Int32} (hp : ePs g E 1 z) : Met l yX1_takeBack wsX1_takeBack ({ frames := 2, cells := 0, slots := 0, locals := 82 }) (xPc g [.ref (xad g 19), .ref (xad g 1)] E) (xQi g (fun r E1 => (∀ j, (j < 1 ∨ 10 ≤ j) → (j < 19 ∨ 57 ≤ j) → E1 j = E j) ∧ ((r = 0 ∧ hs = 0 ∧ E1 = E) ∨ (r = 1 ∧ 0 < hs ∧ ePh g E1 1 (N (hs - 1)) (MM (hs - 1)) ∧ eHi g E1 (hs - 1) B N MM)))) 0 0 (xA (xad g)) := by
  refine x_met (ws' := _) (by decide) rfl (Nat.le_of_ble_eq_true rfl) ?_
  intro pz ez s m below meth cz ls S hr hlocks hP hK hl
  have hl : lv_has ls 2 [(0, .ref (xad g 19)), (1, .ref (xad g 1))] := hl
  have hS : va_S (xA (xad g)) s.heap s.heap [] := va_S.rf
  have hin1 : ∀ w ∈ u_ws RX1 TX1 2, w ∈ wsX1_takeBack := by decide +kernel
  have fl11 : Cond.fieldLink RX1 11 "DiscArcs$History" "states" "[LDiscArcs$Photos;" ∈ wsX1_takeBack := by decide +kernel
  have fl18 : Cond.fieldLink RX1 18 "DiscArcs$History" "size" "I" ∈ wsX1_takeBack := by decide +kernel
  obtain ⟨hs4, h19, ⟨F, h20, hF0⟩, hB, -⟩ := id hH
  refine lv_aload_n S.1 S.2.1 dX1_takeBack_0 rfl (lv_at hl 0 rfl) ?_
  refine x_get S hK hP dX1_takeBack_1 h19 (by decide) (RX1, TX1, 2) rfl hin1 1 (by decide) fl18 rfl ?_
  refine lv_if_gt (tgt := 9) S.1 S.2.1 dX1_takeBack_4 (by decide) (fun c4 => ?_) (fun c4 => ?_)
  · skip
    have hs0 : 0 < hs := by rcases Nat.eq_zero_or_pos hs with h | h
      · subst h; exact absurd c4 (by decide)
      · exact h
    refine lv_aload_n S.1 S.2.1 dX1_takeBack_9 rfl (lv_at hl 0 rfl) ?_
    refine lv_dup S.1 S.2.1 dX1_takeBack_10 rfl ?_
    refine x_get S hK hP dX1_takeBack_11 h19 (by decide) (RX1, TX1, 2) rfl hin1 1 (by decide) fl18 rfl ?_
    refine lv_iconst (v := 1) S.1 S.2.1 dX1_takeBack_14 (by decide) ?_
    refine lv_isub S.1 S.2.1 dX1_takeBack_15 ?_
    refine x_put S hK hJ hP hS dX1_takeBack_16 h19 (by decide) (RX1, TX1, 2) rfl hin1 tyX1 tyX1_ok nmX1 1 (by decide) fl18 rfl rfl rfl (Nat.le_of_ble_eq_true rfl) (fun H locs E1 hu hP hS => ?_)
    have h19 : E1 19 = .inr (1, [.ref (xad g 20), .int ((nI hs) - 1)]) := hu.1
    have h20 : E1 20 = .inl (xQ g, 4, .inr (.inr (.inr (.inr F)))) := (hu.2 _ (by omega)).trans h20
    have hp : ePs g E1 1 z := hp.keep (fun j h1 h2 => hu.2 j (by omega))
    have hB : ∀ i, i < 4 → 21 ≤ B i ∧ B i ≤ 48 ∧ ePh g E1 (B i) (N i) (MM i) := fun i9 hi9 => by obtain ⟨a1, a2, a3⟩ := hB i9 hi9; exact ⟨a1, a2, a3.keep (fun j g1 g2 => hu.2 j (by omega))⟩
    refine lv_aload_n S.1 S.2.1 dX1_takeBack_19 rfl (lv_at hl 1 rfl) ?_
    refine lv_aload_n S.1 S.2.1 dX1_takeBack_20 rfl (lv_at hl 0 rfl) ?_
    refine x_get S hK hP dX1_takeBack_21 h19 (by decide) (RX1, TX1, 2) rfl hin1 0 (by decide) fl11 rfl ?_
    refine lv_aload_n S.1 S.2.1 dX1_takeBack_24 rfl (lv_at hl 0 rfl) ?_
    refine x_get S hK hP dX1_takeBack_25 h19 (by decide) (RX1, TX1, 2) rfl hin1 1 (by decide) fl18 rfl ?_
    obtain ⟨b1, b2, hb3⟩ := hB (hs - 1) (by omega)
    refine x_aldp S hK hP dX1_takeBack_28 h20 (by decide) (j := (hs - 1)) (pk_sub (a := hs) (b := 1) (by omega)) (by omega) (by decide) (hF0 (hs - 1) (by omega)) ?_
    refine x_qv (va_runV (As := [.ref (xad g (B (hs - 1)))]) (rest := []) S (c_X2_copyFrom l g hJ E1 hp hb3 (by omega)) (cwV 1 S.2.2.2.2 gX1_takeBack_X2_copyFrom rfl rfl rfl (by decide +kernel) ⟨Nat.le_of_ble_eq_true rfl, Nat.le_of_ble_eq_true rfl⟩) (x_preV hK hP hp.2.1 (by decide) rfl) rfl rfl hl.1 rfl (lv_room (Nat.le_of_ble_eq_true rfl)) dX1_takeBack_29 ⟨Nat.le_of_ble_eq_true rfl, Nat.le_of_ble_eq_true rfl⟩) hS (fun E1_1 H locs hq29 hP hS => ?_)
    have hH2 := (hH.size (hs' := hs - 1) (by have := hH.1; omega) (by rw [← pk_sub (show 1 ≤ hs by omega)]; exact hu)).keep (E1 := E1_1) (fun j h1 h2 => hq29.2 j (by omega))
    have hfr2 : ∀ j, (j < 1 ∨ 10 ≤ j) → (j < 19 ∨ 57 ≤ j) → E1_1 j = E j := fun j h1 h2 => (hq29.2 j (by omega)).trans (hu.2 j (by omega))
    refine lv_iconst (v := 1) S.1 S.2.1 dX1_takeBack_32 (by decide) ?_
    exact x_zret S hr hlocks hP hS dX1_takeBack_33 rfl (⟨hfr2, Or.inr ⟨rfl, hs0, hq29.1, hH2⟩⟩)
  · skip
    refine lv_iconst (v := 0) S.1 S.2.1 dX1_takeBack_7 (by decide) ?_
    exact x_zret S hr hlocks hP hS dX1_takeBack_8 rfl (⟨fun _ _ _ => rfl, Or.inl ⟨rfl, by rcases Nat.eq_zero_or_pos hs with h | h; exact h; exact absurd ((nI_ltI (a := 0) (by decide) (by omega)).mpr h) c4, rfl⟩⟩)
/-! DISCARCS: its static helpers and the tests of three photos -/
set_option maxHeartbeats 4000000 in
set_option maxRecDepth 100000 in
theorem c_X6_isWithin (l : Launch) (g : xG) (E : Nat → va_E) (x lo hi : Int32) : Met l yX6_isWithin wsX6_isWithin ({ frames := 0, cells := 0, slots := 0, locals := 0 }) (xPc g [.int x, .int lo, .int hi] E) (vp_Si (xb (lo ≤ x ∧ x ≤ hi))) 0 0 (fun _ => False) := by
  refine x_met (ws' := _) (by decide) rfl (Nat.le_of_ble_eq_true rfl) ?_
  intro pz ez s m below meth cz ls S hr hlocks hP hK hl
  have hl : lv_has ls 3 [(0, .int x), (1, .int lo), (2, .int hi)] := hl
  refine lv_iload_n S.1 S.2.1 dX6_isWithin_0 rfl (lv_at hl 0 rfl) ?_
  refine lv_iload_n S.1 S.2.1 dX6_isWithin_1 rfl (lv_at hl 1 rfl) ?_
  refine lv_icmp_lt (tgt := 14) S.1 S.2.1 dX6_isWithin_2 (by decide) (fun c2 => ?_) (fun c2 => ?_)
  · skip
    refine lv_iconst (v := 0) S.1 S.2.1 dX6_isWithin_14 (by decide) ?_
    exact x_zretR S hr hlocks dX6_isWithin_15 (xb.zero (by first | exact fun h => absurd c7 (Int32.not_lt.mpr h.2) | exact fun h => absurd c2 (Int32.not_lt.mpr h.1)))
  · skip
    refine lv_iload_n S.1 S.2.1 dX6_isWithin_5 rfl (lv_at hl 0 rfl) ?_
    refine lv_iload_n S.1 S.2.1 dX6_isWithin_6 rfl (lv_at hl 2 rfl) ?_
    refine lv_icmp_gt (tgt := 14) S.1 S.2.1 dX6_isWithin_7 (by decide) (fun c7 => ?_) (fun c7 => ?_)
    · skip
      refine lv_iconst (v := 0) S.1 S.2.1 dX6_isWithin_14 (by decide) ?_
      exact x_zretR S hr hlocks dX6_isWithin_15 (xb.zero (by first | exact fun h => absurd c7 (Int32.not_lt.mpr h.2) | exact fun h => absurd c2 (Int32.not_lt.mpr h.1)))
    · skip
      refine lv_iconst (v := 1) S.1 S.2.1 dX6_isWithin_10 (by decide) ?_
      refine lv_goto (tgt := 15) S.1 S.2.1 dX6_isWithin_11 (by decide) ?_
      exact x_zretR S hr hlocks dX6_isWithin_15 (xb.one ⟨Int32.not_lt.mp c2, Int32.not_lt.mp c7⟩)
set_option maxHeartbeats 4000000 in
set_option maxRecDepth 100000 in
theorem c_X6_areAnySame (l : Launch) (g : xG) (E : Nat → va_E) (a b c9 : Int32) : Met l yX6_areAnySame wsX6_areAnySame ({ frames := 0, cells := 0, slots := 0, locals := 0 }) (xPc g [.int a, .int b, .int c9] E) (vp_Si (xb (a = b ∨ a = c9 ∨ b = c9))) 0 0 (fun _ => False) := by
  refine x_met (ws' := _) (by decide) rfl (Nat.le_of_ble_eq_true rfl) ?_
  intro pz ez s m below meth cz ls S hr hlocks hP hK hl
  have hl : lv_has ls 3 [(0, .int a), (1, .int b), (2, .int c9)] := hl
  refine lv_iload_n S.1 S.2.1 dX6_areAnySame_0 rfl (lv_at hl 0 rfl) ?_
  refine lv_iload_n S.1 S.2.1 dX6_areAnySame_1 rfl (lv_at hl 1 rfl) ?_
  refine lv_icmp_eq (tgt := 15) S.1 S.2.1 dX6_areAnySame_2 (by decide) (fun c2 => ?_) (fun c2 => ?_)
  · skip
    refine lv_iconst (v := 1) S.1 S.2.1 dX6_areAnySame_15 (by decide) ?_
    refine lv_goto (tgt := 20) S.1 S.2.1 dX6_areAnySame_16 (by decide) ?_
    exact x_zretR S hr hlocks dX6_areAnySame_20 (xb.one (by first | exact Or.inr (Or.inr c12) | exact Or.inr (Or.inl c7) | exact Or.inl c2))
  · skip
    refine lv_iload_n S.1 S.2.1 dX6_areAnySame_5 rfl (lv_at hl 0 rfl) ?_
    refine lv_iload_n S.1 S.2.1 dX6_areAnySame_6 rfl (lv_at hl 2 rfl) ?_
    refine lv_icmp_eq (tgt := 15) S.1 S.2.1 dX6_areAnySame_7 (by decide) (fun c7 => ?_) (fun c7 => ?_)
    · skip
      refine lv_iconst (v := 1) S.1 S.2.1 dX6_areAnySame_15 (by decide) ?_
      refine lv_goto (tgt := 20) S.1 S.2.1 dX6_areAnySame_16 (by decide) ?_
      exact x_zretR S hr hlocks dX6_areAnySame_20 (xb.one (by first | exact Or.inr (Or.inr c12) | exact Or.inr (Or.inl c7) | exact Or.inl c2))
    · skip
      refine lv_iload_n S.1 S.2.1 dX6_areAnySame_10 rfl (lv_at hl 1 rfl) ?_
      refine lv_iload_n S.1 S.2.1 dX6_areAnySame_11 rfl (lv_at hl 2 rfl) ?_
      refine lv_icmp_ne (tgt := 19) S.1 S.2.1 dX6_areAnySame_12 (by decide) (fun c12 => ?_) (fun c12 => ?_)
      · skip
        refine lv_iconst (v := 0) S.1 S.2.1 dX6_areAnySame_19 (by decide) ?_
        exact x_zretR S hr hlocks dX6_areAnySame_20 (xb.zero (fun h => by rcases h with h | h | h; exact c2 h; exact c7 h; exact c12 h))
      · skip
        refine lv_iconst (v := 1) S.1 S.2.1 dX6_areAnySame_15 (by decide) ?_
        refine lv_goto (tgt := 20) S.1 S.2.1 dX6_areAnySame_16 (by decide) ?_
        exact x_zretR S hr hlocks dX6_areAnySame_20 (xb.one (by first | exact Or.inr (Or.inr c12) | exact Or.inr (Or.inl c7) | exact Or.inl c2))
def isAsk (t w q : Int32) : Prop := (0 ≤ t ∧ t ≤ 99) ∧ (0 ≤ w ∧ w ≤ 1) ∧ 0 ≤ q ∧ q ≤ 1
set_option maxHeartbeats 4000000 in
set_option maxRecDepth 100000 in
theorem c_X6_isAskForFraction (l : Launch) (g : xG) (E : Nat → va_E) (t w q : Int32) : Met l yX6_isAskForFraction wsX6_isAskForFraction ({ frames := 1, cells := 0, slots := 0, locals := 22 }) (xPc g [.int t, .int w, .int q] E) (vp_Si (xb (isAsk t w q))) 0 0 (fun _ => False) := by
  refine x_met (ws' := _) (by decide) rfl (Nat.le_of_ble_eq_true rfl) ?_
  intro pz ez s m below meth cz ls S hr hlocks hP hK hl
  have hl : lv_has ls 3 [(0, .int t), (1, .int w), (2, .int q)] := hl
  refine lv_iload_n S.1 S.2.1 dX6_isAskForFraction_0 rfl (lv_at hl 0 rfl) ?_
  refine lv_iconst (v := 0) S.1 S.2.1 dX6_isAskForFraction_1 (by decide) ?_
  refine lv_bipush (v := 99) S.1 S.2.1 dX6_isAskForFraction_2 (by decide) ?_
  refine x_si (va_runS (As := [.int t, .int 0, .int 99]) (rest := []) S (c_X6_isWithin l g E t 0 99) (va_cwS 3 S.2.2.2.2 gX6_isAskForFraction_X6_isWithin rfl rfl rfl (by decide +kernel) ⟨Nat.le_of_ble_eq_true rfl, Nat.le_of_ble_eq_true rfl⟩) (x_preS hK hP) rfl rfl hl.1 rfl (lv_room (Nat.le_of_ble_eq_true rfl)) dX6_isAskForFraction_4 ⟨Nat.le_of_ble_eq_true rfl, Nat.le_of_ble_eq_true rfl⟩) (fun r4 hr4 => ?_)
  refine lv_if_eq (tgt := 32) S.1 S.2.1 dX6_isAskForFraction_7 (by decide) (fun c7 => ?_) (fun c7 => ?_)
  · skip
    refine lv_iconst (v := 0) S.1 S.2.1 dX6_isAskForFraction_32 (by decide) ?_
    exact x_zretR S hr hlocks dX6_isAskForFraction_33 (xb.zero (by first | exact fun h => hr22.f c25 h.2.2 | exact fun h => hr13.f c16 h.2.1 | exact fun h => hr4.f c7 h.1))
  · skip
    refine lv_iload_n S.1 S.2.1 dX6_isAskForFraction_10 rfl (lv_at hl 1 rfl) ?_
    refine lv_iconst (v := 0) S.1 S.2.1 dX6_isAskForFraction_11 (by decide) ?_
    refine lv_iconst (v := 1) S.1 S.2.1 dX6_isAskForFraction_12 (by decide) ?_
    refine x_si (va_runS (As := [.int w, .int 0, .int 1]) (rest := []) S (c_X6_isWithin l g E w 0 1) (va_cwS 3 S.2.2.2.2 gX6_isAskForFraction_X6_isWithin rfl rfl rfl (by decide +kernel) ⟨Nat.le_of_ble_eq_true rfl, Nat.le_of_ble_eq_true rfl⟩) (x_preS hK hP) rfl rfl hl.1 rfl (lv_room (Nat.le_of_ble_eq_true rfl)) dX6_isAskForFraction_13 ⟨Nat.le_of_ble_eq_true rfl, Nat.le_of_ble_eq_true rfl⟩) (fun r13 hr13 => ?_)
    refine lv_if_eq (tgt := 32) S.1 S.2.1 dX6_isAskForFraction_16 (by decide) (fun c16 => ?_) (fun c16 => ?_)
    · skip
      refine lv_iconst (v := 0) S.1 S.2.1 dX6_isAskForFraction_32 (by decide) ?_
      exact x_zretR S hr hlocks dX6_isAskForFraction_33 (xb.zero (by first | exact fun h => hr22.f c25 h.2.2 | exact fun h => hr13.f c16 h.2.1 | exact fun h => hr4.f c7 h.1))
    · skip
      refine lv_iload_n S.1 S.2.1 dX6_isAskForFraction_19 rfl (lv_at hl 2 rfl) ?_
      refine lv_iconst (v := 0) S.1 S.2.1 dX6_isAskForFraction_20 (by decide) ?_
      refine lv_iconst (v := 1) S.1 S.2.1 dX6_isAskForFraction_21 (by decide) ?_
      refine x_si (va_runS (As := [.int q, .int 0, .int 1]) (rest := []) S (c_X6_isWithin l g E q 0 1) (va_cwS 3 S.2.2.2.2 gX6_isAskForFraction_X6_isWithin rfl rfl rfl (by decide +kernel) ⟨Nat.le_of_ble_eq_true rfl, Nat.le_of_ble_eq_true rfl⟩) (x_preS hK hP) rfl rfl hl.1 rfl (lv_room (Nat.le_of_ble_eq_true rfl)) dX6_isAskForFraction_22 ⟨Nat.le_of_ble_eq_true rfl, Nat.le_of_ble_eq_true rfl⟩) (fun r22 hr22 => ?_)
      refine lv_if_eq (tgt := 32) S.1 S.2.1 dX6_isAskForFraction_25 (by decide) (fun c25 => ?_) (fun c25 => ?_)
      · skip
        refine lv_iconst (v := 0) S.1 S.2.1 dX6_isAskForFraction_32 (by decide) ?_
        exact x_zretR S hr hlocks dX6_isAskForFraction_33 (xb.zero (by first | exact fun h => hr22.f c25 h.2.2 | exact fun h => hr13.f c16 h.2.1 | exact fun h => hr4.f c7 h.1))
      · skip
        refine lv_iconst (v := 1) S.1 S.2.1 dX6_isAskForFraction_28 (by decide) ?_
        refine lv_goto (tgt := 33) S.1 S.2.1 dX6_isAskForFraction_29 (by decide) ?_
        exact x_zretR S hr hlocks dX6_isAskForFraction_33 (xb.one ⟨hr4.t c7, hr13.t c16, hr22.t c25⟩)
/-- an int tells one of n photos -/
def held (n : Nat) (x : Int32) : Prop := ∃ k : Nat, k < n ∧ x = nI k
set_option maxHeartbeats 4000000 in
set_option maxRecDepth 100000 in
theorem c_X6_areHeld (l : Launch) (g : xG) (E : Nat → va_E) {hf : Int32} (hX : E 0 = .inr (6, [.ref (xad g 1), .ref (xad g 10), .int hf, .ref (xad g 19), .ref (xad g 57), .ref (xad g 59), .ref (xad g 60), .ref (xad g 61), .ref (xad g 64)])) {n : Nat} {M : Nat → Nat → Int32} (hp : ePh g E 1 n M) (a b c9 : Int32) : Met l yX6_areHeld wsX6_areHeld ({ frames := 1, cells := 0, slots := 0, locals := 21 }) (xPc g [.ref (xad g 0), .int a, .int b, .int c9] E) (vp_Si (xb (held n a ∧ held n b ∧ held n c9))) 0 0 (fun _ => False) := by
  refine x_met (ws' := _) (by decide) rfl (Nat.le_of_ble_eq_true rfl) ?_
  intro pz ez s m below meth cz ls S hr hlocks hP hK hl
  have hl : lv_has ls 4 [(0, .ref (xad g 0)), (1, .int a), (2, .int b), (3, .int c9)] := hl
  have hin6 : ∀ w ∈ u_ws RX6 TX6 9, w ∈ wsX6_areHeld := by decide +kernel
  have fl10 : Cond.fieldLink RX6 10 "DiscArcs" "photos" "LDiscArcs$Photos;" ∈ wsX6_areHeld := by decide +kernel
  refine lv_aload_n S.1 S.2.1 dX6_areHeld_0 rfl (lv_at hl 0 rfl) ?_
  refine x_get S hK hP dX6_areHeld_1 hX (by decide) (RX6, TX6, 9) rfl hin6 0 (by decide) fl10 rfl ?_
  refine lv_iload_n S.1 S.2.1 dX6_areHeld_4 rfl (lv_at hl 1 rfl) ?_
  refine x_si (va_runV (As := [.int a]) (rest := []) S (c_X2_holds l g E hp a) (cwV 1 S.2.2.2.2 gX6_areHeld_X2_holds rfl rfl rfl (by decide +kernel) ⟨Nat.le_of_ble_eq_true rfl, Nat.le_of_ble_eq_true rfl⟩) (x_preV hK hP hp.2.1 (by decide) rfl) rfl rfl hl.1 rfl (lv_room (Nat.le_of_ble_eq_true rfl)) dX6_areHeld_5 ⟨Nat.le_of_ble_eq_true rfl, Nat.le_of_ble_eq_true rfl⟩) (fun r5 hr5 => ?_)
  refine lv_if_eq (tgt := 37) S.1 S.2.1 dX6_areHeld_8 (by decide) (fun c8 => ?_) (fun c8 => ?_)
  · skip
    refine lv_iconst (v := 0) S.1 S.2.1 dX6_areHeld_37 (by decide) ?_
    exact x_zretR S hr hlocks dX6_areHeld_38 (xb.zero (by first | exact fun h => hr27.f c30 h.2.2 | exact fun h => hr16.f c19 h.2.1 | exact fun h => hr5.f c8 h.1))
  · skip
    refine lv_aload_n S.1 S.2.1 dX6_areHeld_11 rfl (lv_at hl 0 rfl) ?_
    refine x_get S hK hP dX6_areHeld_12 hX (by decide) (RX6, TX6, 9) rfl hin6 0 (by decide) fl10 rfl ?_
    refine lv_iload_n S.1 S.2.1 dX6_areHeld_15 rfl (lv_at hl 2 rfl) ?_
    refine x_si (va_runV (As := [.int b]) (rest := []) S (c_X2_holds l g E hp b) (cwV 1 S.2.2.2.2 gX6_areHeld_X2_holds rfl rfl rfl (by decide +kernel) ⟨Nat.le_of_ble_eq_true rfl, Nat.le_of_ble_eq_true rfl⟩) (x_preV hK hP hp.2.1 (by decide) rfl) rfl rfl hl.1 rfl (lv_room (Nat.le_of_ble_eq_true rfl)) dX6_areHeld_16 ⟨Nat.le_of_ble_eq_true rfl, Nat.le_of_ble_eq_true rfl⟩) (fun r16 hr16 => ?_)
    refine lv_if_eq (tgt := 37) S.1 S.2.1 dX6_areHeld_19 (by decide) (fun c19 => ?_) (fun c19 => ?_)
    · skip
      refine lv_iconst (v := 0) S.1 S.2.1 dX6_areHeld_37 (by decide) ?_
      exact x_zretR S hr hlocks dX6_areHeld_38 (xb.zero (by first | exact fun h => hr27.f c30 h.2.2 | exact fun h => hr16.f c19 h.2.1 | exact fun h => hr5.f c8 h.1))
    · skip
      refine lv_aload_n S.1 S.2.1 dX6_areHeld_22 rfl (lv_at hl 0 rfl) ?_
      refine x_get S hK hP dX6_areHeld_23 hX (by decide) (RX6, TX6, 9) rfl hin6 0 (by decide) fl10 rfl ?_
      refine lv_iload_n S.1 S.2.1 dX6_areHeld_26 rfl (lv_at hl 3 rfl) ?_
      refine x_si (va_runV (As := [.int c9]) (rest := []) S (c_X2_holds l g E hp c9) (cwV 1 S.2.2.2.2 gX6_areHeld_X2_holds rfl rfl rfl (by decide +kernel) ⟨Nat.le_of_ble_eq_true rfl, Nat.le_of_ble_eq_true rfl⟩) (x_preV hK hP hp.2.1 (by decide) rfl) rfl rfl hl.1 rfl (lv_room (Nat.le_of_ble_eq_true rfl)) dX6_areHeld_27 ⟨Nat.le_of_ble_eq_true rfl, Nat.le_of_ble_eq_true rfl⟩) (fun r27 hr27 => ?_)
      refine lv_if_eq (tgt := 37) S.1 S.2.1 dX6_areHeld_30 (by decide) (fun c30 => ?_) (fun c30 => ?_)
      · skip
        refine lv_iconst (v := 0) S.1 S.2.1 dX6_areHeld_37 (by decide) ?_
        exact x_zretR S hr hlocks dX6_areHeld_38 (xb.zero (by first | exact fun h => hr27.f c30 h.2.2 | exact fun h => hr16.f c19 h.2.1 | exact fun h => hr5.f c8 h.1))
      · skip
        refine lv_iconst (v := 1) S.1 S.2.1 dX6_areHeld_33 (by decide) ?_
        refine lv_goto (tgt := 38) S.1 S.2.1 dX6_areHeld_34 (by decide) ?_
        exact x_zretR S hr hlocks dX6_areHeld_38 (xb.one ⟨hr5.t c8, hr16.t c19, hr27.t c30⟩)
set_option maxHeartbeats 4000000 in
set_option maxRecDepth 100000 in
theorem c_X6_areUsable (l : Launch) (g : xG) (E : Nat → va_E) {hf : Int32} (hX : E 0 = .inr (6, [.ref (xad g 1), .ref (xad g 10), .int hf, .ref (xad g 19), .ref (xad g 57), .ref (xad g 59), .ref (xad g 60), .ref (xad g 61), .ref (xad g 64)])) {n : Nat} {M : Nat → Nat → Int32} (hp : ePh g E 1 n M) {i j k : Nat} (hi : i < n) (hj : j < n) (hk : k < n) : Met l yX6_areUsable wsX6_areUsable ({ frames := 1, cells := 0, slots := 0, locals := 21 }) (xPc g [.ref (xad g 0), .int (nI i), .int (nI j), .int (nI k)] E) (vp_Si (xb (pU M i = true ∧ pU M j = true ∧ pU M k = true))) 0 0 (fun _ => False) := by
  refine x_met (ws' := _) (by decide) rfl (Nat.le_of_ble_eq_true rfl) ?_
  intro pz ez s m below meth cz ls S hr hlocks hP hK hl
  have hl : lv_has ls 4 [(0, .ref (xad g 0)), (1, .int (nI i)), (2, .int (nI j)), (3, .int (nI k))] := hl
  have hin6 : ∀ w ∈ u_ws RX6 TX6 9, w ∈ wsX6_areUsable := by decide +kernel
  have fl10 : Cond.fieldLink RX6 10 "DiscArcs" "photos" "LDiscArcs$Photos;" ∈ wsX6_areUsable := by decide +kernel
  refine lv_aload_n S.1 S.2.1 dX6_areUsable_0 rfl (lv_at hl 0 rfl) ?_
  refine x_get S hK hP dX6_areUsable_1 hX (by decide) (RX6, TX6, 9) rfl hin6 0 (by decide) fl10 rfl ?_
  refine lv_iload_n S.1 S.2.1 dX6_areUsable_4 rfl (lv_at hl 1 rfl) ?_
  refine x_si (va_runV (As := [.int (nI i)]) (rest := []) S (c_X2_isUsable l g E hp hi) (cwV 1 S.2.2.2.2 gX6_areUsable_X2_isUsable rfl rfl rfl (by decide +kernel) ⟨Nat.le_of_ble_eq_true rfl, Nat.le_of_ble_eq_true rfl⟩) (x_preV hK hP hp.2.1 (by decide) rfl) rfl rfl hl.1 rfl (lv_room (Nat.le_of_ble_eq_true rfl)) dX6_areUsable_5 ⟨Nat.le_of_ble_eq_true rfl, Nat.le_of_ble_eq_true rfl⟩) (fun r5 hr5 => ?_)
  refine lv_if_eq (tgt := 37) S.1 S.2.1 dX6_areUsable_8 (by decide) (fun c8 => ?_) (fun c8 => ?_)
  · skip
    refine lv_iconst (v := 0) S.1 S.2.1 dX6_areUsable_37 (by decide) ?_
    exact x_zretR S hr hlocks dX6_areUsable_38 (xb.zero (by first | exact fun h => hr27.f c30 h.2.2 | exact fun h => hr16.f c19 h.2.1 | exact fun h => hr5.f c8 h.1))
  · skip
    refine lv_aload_n S.1 S.2.1 dX6_areUsable_11 rfl (lv_at hl 0 rfl) ?_
    refine x_get S hK hP dX6_areUsable_12 hX (by decide) (RX6, TX6, 9) rfl hin6 0 (by decide) fl10 rfl ?_
    refine lv_iload_n S.1 S.2.1 dX6_areUsable_15 rfl (lv_at hl 2 rfl) ?_
    refine x_si (va_runV (As := [.int (nI j)]) (rest := []) S (c_X2_isUsable l g E hp hj) (cwV 1 S.2.2.2.2 gX6_areUsable_X2_isUsable rfl rfl rfl (by decide +kernel) ⟨Nat.le_of_ble_eq_true rfl, Nat.le_of_ble_eq_true rfl⟩) (x_preV hK hP hp.2.1 (by decide) rfl) rfl rfl hl.1 rfl (lv_room (Nat.le_of_ble_eq_true rfl)) dX6_areUsable_16 ⟨Nat.le_of_ble_eq_true rfl, Nat.le_of_ble_eq_true rfl⟩) (fun r16 hr16 => ?_)
    refine lv_if_eq (tgt := 37) S.1 S.2.1 dX6_areUsable_19 (by decide) (fun c19 => ?_) (fun c19 => ?_)
    · skip
      refine lv_iconst (v := 0) S.1 S.2.1 dX6_areUsable_37 (by decide) ?_
      exact x_zretR S hr hlocks dX6_areUsable_38 (xb.zero (by first | exact fun h => hr27.f c30 h.2.2 | exact fun h => hr16.f c19 h.2.1 | exact fun h => hr5.f c8 h.1))
    · skip
      refine lv_aload_n S.1 S.2.1 dX6_areUsable_22 rfl (lv_at hl 0 rfl) ?_
      refine x_get S hK hP dX6_areUsable_23 hX (by decide) (RX6, TX6, 9) rfl hin6 0 (by decide) fl10 rfl ?_
      refine lv_iload_n S.1 S.2.1 dX6_areUsable_26 rfl (lv_at hl 3 rfl) ?_
      refine x_si (va_runV (As := [.int (nI k)]) (rest := []) S (c_X2_isUsable l g E hp hk) (cwV 1 S.2.2.2.2 gX6_areUsable_X2_isUsable rfl rfl rfl (by decide +kernel) ⟨Nat.le_of_ble_eq_true rfl, Nat.le_of_ble_eq_true rfl⟩) (x_preV hK hP hp.2.1 (by decide) rfl) rfl rfl hl.1 rfl (lv_room (Nat.le_of_ble_eq_true rfl)) dX6_areUsable_27 ⟨Nat.le_of_ble_eq_true rfl, Nat.le_of_ble_eq_true rfl⟩) (fun r27 hr27 => ?_)
      refine lv_if_eq (tgt := 37) S.1 S.2.1 dX6_areUsable_30 (by decide) (fun c30 => ?_) (fun c30 => ?_)
      · skip
        refine lv_iconst (v := 0) S.1 S.2.1 dX6_areUsable_37 (by decide) ?_
        exact x_zretR S hr hlocks dX6_areUsable_38 (xb.zero (by first | exact fun h => hr27.f c30 h.2.2 | exact fun h => hr16.f c19 h.2.1 | exact fun h => hr5.f c8 h.1))
      · skip
        refine lv_iconst (v := 1) S.1 S.2.1 dX6_areUsable_33 (by decide) ?_
        refine lv_goto (tgt := 38) S.1 S.2.1 dX6_areUsable_34 (by decide) ?_
        exact x_zretR S hr hlocks dX6_areUsable_38 (xb.one ⟨hr5.t c8, hr16.t c19, hr27.t c30⟩)
/-- three numbers in order -/
def srt (i j k a b c : Nat) : Prop := a < b ∧ b < c ∧ ((i = a ∧ j = b ∧ k = c) ∨ (i = a ∧ j = c ∧ k = b) ∨ (i = b ∧ j = a ∧ k = c) ∨ (i = b ∧ j = c ∧ k = a) ∨ (i = c ∧ j = a ∧ k = b) ∨ (i = c ∧ j = b ∧ k = a))
theorem nI_min {a b : Nat} (ha : a < 2 ^ 31) (hb : b < 2 ^ 31) : (if nI b < nI a then nI b else nI a) = nI (min a b) := by
  by_cases h : b < a
  · rw [if_pos ((nI_ltI hb ha).mpr h), Nat.min_eq_right (by omega)]
  · rw [if_neg (fun g => h ((nI_ltI hb ha).mp g)), Nat.min_eq_left (by omega)]
theorem nI_max {a b : Nat} (ha : a < 2 ^ 31) (hb : b < 2 ^ 31) : (if nI a < nI b then nI b else nI a) = nI (max a b) := by
  by_cases h : a < b
  · rw [if_pos ((nI_ltI ha hb).mpr h), Nat.max_eq_right (by omega)]
  · rw [if_neg (fun g => h ((nI_ltI ha hb).mp g)), Nat.max_eq_left (by omega)]
theorem srt_of {i j k : Nat} (h1 : ¬ i = j) (h2 : ¬ i = k) (h3 : ¬ j = k) : srt i j k (min i (min j k)) (i + j + k - min i (min j k) - max i (max j k)) (max i (max j k)) := by
  unfold srt
  omega
theorem nI_mid {i j k a c : Nat} (h1 : a ≤ i + j + k) (h2 : c ≤ i + j + k - a) : nI i + nI j + nI k - nI a - nI c = nI (i + j + k - a - c) := by
  rw [nI_add, nI_add, pk_sub h1, pk_sub h2]
set_option maxHeartbeats 4000000 in
set_option maxRecDepth 100000 in
theorem c_X6_layInOrder (l : Launch) (g : xG) (hJ : xJ (xad g)) (E : Nat → va_E) {hf : Int32} (hX : E 0 = .inr (6, [.ref (xad g 1), .ref (xad g 10), .int hf, .ref (xad g 19), .ref (xad g 57), .ref (xad g 59), .ref (xad g 60), .ref (xad g 61), .ref (xad g 64)])) {x1 x2 x3 : Int32} (hA : E 60 = .inr (0, [.ref (xad g 1), .int x1, .int x2, .int x3])) {i j k : Nat} (hi : i < 10) (hj : j < 10) (hk : k < 10) (h1 : ¬ i = j) (h2 : ¬ i = k) (h3 : ¬ j = k) : Met l yX6_layInOrder wsX6_layInOrder ({ frames := 1, cells := 0, slots := 0, locals := 40 }) (xPc g [.ref (xad g 0), .int (nI i), .int (nI j), .int (nI k)] E) (xQv g (fun E1 => ∃ a b c, srt i j k a b c ∧ xU E 60 (.inr (0, [.ref (xad g 1), .int (nI a), .int (nI b), .int (nI c)])) E1)) 0 0 (xA (xad g)) := by
  refine x_met (ws' := _) (by decide) rfl (Nat.le_of_ble_eq_true rfl) ?_
  intro pz ez s m below meth cz ls S hr hlocks hP hK hl
  have hl : lv_has ls 6 [(0, .ref (xad g 0)), (1, .int (nI i)), (2, .int (nI j)), (3, .int (nI k))] := hl
  have hS : va_S (xA (xad g)) s.heap s.heap [] := va_S.rf
  have hin6 : ∀ w ∈ u_ws RX6 TX6 9, w ∈ wsX6_layInOrder := by decide +kernel
  have fl42 : Cond.fieldLink RX6 42 "DiscArcs" "curve" "LDiscArcs$Arc;" ∈ wsX6_layInOrder := by decide +kernel
  refine lv_iload_n S.1 S.2.1 dX6_layInOrder_0 rfl (lv_at hl 1 rfl) ?_
  refine lv_iload_n S.1 S.2.1 dX6_layInOrder_1 rfl (lv_at hl 2 rfl) ?_
  refine lv_iload_n S.1 S.2.1 dX6_layInOrder_2 rfl (lv_at hl 3 rfl) ?_
  refine va_mmin S.1 S.2.1 (by rw [S.2.2.1]; exact hl.1.symm) S.2.2.2.1 (S.2.2.2.2 (.methodLink RX6 244 Lib.Math.min.name) (by decide +kernel)) (S.2.2.2.2 (.static Lib.Math.min.name) (by decide +kernel)) (S.2.2.2.2 (.initialized "java/lang/Math") (by decide +kernel)) (S.2.2.2.2 (.code Lib.Math.min.name Lib.Math.min.code 2 (some .int)) (by decide +kernel)) (Nat.le_of_ble_eq_true rfl) (Nat.le_of_ble_eq_true rfl) (Nat.le_of_ble_eq_true rfl) (Nat.le_of_ble_eq_true rfl) dX6_layInOrder_3 ?_
  refine va_mmin S.1 S.2.1 (by rw [S.2.2.1]; exact hl.1.symm) S.2.2.2.1 (S.2.2.2.2 (.methodLink RX6 244 Lib.Math.min.name) (by decide +kernel)) (S.2.2.2.2 (.static Lib.Math.min.name) (by decide +kernel)) (S.2.2.2.2 (.initialized "java/lang/Math") (by decide +kernel)) (S.2.2.2.2 (.code Lib.Math.min.name Lib.Math.min.code 2 (some .int)) (by decide +kernel)) (Nat.le_of_ble_eq_true rfl) (Nat.le_of_ble_eq_true rfl) (Nat.le_of_ble_eq_true rfl) (Nat.le_of_ble_eq_true rfl) dX6_layInOrder_6 ?_
  refine W.eq (g2 := F0 m 9 ls [.int (nI (min i (min j k)))]) (by rw [nI_min (a := j) (b := k) (by omega) (by omega), nI_min (a := i) (b := min j k) (by omega) (by omega)]) ?_
  refine lv_istore (lv' := [(4, .int (nI (min i (min j k)))), (0, .ref (xad g 0)), (1, .int (nI i)), (2, .int (nI j)), (3, .int (nI k))]) S.1 S.2.1 dX6_layInOrder_9 hl (by decide) rfl (fun ls hl => ?_)
  refine lv_iload_n S.1 S.2.1 dX6_layInOrder_11 rfl (lv_at hl 2 rfl) ?_
  refine lv_iload_n S.1 S.2.1 dX6_layInOrder_12 rfl (lv_at hl 3 rfl) ?_
  refine lv_iload_n S.1 S.2.1 dX6_layInOrder_13 rfl (lv_at hl 4 rfl) ?_
  refine va_mmax S.1 S.2.1 (by rw [S.2.2.1]; exact hl.1.symm) S.2.2.2.1 (S.2.2.2.2 (.methodLink RX6 249 Lib.Math.max.name) (by decide +kernel)) (S.2.2.2.2 (.static Lib.Math.max.name) (by decide +kernel)) (S.2.2.2.2 (.initialized "java/lang/Math") (by decide +kernel)) (S.2.2.2.2 (.code Lib.Math.max.name Lib.Math.max.code 2 (some .int)) (by decide +kernel)) (Nat.le_of_ble_eq_true rfl) (Nat.le_of_ble_eq_true rfl) (Nat.le_of_ble_eq_true rfl) (Nat.le_of_ble_eq_true rfl) dX6_layInOrder_14 ?_
  refine va_mmax S.1 S.2.1 (by rw [S.2.2.1]; exact hl.1.symm) S.2.2.2.1 (S.2.2.2.2 (.methodLink RX6 249 Lib.Math.max.name) (by decide +kernel)) (S.2.2.2.2 (.static Lib.Math.max.name) (by decide +kernel)) (S.2.2.2.2 (.initialized "java/lang/Math") (by decide +kernel)) (S.2.2.2.2 (.code Lib.Math.max.name Lib.Math.max.code 2 (some .int)) (by decide +kernel)) (Nat.le_of_ble_eq_true rfl) (Nat.le_of_ble_eq_true rfl) (Nat.le_of_ble_eq_true rfl) (Nat.le_of_ble_eq_true rfl) dX6_layInOrder_17 ?_
  refine W.eq (g2 := F0 m 20 ls [.int (nI (max i (max j k)))]) (by rw [nI_max (a := j) (b := k) (by omega) (by omega), nI_max (a := i) (b := max j k) (by omega) (by omega)]) ?_
  refine lv_istore (lv' := [(5, .int (nI (max i (max j k)))), (4, .int (nI (min i (min j k)))), (0, .ref (xad g 0)), (1, .int (nI i)), (2, .int (nI j)), (3, .int (nI k))]) S.1 S.2.1 dX6_layInOrder_20 hl (by decide) rfl (fun ls hl => ?_)
  refine lv_aload_n S.1 S.2.1 dX6_layInOrder_22 rfl (lv_at hl 2 rfl) ?_
  refine x_get S hK hP dX6_layInOrder_23 hX (by decide) (RX6, TX6, 9) rfl hin6 6 (by decide) fl42 rfl ?_
  refine lv_iload S.1 S.2.1 dX6_layInOrder_26 (lv_at hl 1 rfl) ?_
  refine lv_iload_n S.1 S.2.1 dX6_layInOrder_28 rfl (lv_at hl 3 rfl) ?_
  refine lv_iload_n S.1 S.2.1 dX6_layInOrder_29 rfl (lv_at hl 4 rfl) ?_
  refine lv_iadd S.1 S.2.1 dX6_layInOrder_30 ?_
  refine lv_iload_n S.1 S.2.1 dX6_layInOrder_31 rfl (lv_at hl 5 rfl) ?_
  refine lv_iadd S.1 S.2.1 dX6_layInOrder_32 ?_
  refine lv_iload S.1 S.2.1 dX6_layInOrder_33 (lv_at hl 1 rfl) ?_
  refine lv_isub S.1 S.2.1 dX6_layInOrder_35 ?_
  refine lv_iload S.1 S.2.1 dX6_layInOrder_36 (lv_at hl 0 rfl) ?_
  refine lv_isub S.1 S.2.1 dX6_layInOrder_38 ?_
  refine lv_iload S.1 S.2.1 dX6_layInOrder_39 (lv_at hl 0 rfl) ?_
  refine x_qv (va_runV (As := [.int (nI (min i (min j k))), .int (((((nI i) + (nI j)) + (nI k)) - (nI (min i (min j k)))) - (nI (max i (max j k)))), .int (nI (max i (max j k)))]) (rest := []) S (c_X0_lay l g hJ E hA _ _ _) (cwV 3 S.2.2.2.2 gX6_layInOrder_X0_lay rfl rfl rfl (by decide +kernel) ⟨Nat.le_of_ble_eq_true rfl, Nat.le_of_ble_eq_true rfl⟩) (x_preV hK hP hA (by decide) rfl) rfl rfl hl.1 rfl (lv_room (Nat.le_of_ble_eq_true rfl)) dX6_layInOrder_41 ⟨Nat.le_of_ble_eq_true rfl, Nat.le_of_ble_eq_true rfl⟩) hS (fun E1 H locs hq41 hP hS => ?_)
  rw [nI_mid (i := i) (j := j) (k := k) (a := min i (min j k)) (c := max i (max j k)) (by omega) (by omega)] at hq41
  exact x_vret S hr hlocks hP hS dX6_layInOrder_44 (⟨_, _, _, srt_of h1 h2 h3, hq41⟩)
theorem gcd_step {g s j P : Nat} (hs : 0 < s) (hg : j = 0 ∨ s < g) (hP : g * s * 2 ^ (j - 1) ≤ P) : s * (g % s) * 2 ^ (j + 1 - 1) ≤ P := by
  rcases Nat.eq_zero_or_pos j with h | h
  · subst h
    refine Nat.le_trans ?_ hP
    show s * (g % s) * 2 ^ 0 ≤ g * s * 2 ^ 0
    rw [Nat.mul_comm g s]
    exact Nat.mul_le_mul_right _ (Nat.mul_le_mul_left _ (Nat.mod_le _ _))
  · have hlt : s < g := by omega
    have h2 : 2 * (g % s) ≤ g := by
      have e := Nat.div_add_mod g s
      have h3 : g % s < s := Nat.mod_lt _ hs
      have h4 : 1 ≤ g / s := Nat.div_pos (by omega) hs
      have h5 : s * 1 ≤ s * (g / s) := Nat.mul_le_mul_left _ h4
      omega
    refine Nat.le_trans ?_ hP
    have e2 : j + 1 - 1 = (j - 1) + 1 := by omega
    rw [e2, Nat.pow_succ, Nat.mul_comm (2 ^ (j - 1)) 2, ← Nat.mul_assoc]
    refine Nat.mul_le_mul_right _ ?_
    rw [Nat.mul_assoc, Nat.mul_comm (g % s) 2, Nat.mul_comm g s]
    exact Nat.mul_le_mul_left _ h2
theorem gcd_end {g s P : Nat} (hs : 0 < s) (hg : s < g) (hP : g * s * 2 ^ 999 ≤ P) (hb : P < 2 ^ 126) : False := by
  have h1 : 1 * 2 ^ 999 ≤ g * s * 2 ^ 999 := Nat.mul_le_mul_right _ (Nat.mul_pos (by omega) hs)
  have h2 : (2 : Nat) ^ 126 ≤ 2 ^ 999 := Nat.pow_le_pow_right (by decide) (by decide)
  omega
theorem lN_0 : lN 0 = 0 := rfl
set_option maxHeartbeats 4000000 in
set_option maxRecDepth 100000 in
/-- commonDivisor -/
theorem c_X6_commonDivisor (l : Launch) (g : xG) (E : Nat → va_E) {a b : Nat} (ha : a < 2 ^ 63) (hb : b < 2 ^ 63) : Met l yX6_commonDivisor wsX6_commonDivisor ({ frames := 0, cells := 0, slots := 0, locals := 0 }) (xPc g [.long (lN a), .long (lN b)] E) (vp_Sl (fun r => r = lN (Nat.gcd a b))) 0 0 (fun _ => False) := by
  refine x_met (ws' := _) (by decide) rfl (Nat.le_of_ble_eq_true rfl) ?_
  intro pz ez s m below meth cz ls S hr hlocks hP hK hl
  have hl : lv_has ls 11 [(0, .long (lN a)), (2, .long (lN b))] := hl
  have hP0 : a * b < 2 ^ 126 := Nat.lt_of_lt_of_le (Nat.mul_lt_mul'' ha hb) (by decide)
  refine lv_lload_n S.1 S.2.1 dX6_commonDivisor_0 rfl (lv_at hl 0 rfl) ?_
  refine lv_lstore (lv' := [(4, .long (lN a)), (0, .long (lN a)), (2, .long (lN b))]) S.1 S.2.1 dX6_commonDivisor_1 hl (by decide) rfl (fun ls hl => ?_)
  refine lv_lload_n S.1 S.2.1 dX6_commonDivisor_3 rfl (lv_at hl 2 rfl) ?_
  refine lv_lstore (lv' := [(6, .long (lN b)), (4, .long (lN a)), (0, .long (lN a)), (2, .long (lN b))]) S.1 S.2.1 dX6_commonDivisor_4 hl (by decide) rfl (fun ls hl => ?_)
  refine lv_iconst (v := 0) S.1 S.2.1 dX6_commonDivisor_6 (by decide) ?_
  refine lv_istore (lv' := [(8, .int 0), (6, .long (lN b)), (4, .long (lN a)), (0, .long (lN a)), (2, .long (lN b))]) S.1 S.2.1 dX6_commonDivisor_7 hl (by decide) rfl (fun ls hl => ?_)
  have loop9 : ∀ (d : Nat) (g9 : Nat) (s9 : Nat) (j : Nat), (hg9 : g9 < 2 ^ 63) → (hs9 : s9 < 2 ^ 63) → (hgcd : Nat.gcd g9 s9 = Nat.gcd a b) → (hj : j ≤ 1000) → (hg : j = 0 ∨ s9 < g9) → (hP : g9 * s9 * 2 ^ (j - 1) ≤ a * b) → (1001 - j) < d → ∀ ls : Array Slot, lv_has ls 11 [(8, .int (nI j)), (6, .long (lN s9)), (4, .long (lN g9))] → W pz l ez ({ frames := 0, cells := 0, slots := 0, locals := 0 }) s m ([.long (lN a), .long (lN b)] : List Value).toArray below meth cz s.heap [] 0 0 (MQ below (vp_Sl (fun r => r = lN (Nat.gcd a b))) ([.long (lN a), .long (lN b)] : List Value).toArray s 0 0 (fun _ => False)) (F0 m 9 ls []) := by
    intro d
    induction d with
    | zero => intro g9 s9 j hg9 hs9 hgcd hj hg hP hd; exact absurd hd (Nat.not_lt_zero _)
    | succ d ih9 =>
      intro g9 s9 j hg9 hs9 hgcd hj hg hP hd ls hl
      refine lv_lload S.1 S.2.1 dX6_commonDivisor_9 (lv_at hl 1 rfl) ?_
      refine lv_lconst (v := 0) S.1 S.2.1 dX6_commonDivisor_11 rfl ?_
      refine W.lcmp S.1 S.2.1 dX6_commonDivisor_12 ?_
      refine lv_if_eq (tgt := 45) S.1 S.2.1 dX6_commonDivisor_13 (by decide) (fun c13 => ?_) (fun c13 => ?_)
      · skip
        refine lv_lload S.1 S.2.1 dX6_commonDivisor_45 (lv_at hl 2 rfl) ?_
        exact x_lretR S hr hlocks dX6_commonDivisor_47 (by first | (exact (gcd_end hs0 (by omega) (by have := (nI_leI (a := 1000) (b := j) (by omega) (by omega)).mp c21; rw [show j = 1000 by omega] at hP; exact hP) hP0).elim) | (have h0 := (lg_cmp_eq _ _).mp c13; rw [← lN_0, pk_lEQ (by omega) (by decide)] at h0; rw [← hgcd, h0, Nat.gcd_zero_right]))
      · skip
        have hs0 : 0 < s9 := by rcases Nat.eq_zero_or_pos s9 with h | h
          · subst h; exact absurd ((lg_cmp_eq _ _).mpr rfl) c13
          · exact h
        refine lv_iload S.1 S.2.1 dX6_commonDivisor_16 (lv_at hl 0 rfl) ?_
        refine lv_sipush (v := 1000) S.1 S.2.1 dX6_commonDivisor_18 (by decide) ?_
        refine lv_icmp_ge (tgt := 45) S.1 S.2.1 dX6_commonDivisor_21 (by decide) (fun c21 => ?_) (fun c21 => ?_)
        · skip
          refine lv_lload S.1 S.2.1 dX6_commonDivisor_45 (lv_at hl 2 rfl) ?_
          exact x_lretR S hr hlocks dX6_commonDivisor_47 (by first | (exact (gcd_end hs0 (by omega) (by have := (nI_leI (a := 1000) (b := j) (by omega) (by omega)).mp c21; rw [show j = 1000 by omega] at hP; exact hP) hP0).elim) | (have h0 := (lg_cmp_eq _ _).mp c13; rw [← lN_0, pk_lEQ (by omega) (by decide)] at h0; rw [← hgcd, h0, Nat.gcd_zero_right]))
        · skip
          have hj : j < 1000 := Nat.not_le.mp (fun h => c21 ((nI_leI (a := 1000) (by omega) (by omega)).mpr h))
          refine lv_lload S.1 S.2.1 dX6_commonDivisor_24 (lv_at hl 2 rfl) ?_
          refine lv_lload S.1 S.2.1 dX6_commonDivisor_26 (lv_at hl 1 rfl) ?_
          refine lv_lrem S.1 S.2.1 dX6_commonDivisor_28 (fun h => by rw [← lN_0, pk_lEQ (by omega) (by decide)] at h; omega) ?_
          refine W.eq (g2 := F0 m 29 ls [.long (lN (g9 % s9))]) (by rw [pk_lRem (by omega) hs0 (by omega)]) ?_
          refine lv_lstore (lv' := [(9, .long (lN (g9 % s9))), (8, .int (nI j)), (6, .long (lN s9)), (4, .long (lN g9))]) S.1 S.2.1 dX6_commonDivisor_29 hl (by decide) rfl (fun ls hl => ?_)
          refine lv_lload S.1 S.2.1 dX6_commonDivisor_31 (lv_at hl 2 rfl) ?_
          refine lv_lstore (lv' := [(4, .long (lN s9)), (9, .long (lN (g9 % s9))), (8, .int (nI j)), (6, .long (lN s9))]) S.1 S.2.1 dX6_commonDivisor_33 hl (by decide) rfl (fun ls hl => ?_)
          refine lv_lload S.1 S.2.1 dX6_commonDivisor_35 (lv_at hl 1 rfl) ?_
          refine lv_lstore (lv' := [(6, .long (lN (g9 % s9))), (4, .long (lN s9)), (9, .long (lN (g9 % s9))), (8, .int (nI j))]) S.1 S.2.1 dX6_commonDivisor_37 hl (by decide) rfl (fun ls hl => ?_)
          refine lv_iinc (v := nI (j + 1)) (lv' := [(8, .int (nI (j + 1))), (6, .long (lN (g9 % s9))), (4, .long (lN s9)), (9, .long (lN (g9 % s9)))]) S.1 S.2.1 dX6_commonDivisor_39 hl (k := 3) rfl (show nI j + Int32.ofInt 1 = _ from nI_1 _) (by decide) rfl (fun ls hl => ?_)
          refine lv_goto (tgt := 9) S.1 S.2.1 dX6_commonDivisor_42 (by decide) ?_
          exact ih9 s9 (g9 % s9) (j + 1) (by omega) (by have := Nat.mod_lt g9 hs0; omega) (by rw [← hgcd, Nat.gcd_comm g9 s9, Nat.gcd_rec s9 g9, Nat.gcd_comm]) (by omega) (Or.inr (Nat.mod_lt _ hs0)) (gcd_step hs0 hg hP) (by omega) ls (lv_sub hl [0, 1, 2] rfl)
  exact loop9 _ a b 0 ha hb rfl (Nat.zero_le _) (Or.inl rfl) (by rw [show (0 : Nat) - 1 = 0 from rfl, Nat.pow_zero, Nat.mul_one]; exact Nat.le_refl _) (Nat.lt_succ_self _) ls (lv_sub hl [0, 1, 2] rfl)
/-- a part of a fraction, in lowest terms; the lower number is above 0 -/
def prt (u : Int64) (b : Nat) (q : Int32) : Int64 := if q = 0 then u / lN (Nat.gcd u.toInt.natAbs b) + 10000000000 else lN b / lN (Nat.gcd u.toInt.natAbs b)
theorem abL_lN {u : Int64} (h : -9223372036854775808 < u.toInt) : (if 0 < u then u else -u) = lN u.toInt.natAbs := by
  apply Int64.toInt_inj.mp
  have hlt := Int64.toInt_lt u
  have h2 : (u.toInt.natAbs : Int) < 9223372036854775808 := by omega
  rw [pk_lT (by omega)]
  by_cases c : 0 < u
  · rw [if_pos c]
    have := L_pos.mp c
    omega
  · rw [if_neg c, Int64.toInt_neg, Int.bmod_eq_of_le (by omega) (by omega)]
    have : ¬ 0 < u.toInt := fun h => c (L_pos.mpr h)
    omega
theorem natAbs_lt {u : Int64} (h : -9223372036854775808 < u.toInt) : u.toInt.natAbs < 2 ^ 63 := by
  have hlt := Int64.toInt_lt u
  omega
set_option maxHeartbeats 4000000 in
set_option maxRecDepth 100000 in
theorem c_X6_partOf (l : Launch) (g : xG) (E : Nat → va_E) {u : Int64} {b : Nat} (q : Int32) (hu9 : -9223372036854775808 < u.toInt) (hb0 : 0 < b) (hb : b < 2 ^ 63) : Met l yX6_partOf wsX6_partOf ({ frames := 1, cells := 0, slots := 0, locals := 40 }) (xPc g [.long u, .long (lN b), .int q] E) (vp_Sl (fun r => r = prt u b q)) 0 0 (fun _ => False) := by
  refine x_met (ws' := _) (by decide) rfl (Nat.le_of_ble_eq_true rfl) ?_
  intro pz ez s m below meth cz ls S hr hlocks hP hK hl
  have hl : lv_has ls 7 [(0, .long u), (2, .long (lN b)), (4, .int q)] := hl
  refine lv_lconst (v := 1) S.1 S.2.1 dX6_partOf_0 rfl ?_
  refine lv_lload_n S.1 S.2.1 dX6_partOf_1 rfl (lv_at hl 0 rfl) ?_
  refine va_mabs_long S.1 S.2.1 (by rw [S.2.2.1]; exact hl.1.symm) S.2.2.2.1 (S.2.2.2.2 (.methodLink RX6 255 Lib.MathLoose.abs_long.x) (by decide +kernel)) (S.2.2.2.2 (.static Lib.MathLoose.abs_long.x) (by decide +kernel)) (S.2.2.2.2 (.initialized "java/lang/Math") (by decide +kernel)) (S.2.2.2.2 (.code Lib.MathLoose.abs_long.x Lib.MathLoose.abs_long.code 2 (some .long)) (by decide +kernel)) (Nat.le_of_ble_eq_true rfl) (Nat.le_of_ble_eq_true rfl) (Nat.le_of_ble_eq_true rfl) (Nat.le_of_ble_eq_true rfl) dX6_partOf_2 ?_
  refine lv_lload_n S.1 S.2.1 dX6_partOf_5 rfl (lv_at hl 1 rfl) ?_
  refine W.eq (g2 := F0 m 6 ls [.long (lN b), .long (lN u.toInt.natAbs), .long 1]) (by rw [abL_lN hu9]) ?_
  refine x_sl (va_runS (As := [.long (lN u.toInt.natAbs), .long (lN b)]) (rest := [.long 1]) S (c_X6_commonDivisor l g E (natAbs_lt hu9) hb) (va_cwS 2 S.2.2.2.2 gX6_partOf_X6_commonDivisor rfl rfl rfl (by decide +kernel) ⟨Nat.le_of_ble_eq_true rfl, Nat.le_of_ble_eq_true rfl⟩) (x_preS hK hP) rfl rfl hl.1 rfl (lv_room (Nat.le_of_ble_eq_true rfl)) dX6_partOf_6 ⟨Nat.le_of_ble_eq_true rfl, Nat.le_of_ble_eq_true rfl⟩) (fun r6 hr6 => ?_)
  have hd0 : 0 < Nat.gcd u.toInt.natAbs b := Nat.gcd_pos_of_pos_right _ hb0
  have hd1 : Nat.gcd u.toInt.natAbs b ≤ b := Nat.gcd_le_right _ hb0
  subst hr6
  refine va_mmax_long S.1 S.2.1 (by rw [S.2.2.1]; exact hl.1.symm) S.2.2.2.1 (S.2.2.2.2 (.methodLink RX6 263 Lib.MathLoose.max_long.x) (by decide +kernel)) (S.2.2.2.2 (.static Lib.MathLoose.max_long.x) (by decide +kernel)) (S.2.2.2.2 (.initialized "java/lang/Math") (by decide +kernel)) (S.2.2.2.2 (.code Lib.MathLoose.max_long.x Lib.MathLoose.max_long.code 4 (some .long)) (by decide +kernel)) (Nat.le_of_ble_eq_true rfl) (Nat.le_of_ble_eq_true rfl) (Nat.le_of_ble_eq_true rfl) (Nat.le_of_ble_eq_true rfl) dX6_partOf_9 ?_
  refine W.eq (g2 := F0 m 12 ls [.long (lN (Nat.gcd u.toInt.natAbs b))]) (by rw [if_neg (fun h => by rw [show (1 : Int64) = lN 1 from rfl, pk_lLT (by omega) (by omega)] at h; omega)]) ?_
  refine lv_lstore (lv' := [(5, .long (lN (Nat.gcd u.toInt.natAbs b))), (0, .long u), (2, .long (lN b)), (4, .int q)]) S.1 S.2.1 dX6_partOf_12 hl (by decide) rfl (fun ls hl => ?_)
  refine lv_iload S.1 S.2.1 dX6_partOf_14 (lv_at hl 3 rfl) ?_
  refine lv_if_ne (tgt := 30) S.1 S.2.1 dX6_partOf_16 (by decide) (fun c16 => ?_) (fun c16 => ?_)
  · skip
    refine lv_lload_n S.1 S.2.1 dX6_partOf_30 rfl (lv_at hl 2 rfl) ?_
    refine lv_lload S.1 S.2.1 dX6_partOf_31 (lv_at hl 0 rfl) ?_
    refine lv_ldiv S.1 S.2.1 dX6_partOf_33 (fun h => by rw [← lN_0, pk_lEQ (by omega) (by decide)] at h; omega) ?_
    exact x_lretR S hr hlocks dX6_partOf_34 (by unfold prt; first | rw [if_pos c16] | rw [if_neg c16])
  · skip
    refine lv_lload_n S.1 S.2.1 dX6_partOf_19 rfl (lv_at hl 1 rfl) ?_
    refine lv_lload S.1 S.2.1 dX6_partOf_20 (lv_at hl 0 rfl) ?_
    refine lv_ldiv S.1 S.2.1 dX6_partOf_22 (fun h => by rw [← lN_0, pk_lEQ (by omega) (by decide)] at h; omega) ?_
    refine lv_ldc2 S.1 S.2.1 S.2.2.2.1 (S.2.2.2.2 (.constantLong RX6 265 10000000000) (by decide +kernel)) dX6_partOf_23 ?_
    refine lv_ladd S.1 S.2.1 dX6_partOf_26 ?_
    refine lv_goto (tgt := 34) S.1 S.2.1 dX6_partOf_27 (by decide) ?_
    exact x_lretR S hr hlocks dX6_partOf_34 (by unfold prt; first | rw [if_pos c16] | rw [if_neg c16])
/-! SPINS: the numbers -/
theorem I_mul {a b : Int32} (h1 : -2147483648 ≤ a.toInt * b.toInt) (h2 : a.toInt * b.toInt < 2147483648) : (a * b).toInt = a.toInt * b.toInt := by
  rw [Int32.toInt_mul]
  exact Int.bmod_eq_of_le (by omega) (by omega)
theorem I_sub {a b : Int32} (h1 : -2147483648 ≤ a.toInt - b.toInt) (h2 : a.toInt - b.toInt < 2147483648) : (a - b).toInt = a.toInt - b.toInt := by
  rw [Int32.toInt_sub]
  exact Int.bmod_eq_of_le (by omega) (by omega)
theorem I_add {a b : Int32} (h1 : -2147483648 ≤ a.toInt + b.toInt) (h2 : a.toInt + b.toInt < 2147483648) : (a + b).toInt = a.toInt + b.toInt := by
  rw [Int32.toInt_add]
  exact Int.bmod_eq_of_le (by omega) (by omega)
theorem I_neg {a : Int32} (h1 : -2147483648 < a.toInt) : (-a).toInt = -a.toInt := by
  rw [Int32.toInt_neg]
  have := Int32.toInt_lt a
  exact Int.bmod_eq_of_le (by omega) (by omega)
theorem I_le {a b : Int32} : a ≤ b ↔ a.toInt ≤ b.toInt := Int32.le_iff_toInt_le
theorem I_lt {a b : Int32} : a < b ↔ a.toInt < b.toInt := Int32.lt_iff_toInt_lt
theorem I_eq {a b : Int32} : a = b ↔ a.toInt = b.toInt := Int32.toInt_inj.symm
theorem nI_Z {n : Nat} (h : n < 2 ^ 31) : (nI n).toInt = (n : Int) := nI_toInt h
/-- the remainder as the machine has it -/
theorem tdiv360 (z : Int) : z.tdiv 360 = if 0 ≤ z then z / 360 else -((-z) / 360) := by
  by_cases h : 0 ≤ z
  · rw [if_pos h, Int.tdiv_eq_ediv_of_nonneg h]
  · rw [if_neg h, ← Int.tdiv_eq_ediv_of_nonneg (show 0 ≤ -z by omega), Int.neg_tdiv, Int.neg_neg]
theorem rem360 {x : Int32} : (x - x / 360 * 360).toInt = if 0 ≤ x.toInt then x.toInt % 360 else -((-x.toInt) % 360) := by
  have h0 := Int32.toInt_lt x
  have h1 := Int32.le_toInt x
  have e360 : (360 : Int32).toInt = 360 := by decide
  have hd : (x / 360).toInt = x.toInt.tdiv 360 := by
    rw [Int32.toInt_div, e360, tdiv360]
    refine Int.bmod_eq_of_le ?_ ?_ <;> split <;> omega
  rw [tdiv360] at hd
  have hm : (x / 360 * 360).toInt = (x / 360).toInt * 360 := by
    rw [I_mul (by rw [hd, e360]; split <;> omega) (by rw [hd, e360]; split <;> omega), e360]
  rw [I_sub (by rw [hm, hd]; split <;> omega) (by rw [hm, hd]; split <;> omega), hm, hd]
  split <;> omega
theorem xor_neg {x : Int32} : x ^^^ 360 < 0 ↔ x < 0 := by
  have key : ∀ y : Int32, y < 0 ↔ y.toBitVec.msb = true := by
    intro y
    rw [Int32.lt_iff_toBitVec_slt, show (0 : Int32).toBitVec = 0#32 from rfl, BitVec.slt_zero_iff_msb]
  rw [key, key, Int32.toBitVec_xor, BitVec.msb_xor, show (360 : Int32).toBitVec.msb = false by decide, Bool.xor_false]
def fitZ (M : Nat → Nat → Int32) (t b : Int) (k : Nat) : Bool := decide ((b + t * (M 0 k).toInt - (M 4 k).toInt + (M 5 k).toInt) % 360 ≤ 2 * (M 5 k).toInt)
def pF (M : Nat → Nat → Int32) (t b : Int) (k : Nat) : Bool := pK M k && fitZ M t b k
def ssc (M : Nat → Nat → Int32) (n : Nat) (t b : Int) : Nat := cnt (pF M t b) n
def ordT (t : Int) : Int := if 0 < t then 2 * t - 1 else -2 * t
def inR (t b : Int) : Prop := (-179 ≤ t ∧ t ≤ 180) ∧ 0 ≤ b ∧ b < 360
/-- one spin is as good as another or better -/
def spB (M : Nat → Nat → Int32) (n : Nat) (t b t' b' : Int) : Prop := ssc M n t' b' ≤ ssc M n t b ∧ (ssc M n t' b' = ssc M n t b → ordT t < ordT t' ∨ (t = t' ∧ b ≤ b'))
def spTo (M : Nat → Nat → Int32) (n : Nat) (o t b : Int) : Prop := inR t b ∧ ordT t < o ∧ ∀ t' b', inR t' b' → ordT t' < o → spB M n t b t' b'
def isSpin (M : Nat → Nat → Int32) (n : Nat) (t b : Int) : Prop := inR t b ∧ ∀ t' b', inR t' b' → spB M n t b t' b'
theorem isSpin.uniq {M : Nat → Nat → Int32} {n : Nat} {t b t' b' : Int} (h : isSpin M n t b) (h' : isSpin M n t' b') : t = t' ∧ b = b' := by
  obtain ⟨a1, a2⟩ := h
  obtain ⟨b1, b2⟩ := h'
  obtain ⟨c1, c2⟩ := a2 t' b' b1
  obtain ⟨d1, d2⟩ := b2 t b a1
  have e := Nat.le_antisymm c1 d1
  rcases c2 e with x | ⟨x1, x2⟩ <;> rcases d2 e.symm with y | ⟨y1, y2⟩
  · omega
  · subst y1; omega
  · subst x1; omega
  · exact ⟨x1, by omega⟩
theorem ordT_inj {t t' : Int} (h : ordT t = ordT t') : t = t' := by
  unfold ordT at h
  split at h <;> split at h <;> omega
/-- where a photo begins to fit -/
def stZ (M : Nat → Nat → Int32) (t : Int) (k : Nat) : Int := ((M 4 k).toInt - (M 5 k).toInt - t * (M 0 k).toInt) % 360
theorem fit_down {n : Nat} {M : Nat → Nat → Int32} (hv : vld n M) {t b : Int} {k : Nat} (hk : k < n) (h : fitZ M t b k = true) (hb : 0 < b) (hb2 : b < 360) (hs : ¬ b = stZ M t k) : fitZ M t (b - 1) k = true := by
  obtain ⟨-, -, -, -, ⟨a1, a2⟩, ⟨e1, e2⟩, -⟩ := hv.1 k hk
  unfold stZ at hs
  have h := of_decide_eq_true h
  refine decide_eq_true ?_
  generalize t * (M 0 k).toInt = x at *
  generalize (M 4 k).toInt = a at *
  generalize (M 5 k).toInt = e at *
  omega
/-- a beginning that is worth a try -/
def cd (M : Nat → Nat → Int32) (t : Int) (q : Nat) (c : Int) : Prop := c = 0 ∨ ∃ k, k < q ∧ pK M k = true ∧ c = stZ M t k
theorem cnt_mono {P Q : Nat → Bool} {n : Nat} (h : ∀ k, k < n → P k = true → Q k = true) : cnt P n ≤ cnt Q n := by
  induction n with
  | zero => exact Nat.le_refl _
  | succ n ih =>
    have h1 := ih fun k hk => h k (by omega)
    unfold cnt
    by_cases hp : P n = true
    · rw [if_pos hp, if_pos (h n (by omega) hp)]
      omega
    · rw [if_neg hp]
      split <;> omega
theorem cd_all {n : Nat} {M : Nat → Nat → Int32} (hv : vld n M) (t : Int) : ∀ d : Nat, d < 360 → ∃ c, cd M t n c ∧ 0 ≤ c ∧ c ≤ (d : Int) ∧ ssc M n t d ≤ ssc M n t c := by
  intro d
  induction d with
  | zero => intro _; exact ⟨0, Or.inl rfl, by omega, by omega, Nat.le_refl _⟩
  | succ d ih =>
    intro hd
    by_cases h : ∃ k, k < n ∧ pK M k = true ∧ ((d + 1 : Nat) : Int) = stZ M t k
    · exact ⟨((d + 1 : Nat) : Int), Or.inr h, by omega, by omega, Nat.le_refl _⟩
    · obtain ⟨c, c1, c2, c3, c4⟩ := ih (by omega)
      refine ⟨c, c1, c2, by omega, Nat.le_trans (cnt_mono fun k hk hp => ?_) c4⟩
      unfold pF at hp ⊢
      rw [Bool.and_eq_true] at hp ⊢
      refine ⟨hp.1, ?_⟩
      have := fit_down hv hk hp.2 (by omega) (by omega) (fun e => h ⟨k, hk, hp.1, e⟩)
      rw [show ((d + 1 : Nat) : Int) - 1 = (d : Int) by omega] at this
      exact this
/-- in the midst of a turn: the beginnings of q photos are tried -/
def spM (M : Nat → Nat → Int32) (n : Nat) (t : Int) (q : Nat) (T B : Int) : Prop := inR T B ∧ ordT T ≤ ordT t ∧ (∀ t' b', inR t' b' → ordT t' < ordT t → spB M n T B t' b') ∧ ∀ c, cd M t q c → spB M n T B t c
theorem spM.fin {M : Nat → Nat → Int32} {n : Nat} {t T B : Int} (hv : vld n M) (h : spM M n t n T B) : spTo M n (ordT t + 1) T B := by
  obtain ⟨h1, h2, h3, h4⟩ := h
  refine ⟨h1, by omega, fun t' b' hr ho => ?_⟩
  by_cases e : ordT t' < ordT t
  · exact h3 t' b' hr e
  · have e2 : t' = t := ordT_inj (by omega)
    subst e2
    obtain ⟨c, c1, c2, c3, c4⟩ := cd_all hv t' b'.toNat (by have := hr.2; omega)
    rw [show ((b'.toNat : Nat) : Int) = b' by have := hr.2; omega] at c3 c4
    obtain ⟨d1, d2⟩ := h4 c c1
    refine ⟨by omega, fun e3 => ?_⟩
    rcases d2 (by omega) with g | ⟨g1, g2⟩
    · exact Or.inl g
    · exact Or.inr ⟨g1, by omega⟩
/-- a beginning is tried, and taken -/
theorem spM.take {M : Nat → Nat → Int32} {n q q' : Nat} {t c T B : Int} (h : spM M n t q T B) (hr : inR t c) (hq : ∀ c', cd M t q' c' → cd M t q c' ∨ c' = c) (hw : ssc M n T B < ssc M n t c ∨ (ssc M n t c = ssc M n T B ∧ t = T ∧ c < B)) : spM M n t q' t c := by
  obtain ⟨h1, h2, h3, h4⟩ := h
  refine ⟨hr, Int.le_refl _, fun t' b' hr' ho => ?_, fun c' hc' => ?_⟩
  · obtain ⟨d1, d2⟩ := h3 t' b' hr' ho
    refine ⟨by omega, fun e => ?_⟩
    rcases hw with w | ⟨w1, w2, w3⟩
    · omega
    · subst w2
      rcases d2 (by omega) with g | ⟨g, -⟩
      · omega
      · subst g; omega
  · rcases hq c' hc' with g | g
    · obtain ⟨d1, d2⟩ := h4 c' g
      refine ⟨by omega, fun e => Or.inr ⟨rfl, ?_⟩⟩
      rcases hw with w | ⟨w1, w2, w3⟩
      · omega
      · subst w2
        rcases d2 (by omega) with g2 | ⟨-, g2⟩
        · omega
        · omega
    · subst g
      exact ⟨Nat.le_refl _, fun _ => Or.inr ⟨rfl, Int.le_refl _⟩⟩
/-- a beginning is tried, and not taken -/
theorem spM.pass {M : Nat → Nat → Int32} {n q q' : Nat} {t c T B : Int} (h : spM M n t q T B) (hq : ∀ c', cd M t q' c' → cd M t q c' ∨ c' = c) (hw : ¬ (ssc M n T B < ssc M n t c ∨ (ssc M n t c = ssc M n T B ∧ t = T ∧ c < B))) : spM M n t q' T B := by
  obtain ⟨h1, h2, h3, h4⟩ := h
  refine ⟨h1, h2, h3, fun c' hc' => ?_⟩
  rcases hq c' hc' with g | g
  · exact h4 c' g
  · subst g
    refine ⟨by omega, fun e => ?_⟩
    by_cases e2 : t = T
    · subst e2
      exact Or.inr ⟨rfl, by omega⟩
    · refine Or.inl ?_
      have : ¬ ordT T = ordT t := fun e3 => e2 (ordT_inj e3.symm)
      omega
theorem cd_next {M : Nat → Nat → Int32} {t : Int} {q : Nat} (c' : Int) (h : cd M t (q + 1) c') : cd M t q c' ∨ c' = stZ M t q := by
  rcases h with h | ⟨k, h1, h2, h3⟩
  · exact Or.inl (Or.inl h)
  · by_cases e : k = q
    · subst e; exact Or.inr h3
    · exact Or.inl (Or.inr ⟨k, by omega, h2, h3⟩)
theorem cd_skip {M : Nat → Nat → Int32} {t : Int} {q : Nat} (hp : ¬ pK M q = true) (c' : Int) (h : cd M t (q + 1) c') : cd M t q c' := by
  rcases h with h | ⟨k, h1, h2, h3⟩
  · exact Or.inl h
  · by_cases e : k = q
    · subst e; exact absurd h2 hp
    · exact Or.inr ⟨k, by omega, h2, h3⟩
theorem spM.skip {M : Nat → Nat → Int32} {n q : Nat} {t T B : Int} (h : spM M n t q T B) (hp : ¬ pK M q = true) : spM M n t (q + 1) T B := ⟨h.1, h.2.1, h.2.2.1, fun c hc => h.2.2.2 c (cd_skip hp c hc)⟩
theorem cd_0 {M : Nat → Nat → Int32} {t c : Int} (h : cd M t 0 c) : c = 0 := by
  rcases h with h | ⟨k, h1, -⟩
  · exact h
  · omega
/-- the first beginning of a turn -/
theorem spM.first_take {M : Nat → Nat → Int32} {n : Nat} {t T B : Int} (h : spTo M n (ordT t) T B) (ht : -179 ≤ t ∧ t ≤ 180) (hw : ssc M n T B < ssc M n t 0) : spM M n t 0 t 0 := by
  obtain ⟨h1, h2, h3⟩ := h
  refine ⟨⟨ht, by omega, by omega⟩, Int.le_refl _, fun t' b' hr ho => ?_, fun c hc => ?_⟩
  · obtain ⟨d1, d2⟩ := h3 t' b' hr ho
    exact ⟨by omega, fun e => by omega⟩
  · rw [cd_0 hc]
    exact ⟨Nat.le_refl _, fun _ => Or.inr ⟨rfl, Int.le_refl _⟩⟩
theorem spM.first_pass {M : Nat → Nat → Int32} {n : Nat} {t T B : Int} (h : spTo M n (ordT t) T B) (hw : ¬ ssc M n T B < ssc M n t 0) : spM M n t 0 T B := by
  obtain ⟨h1, h2, h3⟩ := h
  refine ⟨h1, by omega, h3, fun c hc => ?_⟩
  rw [cd_0 hc]
  exact ⟨by omega, fun _ => Or.inl h2⟩
theorem spM.zero {M : Nat → Nat → Int32} {n : Nat} : spM M n 0 0 0 0 := by
  refine ⟨⟨by omega, by omega, by omega⟩, Int.le_refl _, fun t' b' hr ho => ?_, fun c hc => ?_⟩
  · exfalso
    unfold ordT at ho
    split at ho <;> split at ho <;> omega
  · rw [cd_0 hc]
    exact ⟨Nat.le_refl _, fun _ => Or.inr ⟨rfl, Int.le_refl _⟩⟩
/-- when all fit, no later turn is better -/
theorem spTo.all {M : Nat → Nat → Int32} {n : Nat} {o T B : Int} (h : spTo M n o T B) (hf : mk (pF M T B) n = mk (pK M) n) : isSpin M n T B := by
  obtain ⟨h1, h2, h3⟩ := h
  refine ⟨h1, fun t' b' hr => ?_⟩
  by_cases e : ordT t' < o
  · exact h3 t' b' hr e
  · have hm : ssc M n T B = cnt (pK M) n := cnt_congr fun k hk => mk_iff.mp hf k hk
    have hle : ssc M n t' b' ≤ cnt (pK M) n := cnt_mono fun k _ hp => by
      unfold pF at hp
      rw [Bool.and_eq_true] at hp
      exact hp.1
    exact ⟨by omega, fun _ => Or.inl (by omega)⟩
theorem spTo.done {M : Nat → Nat → Int32} {n : Nat} {o T B : Int} (h : spTo M n o T B) (ho : 360 ≤ o) : isSpin M n T B := by
  obtain ⟨h1, h2, h3⟩ := h
  refine ⟨h1, fun t' b' hr => h3 t' b' hr ?_⟩
  obtain ⟨⟨r1, r2⟩, -⟩ := hr
  unfold ordT
  split <;> omega
theorem near_iff {r A e ap mn : Int32} {X : Int} (hr : r.toInt = X % 360) (hA : 0 ≤ A.toInt ∧ A.toInt < 360) (he : 0 ≤ e.toInt ∧ e.toInt ≤ 60) (hap : ap = if 0 ≤ r - A then r - A else 0 - (r - A)) (hmn : mn = if 360 - ap < ap then 360 - ap else ap) : mn ≤ e ↔ (X - A.toInt + e.toInt) % 360 ≤ 2 * e.toInt := by
  have e360 : (360 : Int32).toInt = 360 := by decide
  have e0 : (0 : Int32).toInt = 0 := by decide
  have h1 : (r - A).toInt = r.toInt - A.toInt := I_sub (by omega) (by omega)
  have h2 : ap.toInt = if 0 ≤ r.toInt - A.toInt then r.toInt - A.toInt else -(r.toInt - A.toInt) := by
    rw [hap]
    by_cases c : 0 ≤ r - A
    · rw [if_pos c, if_pos (by rw [I_le, e0, h1] at c; exact c), h1]
    · rw [if_neg c, if_neg (by rw [I_le, e0, h1] at c; exact c), I_sub (by omega) (by omega), e0, h1]
      omega
  have h4 : -1000 < ap.toInt ∧ ap.toInt < 1000 := by rw [h2]; split <;> omega
  have h3 : (360 - ap).toInt = 360 - ap.toInt := by rw [I_sub (by omega) (by omega), e360]
  have h5 : mn.toInt = if 360 - ap.toInt < ap.toInt then 360 - ap.toInt else ap.toInt := by
    rw [hmn]
    by_cases c : 360 - ap < ap
    · rw [if_pos c, if_pos (by rw [I_lt, h3] at c; exact c), h3]
    · rw [if_neg c, if_neg (by rw [I_lt, h3] at c; exact c)]
  rw [I_le, h5]
  clear h5 h3 hmn hap h1
  split at h2 <;> split <;> omega
theorem pK_A {n : Nat} {M : Nat → Nat → Int32} (hv : vld n M) {k : Nat} (hk : k < n) (h : pK M k = true) : 0 ≤ (M 4 k).toInt ∧ (M 4 k).toInt < 360 := by
  obtain ⟨-, -, -, -, ⟨a1, a2⟩, -⟩ := hv.1 k hk
  have h2 := (of_decide_eq_true h).2
  rw [I_eq, show (360 : Int32).toInt = 360 by decide] at h2
  omega
theorem sub_nI_pos {a b : Nat} (ha : a ≤ 10) (hb : b ≤ 10) : 0 < nI a - nI b ↔ b < a := by
  rw [I_lt, pk_sub_toInt (by omega) (by omega), show (0 : Int32).toInt = 0 by decide]
  omega
theorem sub_nI_0 {a b : Nat} (ha : a ≤ 10) (hb : b ≤ 10) : nI a - nI b = 0 ↔ a = b := by
  rw [I_eq, pk_sub_toInt (by omega) (by omega), show (0 : Int32).toInt = 0 by decide]
  omega
/-! SPIN: the class's turning at the place 64 -/
theorem fm_neg {x y : Int32} (h : y = x - x / 360 * 360) (h1 : ¬ 0 ≤ x ^^^ 360) (h2 : ¬ y = 0) : (y + 360).toInt = x.toInt % 360 := by
  have hx : x < 0 := xor_neg.mp (Int32.not_le.mp h1)
  have e0 : (0 : Int32).toInt = 0 := by decide
  have e360 : (360 : Int32).toInt = 360 := by decide
  rw [I_lt, e0] at hx
  have hy : y.toInt = -((-x.toInt) % 360) := by rw [h, rem360, if_neg (by omega)]
  rw [I_eq, e0] at h2
  rw [I_add (by omega) (by omega), e360]
  omega
theorem fm_pos {x y : Int32} (h : y = x - x / 360 * 360) (h1 : 0 ≤ x ^^^ 360) : y.toInt = x.toInt % 360 := by
  have hx : ¬ x < 0 := fun g => absurd (xor_neg.mpr g) (Int32.not_lt.mpr h1)
  have e0 : (0 : Int32).toInt = 0 := by decide
  rw [I_lt, e0] at hx
  rw [h, rem360, if_pos (by omega)]
theorem fm_zero {x y : Int32} (h : y = x - x / 360 * 360) (h2 : y = 0) : y.toInt = x.toInt % 360 := by
  have e0 : (0 : Int32).toInt = 0 := by decide
  have h3 : y.toInt = 0 := by rw [h2]; exact e0
  rw [h3]
  rw [h, rem360] at h3
  split at h3 <;> omega
set_option maxHeartbeats 4000000 in
set_option maxRecDepth 100000 in
theorem c_J9_floorMod_7cf53 (l : Launch) (g : xG) (E : Nat → va_E) (x : Int32) : Met l yJ9_floorMod_7cf53 wsJ9_floorMod_7cf53 ({ frames := 0, cells := 0, slots := 0, locals := 0 }) (xPc g [.int x, .int 360] E) (vp_Si (fun r => r.toInt = x.toInt % 360)) 0 0 (fun _ => False) := by
  refine x_met (ws' := _) (by decide) rfl (Nat.le_of_ble_eq_true rfl) ?_
  intro pz ez s m below meth cz ls S hr hlocks hP hK hl
  have hl : lv_has ls 3 [(0, .int x), (1, .int 360)] := hl
  refine lv_iload_n S.1 S.2.1 dJ9_floorMod_7cf53_0 rfl (lv_at hl 0 rfl) ?_
  refine lv_iload_n S.1 S.2.1 dJ9_floorMod_7cf53_1 rfl (lv_at hl 1 rfl) ?_
  refine lv_irem S.1 S.2.1 dJ9_floorMod_7cf53_2 (by decide) ?_
  refine lv_topi (fun x3 ex3 => ?_)
  refine lv_istore_n (lv' := [(2, .int x3), (0, .int x), (1, .int 360)]) S.1 S.2.1 dJ9_floorMod_7cf53_3 rfl hl (by decide) rfl (fun ls hl => ?_)
  refine lv_iload_n S.1 S.2.1 dJ9_floorMod_7cf53_4 rfl (lv_at hl 1 rfl) ?_
  refine lv_iload_n S.1 S.2.1 dJ9_floorMod_7cf53_5 rfl (lv_at hl 2 rfl) ?_
  refine lv_ixor S.1 S.2.1 dJ9_floorMod_7cf53_6 ?_
  refine lv_if_ge (tgt := 18) S.1 S.2.1 dJ9_floorMod_7cf53_7 (by decide) (fun c7 => ?_) (fun c7 => ?_)
  · skip
    refine lv_iload_n S.1 S.2.1 dJ9_floorMod_7cf53_18 rfl (lv_at hl 0 rfl) ?_
    exact x_iretR S hr hlocks dJ9_floorMod_7cf53_19 (by first | exact fm_pos ex3 c7 | exact fm_zero ex3 c11)
  · skip
    refine lv_iload_n S.1 S.2.1 dJ9_floorMod_7cf53_10 rfl (lv_at hl 0 rfl) ?_
    refine lv_if_eq (tgt := 18) S.1 S.2.1 dJ9_floorMod_7cf53_11 (by decide) (fun c11 => ?_) (fun c11 => ?_)
    · skip
      refine lv_iload_n S.1 S.2.1 dJ9_floorMod_7cf53_18 rfl (lv_at hl 0 rfl) ?_
      exact x_iretR S hr hlocks dJ9_floorMod_7cf53_19 (by first | exact fm_pos ex3 c7 | exact fm_zero ex3 c11)
    · skip
      refine lv_iload_n S.1 S.2.1 dJ9_floorMod_7cf53_14 rfl (lv_at hl 0 rfl) ?_
      refine lv_iload_n S.1 S.2.1 dJ9_floorMod_7cf53_15 rfl (lv_at hl 2 rfl) ?_
      refine lv_iadd S.1 S.2.1 dJ9_floorMod_7cf53_16 ?_
      exact x_iretR S hr hlocks dJ9_floorMod_7cf53_17 (fm_neg ex3 c7 c11)
theorem ang_arg {t b u : Int32} (ht : -180 ≤ t.toInt ∧ t.toInt ≤ 180) (hb : -100 ≤ b.toInt ∧ b.toInt ≤ 360) (hu : 0 ≤ u.toInt ∧ u.toInt ≤ 99) : (b + t * u).toInt = b.toInt + t.toInt * u.toInt := by
  have g := prod_bound (a := t.toInt) (b := u.toInt) (B := 180) (C := 99) (by omega) (by omega) (by omega) (by omega)
  have h := I_mul (a := t) (b := u) (by omega) (by omega)
  rw [I_add (by omega) (by omega), h]
set_option maxHeartbeats 4000000 in
set_option maxRecDepth 100000 in
theorem c_X3_angleOf (l : Launch) (g : xG) (E : Nat → va_E) {t b u : Int32} (ht : -180 ≤ t.toInt ∧ t.toInt ≤ 180) (hb : -100 ≤ b.toInt ∧ b.toInt ≤ 360) (hu : 0 ≤ u.toInt ∧ u.toInt ≤ 99) : Met l yX3_angleOf wsX3_angleOf ({ frames := 1, cells := 0, slots := 0, locals := 22 }) (xPc g [.int t, .int b, .int u] E) (vp_Si (fun r => r.toInt = (b.toInt + t.toInt * u.toInt) % 360)) 0 0 (fun _ => False) := by
  refine x_met (ws' := _) (by decide) rfl (Nat.le_of_ble_eq_true rfl) ?_
  intro pz ez s m below meth cz ls S hr hlocks hP hK hl
  have hl : lv_has ls 3 [(0, .int t), (1, .int b), (2, .int u)] := hl
  refine lv_iload_n S.1 S.2.1 dX3_angleOf_0 rfl (lv_at hl 1 rfl) ?_
  refine lv_iload_n S.1 S.2.1 dX3_angleOf_1 rfl (lv_at hl 0 rfl) ?_
  refine lv_iload_n S.1 S.2.1 dX3_angleOf_2 rfl (lv_at hl 2 rfl) ?_
  refine lv_imul S.1 S.2.1 dX3_angleOf_3 ?_
  refine lv_iadd S.1 S.2.1 dX3_angleOf_4 ?_
  refine lv_sipush (v := 360) S.1 S.2.1 dX3_angleOf_5 (by decide) ?_
  refine x_si (va_runS (As := [.int (b + (t * u)), .int 360]) (rest := []) S (c_J9_floorMod_7cf53 l g E (b + t * u)) (va_cwS 2 S.2.2.2.2 gX3_angleOf_J9_floorMod_7cf53 rfl rfl rfl (by decide +kernel) ⟨Nat.le_of_ble_eq_true rfl, Nat.le_of_ble_eq_true rfl⟩) (x_preS hK hP) rfl rfl hl.1 rfl (lv_room (Nat.le_of_ble_eq_true rfl)) dX3_angleOf_8 ⟨Nat.le_of_ble_eq_true rfl, Nat.le_of_ble_eq_true rfl⟩) (fun r8 hr8 => ?_)
  exact x_iretR S hr hlocks dX3_angleOf_11 (by rw [hr8, ang_arg ht hb hu])
set_option maxHeartbeats 4000000 in
set_option maxRecDepth 100000 in
theorem c_X3_isNear (l : Launch) (g : xG) (E : Nat → va_E) {T B F : Int32} (hZ : E 64 = .inr (3, [.ref (xad g 1), .int T, .int B, .int F])) {n : Nat} {M : Nat → Nat → Int32} (hp : ePh g E 1 n M) (hv : vld n M) {t b : Int32} (ht : -179 ≤ t.toInt ∧ t.toInt ≤ 180) (hb : 0 ≤ b.toInt ∧ b.toInt < 360) {k : Nat} (hk : k < n) (hm : pK M k = true) : Met l yX3_isNear wsX3_isNear ({ frames := 2, cells := 0, slots := 0, locals := 44 }) (xPc g [.ref (xad g 64), .int (nI k), .int t, .int b] E) (vp_Si (xb (fitZ M t.toInt b.toInt k = true))) 0 0 (fun _ => False) := by
  refine x_met (ws' := _) (by decide) rfl (Nat.le_of_ble_eq_true rfl) ?_
  intro pz ez s m below meth cz ls S hr hlocks hP hK hl
  have hl : lv_has ls 6 [(0, .ref (xad g 64)), (1, .int (nI k)), (2, .int t), (3, .int b)] := hl
  have hin2 : ∀ w ∈ u_ws RX2 TX2 2, w ∈ wsX3_isNear := by decide +kernel
  have hin3 : ∀ w ∈ u_ws RX3 TX3 4, w ∈ wsX3_isNear := by decide +kernel
  have fl9 : Cond.fieldLink RX3 9 "DiscArcs$Spin" "photos" "LDiscArcs$Photos;" ∈ wsX3_isNear := by decide +kernel
  have fl35 : Cond.fieldLink RX3 35 "DiscArcs$Photos" "rows" "[[I" ∈ wsX3_isNear := by decide +kernel
  have h0 := hp.1
  refine lv_iload_n S.1 S.2.1 dX3_isNear_0 rfl (lv_at hl 2 rfl) ?_
  refine lv_iload_n S.1 S.2.1 dX3_isNear_1 rfl (lv_at hl 3 rfl) ?_
  refine lv_aload_n S.1 S.2.1 dX3_isNear_2 rfl (lv_at hl 0 rfl) ?_
  refine x_get S hK hP dX3_isNear_3 hZ (by decide) (RX3, TX3, 4) rfl hin3 0 (by decide) fl9 rfl ?_
  refine x_get S hK hP dX3_isNear_6 hp.2.1 (by decide) (RX2, TX2, 2) rfl hin2 0 (by decide) fl35 rfl ?_
  refine lv_iconst (v := 0) S.1 S.2.1 dX3_isNear_9 (by decide) ?_
  refine x_row S hK hP dX3_isNear_10 hp 0 rfl (by omega) ?_
  refine lv_iload_n S.1 S.2.1 dX3_isNear_11 rfl (lv_at hl 1 rfl) ?_
  refine x_val S hK hP dX3_isNear_12 hp (w := 0) k rfl (by omega) (by omega) ?_
  refine x_si (va_runS (As := [.int t, .int b, .int (M 0 k)]) (rest := []) S (c_X3_angleOf l g E (t := t) (b := b) (by omega) (by omega) (hv.1 k hk).1) (va_cwS 3 S.2.2.2.2 gX3_isNear_X3_angleOf rfl rfl rfl (by decide +kernel) ⟨Nat.le_of_ble_eq_true rfl, Nat.le_of_ble_eq_true rfl⟩) (x_preS hK hP) rfl rfl hl.1 rfl (lv_room (Nat.le_of_ble_eq_true rfl)) dX3_isNear_13 ⟨Nat.le_of_ble_eq_true rfl, Nat.le_of_ble_eq_true rfl⟩) (fun r13 hr13 => ?_)
  refine lv_istore (lv' := [(4, .int r13), (0, .ref (xad g 64)), (1, .int (nI k)), (2, .int t), (3, .int b)]) S.1 S.2.1 dX3_isNear_16 hl (by decide) rfl (fun ls hl => ?_)
  refine lv_iload S.1 S.2.1 dX3_isNear_18 (lv_at hl 0 rfl) ?_
  refine lv_aload_n S.1 S.2.1 dX3_isNear_20 rfl (lv_at hl 1 rfl) ?_
  refine x_get S hK hP dX3_isNear_21 hZ (by decide) (RX3, TX3, 4) rfl hin3 0 (by decide) fl9 rfl ?_
  refine x_get S hK hP dX3_isNear_24 hp.2.1 (by decide) (RX2, TX2, 2) rfl hin2 0 (by decide) fl35 rfl ?_
  refine lv_iconst (v := 4) S.1 S.2.1 dX3_isNear_27 (by decide) ?_
  refine x_row S hK hP dX3_isNear_28 hp 4 rfl (by omega) ?_
  refine lv_iload_n S.1 S.2.1 dX3_isNear_29 rfl (lv_at hl 2 rfl) ?_
  refine x_val S hK hP dX3_isNear_30 hp (w := 4) k rfl (by omega) (by omega) ?_
  refine lv_isub S.1 S.2.1 dX3_isNear_31 ?_
  refine va_mabs S.1 S.2.1 (by rw [S.2.2.1]; exact hl.1.symm) S.2.2.2.1 (S.2.2.2.2 (.methodLink RX3 43 Lib.Math.abs.name) (by decide +kernel)) (S.2.2.2.2 (.static Lib.Math.abs.name) (by decide +kernel)) (S.2.2.2.2 (.initialized "java/lang/Math") (by decide +kernel)) (S.2.2.2.2 (.code Lib.Math.abs.name Lib.Math.abs.code 1 (some .int)) (by decide +kernel)) (Nat.le_of_ble_eq_true rfl) (Nat.le_of_ble_eq_true rfl) (Nat.le_of_ble_eq_true rfl) (Nat.le_of_ble_eq_true rfl) dX3_isNear_32 ?_
  refine lv_topi (fun x35 ex35 => ?_)
  refine lv_istore (lv' := [(5, .int x35), (4, .int r13), (0, .ref (xad g 64)), (1, .int (nI k)), (2, .int t), (3, .int b)]) S.1 S.2.1 dX3_isNear_35 hl (by decide) rfl (fun ls hl => ?_)
  refine lv_iload S.1 S.2.1 dX3_isNear_37 (lv_at hl 0 rfl) ?_
  refine lv_sipush (v := 360) S.1 S.2.1 dX3_isNear_39 (by decide) ?_
  refine lv_iload S.1 S.2.1 dX3_isNear_42 (lv_at hl 0 rfl) ?_
  refine lv_isub S.1 S.2.1 dX3_isNear_44 ?_
  refine va_mmin S.1 S.2.1 (by rw [S.2.2.1]; exact hl.1.symm) S.2.2.2.1 (S.2.2.2.2 (.methodLink RX3 47 Lib.Math.min.name) (by decide +kernel)) (S.2.2.2.2 (.static Lib.Math.min.name) (by decide +kernel)) (S.2.2.2.2 (.initialized "java/lang/Math") (by decide +kernel)) (S.2.2.2.2 (.code Lib.Math.min.name Lib.Math.min.code 2 (some .int)) (by decide +kernel)) (Nat.le_of_ble_eq_true rfl) (Nat.le_of_ble_eq_true rfl) (Nat.le_of_ble_eq_true rfl) (Nat.le_of_ble_eq_true rfl) dX3_isNear_45 ?_
  refine lv_aload_n S.1 S.2.1 dX3_isNear_48 rfl (lv_at hl 2 rfl) ?_
  refine x_get S hK hP dX3_isNear_49 hZ (by decide) (RX3, TX3, 4) rfl hin3 0 (by decide) fl9 rfl ?_
  refine x_get S hK hP dX3_isNear_52 hp.2.1 (by decide) (RX2, TX2, 2) rfl hin2 0 (by decide) fl35 rfl ?_
  refine lv_iconst (v := 5) S.1 S.2.1 dX3_isNear_55 (by decide) ?_
  refine x_row S hK hP dX3_isNear_56 hp 5 rfl (by omega) ?_
  refine lv_iload_n S.1 S.2.1 dX3_isNear_57 rfl (lv_at hl 3 rfl) ?_
  refine x_val S hK hP dX3_isNear_58 hp (w := 5) k rfl (by omega) (by omega) ?_
  refine lv_icmp_gt (tgt := 66) S.1 S.2.1 dX3_isNear_59 (by decide) (fun c59 => ?_) (fun c59 => ?_)
  · skip
    refine lv_iconst (v := 0) S.1 S.2.1 dX3_isNear_66 (by decide) ?_
    exact x_zretR S hr hlocks dX3_isNear_67 (xb.zero (fun h => absurd c59 (Int32.not_lt.mpr ((near_iff hr13 (pK_A hv hk hm) (hv.1 k hk).2.2.2.2.2.1 (ex35.trans (by rw [ex16])) rfl).mpr (of_decide_eq_true h)))))
  · skip
    refine lv_iconst (v := 1) S.1 S.2.1 dX3_isNear_62 (by decide) ?_
    refine lv_goto (tgt := 67) S.1 S.2.1 dX3_isNear_63 (by decide) ?_
    exact x_zretR S hr hlocks dX3_isNear_67 (xb.one (decide_eq_true ((near_iff hr13 (pK_A hv hk hm) (hv.1 k hk).2.2.2.2.2.1 (ex35.trans (by rw [ex16])) rfl).mp (Int32.not_lt.mp c59))))
theorem pF_t {M : Nat → Nat → Int32} {t b : Int} {k : Nat} (h : pF M t b k = true) : pK M k = true ∧ fitZ M t b k = true := by
  unfold pF at h
  rw [Bool.and_eq_true] at h
  exact h
theorem pF_of {M : Nat → Nat → Int32} {t b : Int} {k : Nat} (h1 : pK M k = true) (h2 : fitZ M t b k = true) : pF M t b k = true := by
  unfold pF
  rw [h1, h2]
  rfl
set_option maxHeartbeats 4000000 in
set_option maxRecDepth 100000 in
theorem c_X3_fittedBy (l : Launch) (g : xG) (E : Nat → va_E) {T B F : Int32} (hZ : E 64 = .inr (3, [.ref (xad g 1), .int T, .int B, .int F])) {n : Nat} {M : Nat → Nat → Int32} (hp : ePh g E 1 n M) (hv : vld n M) {t b : Int32} (ht : -179 ≤ t.toInt ∧ t.toInt ≤ 180) (hb : 0 ≤ b.toInt ∧ b.toInt < 360)  : Met l yX3_fittedBy wsX3_fittedBy ({ frames := 3, cells := 0, slots := 0, locals := 69 }) (xPc g [.ref (xad g 64), .int t, .int b] E) (vp_Si (fun r => r = nI (mk (pF M t.toInt b.toInt) n))) 0 0 (fun _ => False) := by
  refine x_met (ws' := _) (by decide) rfl (Nat.le_of_ble_eq_true rfl) ?_
  intro pz ez s m below meth cz ls S hr hlocks hP hK hl
  have hl : lv_has ls 5 [(0, .ref (xad g 64)), (1, .int t), (2, .int b)] := hl
  have hin2 : ∀ w ∈ u_ws RX2 TX2 2, w ∈ wsX3_fittedBy := by decide +kernel
  have hin3 : ∀ w ∈ u_ws RX3 TX3 4, w ∈ wsX3_fittedBy := by decide +kernel
  have fl9 : Cond.fieldLink RX3 9 "DiscArcs$Spin" "photos" "LDiscArcs$Photos;" ∈ wsX3_fittedBy := by decide +kernel
  have fl21 : Cond.fieldLink RX3 21 "DiscArcs$Photos" "size" "I" ∈ wsX3_fittedBy := by decide +kernel
  have h0 := hp.1
  refine lv_iconst (v := 0) S.1 S.2.1 dX3_fittedBy_0 (by decide) ?_
  refine lv_istore_n (lv' := [(3, .int 0), (0, .ref (xad g 64)), (1, .int t), (2, .int b)]) S.1 S.2.1 dX3_fittedBy_1 rfl hl (by decide) rfl (fun ls hl => ?_)
  refine lv_iconst (v := 0) S.1 S.2.1 dX3_fittedBy_2 (by decide) ?_
  refine lv_istore (lv' := [(4, .int 0), (3, .int 0), (0, .ref (xad g 64)), (1, .int t), (2, .int b)]) S.1 S.2.1 dX3_fittedBy_3 hl (by decide) rfl (fun ls hl => ?_)
  have loop5 : ∀ (d : Nat) (q : Nat), (hq : q ≤ n) → (n - q) < d → ∀ ls : Array Slot, lv_has ls 5 [(4, .int (nI q)), (3, .int (nI (mk (pF M t.toInt b.toInt) q))), (2, .int b), (1, .int t), (0, .ref (xad g 64))] → W pz l ez ({ frames := 3, cells := 0, slots := 0, locals := 69 }) s m ([.ref (xad g 64), .int t, .int b] : List Value).toArray below meth cz s.heap [] 0 0 (MQ below (vp_Si (fun r => r = nI (mk (pF M t.toInt b.toInt) n))) ([.ref (xad g 64), .int t, .int b] : List Value).toArray s 0 0 (fun _ => False)) (F0 m 5 ls []) := by
    intro d
    induction d with
    | zero => intro q hq hd; exact absurd hd (Nat.not_lt_zero _)
    | succ d ih5 =>
      intro q hq hd ls hl
      refine lv_iload S.1 S.2.1 dX3_fittedBy_5 (lv_at hl 0 rfl) ?_
      refine lv_aload_n S.1 S.2.1 dX3_fittedBy_7 rfl (lv_at hl 4 rfl) ?_
      refine x_get S hK hP dX3_fittedBy_8 hZ (by decide) (RX3, TX3, 4) rfl hin3 0 (by decide) fl9 rfl ?_
      refine x_get S hK hP dX3_fittedBy_11 hp.2.1 (by decide) (RX2, TX2, 2) rfl hin2 1 (by decide) fl21 rfl ?_
      refine lv_icmp_ge (tgt := 53) S.1 S.2.1 dX3_fittedBy_14 (by decide) (fun c14 => ?_) (fun c14 => ?_)
      · skip
        refine lv_iload_n S.1 S.2.1 dX3_fittedBy_53 rfl (lv_at hl 1 rfl) ?_
        exact x_iretR S hr hlocks dX3_fittedBy_54 (by rw [show q = n from Nat.le_antisymm hq ((nI_leI (by omega) (by omega)).mp c14)])
      · skip
        have hqn : q < n := (Nat.not_le.mp (fun h => c14 ((nI_leI (by omega) (by omega)).mpr h)))
        refine lv_aload_n S.1 S.2.1 dX3_fittedBy_17 rfl (lv_at hl 4 rfl) ?_
        refine x_get S hK hP dX3_fittedBy_18 hZ (by decide) (RX3, TX3, 4) rfl hin3 0 (by decide) fl9 rfl ?_
        refine lv_iload S.1 S.2.1 dX3_fittedBy_21 (lv_at hl 0 rfl) ?_
        refine x_si (va_runV (As := [.int (nI q)]) (rest := []) S (c_X2_isMarked l g E hp hqn) (cwV 1 S.2.2.2.2 gX3_fittedBy_X2_isMarked rfl rfl rfl (by decide +kernel) ⟨Nat.le_of_ble_eq_true rfl, Nat.le_of_ble_eq_true rfl⟩) (x_preV hK hP hp.2.1 (by decide) rfl) rfl rfl hl.1 rfl (lv_room (Nat.le_of_ble_eq_true rfl)) dX3_fittedBy_23 ⟨Nat.le_of_ble_eq_true rfl, Nat.le_of_ble_eq_true rfl⟩) (fun r23 hr23 => ?_)
        refine lv_if_eq (tgt := 47) S.1 S.2.1 dX3_fittedBy_26 (by decide) (fun c26 => ?_) (fun c26 => ?_)
        · skip
          have hQ : ¬ (pF M t.toInt b.toInt) q = true := by
            first
            | exact fun h => hr34.f c37 (pF_t h).2
            | exact fun h => hr23.f c26 (pF_t h).1
          have e47 := mk_skip (P := pF M t.toInt b.toInt) hQ
          rw [e47] at hl
          refine lv_iinc (v := nI (q + 1)) (lv' := [(4, .int (nI (q + 1))), (3, .int (nI (mk (pF M t.toInt b.toInt) (q + 1)))), (2, .int b), (1, .int t), (0, .ref (xad g 64))]) S.1 S.2.1 dX3_fittedBy_47 hl (k := 0) rfl (show nI q + Int32.ofInt 1 = _ from nI_1 _) (by decide) rfl (fun ls hl => ?_)
          refine lv_goto (tgt := 5) S.1 S.2.1 dX3_fittedBy_50 (by decide) ?_
          exact ih5 (q + 1) (by omega) (by omega) ls (lv_sub hl [0, 1, 2, 3, 4] rfl)
        · skip
          refine lv_aload_n S.1 S.2.1 dX3_fittedBy_29 rfl (lv_at hl 4 rfl) ?_
          refine lv_iload S.1 S.2.1 dX3_fittedBy_30 (lv_at hl 0 rfl) ?_
          refine lv_iload_n S.1 S.2.1 dX3_fittedBy_32 rfl (lv_at hl 3 rfl) ?_
          refine lv_iload_n S.1 S.2.1 dX3_fittedBy_33 rfl (lv_at hl 2 rfl) ?_
          refine x_si (va_runV (As := [.int (nI q), .int t, .int b]) (rest := []) S (c_X3_isNear l g E hZ hp hv ht hb hqn (hr23.t c26)) (cwV 3 S.2.2.2.2 gX3_fittedBy_X3_isNear rfl rfl rfl (by decide +kernel) ⟨Nat.le_of_ble_eq_true rfl, Nat.le_of_ble_eq_true rfl⟩) (x_preV hK hP hZ (by decide) rfl) rfl rfl hl.1 rfl (lv_room (Nat.le_of_ble_eq_true rfl)) dX3_fittedBy_34 ⟨Nat.le_of_ble_eq_true rfl, Nat.le_of_ble_eq_true rfl⟩) (fun r34 hr34 => ?_)
          refine lv_if_eq (tgt := 47) S.1 S.2.1 dX3_fittedBy_37 (by decide) (fun c37 => ?_) (fun c37 => ?_)
          · skip
            have hQ : ¬ (pF M t.toInt b.toInt) q = true := by
              first
              | exact fun h => hr34.f c37 (pF_t h).2
              | exact fun h => hr23.f c26 (pF_t h).1
            have e47 := mk_skip (P := pF M t.toInt b.toInt) hQ
            rw [e47] at hl
            refine lv_iinc (v := nI (q + 1)) (lv' := [(4, .int (nI (q + 1))), (3, .int (nI (mk (pF M t.toInt b.toInt) (q + 1)))), (2, .int b), (1, .int t), (0, .ref (xad g 64))]) S.1 S.2.1 dX3_fittedBy_47 hl (k := 0) rfl (show nI q + Int32.ofInt 1 = _ from nI_1 _) (by decide) rfl (fun ls hl => ?_)
            refine lv_goto (tgt := 5) S.1 S.2.1 dX3_fittedBy_50 (by decide) ?_
            exact ih5 (q + 1) (by omega) (by omega) ls (lv_sub hl [0, 1, 2, 3, 4] rfl)
          · skip
            refine lv_iload_n S.1 S.2.1 dX3_fittedBy_40 rfl (lv_at hl 1 rfl) ?_
            refine lv_iconst (v := 1) S.1 S.2.1 dX3_fittedBy_41 (by decide) ?_
            refine lv_iload S.1 S.2.1 dX3_fittedBy_42 (lv_at hl 0 rfl) ?_
            refine lv_ishl S.1 S.2.1 dX3_fittedBy_44 ?_
            refine lv_ior S.1 S.2.1 dX3_fittedBy_45 ?_
            refine W.eq (g2 := F0 m 46 ls [.int (nI (mk (pF M t.toInt b.toInt) (q + 1)))]) (by rw [mk_step (P := pF M t.toInt b.toInt) (by omega) (pF_of (hr23.t c26) (hr34.t c37))]) ?_
            refine lv_istore_n (lv' := [(3, .int (nI (mk (pF M t.toInt b.toInt) (q + 1)))), (4, .int (nI q)), (2, .int b), (1, .int t), (0, .ref (xad g 64))]) S.1 S.2.1 dX3_fittedBy_46 rfl hl (by decide) rfl (fun ls hl => ?_)
            refine lv_iinc (v := nI (q + 1)) (lv' := [(4, .int (nI (q + 1))), (3, .int (nI (mk (pF M t.toInt b.toInt) (q + 1)))), (2, .int b), (1, .int t), (0, .ref (xad g 64))]) S.1 S.2.1 dX3_fittedBy_47 hl (k := 1) rfl (show nI q + Int32.ofInt 1 = _ from nI_1 _) (by decide) rfl (fun ls hl => ?_)
            refine lv_goto (tgt := 5) S.1 S.2.1 dX3_fittedBy_50 (by decide) ?_
            exact ih5 (q + 1) (by omega) (by omega) ls (lv_sub hl [0, 1, 2, 3, 4] rfl)
  exact loop5 _ 0 (Nat.zero_le _) (Nat.lt_succ_self _) ls (lv_sub hl [0, 1, 4, 3, 2] rfl)
set_option maxHeartbeats 4000000 in
set_option maxRecDepth 100000 in
theorem c_X3_tryBeginning (l : Launch) (g : xG) (hJ : xJ (xad g)) (E : Nat → va_E) {T B : Int32} {PF : Nat → Bool} {n : Nat} (hZ : E 64 = .inr (3, [.ref (xad g 1), .int T, .int B, .int (nI (mk PF n))])) {M : Nat → Nat → Int32} (hp : ePh g E 1 n M) (hv : vld n M) {t b : Int32} (ht : -179 ≤ t.toInt ∧ t.toInt ≤ 180) (hb : 0 ≤ b.toInt ∧ b.toInt < 360) (w : Int32) : Met l yX3_tryBeginning wsX3_tryBeginning ({ frames := 4, cells := 0, slots := 0, locals := 93 }) (xPc g [.ref (xad g 64), .int t, .int b, .int w] E) (xQv g (fun E1 => (∀ j, j ≠ 64 → E1 j = E j) ∧ (((cnt PF n < ssc M n t.toInt b.toInt ∨ (ssc M n t.toInt b.toInt = cnt PF n ∧ ¬ w = 0)) ∧ E1 64 = .inr (3, [.ref (xad g 1), .int t, .int b, .int (nI (mk (pF M t.toInt b.toInt) n))])) ∨ (¬ (cnt PF n < ssc M n t.toInt b.toInt ∨ (ssc M n t.toInt b.toInt = cnt PF n ∧ ¬ w = 0)) ∧ E1 64 = .inr (3, [.ref (xad g 1), .int T, .int B, .int (nI (mk PF n))]))))) 0 0 (xA (xad g)) := by
  refine x_met (ws' := _) (by decide) rfl (Nat.le_of_ble_eq_true rfl) ?_
  intro pz ez s m below meth cz ls S hr hlocks hP hK hl
  have hl : lv_has ls 6 [(0, .ref (xad g 64)), (1, .int t), (2, .int b), (3, .int w)] := hl
  have hS : va_S (xA (xad g)) s.heap s.heap [] := va_S.rf
  have hin3 : ∀ w ∈ u_ws RX3 TX3 4, w ∈ wsX3_tryBeginning := by decide +kernel
  have fl50 : Cond.fieldLink RX3 50 "DiscArcs$Spin" "turn" "I" ∈ wsX3_tryBeginning := by decide +kernel
  have fl53 : Cond.fieldLink RX3 53 "DiscArcs$Spin" "beginning" "I" ∈ wsX3_tryBeginning := by decide +kernel
  have fl56 : Cond.fieldLink RX3 56 "DiscArcs$Spin" "fitted" "I" ∈ wsX3_tryBeginning := by decide +kernel
  have h0 := hp.1
  have hfr : ∀ j, j ≠ 64 → E j = E j := fun _ _ => rfl
  have k1 := cnt_le (pF M t.toInt b.toInt) n
  have k2 := cnt_le PF n
  refine lv_aload_n S.1 S.2.1 dX3_tryBeginning_0 rfl (lv_at hl 0 rfl) ?_
  refine lv_iload_n S.1 S.2.1 dX3_tryBeginning_1 rfl (lv_at hl 1 rfl) ?_
  refine lv_iload_n S.1 S.2.1 dX3_tryBeginning_2 rfl (lv_at hl 2 rfl) ?_
  refine x_si (va_runV (As := [.int t, .int b]) (rest := []) S (c_X3_fittedBy l g E hZ hp hv ht hb) (cwV 2 S.2.2.2.2 gX3_tryBeginning_X3_fittedBy rfl rfl rfl (by decide +kernel) ⟨Nat.le_of_ble_eq_true rfl, Nat.le_of_ble_eq_true rfl⟩) (x_preV hK hP hZ (by decide) rfl) rfl rfl hl.1 rfl (lv_room (Nat.le_of_ble_eq_true rfl)) dX3_tryBeginning_3 ⟨Nat.le_of_ble_eq_true rfl, Nat.le_of_ble_eq_true rfl⟩) (fun r3 hr3 => ?_)
  subst hr3
  refine lv_istore (lv' := [(4, .int (nI (mk (pF M t.toInt b.toInt) n))), (0, .ref (xad g 64)), (1, .int t), (2, .int b), (3, .int w)]) S.1 S.2.1 dX3_tryBeginning_6 hl (by decide) rfl (fun ls hl => ?_)
  refine lv_iload S.1 S.2.1 dX3_tryBeginning_8 (lv_at hl 0 rfl) ?_
  refine x_si (va_runS (As := [.int (nI (mk (pF M t.toInt b.toInt) n))]) (rest := []) S (c_J6_bitCount_0f7a4 l g E _) (va_cwS 1 S.2.2.2.2 gX3_tryBeginning_J6_bitCount_0f7a4 rfl rfl rfl (by decide +kernel) ⟨Nat.le_of_ble_eq_true rfl, Nat.le_of_ble_eq_true rfl⟩) (x_preS hK hP) rfl rfl hl.1 rfl (lv_room (Nat.le_of_ble_eq_true rfl)) dX3_tryBeginning_10 ⟨Nat.le_of_ble_eq_true rfl, Nat.le_of_ble_eq_true rfl⟩) (fun r10 hr10 => ?_)
  rw [bc_mk h0.2] at hr10
  subst hr10
  refine lv_aload_n S.1 S.2.1 dX3_tryBeginning_13 rfl (lv_at hl 1 rfl) ?_
  refine x_get S hK hP dX3_tryBeginning_14 hZ (by decide) (RX3, TX3, 4) rfl hin3 3 (by decide) fl56 rfl ?_
  refine x_si (va_runS (As := [.int (nI (mk PF n))]) (rest := [.int (nI (cnt (pF M t.toInt b.toInt) n))]) S (c_J6_bitCount_0f7a4 l g E _) (va_cwS 1 S.2.2.2.2 gX3_tryBeginning_J6_bitCount_0f7a4 rfl rfl rfl (by decide +kernel) ⟨Nat.le_of_ble_eq_true rfl, Nat.le_of_ble_eq_true rfl⟩) (x_preS hK hP) rfl rfl hl.1 rfl (lv_room (Nat.le_of_ble_eq_true rfl)) dX3_tryBeginning_17 ⟨Nat.le_of_ble_eq_true rfl, Nat.le_of_ble_eq_true rfl⟩) (fun r17 hr17 => ?_)
  rw [bc_mk h0.2] at hr17
  subst hr17
  refine lv_isub S.1 S.2.1 dX3_tryBeginning_20 ?_
  refine lv_istore (lv' := [(5, .int ((nI (cnt (pF M t.toInt b.toInt) n)) - (nI (cnt PF n)))), (4, .int (nI (mk (pF M t.toInt b.toInt) n))), (0, .ref (xad g 64)), (1, .int t), (2, .int b), (3, .int w)]) S.1 S.2.1 dX3_tryBeginning_21 hl (by decide) rfl (fun ls hl => ?_)
  refine lv_iload S.1 S.2.1 dX3_tryBeginning_23 (lv_at hl 0 rfl) ?_
  refine lv_if_gt (tgt := 37) S.1 S.2.1 dX3_tryBeginning_25 (by decide) (fun c25 => ?_) (fun c25 => ?_)
  · skip
    refine lv_aload_n S.1 S.2.1 dX3_tryBeginning_37 rfl (lv_at hl 2 rfl) ?_
    refine lv_iload_n S.1 S.2.1 dX3_tryBeginning_38 rfl (lv_at hl 3 rfl) ?_
    refine x_put S hK hJ hP hS dX3_tryBeginning_39 hZ (by decide) (RX3, TX3, 4) rfl hin3 tyX3 tyX3_ok nmX3 1 (by decide) fl50 rfl rfl rfl (Nat.le_of_ble_eq_true rfl) (fun H locs E1 hu hP hS => ?_)
    have hZ : E1 64 = .inr (3, [.ref (xad g 1), .int t, .int B, .int (nI (mk PF n))]) := hu.1
    have hp : ePh g E1 1 n M := hp.keep (fun j h1 h2 => hu.2 j (by omega))
    have hfr : ∀ j, j ≠ 64 → E1 j = E j := fun j hj => (hu.2 j (by omega)).trans (hfr j hj)
    refine lv_aload_n S.1 S.2.1 dX3_tryBeginning_42 rfl (lv_at hl 2 rfl) ?_
    refine lv_iload_n S.1 S.2.1 dX3_tryBeginning_43 rfl (lv_at hl 4 rfl) ?_
    refine x_put S hK hJ hP hS dX3_tryBeginning_44 hZ (by decide) (RX3, TX3, 4) rfl hin3 tyX3 tyX3_ok nmX3 2 (by decide) fl53 rfl rfl rfl (Nat.le_of_ble_eq_true rfl) (fun H locs E1_1 hu hP hS => ?_)
    have hZ : E1_1 64 = .inr (3, [.ref (xad g 1), .int t, .int b, .int (nI (mk PF n))]) := hu.1
    have hp : ePh g E1_1 1 n M := hp.keep (fun j h1 h2 => hu.2 j (by omega))
    have hfr : ∀ j, j ≠ 64 → E1_1 j = E j := fun j hj => (hu.2 j (by omega)).trans (hfr j hj)
    refine lv_aload_n S.1 S.2.1 dX3_tryBeginning_47 rfl (lv_at hl 2 rfl) ?_
    refine lv_iload S.1 S.2.1 dX3_tryBeginning_48 (lv_at hl 1 rfl) ?_
    refine x_put S hK hJ hP hS dX3_tryBeginning_50 hZ (by decide) (RX3, TX3, 4) rfl hin3 tyX3 tyX3_ok nmX3 3 (by decide) fl56 rfl rfl rfl (Nat.le_of_ble_eq_true rfl) (fun H locs E1_2 hu hP hS => ?_)
    have hZ : E1_2 64 = .inr (3, [.ref (xad g 1), .int t, .int b, .int (nI (mk (pF M t.toInt b.toInt) n))]) := hu.1
    have hp : ePh g E1_2 1 n M := hp.keep (fun j h1 h2 => hu.2 j (by omega))
    have hfr : ∀ j, j ≠ 64 → E1_2 j = E j := fun j hj => (hu.2 j (by omega)).trans (hfr j hj)
    exact x_vret S hr hlocks hP hS dX3_tryBeginning_53 (⟨hfr, Or.inl ⟨by first | exact Or.inl ((sub_nI_pos (by omega) (by omega)).mp c25) | exact Or.inr ⟨(sub_nI_0 (by omega) (by omega)).mp c30, c34⟩, hZ⟩⟩)
  · skip
    refine lv_iload S.1 S.2.1 dX3_tryBeginning_28 (lv_at hl 0 rfl) ?_
    refine lv_if_ne (tgt := 53) S.1 S.2.1 dX3_tryBeginning_30 (by decide) (fun c30 => ?_) (fun c30 => ?_)
    · skip
      exact x_vret S hr hlocks hP hS dX3_tryBeginning_53 (⟨hfr, Or.inr ⟨fun h => by rcases h with h | ⟨h, h9⟩; exact c25 ((sub_nI_pos (by omega) (by omega)).mpr h); first | exact c30 ((sub_nI_0 (by omega) (by omega)).mpr h) | exact h9 c34, hZ⟩⟩)
    · skip
      refine lv_iload_n S.1 S.2.1 dX3_tryBeginning_33 rfl (lv_at hl 5 rfl) ?_
      refine lv_if_eq (tgt := 53) S.1 S.2.1 dX3_tryBeginning_34 (by decide) (fun c34 => ?_) (fun c34 => ?_)
      · skip
        exact x_vret S hr hlocks hP hS dX3_tryBeginning_53 (⟨hfr, Or.inr ⟨fun h => by rcases h with h | ⟨h, h9⟩; exact c25 ((sub_nI_pos (by omega) (by omega)).mpr h); first | exact c30 ((sub_nI_0 (by omega) (by omega)).mpr h) | exact h9 c34, hZ⟩⟩)
      · skip
        refine lv_aload_n S.1 S.2.1 dX3_tryBeginning_37 rfl (lv_at hl 2 rfl) ?_
        refine lv_iload_n S.1 S.2.1 dX3_tryBeginning_38 rfl (lv_at hl 3 rfl) ?_
        refine x_put S hK hJ hP hS dX3_tryBeginning_39 hZ (by decide) (RX3, TX3, 4) rfl hin3 tyX3 tyX3_ok nmX3 1 (by decide) fl50 rfl rfl rfl (Nat.le_of_ble_eq_true rfl) (fun H locs E1_3 hu hP hS => ?_)
        have hZ : E1_3 64 = .inr (3, [.ref (xad g 1), .int t, .int B, .int (nI (mk PF n))]) := hu.1
        have hp : ePh g E1_3 1 n M := hp.keep (fun j h1 h2 => hu.2 j (by omega))
        have hfr : ∀ j, j ≠ 64 → E1_3 j = E j := fun j hj => (hu.2 j (by omega)).trans (hfr j hj)
        refine lv_aload_n S.1 S.2.1 dX3_tryBeginning_42 rfl (lv_at hl 2 rfl) ?_
        refine lv_iload_n S.1 S.2.1 dX3_tryBeginning_43 rfl (lv_at hl 4 rfl) ?_
        refine x_put S hK hJ hP hS dX3_tryBeginning_44 hZ (by decide) (RX3, TX3, 4) rfl hin3 tyX3 tyX3_ok nmX3 2 (by decide) fl53 rfl rfl rfl (Nat.le_of_ble_eq_true rfl) (fun H locs E1_4 hu hP hS => ?_)
        have hZ : E1_4 64 = .inr (3, [.ref (xad g 1), .int t, .int b, .int (nI (mk PF n))]) := hu.1
        have hp : ePh g E1_4 1 n M := hp.keep (fun j h1 h2 => hu.2 j (by omega))
        have hfr : ∀ j, j ≠ 64 → E1_4 j = E j := fun j hj => (hu.2 j (by omega)).trans (hfr j hj)
        refine lv_aload_n S.1 S.2.1 dX3_tryBeginning_47 rfl (lv_at hl 2 rfl) ?_
        refine lv_iload S.1 S.2.1 dX3_tryBeginning_48 (lv_at hl 1 rfl) ?_
        refine x_put S hK hJ hP hS dX3_tryBeginning_50 hZ (by decide) (RX3, TX3, 4) rfl hin3 tyX3 tyX3_ok nmX3 3 (by decide) fl56 rfl rfl rfl (Nat.le_of_ble_eq_true rfl) (fun H locs E1_5 hu hP hS => ?_)
        have hZ : E1_5 64 = .inr (3, [.ref (xad g 1), .int t, .int b, .int (nI (mk (pF M t.toInt b.toInt) n))]) := hu.1
        have hp : ePh g E1_5 1 n M := hp.keep (fun j h1 h2 => hu.2 j (by omega))
        have hfr : ∀ j, j ≠ 64 → E1_5 j = E j := fun j hj => (hu.2 j (by omega)).trans (hfr j hj)
        exact x_vret S hr hlocks hP hS dX3_tryBeginning_53 (⟨hfr, Or.inl ⟨by first | exact Or.inl ((sub_nI_pos (by omega) (by omega)).mp c25) | exact Or.inr ⟨(sub_nI_0 (by omega) (by omega)).mp c30, c34⟩, hZ⟩⟩)
theorem mk_0 {n : Nat} : mk (fun _ => false) n = 0 := by
  induction n with
  | zero => rfl
  | succ n ih => exact ih
theorem cnt_F {n : Nat} : cnt (fun _ => false) n = 0 := by
  induction n with
  | zero => rfl
  | succ n ih => exact ih
theorem cnt_0 {P : Nat → Bool} {n : Nat} (h : cnt P n = 0) : mk P n = 0 := by
  rw [← mk_0 (n := n)]
  refine mk_congr fun i hi => ?_
  cases hp : P i
  · rfl
  · have := cnt_pos hi hp
    omega
/-- the state ahead of a turn: nothing is found yet, or the best of the turns before -/
def spA (M : Nat → Nat → Int32) (n : Nat) (t T B : Int32) (PF : Nat → Bool) : Prop := (t.toInt = 0 ∧ T.toInt = 0 ∧ B.toInt = 0 ∧ PF = fun _ => false) ∨ (spTo M n (ordT t.toInt) T.toInt B.toInt ∧ PF = pF M T.toInt B.toInt)
theorem tt_first {g : xG} {e1 : va_E} {n : Nat} {M : Nat → Nat → Int32} {T B t : Int32} {PF : Nat → Bool} (hpre : spA M n t T B PF) (ht : -179 ≤ t.toInt ∧ t.toInt ≤ 180) (hor : ((cnt PF n < ssc M n t.toInt (0 : Int32).toInt ∨ (ssc M n t.toInt (0 : Int32).toInt = cnt PF n ∧ ¬ (0 : Int32) = 0)) ∧ e1 = .inr (3, [.ref (xad g 1), .int t, .int 0, .int (nI (mk (pF M t.toInt (0 : Int32).toInt) n))])) ∨ (¬ (cnt PF n < ssc M n t.toInt (0 : Int32).toInt ∨ (ssc M n t.toInt (0 : Int32).toInt = cnt PF n ∧ ¬ (0 : Int32) = 0)) ∧ e1 = .inr (3, [.ref (xad g 1), .int T, .int B, .int (nI (mk PF n))]))) : ∃ T2 B2 : Int32, e1 = .inr (3, [.ref (xad g 1), .int T2, .int B2, .int (nI (mk (pF M T2.toInt B2.toInt) n))]) ∧ spM M n t.toInt 0 T2.toInt B2.toInt := by
  have e0 : (0 : Int32).toInt = 0 := by decide
  rcases hor with ⟨h1, h2⟩ | ⟨h1, h2⟩
  · refine ⟨t, 0, h2, ?_⟩
    rw [e0] at h1 ⊢
    rcases hpre with ⟨a1, a2, a3, a4⟩ | ⟨a1, a2⟩
    · rw [a1]
      exact spM.zero
    · subst a2
      refine spM.first_take a1 ht ?_
      rcases h1 with h1 | ⟨-, h1⟩
      · exact h1
      · exact absurd rfl h1
  · refine ⟨T, B, ?_, ?_⟩
    · rcases hpre with ⟨a1, a2, a3, a4⟩ | ⟨a1, a2⟩
      · subst a4
        rw [h2, a2, a3]
        have h3 : cnt (pF M 0 0) n = 0 := by
          rw [e0, a1, cnt_F] at h1
          have : ¬ 0 < ssc M n 0 0 := fun h => h1 (Or.inl h)
          unfold ssc at this
          omega
        rw [cnt_0 h3, mk_0]
      · rw [h2, a2]
    · rcases hpre with ⟨a1, a2, a3, a4⟩ | ⟨a1, a2⟩
      · rw [a1, a2, a3]
        exact spM.zero
      · subst a2
        refine spM.first_pass a1 (fun h => h1 (Or.inl ?_))
        rw [e0]
        exact h
set_option maxHeartbeats 4000000 in
set_option maxRecDepth 100000 in
theorem c_X3_tryTurn (l : Launch) (g : xG) (hJ : xJ (xad g)) (E : Nat → va_E) {T B : Int32} {PF : Nat → Bool} {n : Nat} (hZ : E 64 = .inr (3, [.ref (xad g 1), .int T, .int B, .int (nI (mk PF n))])) {M : Nat → Nat → Int32} (hp : ePh g E 1 n M) (hv : vld n M) {t : Int32} (ht : -179 ≤ t.toInt ∧ t.toInt ≤ 180) (hpre : spA M n t T B PF) : Met l yX3_tryTurn wsX3_tryTurn ({ frames := 5, cells := 0, slots := 0, locals := 118 }) (xPc g [.ref (xad g 64), .int t] E) (xQv g (fun E1 => (∀ j, j ≠ 64 → E1 j = E j) ∧ ∃ T2 B2 : Int32, E1 64 = .inr (3, [.ref (xad g 1), .int T2, .int B2, .int (nI (mk (pF M T2.toInt B2.toInt) n))]) ∧ spTo M n (ordT t.toInt + 1) T2.toInt B2.toInt)) 0 0 (xA (xad g)) := by
  refine x_met (ws' := _) (by decide) rfl (Nat.le_of_ble_eq_true rfl) ?_
  intro pz ez s m below meth cz ls S hr hlocks hP hK hl
  have hl : lv_has ls 5 [(0, .ref (xad g 64)), (1, .int t)] := hl
  have hS : va_S (xA (xad g)) s.heap s.heap [] := va_S.rf
  have hin2 : ∀ w ∈ u_ws RX2 TX2 2, w ∈ wsX3_tryTurn := by decide +kernel
  have hin3 : ∀ w ∈ u_ws RX3 TX3 4, w ∈ wsX3_tryTurn := by decide +kernel
  have fl9 : Cond.fieldLink RX3 9 "DiscArcs$Spin" "photos" "LDiscArcs$Photos;" ∈ wsX3_tryTurn := by decide +kernel
  have fl21 : Cond.fieldLink RX3 21 "DiscArcs$Photos" "size" "I" ∈ wsX3_tryTurn := by decide +kernel
  have fl35 : Cond.fieldLink RX3 35 "DiscArcs$Photos" "rows" "[[I" ∈ wsX3_tryTurn := by decide +kernel
  have fl50 : Cond.fieldLink RX3 50 "DiscArcs$Spin" "turn" "I" ∈ wsX3_tryTurn := by decide +kernel
  have fl53 : Cond.fieldLink RX3 53 "DiscArcs$Spin" "beginning" "I" ∈ wsX3_tryTurn := by decide +kernel
  have h0 := hp.1
  refine lv_aload_n S.1 S.2.1 dX3_tryTurn_0 rfl (lv_at hl 0 rfl) ?_
  refine lv_iload_n S.1 S.2.1 dX3_tryTurn_1 rfl (lv_at hl 1 rfl) ?_
  refine lv_iconst (v := 0) S.1 S.2.1 dX3_tryTurn_2 (by decide) ?_
  refine lv_iconst (v := 0) S.1 S.2.1 dX3_tryTurn_3 (by decide) ?_
  refine x_qv (va_runV (As := [.int t, .int 0, .int 0]) (rest := []) S (c_X3_tryBeginning l g hJ E hZ hp hv ht (b := 0) (by decide) 0) (cwV 3 S.2.2.2.2 gX3_tryTurn_X3_tryBeginning rfl rfl rfl (by decide +kernel) ⟨Nat.le_of_ble_eq_true rfl, Nat.le_of_ble_eq_true rfl⟩) (x_preV hK hP hZ (by decide) rfl) rfl rfl hl.1 rfl (lv_room (Nat.le_of_ble_eq_true rfl)) dX3_tryTurn_4 ⟨Nat.le_of_ble_eq_true rfl, Nat.le_of_ble_eq_true rfl⟩) hS (fun E1 H locs hq4 hP hS => ?_)
  obtain ⟨hfr, hor⟩ := hq4
  have hp : ePh g E1 1 n M := hp.keep (fun j h1 h2 => hfr j (by omega))
  obtain ⟨T2, B2, hZ, hm⟩ := tt_first hpre ht hor
  refine lv_iconst (v := 0) S.1 S.2.1 dX3_tryTurn_7 (by decide) ?_
  refine lv_istore_n (lv' := [(2, .int 0), (0, .ref (xad g 64)), (1, .int t)]) S.1 S.2.1 dX3_tryTurn_8 rfl hl (by decide) rfl (fun ls hl => ?_)
  have loop9 : ∀ (d : Nat) (q : Nat) (T2 : Int32) (B2 : Int32) (EL : Nat → va_E) (H : Heap) (locs : List Loc), (hq : q ≤ n) → (hm : spM M n t.toInt q T2.toInt B2.toInt) → (n - q) < d → (hZ : EL 64 = .inr (3, [.ref (xad g 1), .int T2, .int B2, .int (nI (mk (pF M T2.toInt B2.toInt) n))])) → (hp : ePh g EL 1 n M) → (hfr : ∀ j, j ≠ 64 → EL j = E j) → xP g EL H → va_S (xA (xad g)) s.heap H locs → ∀ ls : Array Slot, lv_has ls 5 [(2, .int (nI q)), (1, .int t), (0, .ref (xad g 64))] → W pz l ez ({ frames := 5, cells := 0, slots := 0, locals := 118 }) s m ([.ref (xad g 64), .int t] : List Value).toArray below meth cz H locs 0 0 (MQ below (xQv g (fun E1 => (∀ j, j ≠ 64 → E1 j = E j) ∧ ∃ T2 B2 : Int32, E1 64 = .inr (3, [.ref (xad g 1), .int T2, .int B2, .int (nI (mk (pF M T2.toInt B2.toInt) n))]) ∧ spTo M n (ordT t.toInt + 1) T2.toInt B2.toInt)) ([.ref (xad g 64), .int t] : List Value).toArray s 0 0 (xA (xad g))) (F0 m 9 ls []) := by
    intro d
    induction d with
    | zero => intro q T2 B2 EL H locs hq hm hd; exact absurd hd (Nat.not_lt_zero _)
    | succ d ih9 =>
      intro q T2 B2 EL H locs hq hm hd hZ hp hfr hP hS ls hl
      refine lv_iload_n S.1 S.2.1 dX3_tryTurn_9 rfl (lv_at hl 0 rfl) ?_
      refine lv_aload_n S.1 S.2.1 dX3_tryTurn_10 rfl (lv_at hl 2 rfl) ?_
      refine x_get S hK hP dX3_tryTurn_11 hZ (by decide) (RX3, TX3, 4) rfl hin3 0 (by decide) fl9 rfl ?_
      refine x_get S hK hP dX3_tryTurn_14 hp.2.1 (by decide) (RX2, TX2, 2) rfl hin2 1 (by decide) fl21 rfl ?_
      refine lv_icmp_ge (tgt := 109) S.1 S.2.1 dX3_tryTurn_17 (by decide) (fun c17 => ?_) (fun c17 => ?_)
      · skip
        have hqe : q = n := Nat.le_antisymm hq ((nI_leI (by omega) (by omega)).mp c17)
        subst hqe
        exact x_vret S hr hlocks hP hS dX3_tryTurn_109 (⟨hfr, T2, B2, hZ, hm.fin hv⟩)
      · skip
        have hqn : q < n := (Nat.not_le.mp (fun h => c17 ((nI_leI (by omega) (by omega)).mpr h)))
        refine lv_aload_n S.1 S.2.1 dX3_tryTurn_20 rfl (lv_at hl 2 rfl) ?_
        refine x_get S hK hP dX3_tryTurn_21 hZ (by decide) (RX3, TX3, 4) rfl hin3 0 (by decide) fl9 rfl ?_
        refine lv_iload_n S.1 S.2.1 dX3_tryTurn_24 rfl (lv_at hl 0 rfl) ?_
        refine x_si (va_runV (As := [.int (nI q)]) (rest := []) S (c_X2_isMarked l g EL hp hqn) (cwV 1 S.2.2.2.2 gX3_tryTurn_X2_isMarked rfl rfl rfl (by decide +kernel) ⟨Nat.le_of_ble_eq_true rfl, Nat.le_of_ble_eq_true rfl⟩) (x_preV hK hP hp.2.1 (by decide) rfl) rfl rfl hl.1 rfl (lv_room (Nat.le_of_ble_eq_true rfl)) dX3_tryTurn_25 ⟨Nat.le_of_ble_eq_true rfl, Nat.le_of_ble_eq_true rfl⟩) (fun r25 hr25 => ?_)
        refine lv_if_eq (tgt := 103) S.1 S.2.1 dX3_tryTurn_28 (by decide) (fun c28 => ?_) (fun c28 => ?_)
        · skip
          refine lv_iinc (v := nI (q + 1)) (lv' := [(2, .int (nI (q + 1))), (1, .int t), (0, .ref (xad g 64))]) S.1 S.2.1 dX3_tryTurn_103 hl (k := 0) rfl (show nI q + Int32.ofInt 1 = _ from nI_1 _) (by decide) rfl (fun ls hl => ?_)
          refine lv_goto (tgt := 9) S.1 S.2.1 dX3_tryTurn_106 (by decide) ?_
          exact ih9 (q + 1) T2 B2 _ _ _ (by omega) (hm.skip (fun h => hr25.f c28 h)) (by omega) hZ hp hfr hP hS ls (lv_sub hl [0, 1, 2] rfl)
        · skip
          refine lv_aload_n S.1 S.2.1 dX3_tryTurn_31 rfl (lv_at hl 2 rfl) ?_
          refine x_get S hK hP dX3_tryTurn_32 hZ (by decide) (RX3, TX3, 4) rfl hin3 0 (by decide) fl9 rfl ?_
          refine x_get S hK hP dX3_tryTurn_35 hp.2.1 (by decide) (RX2, TX2, 2) rfl hin2 0 (by decide) fl35 rfl ?_
          refine lv_iconst (v := 4) S.1 S.2.1 dX3_tryTurn_38 (by decide) ?_
          refine x_row S hK hP dX3_tryTurn_39 hp 4 rfl (by omega) ?_
          refine lv_iload_n S.1 S.2.1 dX3_tryTurn_40 rfl (lv_at hl 0 rfl) ?_
          refine x_val S hK hP dX3_tryTurn_41 hp (w := 4) q rfl (by omega) (by omega) ?_
          refine lv_aload_n S.1 S.2.1 dX3_tryTurn_42 rfl (lv_at hl 2 rfl) ?_
          refine x_get S hK hP dX3_tryTurn_43 hZ (by decide) (RX3, TX3, 4) rfl hin3 0 (by decide) fl9 rfl ?_
          refine x_get S hK hP dX3_tryTurn_46 hp.2.1 (by decide) (RX2, TX2, 2) rfl hin2 0 (by decide) fl35 rfl ?_
          refine lv_iconst (v := 5) S.1 S.2.1 dX3_tryTurn_49 (by decide) ?_
          refine x_row S hK hP dX3_tryTurn_50 hp 5 rfl (by omega) ?_
          refine lv_iload_n S.1 S.2.1 dX3_tryTurn_51 rfl (lv_at hl 0 rfl) ?_
          refine x_val S hK hP dX3_tryTurn_52 hp (w := 5) q rfl (by omega) (by omega) ?_
          refine lv_isub S.1 S.2.1 dX3_tryTurn_53 ?_
          refine lv_topi (fun x54 ex54 => ?_)
          refine lv_istore_n (lv' := [(3, .int x54), (2, .int (nI q)), (1, .int t), (0, .ref (xad g 64))]) S.1 S.2.1 dX3_tryTurn_54 rfl hl (by decide) rfl (fun ls hl => ?_)
          have hx54 : x54.toInt = (M 4 q).toInt - (M 5 q).toInt := by
           obtain ⟨-, -, -, -, ⟨a1, a2⟩, ⟨a3, a4⟩, -⟩ := hv.1 q hqn
           rw [ex54, I_sub (by omega) (by omega)]
          have hx54b : -100 ≤ x54.toInt ∧ x54.toInt ≤ 360 := by
           obtain ⟨-, -, -, -, ⟨a1, a2⟩, ⟨a3, a4⟩, -⟩ := hv.1 q hqn
           omega
          refine lv_iload_n S.1 S.2.1 dX3_tryTurn_55 rfl (lv_at hl 2 rfl) ?_
          refine lv_ineg S.1 S.2.1 dX3_tryTurn_56 ?_
          refine lv_iload_n S.1 S.2.1 dX3_tryTurn_57 rfl (lv_at hl 0 rfl) ?_
          refine lv_aload_n S.1 S.2.1 dX3_tryTurn_58 rfl (lv_at hl 3 rfl) ?_
          refine x_get S hK hP dX3_tryTurn_59 hZ (by decide) (RX3, TX3, 4) rfl hin3 0 (by decide) fl9 rfl ?_
          refine x_get S hK hP dX3_tryTurn_62 hp.2.1 (by decide) (RX2, TX2, 2) rfl hin2 0 (by decide) fl35 rfl ?_
          refine lv_iconst (v := 0) S.1 S.2.1 dX3_tryTurn_65 (by decide) ?_
          refine x_row S hK hP dX3_tryTurn_66 hp 0 rfl (by omega) ?_
          refine lv_iload_n S.1 S.2.1 dX3_tryTurn_67 rfl (lv_at hl 1 rfl) ?_
          refine x_val S hK hP dX3_tryTurn_68 hp (w := 0) q rfl (by omega) (by omega) ?_
          refine x_si (va_runS (As := [.int (-t), .int x54, .int (M 0 q)]) (rest := []) S (c_X3_angleOf l g EL (t := -t) (b := x54) (by rw [I_neg (by omega)]; omega) (by omega) (hv.1 q hqn).1) (va_cwS 3 S.2.2.2.2 gX3_tryTurn_X3_angleOf rfl rfl rfl (by decide +kernel) ⟨Nat.le_of_ble_eq_true rfl, Nat.le_of_ble_eq_true rfl⟩) (x_preS hK hP) rfl rfl hl.1 rfl (lv_room (Nat.le_of_ble_eq_true rfl)) dX3_tryTurn_69 ⟨Nat.le_of_ble_eq_true rfl, Nat.le_of_ble_eq_true rfl⟩) (fun r69 hr69 => ?_)
          refine lv_istore (lv' := [(4, .int r69), (3, .int x54), (2, .int (nI q)), (1, .int t), (0, .ref (xad g 64))]) S.1 S.2.1 dX3_tryTurn_72 hl (by decide) rfl (fun ls hl => ?_)
          have hsz : r69.toInt = stZ M t.toInt q := by
           rw [hr69, hx54, I_neg (by omega)]; unfold stZ; rw [Int.neg_mul]; rfl
          have hst : 0 ≤ r69.toInt ∧ r69.toInt < 360 := by rw [hr69]; omega
          refine lv_aload_n S.1 S.2.1 dX3_tryTurn_74 rfl (lv_at hl 4 rfl) ?_
          refine lv_iload_n S.1 S.2.1 dX3_tryTurn_75 rfl (lv_at hl 3 rfl) ?_
          refine lv_iload S.1 S.2.1 dX3_tryTurn_76 (lv_at hl 0 rfl) ?_
          refine lv_iload_n S.1 S.2.1 dX3_tryTurn_78 rfl (lv_at hl 3 rfl) ?_
          refine lv_aload_n S.1 S.2.1 dX3_tryTurn_79 rfl (lv_at hl 4 rfl) ?_
          refine x_get S hK hP dX3_tryTurn_80 hZ (by decide) (RX3, TX3, 4) rfl hin3 1 (by decide) fl50 rfl ?_
          refine lv_icmp_ne (tgt := 99) S.1 S.2.1 dX3_tryTurn_83 (by decide) (fun c83 => ?_) (fun c83 => ?_)
          · skip
            refine lv_iconst (v := 0) S.1 S.2.1 dX3_tryTurn_99 (by decide) ?_
            refine x_qv (va_runV (As := [.int t, .int r69, .int 0]) (rest := []) S (c_X3_tryBeginning l g hJ EL hZ hp hv ht hst (0)) (cwV 3 S.2.2.2.2 gX3_tryTurn_X3_tryBeginning rfl rfl rfl (by decide +kernel) ⟨Nat.le_of_ble_eq_true rfl, Nat.le_of_ble_eq_true rfl⟩) (x_preV hK hP hZ (by decide) rfl) rfl rfl hl.1 rfl (lv_room (Nat.le_of_ble_eq_true rfl)) dX3_tryTurn_100 ⟨Nat.le_of_ble_eq_true rfl, Nat.le_of_ble_eq_true rfl⟩) hS (fun E1_1 H locs hq100 hP hS => ?_)
            obtain ⟨hfr2, hor⟩ := hq100
            have hp : ePh g E1_1 1 n M := hp.keep (fun j h1 h2 => hfr2 j (by omega))
            have hfr : ∀ j, j ≠ 64 → E1_1 j = E j := fun j hj => (hfr2 j hj).trans (hfr j hj)
            rw [hsz] at hor
            rcases hor with ⟨htk, hZ⟩ | ⟨htk, hZ⟩
            · skip
              refine lv_iinc (v := nI (q + 1)) (lv' := [(2, .int (nI (q + 1))), (4, .int r69), (3, .int x54), (1, .int t), (0, .ref (xad g 64))]) S.1 S.2.1 dX3_tryTurn_103 hl (k := 2) rfl (show nI q + Int32.ofInt 1 = _ from nI_1 _) (by decide) rfl (fun ls hl => ?_)
              refine lv_goto (tgt := 9) S.1 S.2.1 dX3_tryTurn_106 (by decide) ?_
              exact ih9 (q + 1) t r69 _ _ _ (by omega) (by rw [hsz]; exact hm.take ⟨ht, by rw [← hsz]; exact hst⟩ (fun c h => cd_next c h) (htk.imp (fun h => h) (fun h => absurd rfl h.2))) (by omega) hZ hp hfr hP hS ls (lv_sub hl [0, 3, 4] rfl)
            · skip
              refine lv_iinc (v := nI (q + 1)) (lv' := [(2, .int (nI (q + 1))), (4, .int r69), (3, .int x54), (1, .int t), (0, .ref (xad g 64))]) S.1 S.2.1 dX3_tryTurn_103 hl (k := 2) rfl (show nI q + Int32.ofInt 1 = _ from nI_1 _) (by decide) rfl (fun ls hl => ?_)
              refine lv_goto (tgt := 9) S.1 S.2.1 dX3_tryTurn_106 (by decide) ?_
              exact ih9 (q + 1) T2 B2 _ _ _ (by omega) (hm.pass (fun c h => cd_next c h) (fun h => by rcases h with h | ⟨h1, h2, h3⟩; exact htk (Or.inl h); first | exact c83 (I_eq.mpr h2) | exact absurd (I_le.mp c92) (by rw [hsz]; omega))) (by omega) hZ hp hfr hP hS ls (lv_sub hl [0, 3, 4] rfl)
          · skip
            refine lv_iload S.1 S.2.1 dX3_tryTurn_86 (lv_at hl 0 rfl) ?_
            refine lv_aload_n S.1 S.2.1 dX3_tryTurn_88 rfl (lv_at hl 4 rfl) ?_
            refine x_get S hK hP dX3_tryTurn_89 hZ (by decide) (RX3, TX3, 4) rfl hin3 2 (by decide) fl53 rfl ?_
            refine lv_icmp_ge (tgt := 99) S.1 S.2.1 dX3_tryTurn_92 (by decide) (fun c92 => ?_) (fun c92 => ?_)
            · skip
              refine lv_iconst (v := 0) S.1 S.2.1 dX3_tryTurn_99 (by decide) ?_
              refine x_qv (va_runV (As := [.int t, .int r69, .int 0]) (rest := []) S (c_X3_tryBeginning l g hJ EL hZ hp hv ht hst (0)) (cwV 3 S.2.2.2.2 gX3_tryTurn_X3_tryBeginning rfl rfl rfl (by decide +kernel) ⟨Nat.le_of_ble_eq_true rfl, Nat.le_of_ble_eq_true rfl⟩) (x_preV hK hP hZ (by decide) rfl) rfl rfl hl.1 rfl (lv_room (Nat.le_of_ble_eq_true rfl)) dX3_tryTurn_100 ⟨Nat.le_of_ble_eq_true rfl, Nat.le_of_ble_eq_true rfl⟩) hS (fun E1_2 H locs hq100 hP hS => ?_)
              obtain ⟨hfr2, hor⟩ := hq100
              have hp : ePh g E1_2 1 n M := hp.keep (fun j h1 h2 => hfr2 j (by omega))
              have hfr : ∀ j, j ≠ 64 → E1_2 j = E j := fun j hj => (hfr2 j hj).trans (hfr j hj)
              rw [hsz] at hor
              rcases hor with ⟨htk, hZ⟩ | ⟨htk, hZ⟩
              · skip
                refine lv_iinc (v := nI (q + 1)) (lv' := [(2, .int (nI (q + 1))), (4, .int r69), (3, .int x54), (1, .int t), (0, .ref (xad g 64))]) S.1 S.2.1 dX3_tryTurn_103 hl (k := 2) rfl (show nI q + Int32.ofInt 1 = _ from nI_1 _) (by decide) rfl (fun ls hl => ?_)
                refine lv_goto (tgt := 9) S.1 S.2.1 dX3_tryTurn_106 (by decide) ?_
                exact ih9 (q + 1) t r69 _ _ _ (by omega) (by rw [hsz]; exact hm.take ⟨ht, by rw [← hsz]; exact hst⟩ (fun c h => cd_next c h) (htk.imp (fun h => h) (fun h => absurd rfl h.2))) (by omega) hZ hp hfr hP hS ls (lv_sub hl [0, 3, 4] rfl)
              · skip
                refine lv_iinc (v := nI (q + 1)) (lv' := [(2, .int (nI (q + 1))), (4, .int r69), (3, .int x54), (1, .int t), (0, .ref (xad g 64))]) S.1 S.2.1 dX3_tryTurn_103 hl (k := 2) rfl (show nI q + Int32.ofInt 1 = _ from nI_1 _) (by decide) rfl (fun ls hl => ?_)
                refine lv_goto (tgt := 9) S.1 S.2.1 dX3_tryTurn_106 (by decide) ?_
                exact ih9 (q + 1) T2 B2 _ _ _ (by omega) (hm.pass (fun c h => cd_next c h) (fun h => by rcases h with h | ⟨h1, h2, h3⟩; exact htk (Or.inl h); first | exact c83 (I_eq.mpr h2) | exact absurd (I_le.mp c92) (by rw [hsz]; omega))) (by omega) hZ hp hfr hP hS ls (lv_sub hl [0, 3, 4] rfl)
            · skip
              refine lv_iconst (v := 1) S.1 S.2.1 dX3_tryTurn_95 (by decide) ?_
              refine lv_goto (tgt := 100) S.1 S.2.1 dX3_tryTurn_96 (by decide) ?_
              refine x_qv (va_runV (As := [.int t, .int r69, .int 1]) (rest := []) S (c_X3_tryBeginning l g hJ EL hZ hp hv ht hst (1)) (cwV 3 S.2.2.2.2 gX3_tryTurn_X3_tryBeginning rfl rfl rfl (by decide +kernel) ⟨Nat.le_of_ble_eq_true rfl, Nat.le_of_ble_eq_true rfl⟩) (x_preV hK hP hZ (by decide) rfl) rfl rfl hl.1 rfl (lv_room (Nat.le_of_ble_eq_true rfl)) dX3_tryTurn_100 ⟨Nat.le_of_ble_eq_true rfl, Nat.le_of_ble_eq_true rfl⟩) hS (fun E1_3 H locs hq100 hP hS => ?_)
              obtain ⟨hfr2, hor⟩ := hq100
              have hp : ePh g E1_3 1 n M := hp.keep (fun j h1 h2 => hfr2 j (by omega))
              have hfr : ∀ j, j ≠ 64 → E1_3 j = E j := fun j hj => (hfr2 j hj).trans (hfr j hj)
              rw [hsz] at hor
              rcases hor with ⟨htk, hZ⟩ | ⟨htk, hZ⟩
              · skip
                refine lv_iinc (v := nI (q + 1)) (lv' := [(2, .int (nI (q + 1))), (4, .int r69), (3, .int x54), (1, .int t), (0, .ref (xad g 64))]) S.1 S.2.1 dX3_tryTurn_103 hl (k := 2) rfl (show nI q + Int32.ofInt 1 = _ from nI_1 _) (by decide) rfl (fun ls hl => ?_)
                refine lv_goto (tgt := 9) S.1 S.2.1 dX3_tryTurn_106 (by decide) ?_
                exact ih9 (q + 1) t r69 _ _ _ (by omega) (by rw [hsz]; exact hm.take ⟨ht, by rw [← hsz]; exact hst⟩ (fun c h => cd_next c h) (htk.imp (fun h => h) (fun h => ⟨h.1, by rw [c83], by rw [← hsz]; exact I_lt.mp (Int32.not_le.mp c92)⟩))) (by omega) hZ hp hfr hP hS ls (lv_sub hl [0, 3, 4] rfl)
              · skip
                refine lv_iinc (v := nI (q + 1)) (lv' := [(2, .int (nI (q + 1))), (4, .int r69), (3, .int x54), (1, .int t), (0, .ref (xad g 64))]) S.1 S.2.1 dX3_tryTurn_103 hl (k := 2) rfl (show nI q + Int32.ofInt 1 = _ from nI_1 _) (by decide) rfl (fun ls hl => ?_)
                refine lv_goto (tgt := 9) S.1 S.2.1 dX3_tryTurn_106 (by decide) ?_
                exact ih9 (q + 1) T2 B2 _ _ _ (by omega) (hm.pass (fun c h => cd_next c h) (fun h => htk (h.imp (fun h => h) (fun h => ⟨h.1, by decide⟩)))) (by omega) hZ hp hfr hP hS ls (lv_sub hl [0, 3, 4] rfl)
  exact loop9 _ 0 T2 B2 _ _ _ (Nat.zero_le _) hm (Nat.lt_succ_self _) hZ hp hfr hP hS ls (lv_sub hl [0, 2, 1] rfl)
