/-! DISCARCS: its static helpers and the tests of three photos -/
set_option maxHeartbeats 4000000 in
set_option maxRecDepth 100000 in
theorem c_X6_isWithin (l : Launch) (g : xG) (E : Nat → va_E) (x lo hi : Int32) : Met l yX6_isWithin wsX6_isWithin ({ frames := 0, cells := 0, slots := 0, locals := 0 }) (xPc g [.int x, .int lo, .int hi] E) (vp_Si (xb (lo ≤ x ∧ x ≤ hi))) 0 0 (fun _ => False) := by
  refine x_met (ws' := _) (by decide) rfl (Nat.le_of_ble_eq_true rfl) ?_
  intro p e s m below meth c ls S hr hlocks hP hK hl
  have hl : lv_has ls 3 [(0, .int x), (1, .int lo), (2, .int hi)] := hl
  refine lv_iload_n S.1 S.2.1 dX6_isWithin_0 rfl (lv_at hl 0 rfl) ?_
  refine lv_iload_n S.1 S.2.1 dX6_isWithin_1 rfl (lv_at hl 1 rfl) ?_
  refine lv_icmp_lt (tgt := 14) S.1 S.2.1 dX6_isWithin_2 (by decide) (fun c2 => ?_) (fun c2 => ?_)
  · skip
    refine lv_iconst (v := 0) S.1 S.2.1 dX6_isWithin_14 (by decide) ?_
    exact x_zretR S hr hlocks dX6_isWithin_15 (xb.zero (by first | exact fun h => absurd c7 (Int32.not_lt.mpr h.2) | exact fun h => absurd c2 (Int32.not_lt.mpr h.1)))
  · skip
    refine lv_iload_n S.1 S.2.1 dX6_isWithin_5 rfl (lv_at hl 0 rfl) ?_
    refine lv_iload_n S.1 S.2.1 dX6_isWithin_6 rfl (lv_at hl 2 rfl) ?_
    refine lv_icmp_gt (tgt := 14) S.1 S.2.1 dX6_isWithin_7 (by decide) (fun c7 => ?_) (fun c7 => ?_)
    · skip
      refine lv_iconst (v := 0) S.1 S.2.1 dX6_isWithin_14 (by decide) ?_
      exact x_zretR S hr hlocks dX6_isWithin_15 (xb.zero (by first | exact fun h => absurd c7 (Int32.not_lt.mpr h.2) | exact fun h => absurd c2 (Int32.not_lt.mpr h.1)))
    · skip
      refine lv_iconst (v := 1) S.1 S.2.1 dX6_isWithin_10 (by decide) ?_
      refine lv_goto (tgt := 15) S.1 S.2.1 dX6_isWithin_11 (by decide) ?_
      exact x_zretR S hr hlocks dX6_isWithin_15 (xb.one ⟨Int32.not_lt.mp c2, Int32.not_lt.mp c7⟩)
set_option maxHeartbeats 4000000 in
set_option maxRecDepth 100000 in
theorem c_X6_areAnySame (l : Launch) (g : xG) (E : Nat → va_E) (a b c9 : Int32) : Met l yX6_areAnySame wsX6_areAnySame ({ frames := 0, cells := 0, slots := 0, locals := 0 }) (xPc g [.int a, .int b, .int c9] E) (vp_Si (xb (a = b ∨ a = c9 ∨ b = c9))) 0 0 (fun _ => False) := by
  refine x_met (ws' := _) (by decide) rfl (Nat.le_of_ble_eq_true rfl) ?_
  intro p e s m below meth c ls S hr hlocks hP hK hl
  have hl : lv_has ls 3 [(0, .int a), (1, .int b), (2, .int c9)] := hl
  refine lv_iload_n S.1 S.2.1 dX6_areAnySame_0 rfl (lv_at hl 0 rfl) ?_
  refine lv_iload_n S.1 S.2.1 dX6_areAnySame_1 rfl (lv_at hl 1 rfl) ?_
  refine lv_icmp_eq (tgt := 15) S.1 S.2.1 dX6_areAnySame_2 (by decide) (fun c2 => ?_) (fun c2 => ?_)
  · skip
    refine lv_iconst (v := 1) S.1 S.2.1 dX6_areAnySame_15 (by decide) ?_
    refine lv_goto (tgt := 20) S.1 S.2.1 dX6_areAnySame_16 (by decide) ?_
    exact x_zretR S hr hlocks dX6_areAnySame_20 (xb.one (by first | exact Or.inr (Or.inr c12) | exact Or.inr (Or.inl c7) | exact Or.inl c2))
  · skip
    refine lv_iload_n S.1 S.2.1 dX6_areAnySame_5 rfl (lv_at hl 0 rfl) ?_
    refine lv_iload_n S.1 S.2.1 dX6_areAnySame_6 rfl (lv_at hl 2 rfl) ?_
    refine lv_icmp_eq (tgt := 15) S.1 S.2.1 dX6_areAnySame_7 (by decide) (fun c7 => ?_) (fun c7 => ?_)
    · skip
      refine lv_iconst (v := 1) S.1 S.2.1 dX6_areAnySame_15 (by decide) ?_
      refine lv_goto (tgt := 20) S.1 S.2.1 dX6_areAnySame_16 (by decide) ?_
      exact x_zretR S hr hlocks dX6_areAnySame_20 (xb.one (by first | exact Or.inr (Or.inr c12) | exact Or.inr (Or.inl c7) | exact Or.inl c2))
    · skip
      refine lv_iload_n S.1 S.2.1 dX6_areAnySame_10 rfl (lv_at hl 1 rfl) ?_
      refine lv_iload_n S.1 S.2.1 dX6_areAnySame_11 rfl (lv_at hl 2 rfl) ?_
      refine lv_icmp_ne (tgt := 19) S.1 S.2.1 dX6_areAnySame_12 (by decide) (fun c12 => ?_) (fun c12 => ?_)
      · skip
        refine lv_iconst (v := 0) S.1 S.2.1 dX6_areAnySame_19 (by decide) ?_
        exact x_zretR S hr hlocks dX6_areAnySame_20 (xb.zero (fun h => by rcases h with h | h | h; exact c2 h; exact c7 h; exact c12 h))
      · skip
        refine lv_iconst (v := 1) S.1 S.2.1 dX6_areAnySame_15 (by decide) ?_
        refine lv_goto (tgt := 20) S.1 S.2.1 dX6_areAnySame_16 (by decide) ?_
        exact x_zretR S hr hlocks dX6_areAnySame_20 (xb.one (by first | exact Or.inr (Or.inr c12) | exact Or.inr (Or.inl c7) | exact Or.inl c2))
def isAsk (t w q : Int32) : Prop := (0 ≤ t ∧ t ≤ 99) ∧ (0 ≤ w ∧ w ≤ 1) ∧ 0 ≤ q ∧ q ≤ 1
set_option maxHeartbeats 4000000 in
set_option maxRecDepth 100000 in
theorem c_X6_isAskForFraction (l : Launch) (g : xG) (E : Nat → va_E) (t w q : Int32) : Met l yX6_isAskForFraction wsX6_isAskForFraction ({ frames := 1, cells := 0, slots := 0, locals := 22 }) (xPc g [.int t, .int w, .int q] E) (vp_Si (xb (isAsk t w q))) 0 0 (fun _ => False) := by
  refine x_met (ws' := _) (by decide) rfl (Nat.le_of_ble_eq_true rfl) ?_
  intro p e s m below meth c ls S hr hlocks hP hK hl
  have hl : lv_has ls 3 [(0, .int t), (1, .int w), (2, .int q)] := hl
  refine lv_iload_n S.1 S.2.1 dX6_isAskForFraction_0 rfl (lv_at hl 0 rfl) ?_
  refine lv_iconst (v := 0) S.1 S.2.1 dX6_isAskForFraction_1 (by decide) ?_
  refine lv_bipush (v := 99) S.1 S.2.1 dX6_isAskForFraction_2 (by decide) ?_
  refine x_si (va_runS (As := [.int t, .int 0, .int 99]) (rest := []) S (c_X6_isWithin l g E t 0 99) (va_cwS 3 S.2.2.2.2 gX6_isAskForFraction_X6_isWithin rfl rfl rfl (by decide +kernel) ⟨Nat.le_of_ble_eq_true rfl, Nat.le_of_ble_eq_true rfl⟩) (x_preS hK hP) rfl rfl hl.1 rfl (lv_room (Nat.le_of_ble_eq_true rfl)) dX6_isAskForFraction_4 ⟨Nat.le_of_ble_eq_true rfl, Nat.le_of_ble_eq_true rfl⟩) (fun r4 hr4 => ?_)
  refine lv_if_eq (tgt := 32) S.1 S.2.1 dX6_isAskForFraction_7 (by decide) (fun c7 => ?_) (fun c7 => ?_)
  · skip
    refine lv_iconst (v := 0) S.1 S.2.1 dX6_isAskForFraction_32 (by decide) ?_
    exact x_zretR S hr hlocks dX6_isAskForFraction_33 (xb.zero (by first | exact fun h => hr22.f c25 h.2.2 | exact fun h => hr13.f c16 h.2.1 | exact fun h => hr4.f c7 h.1))
  · skip
    refine lv_iload_n S.1 S.2.1 dX6_isAskForFraction_10 rfl (lv_at hl 1 rfl) ?_
    refine lv_iconst (v := 0) S.1 S.2.1 dX6_isAskForFraction_11 (by decide) ?_
    refine lv_iconst (v := 1) S.1 S.2.1 dX6_isAskForFraction_12 (by decide) ?_
    refine x_si (va_runS (As := [.int w, .int 0, .int 1]) (rest := []) S (c_X6_isWithin l g E w 0 1) (va_cwS 3 S.2.2.2.2 gX6_isAskForFraction_X6_isWithin rfl rfl rfl (by decide +kernel) ⟨Nat.le_of_ble_eq_true rfl, Nat.le_of_ble_eq_true rfl⟩) (x_preS hK hP) rfl rfl hl.1 rfl (lv_room (Nat.le_of_ble_eq_true rfl)) dX6_isAskForFraction_13 ⟨Nat.le_of_ble_eq_true rfl, Nat.le_of_ble_eq_true rfl⟩) (fun r13 hr13 => ?_)
    refine lv_if_eq (tgt := 32) S.1 S.2.1 dX6_isAskForFraction_16 (by decide) (fun c16 => ?_) (fun c16 => ?_)
    · skip
      refine lv_iconst (v := 0) S.1 S.2.1 dX6_isAskForFraction_32 (by decide) ?_
      exact x_zretR S hr hlocks dX6_isAskForFraction_33 (xb.zero (by first | exact fun h => hr22.f c25 h.2.2 | exact fun h => hr13.f c16 h.2.1 | exact fun h => hr4.f c7 h.1))
    · skip
      refine lv_iload_n S.1 S.2.1 dX6_isAskForFraction_19 rfl (lv_at hl 2 rfl) ?_
      refine lv_iconst (v := 0) S.1 S.2.1 dX6_isAskForFraction_20 (by decide) ?_
      refine lv_iconst (v := 1) S.1 S.2.1 dX6_isAskForFraction_21 (by decide) ?_
      refine x_si (va_runS (As := [.int q, .int 0, .int 1]) (rest := []) S (c_X6_isWithin l g E q 0 1) (va_cwS 3 S.2.2.2.2 gX6_isAskForFraction_X6_isWithin rfl rfl rfl (by decide +kernel) ⟨Nat.le_of_ble_eq_true rfl, Nat.le_of_ble_eq_true rfl⟩) (x_preS hK hP) rfl rfl hl.1 rfl (lv_room (Nat.le_of_ble_eq_true rfl)) dX6_isAskForFraction_22 ⟨Nat.le_of_ble_eq_true rfl, Nat.le_of_ble_eq_true rfl⟩) (fun r22 hr22 => ?_)
      refine lv_if_eq (tgt := 32) S.1 S.2.1 dX6_isAskForFraction_25 (by decide) (fun c25 => ?_) (fun c25 => ?_)
      · skip
        refine lv_iconst (v := 0) S.1 S.2.1 dX6_isAskForFraction_32 (by decide) ?_
        exact x_zretR S hr hlocks dX6_isAskForFraction_33 (xb.zero (by first | exact fun h => hr22.f c25 h.2.2 | exact fun h => hr13.f c16 h.2.1 | exact fun h => hr4.f c7 h.1))
      · skip
        refine lv_iconst (v := 1) S.1 S.2.1 dX6_isAskForFraction_28 (by decide) ?_
        refine lv_goto (tgt := 33) S.1 S.2.1 dX6_isAskForFraction_29 (by decide) ?_
        exact x_zretR S hr hlocks dX6_isAskForFraction_33 (xb.one ⟨hr4.t c7, hr13.t c16, hr22.t c25⟩)
/-- an int tells one of n photos -/
def held (n : Nat) (x : Int32) : Prop := ∃ k : Nat, k < n ∧ x = nI k
set_option maxHeartbeats 4000000 in
set_option maxRecDepth 100000 in
theorem c_X6_areHeld (l : Launch) (g : xG) (E : Nat → va_E) {hf : Int32} (hX : E 0 = .inr (6, [.ref (xad g 1), .ref (xad g 10), .int hf, .ref (xad g 19), .ref (xad g 57), .ref (xad g 59), .ref (xad g 60), .ref (xad g 61), .ref (xad g 64)])) {n : Nat} {M : Nat → Nat → Int32} (hp : ePh g E 1 n M) (a b c9 : Int32) : Met l yX6_areHeld wsX6_areHeld ({ frames := 1, cells := 0, slots := 0, locals := 21 }) (xPc g [.ref (xad g 0), .int a, .int b, .int c9] E) (vp_Si (xb (held n a ∧ held n b ∧ held n c9))) 0 0 (fun _ => False) := by
  refine x_met (ws' := _) (by decide) rfl (Nat.le_of_ble_eq_true rfl) ?_
  intro p e s m below meth c ls S hr hlocks hP hK hl
  have hl : lv_has ls 4 [(0, .ref (xad g 0)), (1, .int a), (2, .int b), (3, .int c9)] := hl
  have hin6 : ∀ w ∈ u_ws RX6 TX6 9, w ∈ wsX6_areHeld := by decide +kernel
  have fl10 : Cond.fieldLink RX6 10 "DiscArcs" "photos" "LDiscArcs$Photos;" ∈ wsX6_areHeld := by decide +kernel
  refine lv_aload_n S.1 S.2.1 dX6_areHeld_0 rfl (lv_at hl 0 rfl) ?_
  refine x_get S hK hP dX6_areHeld_1 hX (by decide) (RX6, TX6, 9) rfl hin6 0 (by decide) fl10 rfl ?_
  refine lv_iload_n S.1 S.2.1 dX6_areHeld_4 rfl (lv_at hl 1 rfl) ?_
  refine x_si (va_runV (As := [.int a]) (rest := []) S (c_X2_holds l g E hp a) (cwV 1 S.2.2.2.2 gX6_areHeld_X2_holds rfl rfl rfl (by decide +kernel) ⟨Nat.le_of_ble_eq_true rfl, Nat.le_of_ble_eq_true rfl⟩) (x_preV hK hP hp.2.1 (by decide) rfl) rfl rfl hl.1 rfl (lv_room (Nat.le_of_ble_eq_true rfl)) dX6_areHeld_5 ⟨Nat.le_of_ble_eq_true rfl, Nat.le_of_ble_eq_true rfl⟩) (fun r5 hr5 => ?_)
  refine lv_if_eq (tgt := 37) S.1 S.2.1 dX6_areHeld_8 (by decide) (fun c8 => ?_) (fun c8 => ?_)
  · skip
    refine lv_iconst (v := 0) S.1 S.2.1 dX6_areHeld_37 (by decide) ?_
    exact x_zretR S hr hlocks dX6_areHeld_38 (xb.zero (by first | exact fun h => hr27.f c30 h.2.2 | exact fun h => hr16.f c19 h.2.1 | exact fun h => hr5.f c8 h.1))
  · skip
    refine lv_aload_n S.1 S.2.1 dX6_areHeld_11 rfl (lv_at hl 0 rfl) ?_
    refine x_get S hK hP dX6_areHeld_12 hX (by decide) (RX6, TX6, 9) rfl hin6 0 (by decide) fl10 rfl ?_
    refine lv_iload_n S.1 S.2.1 dX6_areHeld_15 rfl (lv_at hl 2 rfl) ?_
    refine x_si (va_runV (As := [.int b]) (rest := []) S (c_X2_holds l g E hp b) (cwV 1 S.2.2.2.2 gX6_areHeld_X2_holds rfl rfl rfl (by decide +kernel) ⟨Nat.le_of_ble_eq_true rfl, Nat.le_of_ble_eq_true rfl⟩) (x_preV hK hP hp.2.1 (by decide) rfl) rfl rfl hl.1 rfl (lv_room (Nat.le_of_ble_eq_true rfl)) dX6_areHeld_16 ⟨Nat.le_of_ble_eq_true rfl, Nat.le_of_ble_eq_true rfl⟩) (fun r16 hr16 => ?_)
    refine lv_if_eq (tgt := 37) S.1 S.2.1 dX6_areHeld_19 (by decide) (fun c19 => ?_) (fun c19 => ?_)
    · skip
      refine lv_iconst (v := 0) S.1 S.2.1 dX6_areHeld_37 (by decide) ?_
      exact x_zretR S hr hlocks dX6_areHeld_38 (xb.zero (by first | exact fun h => hr27.f c30 h.2.2 | exact fun h => hr16.f c19 h.2.1 | exact fun h => hr5.f c8 h.1))
    · skip
      refine lv_aload_n S.1 S.2.1 dX6_areHeld_22 rfl (lv_at hl 0 rfl) ?_
      refine x_get S hK hP dX6_areHeld_23 hX (by decide) (RX6, TX6, 9) rfl hin6 0 (by decide) fl10 rfl ?_
      refine lv_iload_n S.1 S.2.1 dX6_areHeld_26 rfl (lv_at hl 3 rfl) ?_
      refine x_si (va_runV (As := [.int c9]) (rest := []) S (c_X2_holds l g E hp c9) (cwV 1 S.2.2.2.2 gX6_areHeld_X2_holds rfl rfl rfl (by decide +kernel) ⟨Nat.le_of_ble_eq_true rfl, Nat.le_of_ble_eq_true rfl⟩) (x_preV hK hP hp.2.1 (by decide) rfl) rfl rfl hl.1 rfl (lv_room (Nat.le_of_ble_eq_true rfl)) dX6_areHeld_27 ⟨Nat.le_of_ble_eq_true rfl, Nat.le_of_ble_eq_true rfl⟩) (fun r27 hr27 => ?_)
      refine lv_if_eq (tgt := 37) S.1 S.2.1 dX6_areHeld_30 (by decide) (fun c30 => ?_) (fun c30 => ?_)
      · skip
        refine lv_iconst (v := 0) S.1 S.2.1 dX6_areHeld_37 (by decide) ?_
        exact x_zretR S hr hlocks dX6_areHeld_38 (xb.zero (by first | exact fun h => hr27.f c30 h.2.2 | exact fun h => hr16.f c19 h.2.1 | exact fun h => hr5.f c8 h.1))
      · skip
        refine lv_iconst (v := 1) S.1 S.2.1 dX6_areHeld_33 (by decide) ?_
        refine lv_goto (tgt := 38) S.1 S.2.1 dX6_areHeld_34 (by decide) ?_
        exact x_zretR S hr hlocks dX6_areHeld_38 (xb.one ⟨hr5.t c8, hr16.t c19, hr27.t c30⟩)
set_option maxHeartbeats 4000000 in
set_option maxRecDepth 100000 in
theorem c_X6_areUsable (l : Launch) (g : xG) (E : Nat → va_E) {hf : Int32} (hX : E 0 = .inr (6, [.ref (xad g 1), .ref (xad g 10), .int hf, .ref (xad g 19), .ref (xad g 57), .ref (xad g 59), .ref (xad g 60), .ref (xad g 61), .ref (xad g 64)])) {n : Nat} {M : Nat → Nat → Int32} (hp : ePh g E 1 n M) {i j k : Nat} (hi : i < n) (hj : j < n) (hk : k < n) : Met l yX6_areUsable wsX6_areUsable ({ frames := 1, cells := 0, slots := 0, locals := 21 }) (xPc g [.ref (xad g 0), .int (nI i), .int (nI j), .int (nI k)] E) (vp_Si (xb (pU M i = true ∧ pU M j = true ∧ pU M k = true))) 0 0 (fun _ => False) := by
  refine x_met (ws' := _) (by decide) rfl (Nat.le_of_ble_eq_true rfl) ?_
  intro p e s m below meth c ls S hr hlocks hP hK hl
  have hl : lv_has ls 4 [(0, .ref (xad g 0)), (1, .int (nI i)), (2, .int (nI j)), (3, .int (nI k))] := hl
  have hin6 : ∀ w ∈ u_ws RX6 TX6 9, w ∈ wsX6_areUsable := by decide +kernel
  have fl10 : Cond.fieldLink RX6 10 "DiscArcs" "photos" "LDiscArcs$Photos;" ∈ wsX6_areUsable := by decide +kernel
  refine lv_aload_n S.1 S.2.1 dX6_areUsable_0 rfl (lv_at hl 0 rfl) ?_
  refine x_get S hK hP dX6_areUsable_1 hX (by decide) (RX6, TX6, 9) rfl hin6 0 (by decide) fl10 rfl ?_
  refine lv_iload_n S.1 S.2.1 dX6_areUsable_4 rfl (lv_at hl 1 rfl) ?_
  refine x_si (va_runV (As := [.int (nI i)]) (rest := []) S (c_X2_isUsable l g E hp hi) (cwV 1 S.2.2.2.2 gX6_areUsable_X2_isUsable rfl rfl rfl (by decide +kernel) ⟨Nat.le_of_ble_eq_true rfl, Nat.le_of_ble_eq_true rfl⟩) (x_preV hK hP hp.2.1 (by decide) rfl) rfl rfl hl.1 rfl (lv_room (Nat.le_of_ble_eq_true rfl)) dX6_areUsable_5 ⟨Nat.le_of_ble_eq_true rfl, Nat.le_of_ble_eq_true rfl⟩) (fun r5 hr5 => ?_)
  refine lv_if_eq (tgt := 37) S.1 S.2.1 dX6_areUsable_8 (by decide) (fun c8 => ?_) (fun c8 => ?_)
  · skip
    refine lv_iconst (v := 0) S.1 S.2.1 dX6_areUsable_37 (by decide) ?_
    exact x_zretR S hr hlocks dX6_areUsable_38 (xb.zero (by first | exact fun h => hr27.f c30 h.2.2 | exact fun h => hr16.f c19 h.2.1 | exact fun h => hr5.f c8 h.1))
  · skip
    refine lv_aload_n S.1 S.2.1 dX6_areUsable_11 rfl (lv_at hl 0 rfl) ?_
    refine x_get S hK hP dX6_areUsable_12 hX (by decide) (RX6, TX6, 9) rfl hin6 0 (by decide) fl10 rfl ?_
    refine lv_iload_n S.1 S.2.1 dX6_areUsable_15 rfl (lv_at hl 2 rfl) ?_
    refine x_si (va_runV (As := [.int (nI j)]) (rest := []) S (c_X2_isUsable l g E hp hj) (cwV 1 S.2.2.2.2 gX6_areUsable_X2_isUsable rfl rfl rfl (by decide +kernel) ⟨Nat.le_of_ble_eq_true rfl, Nat.le_of_ble_eq_true rfl⟩) (x_preV hK hP hp.2.1 (by decide) rfl) rfl rfl hl.1 rfl (lv_room (Nat.le_of_ble_eq_true rfl)) dX6_areUsable_16 ⟨Nat.le_of_ble_eq_true rfl, Nat.le_of_ble_eq_true rfl⟩) (fun r16 hr16 => ?_)
    refine lv_if_eq (tgt := 37) S.1 S.2.1 dX6_areUsable_19 (by decide) (fun c19 => ?_) (fun c19 => ?_)
    · skip
      refine lv_iconst (v := 0) S.1 S.2.1 dX6_areUsable_37 (by decide) ?_
      exact x_zretR S hr hlocks dX6_areUsable_38 (xb.zero (by first | exact fun h => hr27.f c30 h.2.2 | exact fun h => hr16.f c19 h.2.1 | exact fun h => hr5.f c8 h.1))
    · skip
      refine lv_aload_n S.1 S.2.1 dX6_areUsable_22 rfl (lv_at hl 0 rfl) ?_
      refine x_get S hK hP dX6_areUsable_23 hX (by decide) (RX6, TX6, 9) rfl hin6 0 (by decide) fl10 rfl ?_
      refine lv_iload_n S.1 S.2.1 dX6_areUsable_26 rfl (lv_at hl 3 rfl) ?_
      refine x_si (va_runV (As := [.int (nI k)]) (rest := []) S (c_X2_isUsable l g E hp hk) (cwV 1 S.2.2.2.2 gX6_areUsable_X2_isUsable rfl rfl rfl (by decide +kernel) ⟨Nat.le_of_ble_eq_true rfl, Nat.le_of_ble_eq_true rfl⟩) (x_preV hK hP hp.2.1 (by decide) rfl) rfl rfl hl.1 rfl (lv_room (Nat.le_of_ble_eq_true rfl)) dX6_areUsable_27 ⟨Nat.le_of_ble_eq_true rfl, Nat.le_of_ble_eq_true rfl⟩) (fun r27 hr27 => ?_)
      refine lv_if_eq (tgt := 37) S.1 S.2.1 dX6_areUsable_30 (by decide) (fun c30 => ?_) (fun c30 => ?_)
      · skip
        refine lv_iconst (v := 0) S.1 S.2.1 dX6_areUsable_37 (by decide) ?_
        exact x_zretR S hr hlocks dX6_areUsable_38 (xb.zero (by first | exact fun h => hr27.f c30 h.2.2 | exact fun h => hr16.f c19 h.2.1 | exact fun h => hr5.f c8 h.1))
      · skip
        refine lv_iconst (v := 1) S.1 S.2.1 dX6_areUsable_33 (by decide) ?_
        refine lv_goto (tgt := 38) S.1 S.2.1 dX6_areUsable_34 (by decide) ?_
        exact x_zretR S hr hlocks dX6_areUsable_38 (xb.one ⟨hr5.t c8, hr16.t c19, hr27.t c30⟩)
/-- three numbers in order -/
def srt (i j k a b c : Nat) : Prop := a < b ∧ b < c ∧ ((i = a ∧ j = b ∧ k = c) ∨ (i = a ∧ j = c ∧ k = b) ∨ (i = b ∧ j = a ∧ k = c) ∨ (i = b ∧ j = c ∧ k = a) ∨ (i = c ∧ j = a ∧ k = b) ∨ (i = c ∧ j = b ∧ k = a))
theorem nI_min {a b : Nat} (ha : a < 2 ^ 31) (hb : b < 2 ^ 31) : (if nI b < nI a then nI b else nI a) = nI (min a b) := by
  by_cases h : b < a
  · rw [if_pos ((nI_ltI hb ha).mpr h), Nat.min_eq_right (by omega)]
  · rw [if_neg (fun g => h ((nI_ltI hb ha).mp g)), Nat.min_eq_left (by omega)]
theorem nI_max {a b : Nat} (ha : a < 2 ^ 31) (hb : b < 2 ^ 31) : (if nI a < nI b then nI b else nI a) = nI (max a b) := by
  by_cases h : a < b
  · rw [if_pos ((nI_ltI ha hb).mpr h), Nat.max_eq_right (by omega)]
  · rw [if_neg (fun g => h ((nI_ltI ha hb).mp g)), Nat.max_eq_left (by omega)]
theorem srt_of {i j k : Nat} (h1 : ¬ i = j) (h2 : ¬ i = k) (h3 : ¬ j = k) : srt i j k (min i (min j k)) (i + j + k - min i (min j k) - max i (max j k)) (max i (max j k)) := by
  unfold srt
  omega
theorem nI_mid {i j k a c : Nat} (h1 : a ≤ i + j + k) (h2 : c ≤ i + j + k - a) : nI i + nI j + nI k - nI a - nI c = nI (i + j + k - a - c) := by
  rw [nI_add, nI_add, pk_sub h1, pk_sub h2]
set_option maxHeartbeats 4000000 in
set_option maxRecDepth 100000 in
theorem c_X6_layInOrder (l : Launch) (g : xG) (hJ : xJ (xad g)) (E : Nat → va_E) {hf : Int32} (hX : E 0 = .inr (6, [.ref (xad g 1), .ref (xad g 10), .int hf, .ref (xad g 19), .ref (xad g 57), .ref (xad g 59), .ref (xad g 60), .ref (xad g 61), .ref (xad g 64)])) {x1 x2 x3 : Int32} (hA : E 60 = .inr (0, [.ref (xad g 1), .int x1, .int x2, .int x3])) {i j k : Nat} (hi : i < 10) (hj : j < 10) (hk : k < 10) (h1 : ¬ i = j) (h2 : ¬ i = k) (h3 : ¬ j = k) : Met l yX6_layInOrder wsX6_layInOrder ({ frames := 1, cells := 0, slots := 0, locals := 40 }) (xPc g [.ref (xad g 0), .int (nI i), .int (nI j), .int (nI k)] E) (xQv g (fun E1 => ∃ a b c, srt i j k a b c ∧ xU E 60 (.inr (0, [.ref (xad g 1), .int (nI a), .int (nI b), .int (nI c)])) E1)) 0 0 (xA (xad g)) := by
  refine x_met (ws' := _) (by decide) rfl (Nat.le_of_ble_eq_true rfl) ?_
  intro p e s m below meth c ls S hr hlocks hP hK hl
  have hl : lv_has ls 6 [(0, .ref (xad g 0)), (1, .int (nI i)), (2, .int (nI j)), (3, .int (nI k))] := hl
  have hS : va_S (xA (xad g)) s.heap s.heap [] := va_S.rf
  have hin6 : ∀ w ∈ u_ws RX6 TX6 9, w ∈ wsX6_layInOrder := by decide +kernel
  have fl42 : Cond.fieldLink RX6 42 "DiscArcs" "curve" "LDiscArcs$Arc;" ∈ wsX6_layInOrder := by decide +kernel
  refine lv_iload_n S.1 S.2.1 dX6_layInOrder_0 rfl (lv_at hl 1 rfl) ?_
  refine lv_iload_n S.1 S.2.1 dX6_layInOrder_1 rfl (lv_at hl 2 rfl) ?_
  refine lv_iload_n S.1 S.2.1 dX6_layInOrder_2 rfl (lv_at hl 3 rfl) ?_
  refine va_mmin S.1 S.2.1 (by rw [S.2.2.1]; exact hl.1.symm) S.2.2.2.1 (S.2.2.2.2 (.methodLink RX6 244 Lib.Math.min.name) (by decide +kernel)) (S.2.2.2.2 (.static Lib.Math.min.name) (by decide +kernel)) (S.2.2.2.2 (.initialized "java/lang/Math") (by decide +kernel)) (S.2.2.2.2 (.code Lib.Math.min.name Lib.Math.min.code 2 (some .int)) (by decide +kernel)) (Nat.le_of_ble_eq_true rfl) (Nat.le_of_ble_eq_true rfl) (Nat.le_of_ble_eq_true rfl) (Nat.le_of_ble_eq_true rfl) dX6_layInOrder_3 ?_
  refine va_mmin S.1 S.2.1 (by rw [S.2.2.1]; exact hl.1.symm) S.2.2.2.1 (S.2.2.2.2 (.methodLink RX6 244 Lib.Math.min.name) (by decide +kernel)) (S.2.2.2.2 (.static Lib.Math.min.name) (by decide +kernel)) (S.2.2.2.2 (.initialized "java/lang/Math") (by decide +kernel)) (S.2.2.2.2 (.code Lib.Math.min.name Lib.Math.min.code 2 (some .int)) (by decide +kernel)) (Nat.le_of_ble_eq_true rfl) (Nat.le_of_ble_eq_true rfl) (Nat.le_of_ble_eq_true rfl) (Nat.le_of_ble_eq_true rfl) dX6_layInOrder_6 ?_
  refine W.eq (g2 := F0 m 9 ls [.int (nI (min i (min j k)))]) (by rw [nI_min (a := j) (b := k) (by omega) (by omega), nI_min (a := i) (b := min j k) (by omega) (by omega)]) ?_
  refine lv_istore (lv' := [(4, .int (nI (min i (min j k)))), (0, .ref (xad g 0)), (1, .int (nI i)), (2, .int (nI j)), (3, .int (nI k))]) S.1 S.2.1 dX6_layInOrder_9 hl (by decide) rfl (fun ls hl => ?_)
  refine lv_iload_n S.1 S.2.1 dX6_layInOrder_11 rfl (lv_at hl 2 rfl) ?_
  refine lv_iload_n S.1 S.2.1 dX6_layInOrder_12 rfl (lv_at hl 3 rfl) ?_
  refine lv_iload_n S.1 S.2.1 dX6_layInOrder_13 rfl (lv_at hl 4 rfl) ?_
  refine va_mmax S.1 S.2.1 (by rw [S.2.2.1]; exact hl.1.symm) S.2.2.2.1 (S.2.2.2.2 (.methodLink RX6 249 Lib.Math.max.name) (by decide +kernel)) (S.2.2.2.2 (.static Lib.Math.max.name) (by decide +kernel)) (S.2.2.2.2 (.initialized "java/lang/Math") (by decide +kernel)) (S.2.2.2.2 (.code Lib.Math.max.name Lib.Math.max.code 2 (some .int)) (by decide +kernel)) (Nat.le_of_ble_eq_true rfl) (Nat.le_of_ble_eq_true rfl) (Nat.le_of_ble_eq_true rfl) (Nat.le_of_ble_eq_true rfl) dX6_layInOrder_14 ?_
  refine va_mmax S.1 S.2.1 (by rw [S.2.2.1]; exact hl.1.symm) S.2.2.2.1 (S.2.2.2.2 (.methodLink RX6 249 Lib.Math.max.name) (by decide +kernel)) (S.2.2.2.2 (.static Lib.Math.max.name) (by decide +kernel)) (S.2.2.2.2 (.initialized "java/lang/Math") (by decide +kernel)) (S.2.2.2.2 (.code Lib.Math.max.name Lib.Math.max.code 2 (some .int)) (by decide +kernel)) (Nat.le_of_ble_eq_true rfl) (Nat.le_of_ble_eq_true rfl) (Nat.le_of_ble_eq_true rfl) (Nat.le_of_ble_eq_true rfl) dX6_layInOrder_17 ?_
  refine W.eq (g2 := F0 m 20 ls [.int (nI (max i (max j k)))]) (by rw [nI_max (a := j) (b := k) (by omega) (by omega), nI_max (a := i) (b := max j k) (by omega) (by omega)]) ?_
  refine lv_istore (lv' := [(5, .int (nI (max i (max j k)))), (4, .int (nI (min i (min j k)))), (0, .ref (xad g 0)), (1, .int (nI i)), (2, .int (nI j)), (3, .int (nI k))]) S.1 S.2.1 dX6_layInOrder_20 hl (by decide) rfl (fun ls hl => ?_)
  refine lv_aload_n S.1 S.2.1 dX6_layInOrder_22 rfl (lv_at hl 2 rfl) ?_
  refine x_get S hK hP dX6_layInOrder_23 hX (by decide) (RX6, TX6, 9) rfl hin6 6 (by decide) fl42 rfl ?_
  refine lv_iload S.1 S.2.1 dX6_layInOrder_26 (lv_at hl 1 rfl) ?_
  refine lv_iload_n S.1 S.2.1 dX6_layInOrder_28 rfl (lv_at hl 3 rfl) ?_
  refine lv_iload_n S.1 S.2.1 dX6_layInOrder_29 rfl (lv_at hl 4 rfl) ?_
  refine lv_iadd S.1 S.2.1 dX6_layInOrder_30 ?_
  refine lv_iload_n S.1 S.2.1 dX6_layInOrder_31 rfl (lv_at hl 5 rfl) ?_
  refine lv_iadd S.1 S.2.1 dX6_layInOrder_32 ?_
  refine lv_iload S.1 S.2.1 dX6_layInOrder_33 (lv_at hl 1 rfl) ?_
  refine lv_isub S.1 S.2.1 dX6_layInOrder_35 ?_
  refine lv_iload S.1 S.2.1 dX6_layInOrder_36 (lv_at hl 0 rfl) ?_
  refine lv_isub S.1 S.2.1 dX6_layInOrder_38 ?_
  refine lv_iload S.1 S.2.1 dX6_layInOrder_39 (lv_at hl 0 rfl) ?_
  refine x_qv (va_runV (As := [.int (nI (min i (min j k))), .int (((((((((nI i)) + ((nI j)))) + ((nI k)))) - ((nI (min i (min j k)))))) - ((nI (max i (max j k))))), .int (nI (max i (max j k)))]) (rest := []) S (c_X0_lay l g hJ E hA _ _ _) (cwV 3 S.2.2.2.2 gX6_layInOrder_X0_lay rfl rfl rfl (by decide +kernel) ⟨Nat.le_of_ble_eq_true rfl, Nat.le_of_ble_eq_true rfl⟩) (x_preV hK hP hA (by decide) rfl) rfl rfl hl.1 rfl (lv_room (Nat.le_of_ble_eq_true rfl)) dX6_layInOrder_41 ⟨Nat.le_of_ble_eq_true rfl, Nat.le_of_ble_eq_true rfl⟩) hS (fun E1 H locs hq41 hP hS => ?_)
  rw [nI_mid (i := i) (j := j) (k := k) (a := min i (min j k)) (c := max i (max j k)) (by omega) (by omega)] at hq41
  exact x_vret S hr hlocks hP hS dX6_layInOrder_44 (⟨_, _, _, srt_of h1 h2 h3, hq41⟩)
theorem gcd_step {g s j P : Nat} (hs : 0 < s) (hg : j = 0 ∨ s < g) (hP : g * s * 2 ^ (j - 1) ≤ P) : s * (g % s) * 2 ^ (j + 1 - 1) ≤ P := by
  rcases Nat.eq_zero_or_pos j with h | h
  · subst h
    refine Nat.le_trans ?_ hP
    show s * (g % s) * 2 ^ 0 ≤ g * s * 2 ^ 0
    rw [Nat.mul_comm g s]
    exact Nat.mul_le_mul_right _ (Nat.mul_le_mul_left _ (Nat.mod_le _ _))
  · have hlt : s < g := by omega
    have h2 : 2 * (g % s) ≤ g := by
      have e := Nat.div_add_mod g s
      have h3 : g % s < s := Nat.mod_lt _ hs
      have h4 : 1 ≤ g / s := Nat.div_pos (by omega) hs
      have h5 : s * 1 ≤ s * (g / s) := Nat.mul_le_mul_left _ h4
      omega
    refine Nat.le_trans ?_ hP
    have e2 : j + 1 - 1 = (j - 1) + 1 := by omega
    rw [e2, Nat.pow_succ, Nat.mul_comm (2 ^ (j - 1)) 2, ← Nat.mul_assoc]
    refine Nat.mul_le_mul_right _ ?_
    rw [Nat.mul_assoc, Nat.mul_comm (g % s) 2, Nat.mul_comm g s]
    exact Nat.mul_le_mul_left _ h2
theorem gcd_end {g s P : Nat} (hs : 0 < s) (hg : s < g) (hP : g * s * 2 ^ 999 ≤ P) (hb : P < 2 ^ 126) : False := by
  have h1 : 1 * 2 ^ 999 ≤ g * s * 2 ^ 999 := Nat.mul_le_mul_right _ (Nat.mul_pos (by omega) hs)
  have h2 : (2 : Nat) ^ 126 ≤ 2 ^ 999 := Nat.pow_le_pow_right (by decide) (by decide)
  omega
theorem lN_0 : lN 0 = 0 := rfl
set_option maxHeartbeats 4000000 in
set_option maxRecDepth 100000 in
/-- commonDivisor -/
theorem c_X6_commonDivisor (l : Launch) (g : xG) (E : Nat → va_E) {a b : Nat} (ha : a < 2 ^ 63) (hb : b < 2 ^ 63) : Met l yX6_commonDivisor wsX6_commonDivisor ({ frames := 0, cells := 0, slots := 0, locals := 0 }) (xPc g [.long (lN a), .long (lN b)] E) (vp_Sl (fun r => r = lN (Nat.gcd a b))) 0 0 (fun _ => False) := by
  refine x_met (ws' := _) (by decide) rfl (Nat.le_of_ble_eq_true rfl) ?_
  intro p e s m below meth c ls S hr hlocks hP hK hl
  have hl : lv_has ls 11 [(0, .long (lN a)), (2, .long (lN b))] := hl
  have hP0 : a * b < 2 ^ 126 := Nat.lt_of_lt_of_le (Nat.mul_lt_mul'' ha hb) (by decide)
  refine lv_lload_n S.1 S.2.1 dX6_commonDivisor_0 rfl (lv_at hl 0 rfl) ?_
  refine lv_lstore (lv' := [(4, .long (lN a)), (0, .long (lN a)), (2, .long (lN b))]) S.1 S.2.1 dX6_commonDivisor_1 hl (by decide) rfl (fun ls hl => ?_)
  refine lv_lload_n S.1 S.2.1 dX6_commonDivisor_3 rfl (lv_at hl 2 rfl) ?_
  refine lv_lstore (lv' := [(6, .long (lN b)), (4, .long (lN a)), (0, .long (lN a)), (2, .long (lN b))]) S.1 S.2.1 dX6_commonDivisor_4 hl (by decide) rfl (fun ls hl => ?_)
  refine lv_iconst (v := 0) S.1 S.2.1 dX6_commonDivisor_6 (by decide) ?_
  refine lv_istore (lv' := [(8, .int 0), (6, .long (lN b)), (4, .long (lN a)), (0, .long (lN a)), (2, .long (lN b))]) S.1 S.2.1 dX6_commonDivisor_7 hl (by decide) rfl (fun ls hl => ?_)
  have loop9 : ∀ (d : Nat) (g9 : Nat) (s9 : Nat) (j : Nat), (hg9 : g9 < 2 ^ 63) → (hs9 : s9 < 2 ^ 63) → (hgcd : Nat.gcd g9 s9 = Nat.gcd a b) → (hj : j ≤ 1000) → (hg : j = 0 ∨ s9 < g9) → (hP : g9 * s9 * 2 ^ (j - 1) ≤ a * b) → (1001 - j) < d → ∀ ls : Array Slot, lv_has ls 11 [(8, .int (nI j)), (6, .long (lN s9)), (4, .long (lN g9))] → W p l e ({ frames := 0, cells := 0, slots := 0, locals := 0 }) s m ([.long (lN a), .long (lN b)] : List Value).toArray below meth c s.heap [] 0 0 (MQ below (vp_Sl (fun r => r = lN (Nat.gcd a b))) ([.long (lN a), .long (lN b)] : List Value).toArray s 0 0 (fun _ => False)) (F0 m 9 ls []) := by
    intro d
    induction d with
    | zero => intro g9 s9 j hg9 hs9 hgcd hj hg hP hd; exact absurd hd (Nat.not_lt_zero _)
    | succ d ih9 =>
      intro g9 s9 j hg9 hs9 hgcd hj hg hP hd ls hl
      refine lv_lload S.1 S.2.1 dX6_commonDivisor_9 (lv_at hl 1 rfl) ?_
      refine lv_lconst (v := 0) S.1 S.2.1 dX6_commonDivisor_11 rfl ?_
      refine W.lcmp S.1 S.2.1 dX6_commonDivisor_12 ?_
      refine lv_if_eq (tgt := 45) S.1 S.2.1 dX6_commonDivisor_13 (by decide) (fun c13 => ?_) (fun c13 => ?_)
      · skip
        refine lv_lload S.1 S.2.1 dX6_commonDivisor_45 (lv_at hl 2 rfl) ?_
        exact x_lretR S hr hlocks dX6_commonDivisor_47 (by first | (exact (gcd_end hs0 (by omega) (by have := (nI_leI (a := 1000) (b := j) (by omega) (by omega)).mp c21; rw [show j = 1000 by omega] at hP; exact hP) hP0).elim) | (have h0 := (lg_cmp_eq _ _).mp c13; rw [← lN_0, pk_lEQ (by omega) (by decide)] at h0; rw [← hgcd, h0, Nat.gcd_zero_right]))
      · skip
        have hs0 : 0 < s9 := by rcases Nat.eq_zero_or_pos s9 with h | h
          · subst h; exact absurd ((lg_cmp_eq _ _).mpr rfl) c13
          · exact h
        refine lv_iload S.1 S.2.1 dX6_commonDivisor_16 (lv_at hl 0 rfl) ?_
        refine lv_sipush (v := 1000) S.1 S.2.1 dX6_commonDivisor_18 (by decide) ?_
        refine lv_icmp_ge (tgt := 45) S.1 S.2.1 dX6_commonDivisor_21 (by decide) (fun c21 => ?_) (fun c21 => ?_)
        · skip
          refine lv_lload S.1 S.2.1 dX6_commonDivisor_45 (lv_at hl 2 rfl) ?_
          exact x_lretR S hr hlocks dX6_commonDivisor_47 (by first | (exact (gcd_end hs0 (by omega) (by have := (nI_leI (a := 1000) (b := j) (by omega) (by omega)).mp c21; rw [show j = 1000 by omega] at hP; exact hP) hP0).elim) | (have h0 := (lg_cmp_eq _ _).mp c13; rw [← lN_0, pk_lEQ (by omega) (by decide)] at h0; rw [← hgcd, h0, Nat.gcd_zero_right]))
        · skip
          have hj : j < 1000 := Nat.not_le.mp (fun h => c21 ((nI_leI (a := 1000) (by omega) (by omega)).mpr h))
          refine lv_lload S.1 S.2.1 dX6_commonDivisor_24 (lv_at hl 2 rfl) ?_
          refine lv_lload S.1 S.2.1 dX6_commonDivisor_26 (lv_at hl 1 rfl) ?_
          refine lv_lrem S.1 S.2.1 dX6_commonDivisor_28 (fun h => by rw [← lN_0, pk_lEQ (by omega) (by decide)] at h; omega) ?_
          refine W.eq (g2 := F0 m 29 ls [.long (lN (g9 % s9))]) (by rw [pk_lRem (by omega) hs0 (by omega)]) ?_
          refine lv_lstore (lv' := [(9, .long (lN (g9 % s9))), (8, .int (nI j)), (6, .long (lN s9)), (4, .long (lN g9))]) S.1 S.2.1 dX6_commonDivisor_29 hl (by decide) rfl (fun ls hl => ?_)
          refine lv_lload S.1 S.2.1 dX6_commonDivisor_31 (lv_at hl 2 rfl) ?_
          refine lv_lstore (lv' := [(4, .long (lN s9)), (9, .long (lN (g9 % s9))), (8, .int (nI j)), (6, .long (lN s9))]) S.1 S.2.1 dX6_commonDivisor_33 hl (by decide) rfl (fun ls hl => ?_)
          refine lv_lload S.1 S.2.1 dX6_commonDivisor_35 (lv_at hl 1 rfl) ?_
          refine lv_lstore (lv' := [(6, .long (lN (g9 % s9))), (4, .long (lN s9)), (9, .long (lN (g9 % s9))), (8, .int (nI j))]) S.1 S.2.1 dX6_commonDivisor_37 hl (by decide) rfl (fun ls hl => ?_)
          refine lv_iinc (v := nI (j + 1)) (lv' := [(8, .int (nI (j + 1))), (6, .long (lN (g9 % s9))), (4, .long (lN s9)), (9, .long (lN (g9 % s9)))]) S.1 S.2.1 dX6_commonDivisor_39 hl (k := 3) rfl (show nI j + Int32.ofInt 1 = _ from nI_1 _) (by decide) rfl (fun ls hl => ?_)
          refine lv_goto (tgt := 9) S.1 S.2.1 dX6_commonDivisor_42 (by decide) ?_
          exact ih9 s9 (g9 % s9) (j + 1) (by omega) (by have := Nat.mod_lt g9 hs0; omega) (by rw [← hgcd, Nat.gcd_comm g9 s9, Nat.gcd_rec s9 g9, Nat.gcd_comm]) (by omega) (Or.inr (Nat.mod_lt _ hs0)) (gcd_step hs0 hg hP) (by omega) ls (lv_sub hl [0, 1, 2] rfl)
  exact loop9 _ a b 0 ha hb rfl (Nat.zero_le _) (Or.inl rfl) (by rw [show (0 : Nat) - 1 = 0 from rfl, Nat.pow_zero, Nat.mul_one]; exact Nat.le_refl _) (Nat.lt_succ_self _) ls (lv_sub hl [0, 1, 2] rfl)
/-- a part of a fraction, in lowest terms; the lower number is above 0 -/
def prt (u : Int64) (b : Nat) (q : Int32) : Int64 := if q = 0 then u / lN (Nat.gcd u.toInt.natAbs b) + 10000000000 else lN b / lN (Nat.gcd u.toInt.natAbs b)
theorem abL_lN {u : Int64} (h : -9223372036854775808 < u.toInt) : (if 0 < u then u else -u) = lN u.toInt.natAbs := by
  apply Int64.toInt_inj.mp
  have hlt := Int64.toInt_lt u
  have h2 : (u.toInt.natAbs : Int) < 9223372036854775808 := by omega
  rw [pk_lT (by omega)]
  by_cases c : 0 < u
  · rw [if_pos c]
    have := L_pos.mp c
    omega
  · rw [if_neg c, Int64.toInt_neg, Int.bmod_eq_of_le (by omega) (by omega)]
    have : ¬ 0 < u.toInt := fun h => c (L_pos.mpr h)
    omega
theorem natAbs_lt {u : Int64} (h : -9223372036854775808 < u.toInt) : u.toInt.natAbs < 2 ^ 63 := by
  have hlt := Int64.toInt_lt u
  omega
set_option maxHeartbeats 4000000 in
set_option maxRecDepth 100000 in
theorem c_X6_partOf (l : Launch) (g : xG) (E : Nat → va_E) {u : Int64} {b : Nat} (q : Int32) (hu9 : -9223372036854775808 < u.toInt) (hb0 : 0 < b) (hb : b < 2 ^ 63) : Met l yX6_partOf wsX6_partOf ({ frames := 1, cells := 0, slots := 0, locals := 40 }) (xPc g [.long u, .long (lN b), .int q] E) (vp_Sl (fun r => r = prt u b q)) 0 0 (fun _ => False) := by
  refine x_met (ws' := _) (by decide) rfl (Nat.le_of_ble_eq_true rfl) ?_
  intro p e s m below meth c ls S hr hlocks hP hK hl
  have hl : lv_has ls 7 [(0, .long u), (2, .long (lN b)), (4, .int q)] := hl
  refine lv_lconst (v := 1) S.1 S.2.1 dX6_partOf_0 rfl ?_
  refine lv_lload_n S.1 S.2.1 dX6_partOf_1 rfl (lv_at hl 0 rfl) ?_
  refine va_mabs_long S.1 S.2.1 (by rw [S.2.2.1]; exact hl.1.symm) S.2.2.2.1 (S.2.2.2.2 (.methodLink RX6 255 Lib.MathLoose.abs_long.x) (by decide +kernel)) (S.2.2.2.2 (.static Lib.MathLoose.abs_long.x) (by decide +kernel)) (S.2.2.2.2 (.initialized "java/lang/Math") (by decide +kernel)) (S.2.2.2.2 (.code Lib.MathLoose.abs_long.x Lib.MathLoose.abs_long.code 2 (some .long)) (by decide +kernel)) (Nat.le_of_ble_eq_true rfl) (Nat.le_of_ble_eq_true rfl) (Nat.le_of_ble_eq_true rfl) (Nat.le_of_ble_eq_true rfl) dX6_partOf_2 ?_
  refine lv_lload_n S.1 S.2.1 dX6_partOf_5 rfl (lv_at hl 1 rfl) ?_
  refine W.eq (g2 := F0 m 6 ls [.long (lN b), .long (lN u.toInt.natAbs), .long 1]) (by rw [abL_lN hu9]) ?_
  refine x_sl (va_runS (As := [.long (lN u.toInt.natAbs), .long (lN b)]) (rest := [.long 1]) S (c_X6_commonDivisor l g E (natAbs_lt hu9) hb) (va_cwS 2 S.2.2.2.2 gX6_partOf_X6_commonDivisor rfl rfl rfl (by decide +kernel) ⟨Nat.le_of_ble_eq_true rfl, Nat.le_of_ble_eq_true rfl⟩) (x_preS hK hP) rfl rfl hl.1 rfl (lv_room (Nat.le_of_ble_eq_true rfl)) dX6_partOf_6 ⟨Nat.le_of_ble_eq_true rfl, Nat.le_of_ble_eq_true rfl⟩) (fun r6 hr6 => ?_)
  have hd0 : 0 < Nat.gcd u.toInt.natAbs b := Nat.gcd_pos_of_pos_right _ hb0
  have hd1 : Nat.gcd u.toInt.natAbs b ≤ b := Nat.gcd_le_right _ hb0
  subst hr6
  refine va_mmax_long S.1 S.2.1 (by rw [S.2.2.1]; exact hl.1.symm) S.2.2.2.1 (S.2.2.2.2 (.methodLink RX6 263 Lib.MathLoose.max_long.x) (by decide +kernel)) (S.2.2.2.2 (.static Lib.MathLoose.max_long.x) (by decide +kernel)) (S.2.2.2.2 (.initialized "java/lang/Math") (by decide +kernel)) (S.2.2.2.2 (.code Lib.MathLoose.max_long.x Lib.MathLoose.max_long.code 4 (some .long)) (by decide +kernel)) (Nat.le_of_ble_eq_true rfl) (Nat.le_of_ble_eq_true rfl) (Nat.le_of_ble_eq_true rfl) (Nat.le_of_ble_eq_true rfl) dX6_partOf_9 ?_
  refine W.eq (g2 := F0 m 12 ls [.long (lN (Nat.gcd u.toInt.natAbs b))]) (by rw [if_neg (fun h => by rw [show (1 : Int64) = lN 1 from rfl, pk_lLT (by omega) (by omega)] at h; omega)]) ?_
  refine lv_lstore (lv' := [(5, .long (lN (Nat.gcd u.toInt.natAbs b))), (0, .long u), (2, .long (lN b)), (4, .int q)]) S.1 S.2.1 dX6_partOf_12 hl (by decide) rfl (fun ls hl => ?_)
  refine lv_iload S.1 S.2.1 dX6_partOf_14 (lv_at hl 3 rfl) ?_
  refine lv_if_ne (tgt := 30) S.1 S.2.1 dX6_partOf_16 (by decide) (fun c16 => ?_) (fun c16 => ?_)
  · skip
    refine lv_lload_n S.1 S.2.1 dX6_partOf_30 rfl (lv_at hl 2 rfl) ?_
    refine lv_lload S.1 S.2.1 dX6_partOf_31 (lv_at hl 0 rfl) ?_
    refine lv_ldiv S.1 S.2.1 dX6_partOf_33 (fun h => by rw [← lN_0, pk_lEQ (by omega) (by decide)] at h; omega) ?_
    exact x_lretR S hr hlocks dX6_partOf_34 (by unfold prt; first | rw [if_pos c16] | rw [if_neg c16])
  · skip
    refine lv_lload_n S.1 S.2.1 dX6_partOf_19 rfl (lv_at hl 1 rfl) ?_
    refine lv_lload S.1 S.2.1 dX6_partOf_20 (lv_at hl 0 rfl) ?_
    refine lv_ldiv S.1 S.2.1 dX6_partOf_22 (fun h => by rw [← lN_0, pk_lEQ (by omega) (by decide)] at h; omega) ?_
    refine lv_ldc2 S.1 S.2.1 S.2.2.2.1 (S.2.2.2.2 (.constantLong RX6 265 10000000000) (by decide +kernel)) dX6_partOf_23 ?_
    refine lv_ladd S.1 S.2.1 dX6_partOf_26 ?_
    refine lv_goto (tgt := 34) S.1 S.2.1 dX6_partOf_27 (by decide) ?_
    exact x_lretR S hr hlocks dX6_partOf_34 (by unfold prt; first | rw [if_pos c16] | rw [if_neg c16])
