/-! TEXT: the class's reading at the places 57, 58, 59 -/
set_option maxHeartbeats 4000000 in
set_option maxRecDepth 100000 in
theorem c_X4_isDigit (l : Launch) (g : xG) (E : Nat → va_E) {tl p : Nat} {ta : Int32} {f : Nat → Int32} (h57 : E 57 = .inr (4, [.ref (xad g 58), .int (nI tl), .int (nI p), .int ta])) (h58 : E 58 = .inl (xC g, 60, .inl f)) (htl : tl ≤ 60) (hp : p ≤ tl) : Met l yX4_isDigit wsX4_isDigit ({ frames := 0, cells := 0, slots := 0, locals := 0 }) (xPc g [.ref (xad g 57)] E) (vp_Si (xb (dig f tl p))) 0 0 (fun _ => False) := by
  refine x_met (ws' := _) (by decide) rfl (Nat.le_of_ble_eq_true rfl) ?_
  intro p e s m below meth c ls S hr hlocks hP hK hl
  have hl : lv_has ls 1 [(0, .ref (xad g 57))] := hl
  have hin4 : ∀ w ∈ u_ws RX4 TX4 4, w ∈ wsX4_isDigit := by decide +kernel
  have fl9 : Cond.fieldLink RX4 9 "DiscArcs$Text" "characters" "[C" ∈ wsX4_isDigit := by decide +kernel
  have fl15 : Cond.fieldLink RX4 15 "DiscArcs$Text" "length" "I" ∈ wsX4_isDigit := by decide +kernel
  have fl19 : Cond.fieldLink RX4 19 "DiscArcs$Text" "position" "I" ∈ wsX4_isDigit := by decide +kernel
  refine lv_aload_n S.1 S.2.1 dX4_isDigit_0 rfl (lv_at hl 0 rfl) ?_
  refine x_get S hK hP dX4_isDigit_1 h57 (by decide) (RX4, TX4, 4) rfl hin4 2 (by decide) fl19 rfl ?_
  refine lv_aload_n S.1 S.2.1 dX4_isDigit_4 rfl (lv_at hl 0 rfl) ?_
  refine x_get S hK hP dX4_isDigit_5 h57 (by decide) (RX4, TX4, 4) rfl hin4 1 (by decide) fl15 rfl ?_
  refine lv_icmp_ge (tgt := 43) S.1 S.2.1 dX4_isDigit_8 (by decide) (fun c8 => ?_) (fun c8 => ?_)
  · skip
    refine lv_iconst (v := 0) S.1 S.2.1 dX4_isDigit_43 (by decide) ?_
    exact x_zretR S hr hlocks dX4_isDigit_44 (xb.zero (fun h => by first | exact absurd c36 (Int32.not_lt.mpr h.2.2) | exact absurd c22 (Int32.not_lt.mpr h.2.1) | exact absurd ((nI_leI (by omega) (by omega)).mp c8) (by have := h.1; omega)))
  · skip
    have hpt : p < tl := Nat.not_le.mp (fun h => c8 ((nI_leI (by omega) (by omega)).mpr h))
    refine lv_aload_n S.1 S.2.1 dX4_isDigit_11 rfl (lv_at hl 0 rfl) ?_
    refine x_get S hK hP dX4_isDigit_12 h57 (by decide) (RX4, TX4, 4) rfl hin4 0 (by decide) fl9 rfl ?_
    refine lv_aload_n S.1 S.2.1 dX4_isDigit_15 rfl (lv_at hl 0 rfl) ?_
    refine x_get S hK hP dX4_isDigit_16 h57 (by decide) (RX4, TX4, 4) rfl hin4 2 (by decide) fl19 rfl ?_
    refine x_cald S hK hP dX4_isDigit_19 h58 (by decide) (j := p) rfl (by omega) (by decide) ?_
    refine lv_bipush (v := 48) S.1 S.2.1 dX4_isDigit_20 (by decide) ?_
    refine lv_icmp_lt (tgt := 43) S.1 S.2.1 dX4_isDigit_22 (by decide) (fun c22 => ?_) (fun c22 => ?_)
    · skip
      refine lv_iconst (v := 0) S.1 S.2.1 dX4_isDigit_43 (by decide) ?_
      exact x_zretR S hr hlocks dX4_isDigit_44 (xb.zero (fun h => by first | exact absurd c36 (Int32.not_lt.mpr h.2.2) | exact absurd c22 (Int32.not_lt.mpr h.2.1) | exact absurd ((nI_leI (by omega) (by omega)).mp c8) (by have := h.1; omega)))
    · skip
      refine lv_aload_n S.1 S.2.1 dX4_isDigit_25 rfl (lv_at hl 0 rfl) ?_
      refine x_get S hK hP dX4_isDigit_26 h57 (by decide) (RX4, TX4, 4) rfl hin4 0 (by decide) fl9 rfl ?_
      refine lv_aload_n S.1 S.2.1 dX4_isDigit_29 rfl (lv_at hl 0 rfl) ?_
      refine x_get S hK hP dX4_isDigit_30 h57 (by decide) (RX4, TX4, 4) rfl hin4 2 (by decide) fl19 rfl ?_
      refine x_cald S hK hP dX4_isDigit_33 h58 (by decide) (j := p) rfl (by omega) (by decide) ?_
      refine lv_bipush (v := 57) S.1 S.2.1 dX4_isDigit_34 (by decide) ?_
      refine lv_icmp_gt (tgt := 43) S.1 S.2.1 dX4_isDigit_36 (by decide) (fun c36 => ?_) (fun c36 => ?_)
      · skip
        refine lv_iconst (v := 0) S.1 S.2.1 dX4_isDigit_43 (by decide) ?_
        exact x_zretR S hr hlocks dX4_isDigit_44 (xb.zero (fun h => by first | exact absurd c36 (Int32.not_lt.mpr h.2.2) | exact absurd c22 (Int32.not_lt.mpr h.2.1) | exact absurd ((nI_leI (by omega) (by omega)).mp c8) (by have := h.1; omega)))
      · skip
        refine lv_iconst (v := 1) S.1 S.2.1 dX4_isDigit_39 (by decide) ?_
        refine lv_goto (tgt := 44) S.1 S.2.1 dX4_isDigit_40 (by decide) ?_
        exact x_zretR S hr hlocks dX4_isDigit_44 (xb.one ⟨hpt, Int32.not_lt.mp c22, Int32.not_lt.mp c36⟩)
set_option maxHeartbeats 4000000 in
set_option maxRecDepth 100000 in
theorem c_X4_pass (l : Launch) (g : xG) (hJ : xJ (xad g)) (E : Nat → va_E) {tl p : Nat} {ta : Int32} {f : Nat → Int32} (h57 : E 57 = .inr (4, [.ref (xad g 58), .int (nI tl), .int (nI p), .int ta])) (h58 : E 58 = .inl (xC g, 60, .inl f)) (htl : tl ≤ 60) (hp : p ≤ tl) (c9 : Int32) : Met l yX4_pass wsX4_pass ({ frames := 0, cells := 0, slots := 0, locals := 0 }) (xPc g [.ref (xad g 57), .int c9] E) (xQi g (fun r E1 => xb ((pas f tl c9 p).1 = true) r ∧ xU E 57 (.inr (4, [.ref (xad g 58), .int (nI tl), .int (nI (pas f tl c9 p).2), .int ta])) E1)) 0 0 (xA (xad g)) := by
  refine x_met (ws' := _) (by decide) rfl (Nat.le_of_ble_eq_true rfl) ?_
  intro p e s m below meth c ls S hr hlocks hP hK hl
  have hl : lv_has ls 2 [(0, .ref (xad g 57)), (1, .int c9)] := hl
  have hS : va_S (xA (xad g)) s.heap s.heap [] := va_S.rf
  have hin4 : ∀ w ∈ u_ws RX4 TX4 4, w ∈ wsX4_pass := by decide +kernel
  have fl9 : Cond.fieldLink RX4 9 "DiscArcs$Text" "characters" "[C" ∈ wsX4_pass := by decide +kernel
  have fl15 : Cond.fieldLink RX4 15 "DiscArcs$Text" "length" "I" ∈ wsX4_pass := by decide +kernel
  have fl19 : Cond.fieldLink RX4 19 "DiscArcs$Text" "position" "I" ∈ wsX4_pass := by decide +kernel
  have hfr : ∀ j, j ≠ 57 → E j = E j := fun _ _ => rfl
  refine lv_aload_n S.1 S.2.1 dX4_pass_0 rfl (lv_at hl 0 rfl) ?_
  refine x_get S hK hP dX4_pass_1 h57 (by decide) (RX4, TX4, 4) rfl hin4 2 (by decide) fl19 rfl ?_
  refine lv_aload_n S.1 S.2.1 dX4_pass_4 rfl (lv_at hl 0 rfl) ?_
  refine x_get S hK hP dX4_pass_5 h57 (by decide) (RX4, TX4, 4) rfl hin4 1 (by decide) fl15 rfl ?_
  refine lv_icmp_ge (tgt := 24) S.1 S.2.1 dX4_pass_8 (by decide) (fun c8 => ?_) (fun c8 => ?_)
  · skip
    refine lv_iconst (v := 0) S.1 S.2.1 dX4_pass_24 (by decide) ?_
    exact x_zret S hr hlocks hP hS dX4_pass_25 rfl ((by have hn : pas f tl c9 p = (false, p) := if_neg (fun h => by first | exact c21 h.2 | exact absurd ((nI_leI (by omega) (by omega)).mp c8) (by have := h.1; omega)); rw [hn]; exact ⟨xb.zero (by simp), h57, hfr⟩))
  · skip
    have hpt : p < tl := Nat.not_le.mp (fun h => c8 ((nI_leI (by omega) (by omega)).mpr h))
    refine lv_aload_n S.1 S.2.1 dX4_pass_11 rfl (lv_at hl 0 rfl) ?_
    refine x_get S hK hP dX4_pass_12 h57 (by decide) (RX4, TX4, 4) rfl hin4 0 (by decide) fl9 rfl ?_
    refine lv_aload_n S.1 S.2.1 dX4_pass_15 rfl (lv_at hl 0 rfl) ?_
    refine x_get S hK hP dX4_pass_16 h57 (by decide) (RX4, TX4, 4) rfl hin4 2 (by decide) fl19 rfl ?_
    refine x_cald S hK hP dX4_pass_19 h58 (by decide) (j := p) rfl (by omega) (by decide) ?_
    refine lv_iload_n S.1 S.2.1 dX4_pass_20 rfl (lv_at hl 1 rfl) ?_
    refine lv_icmp_eq (tgt := 26) S.1 S.2.1 dX4_pass_21 (by decide) (fun c21 => ?_) (fun c21 => ?_)
    · skip
      refine lv_aload_n S.1 S.2.1 dX4_pass_26 rfl (lv_at hl 0 rfl) ?_
      refine lv_dup S.1 S.2.1 dX4_pass_27 rfl ?_
      refine x_get S hK hP dX4_pass_28 h57 (by decide) (RX4, TX4, 4) rfl hin4 2 (by decide) fl19 rfl ?_
      refine lv_iconst (v := 1) S.1 S.2.1 dX4_pass_31 (by decide) ?_
      refine lv_iadd S.1 S.2.1 dX4_pass_32 ?_
      refine x_put S hK hJ hP hS dX4_pass_33 h57 (by decide) (RX4, TX4, 4) rfl hin4 tyX4 tyX4_ok nmX4 2 (by decide) fl19 rfl rfl rfl (by decide) (fun H locs E1 hu hP hS => ?_)
      have h57 : E1 57 = .inr (4, [.ref (xad g 58), .int (nI tl), .int (((nI p)) + 1), .int ta]) := hu.1
      have h58 : E1 58 = .inl (xC g, 60, .inl f) := (hu.2 _ (by omega)).trans h58
      have hfr : ∀ j, j ≠ 57 → E1 j = E j := fun j hj => (hu.2 j (by omega)).trans (hfr j hj)
      refine lv_iconst (v := 1) S.1 S.2.1 dX4_pass_36 (by decide) ?_
      exact x_zret S hr hlocks hP hS dX4_pass_37 rfl ((by have hn : pas f tl c9 p = (true, p + 1) := if_pos ⟨hpt, c21⟩; rw [hn]; exact ⟨xb.one rfl, h57.trans (by rw [← nI_1]), hfr⟩))
    · skip
      refine lv_iconst (v := 0) S.1 S.2.1 dX4_pass_24 (by decide) ?_
      exact x_zret S hr hlocks hP hS dX4_pass_25 rfl ((by have hn : pas f tl c9 p = (false, p) := if_neg (fun h => by first | exact c21 h.2 | exact absurd ((nI_leI (by omega) (by omega)).mp c8) (by have := h.1; omega)); rw [hn]; exact ⟨xb.zero (by simp), h57, hfr⟩))
set_option maxHeartbeats 4000000 in
set_option maxRecDepth 100000 in
theorem c_X4_readDigit (l : Launch) (g : xG) (hJ : xJ (xad g)) (E : Nat → va_E) {tl p : Nat} {ta : Int32} {f : Nat → Int32} (h57 : E 57 = .inr (4, [.ref (xad g 58), .int (nI tl), .int (nI p), .int ta])) (h58 : E 58 = .inl (xC g, 60, .inl f)) (htl : tl ≤ 60) (hp : p < tl) : Met l yX4_readDigit wsX4_readDigit ({ frames := 0, cells := 0, slots := 0, locals := 0 }) (xPc g [.ref (xad g 57)] E) (xQi g (fun r E1 => r = f p - 48 ∧ xU E 57 (.inr (4, [.ref (xad g 58), .int (nI tl), .int (nI (p + 1)), .int ta])) E1)) 0 0 (xA (xad g)) := by
  refine x_met (ws' := _) (by decide) rfl (Nat.le_of_ble_eq_true rfl) ?_
  intro p e s m below meth c ls S hr hlocks hP hK hl
  have hl : lv_has ls 2 [(0, .ref (xad g 57))] := hl
  have hS : va_S (xA (xad g)) s.heap s.heap [] := va_S.rf
  have hin4 : ∀ w ∈ u_ws RX4 TX4 4, w ∈ wsX4_readDigit := by decide +kernel
  have fl9 : Cond.fieldLink RX4 9 "DiscArcs$Text" "characters" "[C" ∈ wsX4_readDigit := by decide +kernel
  have fl19 : Cond.fieldLink RX4 19 "DiscArcs$Text" "position" "I" ∈ wsX4_readDigit := by decide +kernel
  have hfr : ∀ j, j ≠ 57 → E j = E j := fun _ _ => rfl
  refine lv_aload_n S.1 S.2.1 dX4_readDigit_0 rfl (lv_at hl 0 rfl) ?_
  refine x_get S hK hP dX4_readDigit_1 h57 (by decide) (RX4, TX4, 4) rfl hin4 0 (by decide) fl9 rfl ?_
  refine lv_aload_n S.1 S.2.1 dX4_readDigit_4 rfl (lv_at hl 0 rfl) ?_
  refine x_get S hK hP dX4_readDigit_5 h57 (by decide) (RX4, TX4, 4) rfl hin4 2 (by decide) fl19 rfl ?_
  refine x_cald S hK hP dX4_readDigit_8 h58 (by decide) (j := p) rfl (by omega) (by decide) ?_
  refine lv_bipush (v := 48) S.1 S.2.1 dX4_readDigit_9 (by decide) ?_
  refine lv_isub S.1 S.2.1 dX4_readDigit_11 ?_
  refine lv_topi (fun x12 ex12 => ?_)
  refine lv_istore_n (lv' := [(1, .int x12), (0, .ref (xad g 57))]) S.1 S.2.1 dX4_readDigit_12 rfl hl (by decide) rfl (fun ls hl => ?_)
  refine lv_aload_n S.1 S.2.1 dX4_readDigit_13 rfl (lv_at hl 1 rfl) ?_
  refine lv_dup S.1 S.2.1 dX4_readDigit_14 rfl ?_
  refine x_get S hK hP dX4_readDigit_15 h57 (by decide) (RX4, TX4, 4) rfl hin4 2 (by decide) fl19 rfl ?_
  refine lv_iconst (v := 1) S.1 S.2.1 dX4_readDigit_18 (by decide) ?_
  refine lv_iadd S.1 S.2.1 dX4_readDigit_19 ?_
  refine x_put S hK hJ hP hS dX4_readDigit_20 h57 (by decide) (RX4, TX4, 4) rfl hin4 tyX4 tyX4_ok nmX4 2 (by decide) fl19 rfl rfl rfl (by decide) (fun H locs E1 hu hP hS => ?_)
  have h57 : E1 57 = .inr (4, [.ref (xad g 58), .int (nI tl), .int (((nI p)) + 1), .int ta]) := hu.1
  have h58 : E1 58 = .inl (xC g, 60, .inl f) := (hu.2 _ (by omega)).trans h58
  have hfr : ∀ j, j ≠ 57 → E1 j = E j := fun j hj => (hu.2 j (by omega)).trans (hfr j hj)
  refine lv_iload_n S.1 S.2.1 dX4_readDigit_23 rfl (lv_at hl 0 rfl) ?_
  exact x_iret S hr hlocks hP hS dX4_readDigit_24 (⟨ex12, h57.trans (by rw [← nI_1]), hfr⟩)
set_option maxHeartbeats 4000000 in
set_option maxRecDepth 100000 in
theorem c_X4_readNumber_u (l : Launch) (g : xG) (hJ : xJ (xad g)) (E : Nat → va_E) {tl p : Nat} {ta : Int32} {f : Nat → Int32} (h57 : E 57 = .inr (4, [.ref (xad g 58), .int (nI tl), .int (nI p), .int ta])) (h58 : E 58 = .inl (xC g, 60, .inl f)) (htl : tl ≤ 60) (hp : p ≤ tl) {f6 : Nat → Int32} (h59 : E 59 = .inl (xI g, 6, .inl f6)) {w : Nat} (hw : w < 6) : Met l yX4_readNumber wsX4_readNumber ({ frames := 1, cells := 0, slots := 0, locals := 21 }) (xPc g [.ref (xad g 57), .ref (xad g 59), .int (nI w), .int 0] E) (xQi g (fun r E1 => xb ((num f tl false p).1 = true) r ∧ E1 57 = .inr (4, [.ref (xad g 58), .int (nI tl), .int (nI (num f tl false p).2.1), .int ta]) ∧ (∀ j, j ≠ 57 → j ≠ 59 → E1 j = E j) ∧ ((num f tl false p).1 = true → E1 59 = .inl (xI g, 6, .inl (upd f6 w (num f tl false p).2.2))) ∧ ∃ f7 : Nat → Int32, E1 59 = .inl (xI g, 6, .inl f7))) 0 0 (xA (xad g)) := by
  refine x_met (ws' := _) (by decide) rfl (Nat.le_of_ble_eq_true rfl) ?_
  intro p e s m below meth c ls S hr hlocks hP hK hl
  have hl : lv_has ls 7 [(0, .ref (xad g 57)), (1, .ref (xad g 59)), (2, .int (nI w)), (3, .int 0)] := hl
  have hS : va_S (xA (xad g)) s.heap s.heap [] := va_S.rf
  have hfr : ∀ j, j ≠ 57 ∧ j ≠ 59 → E j = E j := fun _ _ => rfl
  refine lv_iload_n S.1 S.2.1 dX4_readNumber_0 rfl (lv_at hl 3 rfl) ?_
  refine lv_if_eq (tgt := 17) S.1 S.2.1 dX4_readNumber_1 (by decide) (fun c1 => ?_) (fun c1 => ?_)
  · skip
    refine lv_iconst (v := 0) S.1 S.2.1 dX4_readNumber_17 (by decide) ?_
    refine lv_istore (lv' := [(4, .int 0), (0, .ref (xad g 57)), (1, .ref (xad g 59)), (2, .int (nI w)), (3, .int 0)]) S.1 S.2.1 dX4_readNumber_18 hl (by decide) rfl (fun ls hl => ?_)
    have hnum : num f tl false p = numB f tl false p := rfl
    refine lv_aload_n S.1 S.2.1 dX4_readNumber_20 rfl (lv_at hl 1 rfl) ?_
    refine x_si (va_runV (As := []) (rest := []) S (c_X4_isDigit l g E h57 h58 htl hp) (cwV 0 S.2.2.2.2 gX4_readNumber_X4_isDigit rfl rfl rfl (by decide +kernel) ⟨Nat.le_of_ble_eq_true rfl, Nat.le_of_ble_eq_true rfl⟩) (x_preV hK hP h57 (by decide) rfl) rfl rfl hl.1 rfl (lv_room (Nat.le_of_ble_eq_true rfl)) dX4_readNumber_21 ⟨Nat.le_of_ble_eq_true rfl, Nat.le_of_ble_eq_true rfl⟩) (fun r21 hr21 => ?_)
    refine lv_if_eq (tgt := 46) S.1 S.2.1 dX4_readNumber_24 (by decide) (fun c24 => ?_) (fun c24 => ?_)
    · skip
      refine lv_iconst (v := 0) S.1 S.2.1 dX4_readNumber_46 (by decide) ?_
      exact x_zret S hr hlocks hP hS dX4_readNumber_47 rfl ((by rw [hnum]; have hn : numB f tl false p = (false, p, 0) := by { unfold numB; first | (rw [if_neg (fun h => hr21.f c24 (digB_iff.mp h))]; done) | (rw [if_pos (digB_iff.mpr hd21), if_pos (by simp [c43])]; done) }; rw [hn]; exact ⟨xb.zero (by simp), h57, fun j h1 h2 => hfr j ⟨h1, h2⟩, fun h => by simp at h, _, h59⟩))
    · skip
      have hd21 := hr21.t c24
      refine lv_iload S.1 S.2.1 dX4_readNumber_27 (lv_at hl 0 rfl) ?_
      refine lv_if_eq (tgt := 48) S.1 S.2.1 dX4_readNumber_29 (by decide) (fun c29 => ?_) (fun c29 => ?_)
      · skip
        refine lv_aload_n S.1 S.2.1 dX4_readNumber_48 rfl (lv_at hl 1 rfl) ?_
        refine x_qi (va_runV (As := []) (rest := []) S (c_X4_readDigit l g hJ E h57 h58 htl hd21.1) (cwV 0 S.2.2.2.2 gX4_readNumber_X4_readDigit rfl rfl rfl (by decide +kernel) ⟨Nat.le_of_ble_eq_true rfl, Nat.le_of_ble_eq_true rfl⟩) (x_preV hK hP h57 (by decide) rfl) rfl rfl hl.1 rfl (lv_room (Nat.le_of_ble_eq_true rfl)) dX4_readNumber_49 ⟨Nat.le_of_ble_eq_true rfl, Nat.le_of_ble_eq_true rfl⟩) hS (fun r49 E1 H locs hq49 hP hS => ?_)
        obtain ⟨hr49, h57, hfr49⟩ := hq49
        have h58 : E1 58 = .inl (xC g, 60, .inl f) := (hfr49 _ (by decide)).trans h58
        have h59 : E1 59 = .inl (xI g, 6, .inl f6) := (hfr49 _ (by decide)).trans h59
        have hfr : ∀ j, j ≠ 57 ∧ j ≠ 59 → E1 j = E j := fun j hj => (hfr49 j hj.1).trans (hfr j hj)
        refine lv_istore (lv' := [(5, .int r49), (4, .int 0), (0, .ref (xad g 57)), (1, .ref (xad g 59)), (2, .int (nI w)), (3, .int 0)]) S.1 S.2.1 dX4_readNumber_52 hl (by decide) rfl (fun ls hl => ?_)
        refine lv_iconst (v := 1) S.1 S.2.1 dX4_readNumber_54 (by decide) ?_
        refine lv_istore (lv' := [(6, .int 1), (5, .int r49), (4, .int 0), (0, .ref (xad g 57)), (1, .ref (xad g 59)), (2, .int (nI w)), (3, .int 0)]) S.1 S.2.1 dX4_readNumber_55 hl (by decide) rfl (fun ls hl => ?_)
        have loop57 : ∀ (d : Nat) (q : Nat) (v : Int32) (i : Nat) (EL : Nat → va_E) (H : Heap) (locs : List Loc), (h1i : 1 ≤ i) → (hi : i ≤ 3) → (hq9 : q ≤ tl) → (hinv : dgs f tl 2 (p + 1) (f p - 48) = dgs f tl (3 - i) q v) → (3 - i) < d → (h57 : EL 57 = .inr (4, [.ref (xad g 58), .int (nI tl), .int (nI q), .int ta])) → (h58 : EL 58 = .inl (xC g, 60, .inl f)) → (h59 : EL 59 = .inl (xI g, 6, .inl f6)) → (hfr : ∀ j, j ≠ 57 ∧ j ≠ 59 → EL j = E j) → xP g EL H → va_S (xA (xad g)) s.heap H locs → ∀ ls : Array Slot, lv_has ls 7 [(6, .int (nI i)), (5, .int v), (4, .int 0), (2, .int (nI w)), (1, .ref (xad g 59)), (0, .ref (xad g 57))] → W p l e ({ frames := 1, cells := 0, slots := 0, locals := 21 }) s m ([.ref (xad g 57), .ref (xad g 59), .int (nI w), .int 0] : List Value).toArray below meth c H locs 0 0 (MQ below (xQi g (fun r E1 => xb ((num f tl false p).1 = true) r ∧ E1 57 = .inr (4, [.ref (xad g 58), .int (nI tl), .int (nI (num f tl false p).2.1), .int ta]) ∧ (∀ j, j ≠ 57 → j ≠ 59 → E1 j = E j) ∧ ((num f tl false p).1 = true → E1 59 = .inl (xI g, 6, .inl (upd f6 w (num f tl false p).2.2))) ∧ ∃ f7 : Nat → Int32, E1 59 = .inl (xI g, 6, .inl f7))) ([.ref (xad g 57), .ref (xad g 59), .int (nI w), .int 0] : List Value).toArray s 0 0 (xA (xad g))) (F0 m 57 ls []) := by
          intro d
          induction d with
          | zero => intro q v i EL H locs h1i hi hq9 hinv hd; exact absurd hd (Nat.not_lt_zero _)
          | succ d ih57 =>
            intro q v i EL H locs h1i hi hq9 hinv hd h57 h58 h59 hfr hP hS ls hl
            refine lv_iload S.1 S.2.1 dX4_readNumber_57 (lv_at hl 0 rfl) ?_
            refine lv_iconst (v := 3) S.1 S.2.1 dX4_readNumber_59 (by decide) ?_
            refine lv_icmp_ge (tgt := 93) S.1 S.2.1 dX4_readNumber_60 (by decide) (fun c60 => ?_) (fun c60 => ?_)
            · skip
              have hdg : dgs f tl 2 (p + 1) (f p - 48) = (q, v) := by
                rw [hinv]
                first
                  | (rw [show 3 - i = 0 by have := (nI_leI (a := 3) (b := i) (by omega) (by omega)).mp c60; omega]; rfl)
                  | (rw [show 3 - i = (3 - i - 1) + 1 by have := fun h => c60 ((nI_leI (a := 3) (b := i) (by omega) (by omega)).mpr h); omega]; rw [dgs_step]; first | (rw [if_pos c65]; done) | (rw [if_neg c65, if_neg (fun h => hr69.f c72 (digB_iff.mp h))]; done))
              refine lv_aload_n S.1 S.2.1 dX4_readNumber_93 rfl (lv_at hl 4 rfl) ?_
              refine lv_iload_n S.1 S.2.1 dX4_readNumber_94 rfl (lv_at hl 3 rfl) ?_
              refine lv_iload S.1 S.2.1 dX4_readNumber_95 (lv_at hl 2 rfl) ?_
              refine lv_if_eq (tgt := 106) S.1 S.2.1 dX4_readNumber_97 (by decide) (fun c97 => ?_) (fun c97 => ?_)
              · skip
                refine lv_iload S.1 S.2.1 dX4_readNumber_106 (lv_at hl 1 rfl) ?_
                refine x_iast S hK hJ hP hS dX4_readNumber_108 h59 (by decide) (j := w) rfl (by omega) (by decide) (fun H locs E1_1 hu hP hS => ?_)
                have h57 : E1_1 57 = .inr (4, [.ref (xad g 58), .int (nI tl), .int (nI q), .int ta]) := (hu.2 _ (by omega)).trans h57
                have h58 : E1_1 58 = .inl (xC g, 60, .inl f) := (hu.2 _ (by omega)).trans h58
                have h59 : E1_1 59 = .inl (xI g, 6, .inl (upd f6 w v)) := hu.1
                have hfr : ∀ j, j ≠ 57 ∧ j ≠ 59 → E1_1 j = E j := fun j hj => (hu.2 j (by omega)).trans (hfr j hj)
                refine lv_iconst (v := 1) S.1 S.2.1 dX4_readNumber_109 (by decide) ?_
                exact x_zret S hr hlocks hP hS dX4_readNumber_110 rfl ((by rw [hnum]; have hn : numB f tl false p = (true, q, v) := by { unfold numB; rw [if_pos (digB_iff.mpr hd21), if_neg (by simp), hdg]; rfl }; rw [hn]; exact ⟨xb.one rfl, h57, fun j h1 h2 => hfr j ⟨h1, h2⟩, fun _ => h59, _, h59⟩))
              · skip
                exact absurd rfl c97
            · skip
              refine lv_iload S.1 S.2.1 dX4_readNumber_63 (lv_at hl 1 rfl) ?_
              refine lv_if_eq (tgt := 93) S.1 S.2.1 dX4_readNumber_65 (by decide) (fun c65 => ?_) (fun c65 => ?_)
              · skip
                have hdg : dgs f tl 2 (p + 1) (f p - 48) = (q, v) := by
                  rw [hinv]
                  first
                    | (rw [show 3 - i = 0 by have := (nI_leI (a := 3) (b := i) (by omega) (by omega)).mp c60; omega]; rfl)
                    | (rw [show 3 - i = (3 - i - 1) + 1 by have := fun h => c60 ((nI_leI (a := 3) (b := i) (by omega) (by omega)).mpr h); omega]; rw [dgs_step]; first | (rw [if_pos c65]; done) | (rw [if_neg c65, if_neg (fun h => hr69.f c72 (digB_iff.mp h))]; done))
                refine lv_aload_n S.1 S.2.1 dX4_readNumber_93 rfl (lv_at hl 4 rfl) ?_
                refine lv_iload_n S.1 S.2.1 dX4_readNumber_94 rfl (lv_at hl 3 rfl) ?_
                refine lv_iload S.1 S.2.1 dX4_readNumber_95 (lv_at hl 2 rfl) ?_
                refine lv_if_eq (tgt := 106) S.1 S.2.1 dX4_readNumber_97 (by decide) (fun c97 => ?_) (fun c97 => ?_)
                · skip
                  refine lv_iload S.1 S.2.1 dX4_readNumber_106 (lv_at hl 1 rfl) ?_
                  refine x_iast S hK hJ hP hS dX4_readNumber_108 h59 (by decide) (j := w) rfl (by omega) (by decide) (fun H locs E1_2 hu hP hS => ?_)
                  have h57 : E1_2 57 = .inr (4, [.ref (xad g 58), .int (nI tl), .int (nI q), .int ta]) := (hu.2 _ (by omega)).trans h57
                  have h58 : E1_2 58 = .inl (xC g, 60, .inl f) := (hu.2 _ (by omega)).trans h58
                  have h59 : E1_2 59 = .inl (xI g, 6, .inl (upd f6 w v)) := hu.1
                  have hfr : ∀ j, j ≠ 57 ∧ j ≠ 59 → E1_2 j = E j := fun j hj => (hu.2 j (by omega)).trans (hfr j hj)
                  refine lv_iconst (v := 1) S.1 S.2.1 dX4_readNumber_109 (by decide) ?_
                  exact x_zret S hr hlocks hP hS dX4_readNumber_110 rfl ((by rw [hnum]; have hn : numB f tl false p = (true, q, v) := by { unfold numB; rw [if_pos (digB_iff.mpr hd21), if_neg (by simp), hdg]; rfl }; rw [hn]; exact ⟨xb.one rfl, h57, fun j h1 h2 => hfr j ⟨h1, h2⟩, fun _ => h59, _, h59⟩))
                · skip
                  exact absurd rfl c97
              · skip
                refine lv_aload_n S.1 S.2.1 dX4_readNumber_68 rfl (lv_at hl 5 rfl) ?_
                refine x_si (va_runV (As := []) (rest := []) S (c_X4_isDigit l g EL h57 h58 htl hq9) (cwV 0 S.2.2.2.2 gX4_readNumber_X4_isDigit rfl rfl rfl (by decide +kernel) ⟨Nat.le_of_ble_eq_true rfl, Nat.le_of_ble_eq_true rfl⟩) (x_preV hK hP h57 (by decide) rfl) rfl rfl hl.1 rfl (lv_room (Nat.le_of_ble_eq_true rfl)) dX4_readNumber_69 ⟨Nat.le_of_ble_eq_true rfl, Nat.le_of_ble_eq_true rfl⟩) (fun r69 hr69 => ?_)
                refine lv_if_eq (tgt := 93) S.1 S.2.1 dX4_readNumber_72 (by decide) (fun c72 => ?_) (fun c72 => ?_)
                · skip
                  have hdg : dgs f tl 2 (p + 1) (f p - 48) = (q, v) := by
                    rw [hinv]
                    first
                      | (rw [show 3 - i = 0 by have := (nI_leI (a := 3) (b := i) (by omega) (by omega)).mp c60; omega]; rfl)
                      | (rw [show 3 - i = (3 - i - 1) + 1 by have := fun h => c60 ((nI_leI (a := 3) (b := i) (by omega) (by omega)).mpr h); omega]; rw [dgs_step]; first | (rw [if_pos c65]; done) | (rw [if_neg c65, if_neg (fun h => hr69.f c72 (digB_iff.mp h))]; done))
                  refine lv_aload_n S.1 S.2.1 dX4_readNumber_93 rfl (lv_at hl 4 rfl) ?_
                  refine lv_iload_n S.1 S.2.1 dX4_readNumber_94 rfl (lv_at hl 3 rfl) ?_
                  refine lv_iload S.1 S.2.1 dX4_readNumber_95 (lv_at hl 2 rfl) ?_
                  refine lv_if_eq (tgt := 106) S.1 S.2.1 dX4_readNumber_97 (by decide) (fun c97 => ?_) (fun c97 => ?_)
                  · skip
                    refine lv_iload S.1 S.2.1 dX4_readNumber_106 (lv_at hl 1 rfl) ?_
                    refine x_iast S hK hJ hP hS dX4_readNumber_108 h59 (by decide) (j := w) rfl (by omega) (by decide) (fun H locs E1_3 hu hP hS => ?_)
                    have h57 : E1_3 57 = .inr (4, [.ref (xad g 58), .int (nI tl), .int (nI q), .int ta]) := (hu.2 _ (by omega)).trans h57
                    have h58 : E1_3 58 = .inl (xC g, 60, .inl f) := (hu.2 _ (by omega)).trans h58
                    have h59 : E1_3 59 = .inl (xI g, 6, .inl (upd f6 w v)) := hu.1
                    have hfr : ∀ j, j ≠ 57 ∧ j ≠ 59 → E1_3 j = E j := fun j hj => (hu.2 j (by omega)).trans (hfr j hj)
                    refine lv_iconst (v := 1) S.1 S.2.1 dX4_readNumber_109 (by decide) ?_
                    exact x_zret S hr hlocks hP hS dX4_readNumber_110 rfl ((by rw [hnum]; have hn : numB f tl false p = (true, q, v) := by { unfold numB; rw [if_pos (digB_iff.mpr hd21), if_neg (by simp), hdg]; rfl }; rw [hn]; exact ⟨xb.one rfl, h57, fun j h1 h2 => hfr j ⟨h1, h2⟩, fun _ => h59, _, h59⟩))
                  · skip
                    exact absurd rfl c97
                · skip
                  have hd69 := hr69.t c72
                  refine lv_bipush (v := 10) S.1 S.2.1 dX4_readNumber_75 (by decide) ?_
                  refine lv_iload S.1 S.2.1 dX4_readNumber_77 (lv_at hl 1 rfl) ?_
                  refine lv_imul S.1 S.2.1 dX4_readNumber_79 ?_
                  refine lv_aload_n S.1 S.2.1 dX4_readNumber_80 rfl (lv_at hl 5 rfl) ?_
                  refine x_qi (va_runV (As := []) (rest := [.int (10 * v)]) S (c_X4_readDigit l g hJ EL h57 h58 htl hd69.1) (cwV 0 S.2.2.2.2 gX4_readNumber_X4_readDigit rfl rfl rfl (by decide +kernel) ⟨Nat.le_of_ble_eq_true rfl, Nat.le_of_ble_eq_true rfl⟩) (x_preV hK hP h57 (by decide) rfl) rfl rfl hl.1 rfl (lv_room (Nat.le_of_ble_eq_true rfl)) dX4_readNumber_81 ⟨Nat.le_of_ble_eq_true rfl, Nat.le_of_ble_eq_true rfl⟩) hS (fun r81 E1_4 H locs hq81 hP hS => ?_)
                  obtain ⟨hr81, h57, hfr81⟩ := hq81
                  have h58 : E1_4 58 = .inl (xC g, 60, .inl f) := (hfr81 _ (by decide)).trans h58
                  have h59 : E1_4 59 = .inl (xI g, 6, .inl f6) := (hfr81 _ (by decide)).trans h59
                  have hfr : ∀ j, j ≠ 57 ∧ j ≠ 59 → E1_4 j = E j := fun j hj => (hfr81 j hj.1).trans (hfr j hj)
                  refine lv_iadd S.1 S.2.1 dX4_readNumber_84 ?_
                  refine lv_topi (fun x85 ex85 => ?_)
                  refine lv_istore (lv' := [(5, .int x85), (6, .int (nI i)), (4, .int 0), (2, .int (nI w)), (1, .ref (xad g 59)), (0, .ref (xad g 57))]) S.1 S.2.1 dX4_readNumber_85 hl (by decide) rfl (fun ls hl => ?_)
                  refine lv_iinc (v := nI (i + 1)) (lv' := [(6, .int (nI (i + 1))), (5, .int x85), (4, .int 0), (2, .int (nI w)), (1, .ref (xad g 59)), (0, .ref (xad g 57))]) S.1 S.2.1 dX4_readNumber_87 hl (k := 1) rfl (show nI i + Int32.ofInt 1 = _ from nI_1 _) (by decide) rfl (fun ls hl => ?_)
                  refine lv_goto (tgt := 57) S.1 S.2.1 dX4_readNumber_90 (by decide) ?_
                  exact ih57 (q + 1) x85 (i + 1) _ _ _ (by omega) (by omega) (by have := hd69.1; omega) (by rw [hinv, show 3 - i = (3 - (i + 1)) + 1 by have := fun h => c60 ((nI_leI (a := 3) (b := i) (by omega) (by omega)).mpr h); omega]; rw [dgs_step, if_neg c65, if_pos (digB_iff.mpr hd69), ex85, hr81]) (by omega) h57 h58 h59 hfr hP hS ls (lv_sub hl [0, 1, 2, 3, 4, 5] rfl)
        exact loop57 _ (p + 1) r49 1 _ _ _ (Nat.le_refl _) (by decide) (by have := hd21.1; omega) (by rw [hr49]) (Nat.lt_succ_self _) h57 h58 h59 hfr hP hS ls (lv_sub hl [0, 1, 2, 5, 4, 3] rfl)
      · skip
        exact absurd rfl c29
  · skip
    exact absurd rfl c1
set_option maxHeartbeats 4000000 in
set_option maxRecDepth 100000 in
theorem c_X4_readNumber_s (l : Launch) (g : xG) (hJ : xJ (xad g)) (E : Nat → va_E) {tl p : Nat} {ta : Int32} {f : Nat → Int32} (h57 : E 57 = .inr (4, [.ref (xad g 58), .int (nI tl), .int (nI p), .int ta])) (h58 : E 58 = .inl (xC g, 60, .inl f)) (htl : tl ≤ 60) (hp : p ≤ tl) {f6 : Nat → Int32} (h59 : E 59 = .inl (xI g, 6, .inl f6)) {w : Nat} (hw : w < 6) : Met l yX4_readNumber wsX4_readNumber ({ frames := 1, cells := 0, slots := 0, locals := 21 }) (xPc g [.ref (xad g 57), .ref (xad g 59), .int (nI w), .int 1] E) (xQi g (fun r E1 => xb ((num f tl true p).1 = true) r ∧ E1 57 = .inr (4, [.ref (xad g 58), .int (nI tl), .int (nI (num f tl true p).2.1), .int ta]) ∧ (∀ j, j ≠ 57 → j ≠ 59 → E1 j = E j) ∧ ((num f tl true p).1 = true → E1 59 = .inl (xI g, 6, .inl (upd f6 w (num f tl true p).2.2))) ∧ ∃ f7 : Nat → Int32, E1 59 = .inl (xI g, 6, .inl f7))) 0 0 (xA (xad g)) := by
  refine x_met (ws' := _) (by decide) rfl (Nat.le_of_ble_eq_true rfl) ?_
  intro p e s m below meth c ls S hr hlocks hP hK hl
  have hl : lv_has ls 7 [(0, .ref (xad g 57)), (1, .ref (xad g 59)), (2, .int (nI w)), (3, .int 1)] := hl
  have hS : va_S (xA (xad g)) s.heap s.heap [] := va_S.rf
  have hin4 : ∀ w ∈ u_ws RX4 TX4 4, w ∈ wsX4_readNumber := by decide +kernel
  have fl9 : Cond.fieldLink RX4 9 "DiscArcs$Text" "characters" "[C" ∈ wsX4_readNumber := by decide +kernel
  have fl19 : Cond.fieldLink RX4 19 "DiscArcs$Text" "position" "I" ∈ wsX4_readNumber := by decide +kernel
  have hfr : ∀ j, j ≠ 57 ∧ j ≠ 59 → E j = E j := fun _ _ => rfl
  refine lv_iload_n S.1 S.2.1 dX4_readNumber_0 rfl (lv_at hl 3 rfl) ?_
  refine lv_if_eq (tgt := 17) S.1 S.2.1 dX4_readNumber_1 (by decide) (fun c1 => ?_) (fun c1 => ?_)
  · skip
    exact absurd c1 (by decide)
  · skip
    refine lv_aload_n S.1 S.2.1 dX4_readNumber_4 rfl (lv_at hl 0 rfl) ?_
    refine lv_bipush (v := 45) S.1 S.2.1 dX4_readNumber_5 (by decide) ?_
    refine x_qi (va_runV (As := [.int 45]) (rest := []) S (c_X4_pass l g hJ E h57 h58 htl hp 45) (cwV 1 S.2.2.2.2 gX4_readNumber_X4_pass rfl rfl rfl (by decide +kernel) ⟨Nat.le_of_ble_eq_true rfl, Nat.le_of_ble_eq_true rfl⟩) (x_preV hK hP h57 (by decide) rfl) rfl rfl hl.1 rfl (lv_room (Nat.le_of_ble_eq_true rfl)) dX4_readNumber_7 ⟨Nat.le_of_ble_eq_true rfl, Nat.le_of_ble_eq_true rfl⟩) hS (fun r7 E1 H locs hq7 hP hS => ?_)
    obtain ⟨hr7, h57, hfr7⟩ := hq7
    have h58 : E1 58 = .inl (xC g, 60, .inl f) := (hfr7 _ (by decide)).trans h58
    have h59 : E1 59 = .inl (xI g, 6, .inl f6) := (hfr7 _ (by decide)).trans h59
    have hfr : ∀ j, j ≠ 57 ∧ j ≠ 59 → E1 j = E j := fun j hj => hfr7 j hj.1
    have hp9 := pas_le (f := f) (c := 45) hp
    have hnum : num f tl true p = numB f tl (pas f tl 45 p).1 (pas f tl 45 p).2 := rfl
    generalize (pas f tl 45 p).1 = b9 at *
    generalize (pas f tl 45 p).2 = p9 at *
    refine lv_if_eq (tgt := 17) S.1 S.2.1 dX4_readNumber_10 (by decide) (fun c10 => ?_) (fun c10 => ?_)
    · skip
      refine lv_iconst (v := 0) S.1 S.2.1 dX4_readNumber_17 (by decide) ?_
      refine lv_istore (lv' := [(4, .int 0), (0, .ref (xad g 57)), (1, .ref (xad g 59)), (2, .int (nI w)), (3, .int 1)]) S.1 S.2.1 dX4_readNumber_18 hl (by decide) rfl (fun ls hl => ?_)
      have hb9 : b9 = false := by
        exact Bool.eq_false_iff.mpr (hr7.f c10)
      subst hb9
      refine lv_aload_n S.1 S.2.1 dX4_readNumber_20 rfl (lv_at hl 1 rfl) ?_
      refine x_si (va_runV (As := []) (rest := []) S (c_X4_isDigit l g E1 h57 h58 htl hp9) (cwV 0 S.2.2.2.2 gX4_readNumber_X4_isDigit rfl rfl rfl (by decide +kernel) ⟨Nat.le_of_ble_eq_true rfl, Nat.le_of_ble_eq_true rfl⟩) (x_preV hK hP h57 (by decide) rfl) rfl rfl hl.1 rfl (lv_room (Nat.le_of_ble_eq_true rfl)) dX4_readNumber_21 ⟨Nat.le_of_ble_eq_true rfl, Nat.le_of_ble_eq_true rfl⟩) (fun r21 hr21 => ?_)
      refine lv_if_eq (tgt := 46) S.1 S.2.1 dX4_readNumber_24 (by decide) (fun c24 => ?_) (fun c24 => ?_)
      · skip
        refine lv_iconst (v := 0) S.1 S.2.1 dX4_readNumber_46 (by decide) ?_
        exact x_zret S hr hlocks hP hS dX4_readNumber_47 rfl ((by rw [hnum]; have hn : numB f tl false p9 = (false, p9, 0) := by { unfold numB; first | (rw [if_neg (fun h => hr21.f c24 (digB_iff.mp h))]; done) | (rw [if_pos (digB_iff.mpr hd21), if_pos (by simp [c43])]; done) }; rw [hn]; exact ⟨xb.zero (by simp), h57, fun j h1 h2 => hfr j ⟨h1, h2⟩, fun h => by simp at h, _, h59⟩))
      · skip
        have hd21 := hr21.t c24
        refine lv_iload S.1 S.2.1 dX4_readNumber_27 (lv_at hl 0 rfl) ?_
        refine lv_if_eq (tgt := 48) S.1 S.2.1 dX4_readNumber_29 (by decide) (fun c29 => ?_) (fun c29 => ?_)
        · skip
          refine lv_aload_n S.1 S.2.1 dX4_readNumber_48 rfl (lv_at hl 1 rfl) ?_
          refine x_qi (va_runV (As := []) (rest := []) S (c_X4_readDigit l g hJ E1 h57 h58 htl hd21.1) (cwV 0 S.2.2.2.2 gX4_readNumber_X4_readDigit rfl rfl rfl (by decide +kernel) ⟨Nat.le_of_ble_eq_true rfl, Nat.le_of_ble_eq_true rfl⟩) (x_preV hK hP h57 (by decide) rfl) rfl rfl hl.1 rfl (lv_room (Nat.le_of_ble_eq_true rfl)) dX4_readNumber_49 ⟨Nat.le_of_ble_eq_true rfl, Nat.le_of_ble_eq_true rfl⟩) hS (fun r49 E1_1 H locs hq49 hP hS => ?_)
          obtain ⟨hr49, h57, hfr49⟩ := hq49
          have h58 : E1_1 58 = .inl (xC g, 60, .inl f) := (hfr49 _ (by decide)).trans h58
          have h59 : E1_1 59 = .inl (xI g, 6, .inl f6) := (hfr49 _ (by decide)).trans h59
          have hfr : ∀ j, j ≠ 57 ∧ j ≠ 59 → E1_1 j = E j := fun j hj => (hfr49 j hj.1).trans (hfr j hj)
          refine lv_istore (lv' := [(5, .int r49), (4, .int 0), (0, .ref (xad g 57)), (1, .ref (xad g 59)), (2, .int (nI w)), (3, .int 1)]) S.1 S.2.1 dX4_readNumber_52 hl (by decide) rfl (fun ls hl => ?_)
          refine lv_iconst (v := 1) S.1 S.2.1 dX4_readNumber_54 (by decide) ?_
          refine lv_istore (lv' := [(6, .int 1), (5, .int r49), (4, .int 0), (0, .ref (xad g 57)), (1, .ref (xad g 59)), (2, .int (nI w)), (3, .int 1)]) S.1 S.2.1 dX4_readNumber_55 hl (by decide) rfl (fun ls hl => ?_)
          have loop57 : ∀ (d : Nat) (q : Nat) (v : Int32) (i : Nat) (EL : Nat → va_E) (H : Heap) (locs : List Loc), (h1i : 1 ≤ i) → (hi : i ≤ 3) → (hq9 : q ≤ tl) → (hinv : dgs f tl 2 (p9 + 1) (f p9 - 48) = dgs f tl (3 - i) q v) → (3 - i) < d → (h57 : EL 57 = .inr (4, [.ref (xad g 58), .int (nI tl), .int (nI q), .int ta])) → (h58 : EL 58 = .inl (xC g, 60, .inl f)) → (h59 : EL 59 = .inl (xI g, 6, .inl f6)) → (hfr : ∀ j, j ≠ 57 ∧ j ≠ 59 → EL j = E j) → xP g EL H → va_S (xA (xad g)) s.heap H locs → ∀ ls : Array Slot, lv_has ls 7 [(6, .int (nI i)), (5, .int v), (4, .int 0), (2, .int (nI w)), (1, .ref (xad g 59)), (0, .ref (xad g 57))] → W p l e ({ frames := 1, cells := 0, slots := 0, locals := 21 }) s m ([.ref (xad g 57), .ref (xad g 59), .int (nI w), .int 1] : List Value).toArray below meth c H locs 0 0 (MQ below (xQi g (fun r E1 => xb ((num f tl true p).1 = true) r ∧ E1 57 = .inr (4, [.ref (xad g 58), .int (nI tl), .int (nI (num f tl true p).2.1), .int ta]) ∧ (∀ j, j ≠ 57 → j ≠ 59 → E1 j = E j) ∧ ((num f tl true p).1 = true → E1 59 = .inl (xI g, 6, .inl (upd f6 w (num f tl true p).2.2))) ∧ ∃ f7 : Nat → Int32, E1 59 = .inl (xI g, 6, .inl f7))) ([.ref (xad g 57), .ref (xad g 59), .int (nI w), .int 1] : List Value).toArray s 0 0 (xA (xad g))) (F0 m 57 ls []) := by
            intro d
            induction d with
            | zero => intro q v i EL H locs h1i hi hq9 hinv hd; exact absurd hd (Nat.not_lt_zero _)
            | succ d ih57 =>
              intro q v i EL H locs h1i hi hq9 hinv hd h57 h58 h59 hfr hP hS ls hl
              refine lv_iload S.1 S.2.1 dX4_readNumber_57 (lv_at hl 0 rfl) ?_
              refine lv_iconst (v := 3) S.1 S.2.1 dX4_readNumber_59 (by decide) ?_
              refine lv_icmp_ge (tgt := 93) S.1 S.2.1 dX4_readNumber_60 (by decide) (fun c60 => ?_) (fun c60 => ?_)
              · skip
                have hdg : dgs f tl 2 (p9 + 1) (f p9 - 48) = (q, v) := by
                  rw [hinv]
                  first
                    | (rw [show 3 - i = 0 by have := (nI_leI (a := 3) (b := i) (by omega) (by omega)).mp c60; omega]; rfl)
                    | (rw [show 3 - i = (3 - i - 1) + 1 by have := fun h => c60 ((nI_leI (a := 3) (b := i) (by omega) (by omega)).mpr h); omega]; rw [dgs_step]; first | (rw [if_pos c65]; done) | (rw [if_neg c65, if_neg (fun h => hr69.f c72 (digB_iff.mp h))]; done))
                refine lv_aload_n S.1 S.2.1 dX4_readNumber_93 rfl (lv_at hl 4 rfl) ?_
                refine lv_iload_n S.1 S.2.1 dX4_readNumber_94 rfl (lv_at hl 3 rfl) ?_
                refine lv_iload S.1 S.2.1 dX4_readNumber_95 (lv_at hl 2 rfl) ?_
                refine lv_if_eq (tgt := 106) S.1 S.2.1 dX4_readNumber_97 (by decide) (fun c97 => ?_) (fun c97 => ?_)
                · skip
                  refine lv_iload S.1 S.2.1 dX4_readNumber_106 (lv_at hl 1 rfl) ?_
                  refine x_iast S hK hJ hP hS dX4_readNumber_108 h59 (by decide) (j := w) rfl (by omega) (by decide) (fun H locs E1_2 hu hP hS => ?_)
                  have h57 : E1_2 57 = .inr (4, [.ref (xad g 58), .int (nI tl), .int (nI q), .int ta]) := (hu.2 _ (by omega)).trans h57
                  have h58 : E1_2 58 = .inl (xC g, 60, .inl f) := (hu.2 _ (by omega)).trans h58
                  have h59 : E1_2 59 = .inl (xI g, 6, .inl (upd f6 w v)) := hu.1
                  have hfr : ∀ j, j ≠ 57 ∧ j ≠ 59 → E1_2 j = E j := fun j hj => (hu.2 j (by omega)).trans (hfr j hj)
                  refine lv_iconst (v := 1) S.1 S.2.1 dX4_readNumber_109 (by decide) ?_
                  exact x_zret S hr hlocks hP hS dX4_readNumber_110 rfl ((by rw [hnum]; have hn : numB f tl false p9 = (true, q, v) := by { unfold numB; rw [if_pos (digB_iff.mpr hd21), if_neg (by simp), hdg]; rfl }; rw [hn]; exact ⟨xb.one rfl, h57, fun j h1 h2 => hfr j ⟨h1, h2⟩, fun _ => h59, _, h59⟩))
                · skip
                  exact absurd rfl c97
              · skip
                refine lv_iload S.1 S.2.1 dX4_readNumber_63 (lv_at hl 1 rfl) ?_
                refine lv_if_eq (tgt := 93) S.1 S.2.1 dX4_readNumber_65 (by decide) (fun c65 => ?_) (fun c65 => ?_)
                · skip
                  have hdg : dgs f tl 2 (p9 + 1) (f p9 - 48) = (q, v) := by
                    rw [hinv]
                    first
                      | (rw [show 3 - i = 0 by have := (nI_leI (a := 3) (b := i) (by omega) (by omega)).mp c60; omega]; rfl)
                      | (rw [show 3 - i = (3 - i - 1) + 1 by have := fun h => c60 ((nI_leI (a := 3) (b := i) (by omega) (by omega)).mpr h); omega]; rw [dgs_step]; first | (rw [if_pos c65]; done) | (rw [if_neg c65, if_neg (fun h => hr69.f c72 (digB_iff.mp h))]; done))
                  refine lv_aload_n S.1 S.2.1 dX4_readNumber_93 rfl (lv_at hl 4 rfl) ?_
                  refine lv_iload_n S.1 S.2.1 dX4_readNumber_94 rfl (lv_at hl 3 rfl) ?_
                  refine lv_iload S.1 S.2.1 dX4_readNumber_95 (lv_at hl 2 rfl) ?_
                  refine lv_if_eq (tgt := 106) S.1 S.2.1 dX4_readNumber_97 (by decide) (fun c97 => ?_) (fun c97 => ?_)
                  · skip
                    refine lv_iload S.1 S.2.1 dX4_readNumber_106 (lv_at hl 1 rfl) ?_
                    refine x_iast S hK hJ hP hS dX4_readNumber_108 h59 (by decide) (j := w) rfl (by omega) (by decide) (fun H locs E1_3 hu hP hS => ?_)
                    have h57 : E1_3 57 = .inr (4, [.ref (xad g 58), .int (nI tl), .int (nI q), .int ta]) := (hu.2 _ (by omega)).trans h57
                    have h58 : E1_3 58 = .inl (xC g, 60, .inl f) := (hu.2 _ (by omega)).trans h58
                    have h59 : E1_3 59 = .inl (xI g, 6, .inl (upd f6 w v)) := hu.1
                    have hfr : ∀ j, j ≠ 57 ∧ j ≠ 59 → E1_3 j = E j := fun j hj => (hu.2 j (by omega)).trans (hfr j hj)
                    refine lv_iconst (v := 1) S.1 S.2.1 dX4_readNumber_109 (by decide) ?_
                    exact x_zret S hr hlocks hP hS dX4_readNumber_110 rfl ((by rw [hnum]; have hn : numB f tl false p9 = (true, q, v) := by { unfold numB; rw [if_pos (digB_iff.mpr hd21), if_neg (by simp), hdg]; rfl }; rw [hn]; exact ⟨xb.one rfl, h57, fun j h1 h2 => hfr j ⟨h1, h2⟩, fun _ => h59, _, h59⟩))
                  · skip
                    exact absurd rfl c97
                · skip
                  refine lv_aload_n S.1 S.2.1 dX4_readNumber_68 rfl (lv_at hl 5 rfl) ?_
                  refine x_si (va_runV (As := []) (rest := []) S (c_X4_isDigit l g EL h57 h58 htl hq9) (cwV 0 S.2.2.2.2 gX4_readNumber_X4_isDigit rfl rfl rfl (by decide +kernel) ⟨Nat.le_of_ble_eq_true rfl, Nat.le_of_ble_eq_true rfl⟩) (x_preV hK hP h57 (by decide) rfl) rfl rfl hl.1 rfl (lv_room (Nat.le_of_ble_eq_true rfl)) dX4_readNumber_69 ⟨Nat.le_of_ble_eq_true rfl, Nat.le_of_ble_eq_true rfl⟩) (fun r69 hr69 => ?_)
                  refine lv_if_eq (tgt := 93) S.1 S.2.1 dX4_readNumber_72 (by decide) (fun c72 => ?_) (fun c72 => ?_)
                  · skip
                    have hdg : dgs f tl 2 (p9 + 1) (f p9 - 48) = (q, v) := by
                      rw [hinv]
                      first
                        | (rw [show 3 - i = 0 by have := (nI_leI (a := 3) (b := i) (by omega) (by omega)).mp c60; omega]; rfl)
                        | (rw [show 3 - i = (3 - i - 1) + 1 by have := fun h => c60 ((nI_leI (a := 3) (b := i) (by omega) (by omega)).mpr h); omega]; rw [dgs_step]; first | (rw [if_pos c65]; done) | (rw [if_neg c65, if_neg (fun h => hr69.f c72 (digB_iff.mp h))]; done))
                    refine lv_aload_n S.1 S.2.1 dX4_readNumber_93 rfl (lv_at hl 4 rfl) ?_
                    refine lv_iload_n S.1 S.2.1 dX4_readNumber_94 rfl (lv_at hl 3 rfl) ?_
                    refine lv_iload S.1 S.2.1 dX4_readNumber_95 (lv_at hl 2 rfl) ?_
                    refine lv_if_eq (tgt := 106) S.1 S.2.1 dX4_readNumber_97 (by decide) (fun c97 => ?_) (fun c97 => ?_)
                    · skip
                      refine lv_iload S.1 S.2.1 dX4_readNumber_106 (lv_at hl 1 rfl) ?_
                      refine x_iast S hK hJ hP hS dX4_readNumber_108 h59 (by decide) (j := w) rfl (by omega) (by decide) (fun H locs E1_4 hu hP hS => ?_)
                      have h57 : E1_4 57 = .inr (4, [.ref (xad g 58), .int (nI tl), .int (nI q), .int ta]) := (hu.2 _ (by omega)).trans h57
                      have h58 : E1_4 58 = .inl (xC g, 60, .inl f) := (hu.2 _ (by omega)).trans h58
                      have h59 : E1_4 59 = .inl (xI g, 6, .inl (upd f6 w v)) := hu.1
                      have hfr : ∀ j, j ≠ 57 ∧ j ≠ 59 → E1_4 j = E j := fun j hj => (hu.2 j (by omega)).trans (hfr j hj)
                      refine lv_iconst (v := 1) S.1 S.2.1 dX4_readNumber_109 (by decide) ?_
                      exact x_zret S hr hlocks hP hS dX4_readNumber_110 rfl ((by rw [hnum]; have hn : numB f tl false p9 = (true, q, v) := by { unfold numB; rw [if_pos (digB_iff.mpr hd21), if_neg (by simp), hdg]; rfl }; rw [hn]; exact ⟨xb.one rfl, h57, fun j h1 h2 => hfr j ⟨h1, h2⟩, fun _ => h59, _, h59⟩))
                    · skip
                      exact absurd rfl c97
                  · skip
                    have hd69 := hr69.t c72
                    refine lv_bipush (v := 10) S.1 S.2.1 dX4_readNumber_75 (by decide) ?_
                    refine lv_iload S.1 S.2.1 dX4_readNumber_77 (lv_at hl 1 rfl) ?_
                    refine lv_imul S.1 S.2.1 dX4_readNumber_79 ?_
                    refine lv_aload_n S.1 S.2.1 dX4_readNumber_80 rfl (lv_at hl 5 rfl) ?_
                    refine x_qi (va_runV (As := []) (rest := [.int (10 * v)]) S (c_X4_readDigit l g hJ EL h57 h58 htl hd69.1) (cwV 0 S.2.2.2.2 gX4_readNumber_X4_readDigit rfl rfl rfl (by decide +kernel) ⟨Nat.le_of_ble_eq_true rfl, Nat.le_of_ble_eq_true rfl⟩) (x_preV hK hP h57 (by decide) rfl) rfl rfl hl.1 rfl (lv_room (Nat.le_of_ble_eq_true rfl)) dX4_readNumber_81 ⟨Nat.le_of_ble_eq_true rfl, Nat.le_of_ble_eq_true rfl⟩) hS (fun r81 E1_5 H locs hq81 hP hS => ?_)
                    obtain ⟨hr81, h57, hfr81⟩ := hq81
                    have h58 : E1_5 58 = .inl (xC g, 60, .inl f) := (hfr81 _ (by decide)).trans h58
                    have h59 : E1_5 59 = .inl (xI g, 6, .inl f6) := (hfr81 _ (by decide)).trans h59
                    have hfr : ∀ j, j ≠ 57 ∧ j ≠ 59 → E1_5 j = E j := fun j hj => (hfr81 j hj.1).trans (hfr j hj)
                    refine lv_iadd S.1 S.2.1 dX4_readNumber_84 ?_
                    refine lv_topi (fun x85 ex85 => ?_)
                    refine lv_istore (lv' := [(5, .int x85), (6, .int (nI i)), (4, .int 0), (2, .int (nI w)), (1, .ref (xad g 59)), (0, .ref (xad g 57))]) S.1 S.2.1 dX4_readNumber_85 hl (by decide) rfl (fun ls hl => ?_)
                    refine lv_iinc (v := nI (i + 1)) (lv' := [(6, .int (nI (i + 1))), (5, .int x85), (4, .int 0), (2, .int (nI w)), (1, .ref (xad g 59)), (0, .ref (xad g 57))]) S.1 S.2.1 dX4_readNumber_87 hl (k := 1) rfl (show nI i + Int32.ofInt 1 = _ from nI_1 _) (by decide) rfl (fun ls hl => ?_)
                    refine lv_goto (tgt := 57) S.1 S.2.1 dX4_readNumber_90 (by decide) ?_
                    exact ih57 (q + 1) x85 (i + 1) _ _ _ (by omega) (by omega) (by have := hd69.1; omega) (by rw [hinv, show 3 - i = (3 - (i + 1)) + 1 by have := fun h => c60 ((nI_leI (a := 3) (b := i) (by omega) (by omega)).mpr h); omega]; rw [dgs_step, if_neg c65, if_pos (digB_iff.mpr hd69), ex85, hr81]) (by omega) h57 h58 h59 hfr hP hS ls (lv_sub hl [0, 1, 2, 3, 4, 5] rfl)
          exact loop57 _ (p9 + 1) r49 1 _ _ _ (Nat.le_refl _) (by decide) (by have := hd21.1; omega) (by rw [hr49]) (Nat.lt_succ_self _) h57 h58 h59 hfr hP hS ls (lv_sub hl [0, 1, 2, 5, 4, 3] rfl)
        · skip
          exact absurd rfl c29
    · skip
      refine lv_iconst (v := 1) S.1 S.2.1 dX4_readNumber_13 (by decide) ?_
      refine lv_goto (tgt := 18) S.1 S.2.1 dX4_readNumber_14 (by decide) ?_
      refine lv_istore (lv' := [(4, .int 1), (0, .ref (xad g 57)), (1, .ref (xad g 59)), (2, .int (nI w)), (3, .int 1)]) S.1 S.2.1 dX4_readNumber_18 hl (by decide) rfl (fun ls hl => ?_)
      have hb9 : b9 = true := by
        exact hr7.t c10
      subst hb9
      refine lv_aload_n S.1 S.2.1 dX4_readNumber_20 rfl (lv_at hl 1 rfl) ?_
      refine x_si (va_runV (As := []) (rest := []) S (c_X4_isDigit l g E1 h57 h58 htl hp9) (cwV 0 S.2.2.2.2 gX4_readNumber_X4_isDigit rfl rfl rfl (by decide +kernel) ⟨Nat.le_of_ble_eq_true rfl, Nat.le_of_ble_eq_true rfl⟩) (x_preV hK hP h57 (by decide) rfl) rfl rfl hl.1 rfl (lv_room (Nat.le_of_ble_eq_true rfl)) dX4_readNumber_21 ⟨Nat.le_of_ble_eq_true rfl, Nat.le_of_ble_eq_true rfl⟩) (fun r21 hr21 => ?_)
      refine lv_if_eq (tgt := 46) S.1 S.2.1 dX4_readNumber_24 (by decide) (fun c24 => ?_) (fun c24 => ?_)
      · skip
        refine lv_iconst (v := 0) S.1 S.2.1 dX4_readNumber_46 (by decide) ?_
        exact x_zret S hr hlocks hP hS dX4_readNumber_47 rfl ((by rw [hnum]; have hn : numB f tl true p9 = (false, p9, 0) := by { unfold numB; first | (rw [if_neg (fun h => hr21.f c24 (digB_iff.mp h))]; done) | (rw [if_pos (digB_iff.mpr hd21), if_pos (by simp [c43])]; done) }; rw [hn]; exact ⟨xb.zero (by simp), h57, fun j h1 h2 => hfr j ⟨h1, h2⟩, fun h => by simp at h, _, h59⟩))
      · skip
        have hd21 := hr21.t c24
        refine lv_iload S.1 S.2.1 dX4_readNumber_27 (lv_at hl 0 rfl) ?_
        refine lv_if_eq (tgt := 48) S.1 S.2.1 dX4_readNumber_29 (by decide) (fun c29 => ?_) (fun c29 => ?_)
        · skip
          exact absurd c29 (by decide)
        · skip
          refine lv_aload_n S.1 S.2.1 dX4_readNumber_32 rfl (lv_at hl 1 rfl) ?_
          refine x_get S hK hP dX4_readNumber_33 h57 (by decide) (RX4, TX4, 4) rfl hin4 0 (by decide) fl9 rfl ?_
          refine lv_aload_n S.1 S.2.1 dX4_readNumber_36 rfl (lv_at hl 1 rfl) ?_
          refine x_get S hK hP dX4_readNumber_37 h57 (by decide) (RX4, TX4, 4) rfl hin4 2 (by decide) fl19 rfl ?_
          refine x_cald S hK hP dX4_readNumber_40 h58 (by decide) (j := p9) rfl (by omega) (by decide) ?_
          refine lv_bipush (v := 48) S.1 S.2.1 dX4_readNumber_41 (by decide) ?_
          refine lv_icmp_ne (tgt := 48) S.1 S.2.1 dX4_readNumber_43 (by decide) (fun c43 => ?_) (fun c43 => ?_)
          · skip
            refine lv_aload_n S.1 S.2.1 dX4_readNumber_48 rfl (lv_at hl 1 rfl) ?_
            refine x_qi (va_runV (As := []) (rest := []) S (c_X4_readDigit l g hJ E1 h57 h58 htl hd21.1) (cwV 0 S.2.2.2.2 gX4_readNumber_X4_readDigit rfl rfl rfl (by decide +kernel) ⟨Nat.le_of_ble_eq_true rfl, Nat.le_of_ble_eq_true rfl⟩) (x_preV hK hP h57 (by decide) rfl) rfl rfl hl.1 rfl (lv_room (Nat.le_of_ble_eq_true rfl)) dX4_readNumber_49 ⟨Nat.le_of_ble_eq_true rfl, Nat.le_of_ble_eq_true rfl⟩) hS (fun r49 E1_6 H locs hq49 hP hS => ?_)
            obtain ⟨hr49, h57, hfr49⟩ := hq49
            have h58 : E1_6 58 = .inl (xC g, 60, .inl f) := (hfr49 _ (by decide)).trans h58
            have h59 : E1_6 59 = .inl (xI g, 6, .inl f6) := (hfr49 _ (by decide)).trans h59
            have hfr : ∀ j, j ≠ 57 ∧ j ≠ 59 → E1_6 j = E j := fun j hj => (hfr49 j hj.1).trans (hfr j hj)
            refine lv_istore (lv' := [(5, .int r49), (4, .int 1), (0, .ref (xad g 57)), (1, .ref (xad g 59)), (2, .int (nI w)), (3, .int 1)]) S.1 S.2.1 dX4_readNumber_52 hl (by decide) rfl (fun ls hl => ?_)
            refine lv_iconst (v := 1) S.1 S.2.1 dX4_readNumber_54 (by decide) ?_
            refine lv_istore (lv' := [(6, .int 1), (5, .int r49), (4, .int 1), (0, .ref (xad g 57)), (1, .ref (xad g 59)), (2, .int (nI w)), (3, .int 1)]) S.1 S.2.1 dX4_readNumber_55 hl (by decide) rfl (fun ls hl => ?_)
            have loop57 : ∀ (d : Nat) (q : Nat) (v : Int32) (i : Nat) (EL : Nat → va_E) (H : Heap) (locs : List Loc), (h1i : 1 ≤ i) → (hi : i ≤ 3) → (hq9 : q ≤ tl) → (hinv : dgs f tl 2 (p9 + 1) (f p9 - 48) = dgs f tl (3 - i) q v) → (3 - i) < d → (h57 : EL 57 = .inr (4, [.ref (xad g 58), .int (nI tl), .int (nI q), .int ta])) → (h58 : EL 58 = .inl (xC g, 60, .inl f)) → (h59 : EL 59 = .inl (xI g, 6, .inl f6)) → (hfr : ∀ j, j ≠ 57 ∧ j ≠ 59 → EL j = E j) → xP g EL H → va_S (xA (xad g)) s.heap H locs → ∀ ls : Array Slot, lv_has ls 7 [(6, .int (nI i)), (5, .int v), (4, .int 1), (2, .int (nI w)), (1, .ref (xad g 59)), (0, .ref (xad g 57))] → W p l e ({ frames := 1, cells := 0, slots := 0, locals := 21 }) s m ([.ref (xad g 57), .ref (xad g 59), .int (nI w), .int 1] : List Value).toArray below meth c H locs 0 0 (MQ below (xQi g (fun r E1 => xb ((num f tl true p).1 = true) r ∧ E1 57 = .inr (4, [.ref (xad g 58), .int (nI tl), .int (nI (num f tl true p).2.1), .int ta]) ∧ (∀ j, j ≠ 57 → j ≠ 59 → E1 j = E j) ∧ ((num f tl true p).1 = true → E1 59 = .inl (xI g, 6, .inl (upd f6 w (num f tl true p).2.2))) ∧ ∃ f7 : Nat → Int32, E1 59 = .inl (xI g, 6, .inl f7))) ([.ref (xad g 57), .ref (xad g 59), .int (nI w), .int 1] : List Value).toArray s 0 0 (xA (xad g))) (F0 m 57 ls []) := by
              intro d
              induction d with
              | zero => intro q v i EL H locs h1i hi hq9 hinv hd; exact absurd hd (Nat.not_lt_zero _)
              | succ d ih57 =>
                intro q v i EL H locs h1i hi hq9 hinv hd h57 h58 h59 hfr hP hS ls hl
                refine lv_iload S.1 S.2.1 dX4_readNumber_57 (lv_at hl 0 rfl) ?_
                refine lv_iconst (v := 3) S.1 S.2.1 dX4_readNumber_59 (by decide) ?_
                refine lv_icmp_ge (tgt := 93) S.1 S.2.1 dX4_readNumber_60 (by decide) (fun c60 => ?_) (fun c60 => ?_)
                · skip
                  have hdg : dgs f tl 2 (p9 + 1) (f p9 - 48) = (q, v) := by
                    rw [hinv]
                    first
                      | (rw [show 3 - i = 0 by have := (nI_leI (a := 3) (b := i) (by omega) (by omega)).mp c60; omega]; rfl)
                      | (rw [show 3 - i = (3 - i - 1) + 1 by have := fun h => c60 ((nI_leI (a := 3) (b := i) (by omega) (by omega)).mpr h); omega]; rw [dgs_step]; first | (rw [if_pos c65]; done) | (rw [if_neg c65, if_neg (fun h => hr69.f c72 (digB_iff.mp h))]; done))
                  refine lv_aload_n S.1 S.2.1 dX4_readNumber_93 rfl (lv_at hl 4 rfl) ?_
                  refine lv_iload_n S.1 S.2.1 dX4_readNumber_94 rfl (lv_at hl 3 rfl) ?_
                  refine lv_iload S.1 S.2.1 dX4_readNumber_95 (lv_at hl 2 rfl) ?_
                  refine lv_if_eq (tgt := 106) S.1 S.2.1 dX4_readNumber_97 (by decide) (fun c97 => ?_) (fun c97 => ?_)
                  · skip
                    exact absurd c97 (by decide)
                  · skip
                    refine lv_iload S.1 S.2.1 dX4_readNumber_100 (lv_at hl 1 rfl) ?_
                    refine lv_ineg S.1 S.2.1 dX4_readNumber_102 ?_
                    refine lv_goto (tgt := 108) S.1 S.2.1 dX4_readNumber_103 (by decide) ?_
                    refine x_iast S hK hJ hP hS dX4_readNumber_108 h59 (by decide) (j := w) rfl (by omega) (by decide) (fun H locs E1_7 hu hP hS => ?_)
                    have h57 : E1_7 57 = .inr (4, [.ref (xad g 58), .int (nI tl), .int (nI q), .int ta]) := (hu.2 _ (by omega)).trans h57
                    have h58 : E1_7 58 = .inl (xC g, 60, .inl f) := (hu.2 _ (by omega)).trans h58
                    have h59 : E1_7 59 = .inl (xI g, 6, .inl (upd f6 w ((-v)))) := hu.1
                    have hfr : ∀ j, j ≠ 57 ∧ j ≠ 59 → E1_7 j = E j := fun j hj => (hu.2 j (by omega)).trans (hfr j hj)
                    refine lv_iconst (v := 1) S.1 S.2.1 dX4_readNumber_109 (by decide) ?_
                    exact x_zret S hr hlocks hP hS dX4_readNumber_110 rfl ((by rw [hnum]; have hn : numB f tl true p9 = (true, q, -v) := by { unfold numB; rw [if_pos (digB_iff.mpr hd21), if_neg (by simp [c43]), hdg]; rfl }; rw [hn]; exact ⟨xb.one rfl, h57, fun j h1 h2 => hfr j ⟨h1, h2⟩, fun _ => h59, _, h59⟩))
                · skip
                  refine lv_iload S.1 S.2.1 dX4_readNumber_63 (lv_at hl 1 rfl) ?_
                  refine lv_if_eq (tgt := 93) S.1 S.2.1 dX4_readNumber_65 (by decide) (fun c65 => ?_) (fun c65 => ?_)
                  · skip
                    have hdg : dgs f tl 2 (p9 + 1) (f p9 - 48) = (q, v) := by
                      rw [hinv]
                      first
                        | (rw [show 3 - i = 0 by have := (nI_leI (a := 3) (b := i) (by omega) (by omega)).mp c60; omega]; rfl)
                        | (rw [show 3 - i = (3 - i - 1) + 1 by have := fun h => c60 ((nI_leI (a := 3) (b := i) (by omega) (by omega)).mpr h); omega]; rw [dgs_step]; first | (rw [if_pos c65]; done) | (rw [if_neg c65, if_neg (fun h => hr69.f c72 (digB_iff.mp h))]; done))
                    refine lv_aload_n S.1 S.2.1 dX4_readNumber_93 rfl (lv_at hl 4 rfl) ?_
                    refine lv_iload_n S.1 S.2.1 dX4_readNumber_94 rfl (lv_at hl 3 rfl) ?_
                    refine lv_iload S.1 S.2.1 dX4_readNumber_95 (lv_at hl 2 rfl) ?_
                    refine lv_if_eq (tgt := 106) S.1 S.2.1 dX4_readNumber_97 (by decide) (fun c97 => ?_) (fun c97 => ?_)
                    · skip
                      exact absurd c97 (by decide)
                    · skip
                      refine lv_iload S.1 S.2.1 dX4_readNumber_100 (lv_at hl 1 rfl) ?_
                      refine lv_ineg S.1 S.2.1 dX4_readNumber_102 ?_
                      refine lv_goto (tgt := 108) S.1 S.2.1 dX4_readNumber_103 (by decide) ?_
                      refine x_iast S hK hJ hP hS dX4_readNumber_108 h59 (by decide) (j := w) rfl (by omega) (by decide) (fun H locs E1_8 hu hP hS => ?_)
                      have h57 : E1_8 57 = .inr (4, [.ref (xad g 58), .int (nI tl), .int (nI q), .int ta]) := (hu.2 _ (by omega)).trans h57
                      have h58 : E1_8 58 = .inl (xC g, 60, .inl f) := (hu.2 _ (by omega)).trans h58
                      have h59 : E1_8 59 = .inl (xI g, 6, .inl (upd f6 w ((-v)))) := hu.1
                      have hfr : ∀ j, j ≠ 57 ∧ j ≠ 59 → E1_8 j = E j := fun j hj => (hu.2 j (by omega)).trans (hfr j hj)
                      refine lv_iconst (v := 1) S.1 S.2.1 dX4_readNumber_109 (by decide) ?_
                      exact x_zret S hr hlocks hP hS dX4_readNumber_110 rfl ((by rw [hnum]; have hn : numB f tl true p9 = (true, q, -v) := by { unfold numB; rw [if_pos (digB_iff.mpr hd21), if_neg (by simp [c43]), hdg]; rfl }; rw [hn]; exact ⟨xb.one rfl, h57, fun j h1 h2 => hfr j ⟨h1, h2⟩, fun _ => h59, _, h59⟩))
                  · skip
                    refine lv_aload_n S.1 S.2.1 dX4_readNumber_68 rfl (lv_at hl 5 rfl) ?_
                    refine x_si (va_runV (As := []) (rest := []) S (c_X4_isDigit l g EL h57 h58 htl hq9) (cwV 0 S.2.2.2.2 gX4_readNumber_X4_isDigit rfl rfl rfl (by decide +kernel) ⟨Nat.le_of_ble_eq_true rfl, Nat.le_of_ble_eq_true rfl⟩) (x_preV hK hP h57 (by decide) rfl) rfl rfl hl.1 rfl (lv_room (Nat.le_of_ble_eq_true rfl)) dX4_readNumber_69 ⟨Nat.le_of_ble_eq_true rfl, Nat.le_of_ble_eq_true rfl⟩) (fun r69 hr69 => ?_)
                    refine lv_if_eq (tgt := 93) S.1 S.2.1 dX4_readNumber_72 (by decide) (fun c72 => ?_) (fun c72 => ?_)
                    · skip
                      have hdg : dgs f tl 2 (p9 + 1) (f p9 - 48) = (q, v) := by
                        rw [hinv]
                        first
                          | (rw [show 3 - i = 0 by have := (nI_leI (a := 3) (b := i) (by omega) (by omega)).mp c60; omega]; rfl)
                          | (rw [show 3 - i = (3 - i - 1) + 1 by have := fun h => c60 ((nI_leI (a := 3) (b := i) (by omega) (by omega)).mpr h); omega]; rw [dgs_step]; first | (rw [if_pos c65]; done) | (rw [if_neg c65, if_neg (fun h => hr69.f c72 (digB_iff.mp h))]; done))
                      refine lv_aload_n S.1 S.2.1 dX4_readNumber_93 rfl (lv_at hl 4 rfl) ?_
                      refine lv_iload_n S.1 S.2.1 dX4_readNumber_94 rfl (lv_at hl 3 rfl) ?_
                      refine lv_iload S.1 S.2.1 dX4_readNumber_95 (lv_at hl 2 rfl) ?_
                      refine lv_if_eq (tgt := 106) S.1 S.2.1 dX4_readNumber_97 (by decide) (fun c97 => ?_) (fun c97 => ?_)
                      · skip
                        exact absurd c97 (by decide)
                      · skip
                        refine lv_iload S.1 S.2.1 dX4_readNumber_100 (lv_at hl 1 rfl) ?_
                        refine lv_ineg S.1 S.2.1 dX4_readNumber_102 ?_
                        refine lv_goto (tgt := 108) S.1 S.2.1 dX4_readNumber_103 (by decide) ?_
                        refine x_iast S hK hJ hP hS dX4_readNumber_108 h59 (by decide) (j := w) rfl (by omega) (by decide) (fun H locs E1_9 hu hP hS => ?_)
                        have h57 : E1_9 57 = .inr (4, [.ref (xad g 58), .int (nI tl), .int (nI q), .int ta]) := (hu.2 _ (by omega)).trans h57
                        have h58 : E1_9 58 = .inl (xC g, 60, .inl f) := (hu.2 _ (by omega)).trans h58
                        have h59 : E1_9 59 = .inl (xI g, 6, .inl (upd f6 w ((-v)))) := hu.1
                        have hfr : ∀ j, j ≠ 57 ∧ j ≠ 59 → E1_9 j = E j := fun j hj => (hu.2 j (by omega)).trans (hfr j hj)
                        refine lv_iconst (v := 1) S.1 S.2.1 dX4_readNumber_109 (by decide) ?_
                        exact x_zret S hr hlocks hP hS dX4_readNumber_110 rfl ((by rw [hnum]; have hn : numB f tl true p9 = (true, q, -v) := by { unfold numB; rw [if_pos (digB_iff.mpr hd21), if_neg (by simp [c43]), hdg]; rfl }; rw [hn]; exact ⟨xb.one rfl, h57, fun j h1 h2 => hfr j ⟨h1, h2⟩, fun _ => h59, _, h59⟩))
                    · skip
                      have hd69 := hr69.t c72
                      refine lv_bipush (v := 10) S.1 S.2.1 dX4_readNumber_75 (by decide) ?_
                      refine lv_iload S.1 S.2.1 dX4_readNumber_77 (lv_at hl 1 rfl) ?_
                      refine lv_imul S.1 S.2.1 dX4_readNumber_79 ?_
                      refine lv_aload_n S.1 S.2.1 dX4_readNumber_80 rfl (lv_at hl 5 rfl) ?_
                      refine x_qi (va_runV (As := []) (rest := [.int (10 * v)]) S (c_X4_readDigit l g hJ EL h57 h58 htl hd69.1) (cwV 0 S.2.2.2.2 gX4_readNumber_X4_readDigit rfl rfl rfl (by decide +kernel) ⟨Nat.le_of_ble_eq_true rfl, Nat.le_of_ble_eq_true rfl⟩) (x_preV hK hP h57 (by decide) rfl) rfl rfl hl.1 rfl (lv_room (Nat.le_of_ble_eq_true rfl)) dX4_readNumber_81 ⟨Nat.le_of_ble_eq_true rfl, Nat.le_of_ble_eq_true rfl⟩) hS (fun r81 E1_10 H locs hq81 hP hS => ?_)
                      obtain ⟨hr81, h57, hfr81⟩ := hq81
                      have h58 : E1_10 58 = .inl (xC g, 60, .inl f) := (hfr81 _ (by decide)).trans h58
                      have h59 : E1_10 59 = .inl (xI g, 6, .inl f6) := (hfr81 _ (by decide)).trans h59
                      have hfr : ∀ j, j ≠ 57 ∧ j ≠ 59 → E1_10 j = E j := fun j hj => (hfr81 j hj.1).trans (hfr j hj)
                      refine lv_iadd S.1 S.2.1 dX4_readNumber_84 ?_
                      refine lv_topi (fun x85 ex85 => ?_)
                      refine lv_istore (lv' := [(5, .int x85), (6, .int (nI i)), (4, .int 1), (2, .int (nI w)), (1, .ref (xad g 59)), (0, .ref (xad g 57))]) S.1 S.2.1 dX4_readNumber_85 hl (by decide) rfl (fun ls hl => ?_)
                      refine lv_iinc (v := nI (i + 1)) (lv' := [(6, .int (nI (i + 1))), (5, .int x85), (4, .int 1), (2, .int (nI w)), (1, .ref (xad g 59)), (0, .ref (xad g 57))]) S.1 S.2.1 dX4_readNumber_87 hl (k := 1) rfl (show nI i + Int32.ofInt 1 = _ from nI_1 _) (by decide) rfl (fun ls hl => ?_)
                      refine lv_goto (tgt := 57) S.1 S.2.1 dX4_readNumber_90 (by decide) ?_
                      exact ih57 (q + 1) x85 (i + 1) _ _ _ (by omega) (by omega) (by have := hd69.1; omega) (by rw [hinv, show 3 - i = (3 - (i + 1)) + 1 by have := fun h => c60 ((nI_leI (a := 3) (b := i) (by omega) (by omega)).mpr h); omega]; rw [dgs_step, if_neg c65, if_pos (digB_iff.mpr hd69), ex85, hr81]) (by omega) h57 h58 h59 hfr hP hS ls (lv_sub hl [0, 1, 2, 3, 4, 5] rfl)
            exact loop57 _ (p9 + 1) r49 1 _ _ _ (Nat.le_refl _) (by decide) (by have := hd21.1; omega) (by rw [hr49]) (Nat.lt_succ_self _) h57 h58 h59 hfr hP hS ls (lv_sub hl [0, 1, 2, 5, 4, 3] rfl)
          · skip
            refine lv_iconst (v := 0) S.1 S.2.1 dX4_readNumber_46 (by decide) ?_
            exact x_zret S hr hlocks hP hS dX4_readNumber_47 rfl ((by rw [hnum]; have hn : numB f tl true p9 = (false, p9, 0) := by { unfold numB; first | (rw [if_neg (fun h => hr21.f c24 (digB_iff.mp h))]; done) | (rw [if_pos (digB_iff.mpr hd21), if_pos (by simp [c43])]; done) }; rw [hn]; exact ⟨xb.zero (by simp), h57, fun j h1 h2 => hfr j ⟨h1, h2⟩, fun h => by simp at h, _, h59⟩))
