set_option maxHeartbeats 4000000 in
set_option maxRecDepth 100000 in
/-- Integer.bitCount -/
theorem c_J6_bitCount_0f7a4 (l : Launch) (g : xG) (E : Nat → va_E) (x : Int32) : Met l yJ6_bitCount_0f7a4 wsJ6_bitCount_0f7a4 ({ frames := 0, cells := 0, slots := 0, locals := 0 }) (xPc g [.int x] E) (vp_Si (fun r => r = bcI x)) 0 0 (fun _ => False) := by
  refine x_met (ws' := _) (by decide) rfl (Nat.le_of_ble_eq_true rfl) ?_
  intro pz ez s m below meth cz ls S hr hlocks hP hK hl
  have hl : lv_has ls 1 [(0, .int x)] := hl
  refine lv_iload_n S.1 S.2.1 dJ6_bitCount_0f7a4_0 rfl (lv_at hl 0 rfl) ?_
  refine lv_iload_n S.1 S.2.1 dJ6_bitCount_0f7a4_1 rfl (lv_at hl 0 rfl) ?_
  refine lv_iconst (v := 1) S.1 S.2.1 dJ6_bitCount_0f7a4_2 (by decide) ?_
  refine lv_iushr (v := ((x).toUInt32 >>> ((1 : Int32).toUInt32 &&& Int32.toUInt32 31)).toInt32) S.1 S.2.1 dJ6_bitCount_0f7a4_3 rfl ?_
  refine lv_ldcw S.1 S.2.1 S.2.2.2.1 (S.2.2.2.2 (.constant RJ6 265 1431655765) (by decide +kernel)) dJ6_bitCount_0f7a4_4 ?_
  refine lv_iand S.1 S.2.1 dJ6_bitCount_0f7a4_7 ?_
  refine lv_isub S.1 S.2.1 dJ6_bitCount_0f7a4_8 ?_
  refine lv_topi (fun x9 ex9 => ?_)
  refine lv_istore_n (lv' := [(0, .int x9)]) S.1 S.2.1 dJ6_bitCount_0f7a4_9 rfl hl (by decide) rfl (fun ls hl => ?_)
  refine lv_iload_n S.1 S.2.1 dJ6_bitCount_0f7a4_10 rfl (lv_at hl 0 rfl) ?_
  refine lv_ldcw S.1 S.2.1 S.2.2.2.1 (S.2.2.2.2 (.constant RJ6 266 858993459) (by decide +kernel)) dJ6_bitCount_0f7a4_11 ?_
  refine lv_iand S.1 S.2.1 dJ6_bitCount_0f7a4_14 ?_
  refine lv_iload_n S.1 S.2.1 dJ6_bitCount_0f7a4_15 rfl (lv_at hl 0 rfl) ?_
  refine lv_iconst (v := 2) S.1 S.2.1 dJ6_bitCount_0f7a4_16 (by decide) ?_
  refine lv_iushr (v := ((x9).toUInt32 >>> ((2 : Int32).toUInt32 &&& Int32.toUInt32 31)).toInt32) S.1 S.2.1 dJ6_bitCount_0f7a4_17 rfl ?_
  refine lv_ldcw S.1 S.2.1 S.2.2.2.1 (S.2.2.2.2 (.constant RJ6 266 858993459) (by decide +kernel)) dJ6_bitCount_0f7a4_18 ?_
  refine lv_iand S.1 S.2.1 dJ6_bitCount_0f7a4_21 ?_
  refine lv_iadd S.1 S.2.1 dJ6_bitCount_0f7a4_22 ?_
  refine lv_topi (fun x23 ex23 => ?_)
  refine lv_istore_n (lv' := [(0, .int x23)]) S.1 S.2.1 dJ6_bitCount_0f7a4_23 rfl hl (by decide) rfl (fun ls hl => ?_)
  refine lv_iload_n S.1 S.2.1 dJ6_bitCount_0f7a4_24 rfl (lv_at hl 0 rfl) ?_
  refine lv_iload_n S.1 S.2.1 dJ6_bitCount_0f7a4_25 rfl (lv_at hl 0 rfl) ?_
  refine lv_iconst (v := 4) S.1 S.2.1 dJ6_bitCount_0f7a4_26 (by decide) ?_
  refine lv_iushr (v := ((x23).toUInt32 >>> ((4 : Int32).toUInt32 &&& Int32.toUInt32 31)).toInt32) S.1 S.2.1 dJ6_bitCount_0f7a4_27 rfl ?_
  refine lv_iadd S.1 S.2.1 dJ6_bitCount_0f7a4_28 ?_
  refine lv_ldcw S.1 S.2.1 S.2.2.2.1 (S.2.2.2.2 (.constant RJ6 267 252645135) (by decide +kernel)) dJ6_bitCount_0f7a4_29 ?_
  refine lv_iand S.1 S.2.1 dJ6_bitCount_0f7a4_32 ?_
  refine lv_topi (fun x33 ex33 => ?_)
  refine lv_istore_n (lv' := [(0, .int x33)]) S.1 S.2.1 dJ6_bitCount_0f7a4_33 rfl hl (by decide) rfl (fun ls hl => ?_)
  refine lv_iload_n S.1 S.2.1 dJ6_bitCount_0f7a4_34 rfl (lv_at hl 0 rfl) ?_
  refine lv_iload_n S.1 S.2.1 dJ6_bitCount_0f7a4_35 rfl (lv_at hl 0 rfl) ?_
  refine lv_bipush (v := 8) S.1 S.2.1 dJ6_bitCount_0f7a4_36 (by decide) ?_
  refine lv_iushr (v := ((x33).toUInt32 >>> ((8 : Int32).toUInt32 &&& Int32.toUInt32 31)).toInt32) S.1 S.2.1 dJ6_bitCount_0f7a4_38 rfl ?_
  refine lv_iadd S.1 S.2.1 dJ6_bitCount_0f7a4_39 ?_
  refine lv_topi (fun x40 ex40 => ?_)
  refine lv_istore_n (lv' := [(0, .int x40)]) S.1 S.2.1 dJ6_bitCount_0f7a4_40 rfl hl (by decide) rfl (fun ls hl => ?_)
  refine lv_iload_n S.1 S.2.1 dJ6_bitCount_0f7a4_41 rfl (lv_at hl 0 rfl) ?_
  refine lv_iload_n S.1 S.2.1 dJ6_bitCount_0f7a4_42 rfl (lv_at hl 0 rfl) ?_
  refine lv_bipush (v := 16) S.1 S.2.1 dJ6_bitCount_0f7a4_43 (by decide) ?_
  refine lv_iushr (v := ((x40).toUInt32 >>> ((16 : Int32).toUInt32 &&& Int32.toUInt32 31)).toInt32) S.1 S.2.1 dJ6_bitCount_0f7a4_45 rfl ?_
  refine lv_iadd S.1 S.2.1 dJ6_bitCount_0f7a4_46 ?_
  refine lv_topi (fun x47 ex47 => ?_)
  refine lv_istore_n (lv' := [(0, .int x47)]) S.1 S.2.1 dJ6_bitCount_0f7a4_47 rfl hl (by decide) rfl (fun ls hl => ?_)
  refine lv_iload_n S.1 S.2.1 dJ6_bitCount_0f7a4_48 rfl (lv_at hl 0 rfl) ?_
  refine lv_bipush (v := 63) S.1 S.2.1 dJ6_bitCount_0f7a4_49 (by decide) ?_
  refine lv_iand S.1 S.2.1 dJ6_bitCount_0f7a4_51 ?_
  exact x_iretR S hr hlocks dJ6_bitCount_0f7a4_52 (by subst ex47 ex40 ex33 ex23 ex9; rfl)
set_option maxHeartbeats 4000000 in
set_option maxRecDepth 100000 in
/-- Photos.holds -/
theorem c_X2_holds (l : Launch) (g : xG) (E : Nat → va_E) {b n : Nat} {M : Nat → Nat → Int32} (hp : ePh g E b n M) (x : Int32) : Met l yX2_holds wsX2_holds ({ frames := 0, cells := 0, slots := 0, locals := 0 }) (xPc g [.ref (xad g b), .int x] E) (vp_Si (xb (∃ k : Nat, k < n ∧ x = nI k))) 0 0 (fun _ => False) := by
  refine x_met (ws' := _) (by decide) rfl (Nat.le_of_ble_eq_true rfl) ?_
  intro pz ez s m below meth cz ls S hr hlocks hP hK hl
  have hl : lv_has ls 2 [(0, .ref (xad g b)), (1, .int x)] := hl
  have hin2 : ∀ w ∈ u_ws RX2 TX2 2, w ∈ wsX2_holds := by decide +kernel
  have fl22 : Cond.fieldLink RX2 22 "DiscArcs$Photos" "size" "I" ∈ wsX2_holds := by decide +kernel
  refine lv_iload_n S.1 S.2.1 dX2_holds_0 rfl (lv_at hl 1 rfl) ?_
  refine lv_if_lt (tgt := 16) S.1 S.2.1 dX2_holds_1 (by decide) (fun c1 => ?_) (fun c1 => ?_)
  · skip
    refine lv_iconst (v := 0) S.1 S.2.1 dX2_holds_16 (by decide) ?_
    exact x_zretR S hr hlocks dX2_holds_17 (xb.zero (by first | exact hold_f hp.1.2 c9 | exact hold_n hp.1.2 c1))
  · skip
    refine lv_iload_n S.1 S.2.1 dX2_holds_4 rfl (lv_at hl 1 rfl) ?_
    refine lv_aload_n S.1 S.2.1 dX2_holds_5 rfl (lv_at hl 0 rfl) ?_
    refine x_get S hK hP dX2_holds_6 hp.2.1 (by have := hp.1; omega) (RX2, TX2, 2) rfl hin2 1 (by decide) fl22 rfl ?_
    refine lv_icmp_ge (tgt := 16) S.1 S.2.1 dX2_holds_9 (by decide) (fun c9 => ?_) (fun c9 => ?_)
    · skip
      refine lv_iconst (v := 0) S.1 S.2.1 dX2_holds_16 (by decide) ?_
      exact x_zretR S hr hlocks dX2_holds_17 (xb.zero (by first | exact hold_f hp.1.2 c9 | exact hold_n hp.1.2 c1))
    · skip
      refine lv_iconst (v := 1) S.1 S.2.1 dX2_holds_12 (by decide) ?_
      refine lv_goto (tgt := 17) S.1 S.2.1 dX2_holds_13 (by decide) ?_
      exact x_zretR S hr hlocks dX2_holds_17 (xb.one (hold_t hp.1.2 c1 c9))
set_option maxHeartbeats 4000000 in
set_option maxRecDepth 100000 in
/-- Photos.isUsable -/
theorem c_X2_isUsable (l : Launch) (g : xG) (E : Nat → va_E) {b n : Nat} {M : Nat → Nat → Int32} (hp : ePh g E b n M) {k : Nat} (hk : k < n) : Met l yX2_isUsable wsX2_isUsable ({ frames := 0, cells := 0, slots := 0, locals := 0 }) (xPc g [.ref (xad g b), .int (nI k)] E) (vp_Si (xb (pU M k = true))) 0 0 (fun _ => False) := by
  refine x_met (ws' := _) (by decide) rfl (Nat.le_of_ble_eq_true rfl) ?_
  intro pz ez s m below meth cz ls S hr hlocks hP hK hl
  have hl : lv_has ls 2 [(0, .ref (xad g b)), (1, .int (nI k))] := hl
  have hin2 : ∀ w ∈ u_ws RX2 TX2 2, w ∈ wsX2_isUsable := by decide +kernel
  have fl11 : Cond.fieldLink RX2 11 "DiscArcs$Photos" "rows" "[[I" ∈ wsX2_isUsable := by decide +kernel
  have h0 := hp.1
  refine lv_aload_n S.1 S.2.1 dX2_isUsable_0 rfl (lv_at hl 0 rfl) ?_
  refine x_get S hK hP dX2_isUsable_1 hp.2.1 (by have := hp.1; omega) (RX2, TX2, 2) rfl hin2 0 (by decide) fl11 rfl ?_
  refine lv_bipush (v := 6) S.1 S.2.1 dX2_isUsable_4 (by decide) ?_
  refine x_row S hK hP dX2_isUsable_6 hp 6 rfl (by omega) ?_
  refine lv_iload_n S.1 S.2.1 dX2_isUsable_7 rfl (lv_at hl 1 rfl) ?_
  refine x_val S hK hP dX2_isUsable_8 hp (w := 6) k rfl (by omega) (by omega) ?_
  refine lv_if_ne (tgt := 16) S.1 S.2.1 dX2_isUsable_9 (by decide) (fun c9 => ?_) (fun c9 => ?_)
  · skip
    refine lv_iconst (v := 0) S.1 S.2.1 dX2_isUsable_16 (by decide) ?_
    exact x_zretR S hr hlocks dX2_isUsable_17 (xb.zero (fun h => c9 (of_decide_eq_true h)))
  · skip
    refine lv_iconst (v := 1) S.1 S.2.1 dX2_isUsable_12 (by decide) ?_
    refine lv_goto (tgt := 17) S.1 S.2.1 dX2_isUsable_13 (by decide) ?_
    exact x_zretR S hr hlocks dX2_isUsable_17 (xb.one (decide_eq_true c9))
set_option maxHeartbeats 4000000 in
set_option maxRecDepth 100000 in
/-- Photos.hasAngle -/
theorem c_X2_hasAngle (l : Launch) (g : xG) (E : Nat → va_E) {b n : Nat} {M : Nat → Nat → Int32} (hp : ePh g E b n M) {k : Nat} (hk : k < n) : Met l yX2_hasAngle wsX2_hasAngle ({ frames := 0, cells := 0, slots := 0, locals := 0 }) (xPc g [.ref (xad g b), .int (nI k)] E) (vp_Si (xb (¬ M 4 k = 360))) 0 0 (fun _ => False) := by
  refine x_met (ws' := _) (by decide) rfl (Nat.le_of_ble_eq_true rfl) ?_
  intro pz ez s m below meth cz ls S hr hlocks hP hK hl
  have hl : lv_has ls 2 [(0, .ref (xad g b)), (1, .int (nI k))] := hl
  have hin2 : ∀ w ∈ u_ws RX2 TX2 2, w ∈ wsX2_hasAngle := by decide +kernel
  have fl11 : Cond.fieldLink RX2 11 "DiscArcs$Photos" "rows" "[[I" ∈ wsX2_hasAngle := by decide +kernel
  have h0 := hp.1
  refine lv_aload_n S.1 S.2.1 dX2_hasAngle_0 rfl (lv_at hl 0 rfl) ?_
  refine x_get S hK hP dX2_hasAngle_1 hp.2.1 (by have := hp.1; omega) (RX2, TX2, 2) rfl hin2 0 (by decide) fl11 rfl ?_
  refine lv_iconst (v := 4) S.1 S.2.1 dX2_hasAngle_4 (by decide) ?_
  refine x_row S hK hP dX2_hasAngle_5 hp 4 rfl (by omega) ?_
  refine lv_iload_n S.1 S.2.1 dX2_hasAngle_6 rfl (lv_at hl 1 rfl) ?_
  refine x_val S hK hP dX2_hasAngle_7 hp (w := 4) k rfl (by omega) (by omega) ?_
  refine lv_sipush (v := 360) S.1 S.2.1 dX2_hasAngle_8 (by decide) ?_
  refine lv_icmp_eq (tgt := 18) S.1 S.2.1 dX2_hasAngle_11 (by decide) (fun c11 => ?_) (fun c11 => ?_)
  · skip
    refine lv_iconst (v := 0) S.1 S.2.1 dX2_hasAngle_18 (by decide) ?_
    exact x_zretR S hr hlocks dX2_hasAngle_19 (xb.zero (fun h => h c11))
  · skip
    refine lv_iconst (v := 1) S.1 S.2.1 dX2_hasAngle_14 (by decide) ?_
    refine lv_goto (tgt := 19) S.1 S.2.1 dX2_hasAngle_15 (by decide) ?_
    exact x_zretR S hr hlocks dX2_hasAngle_19 (xb.one c11)
set_option maxHeartbeats 4000000 in
set_option maxRecDepth 100000 in
/-- Photos.isMarked -/
theorem c_X2_isMarked (l : Launch) (g : xG) (E : Nat → va_E) {b n : Nat} {M : Nat → Nat → Int32} (hp : ePh g E b n M) {k : Nat} (hk : k < n) : Met l yX2_isMarked wsX2_isMarked ({ frames := 1, cells := 0, slots := 0, locals := 21 }) (xPc g [.ref (xad g b), .int (nI k)] E) (vp_Si (xb (pK M k = true))) 0 0 (fun _ => False) := by
  refine x_met (ws' := _) (by decide) rfl (Nat.le_of_ble_eq_true rfl) ?_
  intro pz ez s m below meth cz ls S hr hlocks hP hK hl
  have hl : lv_has ls 2 [(0, .ref (xad g b)), (1, .int (nI k))] := hl
  have h0 := hp.1
  refine lv_aload_n S.1 S.2.1 dX2_isMarked_0 rfl (lv_at hl 0 rfl) ?_
  refine lv_iload_n S.1 S.2.1 dX2_isMarked_1 rfl (lv_at hl 1 rfl) ?_
  refine x_si (va_runV (As := [.int (nI k)]) (rest := []) S (c_X2_isUsable l g E hp hk) (cwV 1 S.2.2.2.2 gX2_isMarked_X2_isUsable rfl rfl rfl (by decide +kernel) ⟨Nat.le_of_ble_eq_true rfl, Nat.le_of_ble_eq_true rfl⟩) (x_preV hK hP hp.2.1 (by have := hp.1; omega) rfl) rfl rfl hl.1 rfl (lv_room (Nat.le_of_ble_eq_true rfl)) dX2_isMarked_2 ⟨Nat.le_of_ble_eq_true rfl, Nat.le_of_ble_eq_true rfl⟩) (fun r2 hr2 => ?_)
  refine lv_if_eq (tgt := 20) S.1 S.2.1 dX2_isMarked_5 (by decide) (fun c5 => ?_) (fun c5 => ?_)
  · skip
    refine lv_iconst (v := 0) S.1 S.2.1 dX2_isMarked_20 (by decide) ?_
    exact x_zretR S hr hlocks dX2_isMarked_21 (xb.zero (fun h => by first | exact hr10.f c13 (of_decide_eq_true h).2 | exact hr2.f c5 (decide_eq_true (of_decide_eq_true h).1)))
  · skip
    refine lv_aload_n S.1 S.2.1 dX2_isMarked_8 rfl (lv_at hl 0 rfl) ?_
    refine lv_iload_n S.1 S.2.1 dX2_isMarked_9 rfl (lv_at hl 1 rfl) ?_
    refine x_si (va_runV (As := [.int (nI k)]) (rest := []) S (c_X2_hasAngle l g E hp hk) (cwV 1 S.2.2.2.2 gX2_isMarked_X2_hasAngle rfl rfl rfl (by decide +kernel) ⟨Nat.le_of_ble_eq_true rfl, Nat.le_of_ble_eq_true rfl⟩) (x_preV hK hP hp.2.1 (by have := hp.1; omega) rfl) rfl rfl hl.1 rfl (lv_room (Nat.le_of_ble_eq_true rfl)) dX2_isMarked_10 ⟨Nat.le_of_ble_eq_true rfl, Nat.le_of_ble_eq_true rfl⟩) (fun r10 hr10 => ?_)
    refine lv_if_eq (tgt := 20) S.1 S.2.1 dX2_isMarked_13 (by decide) (fun c13 => ?_) (fun c13 => ?_)
    · skip
      refine lv_iconst (v := 0) S.1 S.2.1 dX2_isMarked_20 (by decide) ?_
      exact x_zretR S hr hlocks dX2_isMarked_21 (xb.zero (fun h => by first | exact hr10.f c13 (of_decide_eq_true h).2 | exact hr2.f c5 (decide_eq_true (of_decide_eq_true h).1)))
    · skip
      refine lv_iconst (v := 1) S.1 S.2.1 dX2_isMarked_16 (by decide) ?_
      refine lv_goto (tgt := 21) S.1 S.2.1 dX2_isMarked_17 (by decide) ?_
      exact x_zretR S hr hlocks dX2_isMarked_21 (xb.one (decide_eq_true ⟨of_decide_eq_true (hr2.t c5), hr10.t c13⟩))
set_option maxHeartbeats 4000000 in
set_option maxRecDepth 100000 in
/-- Photos.usable -/
theorem c_X2_usable (l : Launch) (g : xG) (E : Nat → va_E) {b n : Nat} {M : Nat → Nat → Int32} (hp : ePh g E b n M)  : Met l yX2_usable wsX2_usable ({ frames := 1, cells := 0, slots := 0, locals := 21 }) (xPc g [.ref (xad g b)] E) (vp_Si (fun r => r = nI (mk (pU M) n))) 0 0 (fun _ => False) := by
  refine x_met (ws' := _) (by decide) rfl (Nat.le_of_ble_eq_true rfl) ?_
  intro pz ez s m below meth cz ls S hr hlocks hP hK hl
  have hl : lv_has ls 3 [(0, .ref (xad g b))] := hl
  have hin2 : ∀ w ∈ u_ws RX2 TX2 2, w ∈ wsX2_usable := by decide +kernel
  have fl22 : Cond.fieldLink RX2 22 "DiscArcs$Photos" "size" "I" ∈ wsX2_usable := by decide +kernel
  have h0 := hp.1
  refine lv_iconst (v := 0) S.1 S.2.1 dX2_usable_0 (by decide) ?_
  refine lv_istore_n (lv' := [(1, .int 0), (0, .ref (xad g b))]) S.1 S.2.1 dX2_usable_1 rfl hl (by decide) rfl (fun ls hl => ?_)
  refine lv_iconst (v := 0) S.1 S.2.1 dX2_usable_2 (by decide) ?_
  refine lv_istore_n (lv' := [(2, .int 0), (1, .int 0), (0, .ref (xad g b))]) S.1 S.2.1 dX2_usable_3 rfl hl (by decide) rfl (fun ls hl => ?_)
  have loop4 : ∀ (d : Nat) (i : Nat), (hi : i ≤ n) → (n - i) < d → ∀ ls : Array Slot, lv_has ls 3 [(2, .int (nI i)), (1, .int (nI (mk (pU M) i))), (0, .ref (xad g b))] → W pz l ez ({ frames := 1, cells := 0, slots := 0, locals := 21 }) s m ([.ref (xad g b)] : List Value).toArray below meth cz s.heap [] 0 0 (MQ below (vp_Si (fun r => r = nI (mk (pU M) n))) ([.ref (xad g b)] : List Value).toArray s 0 0 (fun _ => False)) (F0 m 4 ls []) := by
    intro d
    induction d with
    | zero => intro i hi hd; exact absurd hd (Nat.not_lt_zero _)
    | succ d ih4 =>
      intro i hi hd ls hl
      refine lv_iload_n S.1 S.2.1 dX2_usable_4 rfl (lv_at hl 0 rfl) ?_
      refine lv_aload_n S.1 S.2.1 dX2_usable_5 rfl (lv_at hl 2 rfl) ?_
      refine x_get S hK hP dX2_usable_6 hp.2.1 (by have := hp.1; omega) (RX2, TX2, 2) rfl hin2 1 (by decide) fl22 rfl ?_
      refine lv_icmp_ge (tgt := 32) S.1 S.2.1 dX2_usable_9 (by decide) (fun c9 => ?_) (fun c9 => ?_)
      · skip
        refine lv_iload_n S.1 S.2.1 dX2_usable_32 rfl (lv_at hl 1 rfl) ?_
        exact x_iretR S hr hlocks dX2_usable_33 (by rw [show i = n from Nat.le_antisymm hi ((nI_leI (by omega) (by omega)).mp c9)])
      · skip
        have hin : i < n := Nat.not_le.mp (fun h => c9 ((nI_leI (by omega) (by omega)).mpr h))
        refine lv_aload_n S.1 S.2.1 dX2_usable_12 rfl (lv_at hl 2 rfl) ?_
        refine lv_iload_n S.1 S.2.1 dX2_usable_13 rfl (lv_at hl 0 rfl) ?_
        refine x_si (va_runV (As := [.int (nI i)]) (rest := []) S (c_X2_isUsable l g E hp hin) (cwV 1 S.2.2.2.2 gX2_usable_X2_isUsable rfl rfl rfl (by decide +kernel) ⟨Nat.le_of_ble_eq_true rfl, Nat.le_of_ble_eq_true rfl⟩) (x_preV hK hP hp.2.1 (by have := hp.1; omega) rfl) rfl rfl hl.1 rfl (lv_room (Nat.le_of_ble_eq_true rfl)) dX2_usable_14 ⟨Nat.le_of_ble_eq_true rfl, Nat.le_of_ble_eq_true rfl⟩) (fun r14 hr14 => ?_)
        refine lv_if_eq (tgt := 26) S.1 S.2.1 dX2_usable_17 (by decide) (fun c17 => ?_) (fun c17 => ?_)
        · skip
          have e26 : nI (mk (pU M) i) = nI (mk (pU M) (i + 1)) := mk_skip (fun h => hr14.f c17 h)
          rw [e26] at hl
          refine lv_iinc (v := nI (i + 1)) (lv' := [(2, .int (nI (i + 1))), (1, .int (nI (mk (pU M) (i + 1)))), (0, .ref (xad g b))]) S.1 S.2.1 dX2_usable_26 hl (k := 0) rfl (show nI i + Int32.ofInt 1 = _ from nI_1 _) (by decide) rfl (fun ls hl => ?_)
          refine lv_goto (tgt := 4) S.1 S.2.1 dX2_usable_29 (by decide) ?_
          exact ih4 (i + 1) (by omega) (by omega) ls (lv_sub hl [0, 1, 2] rfl)
        · skip
          refine lv_iload_n S.1 S.2.1 dX2_usable_20 rfl (lv_at hl 1 rfl) ?_
          refine lv_iconst (v := 1) S.1 S.2.1 dX2_usable_21 (by decide) ?_
          refine lv_iload_n S.1 S.2.1 dX2_usable_22 rfl (lv_at hl 0 rfl) ?_
          refine lv_ishl S.1 S.2.1 dX2_usable_23 ?_
          refine lv_ior S.1 S.2.1 dX2_usable_24 ?_
          refine W.eq (g2 := F0 m 25 ls [.int (nI (mk (pU M) (i + 1)))]) (by rw [mk_step (by omega) (hr14.t c17)]) ?_
          refine lv_istore_n (lv' := [(1, .int (nI (mk (pU M) (i + 1)))), (2, .int (nI i)), (0, .ref (xad g b))]) S.1 S.2.1 dX2_usable_25 rfl hl (by decide) rfl (fun ls hl => ?_)
          refine lv_iinc (v := nI (i + 1)) (lv' := [(2, .int (nI (i + 1))), (1, .int (nI (mk (pU M) (i + 1)))), (0, .ref (xad g b))]) S.1 S.2.1 dX2_usable_26 hl (k := 1) rfl (show nI i + Int32.ofInt 1 = _ from nI_1 _) (by decide) rfl (fun ls hl => ?_)
          refine lv_goto (tgt := 4) S.1 S.2.1 dX2_usable_29 (by decide) ?_
          exact ih4 (i + 1) (by omega) (by omega) ls (lv_sub hl [0, 1, 2] rfl)
  exact loop4 _ 0 (Nat.zero_le _) (Nat.lt_succ_self _) ls (lv_sub hl [0, 1, 2] rfl)
set_option maxHeartbeats 4000000 in
set_option maxRecDepth 100000 in
/-- Photos.marked -/
theorem c_X2_marked (l : Launch) (g : xG) (E : Nat → va_E) {b n : Nat} {M : Nat → Nat → Int32} (hp : ePh g E b n M)  : Met l yX2_marked wsX2_marked ({ frames := 2, cells := 0, slots := 0, locals := 42 }) (xPc g [.ref (xad g b)] E) (vp_Si (fun r => r = nI (mk (pK M) n))) 0 0 (fun _ => False) := by
  refine x_met (ws' := _) (by decide) rfl (Nat.le_of_ble_eq_true rfl) ?_
  intro pz ez s m below meth cz ls S hr hlocks hP hK hl
  have hl : lv_has ls 3 [(0, .ref (xad g b))] := hl
  have hin2 : ∀ w ∈ u_ws RX2 TX2 2, w ∈ wsX2_marked := by decide +kernel
  have fl22 : Cond.fieldLink RX2 22 "DiscArcs$Photos" "size" "I" ∈ wsX2_marked := by decide +kernel
  have h0 := hp.1
  refine lv_iconst (v := 0) S.1 S.2.1 dX2_marked_0 (by decide) ?_
  refine lv_istore_n (lv' := [(1, .int 0), (0, .ref (xad g b))]) S.1 S.2.1 dX2_marked_1 rfl hl (by decide) rfl (fun ls hl => ?_)
  refine lv_iconst (v := 0) S.1 S.2.1 dX2_marked_2 (by decide) ?_
  refine lv_istore_n (lv' := [(2, .int 0), (1, .int 0), (0, .ref (xad g b))]) S.1 S.2.1 dX2_marked_3 rfl hl (by decide) rfl (fun ls hl => ?_)
  have loop4 : ∀ (d : Nat) (i : Nat), (hi : i ≤ n) → (n - i) < d → ∀ ls : Array Slot, lv_has ls 3 [(2, .int (nI i)), (1, .int (nI (mk (pK M) i))), (0, .ref (xad g b))] → W pz l ez ({ frames := 2, cells := 0, slots := 0, locals := 42 }) s m ([.ref (xad g b)] : List Value).toArray below meth cz s.heap [] 0 0 (MQ below (vp_Si (fun r => r = nI (mk (pK M) n))) ([.ref (xad g b)] : List Value).toArray s 0 0 (fun _ => False)) (F0 m 4 ls []) := by
    intro d
    induction d with
    | zero => intro i hi hd; exact absurd hd (Nat.not_lt_zero _)
    | succ d ih4 =>
      intro i hi hd ls hl
      refine lv_iload_n S.1 S.2.1 dX2_marked_4 rfl (lv_at hl 0 rfl) ?_
      refine lv_aload_n S.1 S.2.1 dX2_marked_5 rfl (lv_at hl 2 rfl) ?_
      refine x_get S hK hP dX2_marked_6 hp.2.1 (by have := hp.1; omega) (RX2, TX2, 2) rfl hin2 1 (by decide) fl22 rfl ?_
      refine lv_icmp_ge (tgt := 32) S.1 S.2.1 dX2_marked_9 (by decide) (fun c9 => ?_) (fun c9 => ?_)
      · skip
        refine lv_iload_n S.1 S.2.1 dX2_marked_32 rfl (lv_at hl 1 rfl) ?_
        exact x_iretR S hr hlocks dX2_marked_33 (by rw [show i = n from Nat.le_antisymm hi ((nI_leI (by omega) (by omega)).mp c9)])
      · skip
        have hin : i < n := Nat.not_le.mp (fun h => c9 ((nI_leI (by omega) (by omega)).mpr h))
        refine lv_aload_n S.1 S.2.1 dX2_marked_12 rfl (lv_at hl 2 rfl) ?_
        refine lv_iload_n S.1 S.2.1 dX2_marked_13 rfl (lv_at hl 0 rfl) ?_
        refine x_si (va_runV (As := [.int (nI i)]) (rest := []) S (c_X2_isMarked l g E hp hin) (cwV 1 S.2.2.2.2 gX2_marked_X2_isMarked rfl rfl rfl (by decide +kernel) ⟨Nat.le_of_ble_eq_true rfl, Nat.le_of_ble_eq_true rfl⟩) (x_preV hK hP hp.2.1 (by have := hp.1; omega) rfl) rfl rfl hl.1 rfl (lv_room (Nat.le_of_ble_eq_true rfl)) dX2_marked_14 ⟨Nat.le_of_ble_eq_true rfl, Nat.le_of_ble_eq_true rfl⟩) (fun r14 hr14 => ?_)
        refine lv_if_eq (tgt := 26) S.1 S.2.1 dX2_marked_17 (by decide) (fun c17 => ?_) (fun c17 => ?_)
        · skip
          have e26 : nI (mk (pK M) i) = nI (mk (pK M) (i + 1)) := mk_skip (fun h => hr14.f c17 h)
          rw [e26] at hl
          refine lv_iinc (v := nI (i + 1)) (lv' := [(2, .int (nI (i + 1))), (1, .int (nI (mk (pK M) (i + 1)))), (0, .ref (xad g b))]) S.1 S.2.1 dX2_marked_26 hl (k := 0) rfl (show nI i + Int32.ofInt 1 = _ from nI_1 _) (by decide) rfl (fun ls hl => ?_)
          refine lv_goto (tgt := 4) S.1 S.2.1 dX2_marked_29 (by decide) ?_
          exact ih4 (i + 1) (by omega) (by omega) ls (lv_sub hl [0, 1, 2] rfl)
        · skip
          refine lv_iload_n S.1 S.2.1 dX2_marked_20 rfl (lv_at hl 1 rfl) ?_
          refine lv_iconst (v := 1) S.1 S.2.1 dX2_marked_21 (by decide) ?_
          refine lv_iload_n S.1 S.2.1 dX2_marked_22 rfl (lv_at hl 0 rfl) ?_
          refine lv_ishl S.1 S.2.1 dX2_marked_23 ?_
          refine lv_ior S.1 S.2.1 dX2_marked_24 ?_
          refine W.eq (g2 := F0 m 25 ls [.int (nI (mk (pK M) (i + 1)))]) (by rw [mk_step (by omega) (hr14.t c17)]) ?_
          refine lv_istore_n (lv' := [(1, .int (nI (mk (pK M) (i + 1)))), (2, .int (nI i)), (0, .ref (xad g b))]) S.1 S.2.1 dX2_marked_25 rfl hl (by decide) rfl (fun ls hl => ?_)
          refine lv_iinc (v := nI (i + 1)) (lv' := [(2, .int (nI (i + 1))), (1, .int (nI (mk (pK M) (i + 1)))), (0, .ref (xad g b))]) S.1 S.2.1 dX2_marked_26 hl (k := 1) rfl (show nI i + Int32.ofInt 1 = _ from nI_1 _) (by decide) rfl (fun ls hl => ?_)
          refine lv_goto (tgt := 4) S.1 S.2.1 dX2_marked_29 (by decide) ?_
          exact ih4 (i + 1) (by omega) (by omega) ls (lv_sub hl [0, 1, 2] rfl)
  exact loop4 _ 0 (Nat.zero_le _) (Nat.lt_succ_self _) ls (lv_sub hl [0, 1, 2] rfl)
