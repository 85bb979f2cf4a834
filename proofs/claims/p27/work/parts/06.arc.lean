/-! ARC: what is read of the class's arc at the place 60 -/
set_option maxHeartbeats 4000000 in
set_option maxRecDepth 100000 in
theorem c_X6_isIn (l : Launch) (g : xG) (E : Nat → va_E) {a k : Nat} (ha : a < 1024) (hk : k < 10) : Met l yX6_isIn wsX6_isIn ({ frames := 0, cells := 0, slots := 0, locals := 0 }) (xPc g [.int (nI a), .int (nI k)] E) (vp_Si (xb (a.testBit k = true))) 0 0 (fun _ => False) := by
  refine x_met (ws' := _) (by decide) rfl (Nat.le_of_ble_eq_true rfl) ?_
  intro pz ez s m below meth cz ls S hr hlocks hP hK hl
  have hl : lv_has ls 2 [(0, .int (nI a)), (1, .int (nI k))] := hl
  refine lv_iload_n S.1 S.2.1 dX6_isIn_0 rfl (lv_at hl 0 rfl) ?_
  refine lv_iconst (v := 1) S.1 S.2.1 dX6_isIn_1 (by decide) ?_
  refine lv_iload_n S.1 S.2.1 dX6_isIn_2 rfl (lv_at hl 1 rfl) ?_
  refine lv_ishl S.1 S.2.1 dX6_isIn_3 ?_
  refine lv_iand S.1 S.2.1 dX6_isIn_4 ?_
  refine lv_if_eq (tgt := 12) S.1 S.2.1 dX6_isIn_5 (by decide) (fun c5 => ?_) (fun c5 => ?_)
  · skip
    refine lv_iconst (v := 0) S.1 S.2.1 dX6_isIn_12 (by decide) ?_
    exact x_zretR S hr hlocks dX6_isIn_13 (xb.zero (bit_inF ha hk c5))
  · skip
    refine lv_iconst (v := 1) S.1 S.2.1 dX6_isIn_8 (by decide) ?_
    refine lv_goto (tgt := 13) S.1 S.2.1 dX6_isIn_9 (by decide) ?_
    exact x_zretR S hr hlocks dX6_isIn_13 (xb.one (bit_inT ha hk c5))
set_option maxHeartbeats 4000000 in
set_option maxRecDepth 100000 in
/-- Arc.lower -/
theorem c_X0_lower (l : Launch) (g : xG) (E : Nat → va_E) {n i j k : Nat} {M : Nat → Nat → Int32} (hp : ePh g E 1 n M) (hA : E 60 = .inr (0, [.ref (xad g 1), .int (nI i), .int (nI j), .int (nI k)])) (hi : i < n) (hj : j < n) (hk : k < n)  : Met l yX0_lower wsX0_lower ({ frames := 0, cells := 0, slots := 0, locals := 0 }) (xPc g [.ref (xad g 60)] E) (vp_Sl (fun r => r = loN M i j k)) 0 0 (fun _ => False) := by
  refine x_met (ws' := _) (by decide) rfl (Nat.le_of_ble_eq_true rfl) ?_
  intro pz ez s m below meth cz ls S hr hlocks hP hK hl
  have hl : lv_has ls 7 [(0, .ref (xad g 60))] := hl
  have hin0 : ∀ w ∈ u_ws RX0 TX0 4, w ∈ wsX0_lower := by decide +kernel
  have hin2 : ∀ w ∈ u_ws RX2 TX2 2, w ∈ wsX0_lower := by decide +kernel
  have fl9 : Cond.fieldLink RX0 9 "DiscArcs$Arc" "photos" "LDiscArcs$Photos;" ∈ wsX0_lower := by decide +kernel
  have fl15 : Cond.fieldLink RX0 15 "DiscArcs$Arc" "first" "I" ∈ wsX0_lower := by decide +kernel
  have fl19 : Cond.fieldLink RX0 19 "DiscArcs$Arc" "second" "I" ∈ wsX0_lower := by decide +kernel
  have fl22 : Cond.fieldLink RX0 22 "DiscArcs$Arc" "third" "I" ∈ wsX0_lower := by decide +kernel
  have fl47 : Cond.fieldLink RX0 47 "DiscArcs$Photos" "rows" "[[I" ∈ wsX0_lower := by decide +kernel
  have h0 := hp.1
  refine lv_aload_n S.1 S.2.1 dX0_lower_0 rfl (lv_at hl 0 rfl) ?_
  refine x_get S hK hP dX0_lower_1 hA (by decide) (RX0, TX0, 4) rfl hin0 0 (by decide) fl9 rfl ?_
  refine x_get S hK hP dX0_lower_4 hp.2.1 (by decide) (RX2, TX2, 2) rfl hin2 0 (by decide) fl47 rfl ?_
  refine lv_iconst (v := 0) S.1 S.2.1 dX0_lower_7 (by decide) ?_
  refine x_row S hK hP dX0_lower_8 hp 0 rfl (by omega) ?_
  refine lv_aload_n S.1 S.2.1 dX0_lower_9 rfl (lv_at hl 0 rfl) ?_
  refine x_get S hK hP dX0_lower_10 hA (by decide) (RX0, TX0, 4) rfl hin0 1 (by decide) fl15 rfl ?_
  refine x_val S hK hP dX0_lower_13 hp (w := 0) i rfl (by omega) (by omega) ?_
  refine lv_i2l (v := (M 0 i).toInt64) S.1 S.2.1 dX0_lower_14 rfl ?_
  refine lv_topl (fun x15 ex15 => ?_)
  refine lv_lstore_n (lv' := [(1, .long x15), (0, .ref (xad g 60))]) S.1 S.2.1 dX0_lower_15 rfl hl (by decide) rfl (fun ls hl => ?_)
  refine lv_aload_n S.1 S.2.1 dX0_lower_16 rfl (lv_at hl 1 rfl) ?_
  refine x_get S hK hP dX0_lower_17 hA (by decide) (RX0, TX0, 4) rfl hin0 0 (by decide) fl9 rfl ?_
  refine x_get S hK hP dX0_lower_20 hp.2.1 (by decide) (RX2, TX2, 2) rfl hin2 0 (by decide) fl47 rfl ?_
  refine lv_iconst (v := 0) S.1 S.2.1 dX0_lower_23 (by decide) ?_
  refine x_row S hK hP dX0_lower_24 hp 0 rfl (by omega) ?_
  refine lv_aload_n S.1 S.2.1 dX0_lower_25 rfl (lv_at hl 1 rfl) ?_
  refine x_get S hK hP dX0_lower_26 hA (by decide) (RX0, TX0, 4) rfl hin0 2 (by decide) fl19 rfl ?_
  refine x_val S hK hP dX0_lower_29 hp (w := 0) j rfl (by omega) (by omega) ?_
  refine lv_i2l (v := (M 0 j).toInt64) S.1 S.2.1 dX0_lower_30 rfl ?_
  refine lv_topl (fun x31 ex31 => ?_)
  refine lv_lstore_n (lv' := [(3, .long x31), (1, .long x15), (0, .ref (xad g 60))]) S.1 S.2.1 dX0_lower_31 rfl hl (by decide) rfl (fun ls hl => ?_)
  refine lv_aload_n S.1 S.2.1 dX0_lower_32 rfl (lv_at hl 2 rfl) ?_
  refine x_get S hK hP dX0_lower_33 hA (by decide) (RX0, TX0, 4) rfl hin0 0 (by decide) fl9 rfl ?_
  refine x_get S hK hP dX0_lower_36 hp.2.1 (by decide) (RX2, TX2, 2) rfl hin2 0 (by decide) fl47 rfl ?_
  refine lv_iconst (v := 0) S.1 S.2.1 dX0_lower_39 (by decide) ?_
  refine x_row S hK hP dX0_lower_40 hp 0 rfl (by omega) ?_
  refine lv_aload_n S.1 S.2.1 dX0_lower_41 rfl (lv_at hl 2 rfl) ?_
  refine x_get S hK hP dX0_lower_42 hA (by decide) (RX0, TX0, 4) rfl hin0 3 (by decide) fl22 rfl ?_
  refine x_val S hK hP dX0_lower_45 hp (w := 0) k rfl (by omega) (by omega) ?_
  refine lv_i2l (v := (M 0 k).toInt64) S.1 S.2.1 dX0_lower_46 rfl ?_
  refine lv_topl (fun x47 ex47 => ?_)
  refine lv_lstore (lv' := [(5, .long x47), (3, .long x31), (1, .long x15), (0, .ref (xad g 60))]) S.1 S.2.1 dX0_lower_47 hl (by decide) rfl (fun ls hl => ?_)
  refine lv_lload_n S.1 S.2.1 dX0_lower_49 rfl (lv_at hl 1 rfl) ?_
  refine lv_lload_n S.1 S.2.1 dX0_lower_50 rfl (lv_at hl 2 rfl) ?_
  refine lv_lsub S.1 S.2.1 dX0_lower_51 ?_
  refine lv_lload S.1 S.2.1 dX0_lower_52 (lv_at hl 0 rfl) ?_
  refine lv_lload_n S.1 S.2.1 dX0_lower_54 rfl (lv_at hl 2 rfl) ?_
  refine lv_lsub S.1 S.2.1 dX0_lower_55 ?_
  refine lv_lmul S.1 S.2.1 dX0_lower_56 ?_
  refine lv_lload S.1 S.2.1 dX0_lower_57 (lv_at hl 0 rfl) ?_
  refine lv_lload_n S.1 S.2.1 dX0_lower_59 rfl (lv_at hl 1 rfl) ?_
  refine lv_lsub S.1 S.2.1 dX0_lower_60 ?_
  refine lv_lmul S.1 S.2.1 dX0_lower_61 ?_
  exact x_lretR S hr hlocks dX0_lower_62 (by subst ex15 ex31 ex47; rfl)
set_option maxHeartbeats 4000000 in
set_option maxRecDepth 100000 in
/-- Arc.upper -/
theorem c_X0_upper (l : Launch) (g : xG) (E : Nat → va_E) {n i j k : Nat} {M : Nat → Nat → Int32} (hp : ePh g E 1 n M) (hA : E 60 = .inr (0, [.ref (xad g 1), .int (nI i), .int (nI j), .int (nI k)])) (hi : i < n) (hj : j < n) (hk : k < n) {w : Nat} (hw : w < 2) (u : Int64) : Met l yX0_upper wsX0_upper ({ frames := 0, cells := 0, slots := 0, locals := 0 }) (xPc g [.ref (xad g 60), .int (nI w), .long u] E) (vp_Sl (fun r => r = upN M w i j k u)) 0 0 (fun _ => False) := by
  refine x_met (ws' := _) (by decide) rfl (Nat.le_of_ble_eq_true rfl) ?_
  intro pz ez s m below meth cz ls S hr hlocks hP hK hl
  have hl : lv_has ls 11 [(0, .ref (xad g 60)), (1, .int (nI w)), (2, .long u)] := hl
  have hin0 : ∀ w ∈ u_ws RX0 TX0 4, w ∈ wsX0_upper := by decide +kernel
  have hin2 : ∀ w ∈ u_ws RX2 TX2 2, w ∈ wsX0_upper := by decide +kernel
  have fl9 : Cond.fieldLink RX0 9 "DiscArcs$Arc" "photos" "LDiscArcs$Photos;" ∈ wsX0_upper := by decide +kernel
  have fl15 : Cond.fieldLink RX0 15 "DiscArcs$Arc" "first" "I" ∈ wsX0_upper := by decide +kernel
  have fl19 : Cond.fieldLink RX0 19 "DiscArcs$Arc" "second" "I" ∈ wsX0_upper := by decide +kernel
  have fl22 : Cond.fieldLink RX0 22 "DiscArcs$Arc" "third" "I" ∈ wsX0_upper := by decide +kernel
  have fl47 : Cond.fieldLink RX0 47 "DiscArcs$Photos" "rows" "[[I" ∈ wsX0_upper := by decide +kernel
  have h0 := hp.1
  refine lv_aload_n S.1 S.2.1 dX0_upper_0 rfl (lv_at hl 0 rfl) ?_
  refine x_get S hK hP dX0_upper_1 hA (by decide) (RX0, TX0, 4) rfl hin0 0 (by decide) fl9 rfl ?_
  refine x_get S hK hP dX0_upper_4 hp.2.1 (by decide) (RX2, TX2, 2) rfl hin2 0 (by decide) fl47 rfl ?_
  refine lv_iconst (v := 1) S.1 S.2.1 dX0_upper_7 (by decide) ?_
  refine lv_iload_n S.1 S.2.1 dX0_upper_8 rfl (lv_at hl 1 rfl) ?_
  refine lv_iadd S.1 S.2.1 dX0_upper_9 ?_
  refine x_row S hK hP dX0_upper_10 hp (1 + w) (nI_add 1 w) (by omega) ?_
  refine lv_astore (lv' := [(4, .ref (xad g (1 + 2 + (1 + w)))), (0, .ref (xad g 60)), (1, .int (nI w)), (2, .long u)]) S.1 S.2.1 dX0_upper_11 hl (by decide) rfl (fun ls hl => ?_)
  refine lv_aload_n S.1 S.2.1 dX0_upper_13 rfl (lv_at hl 1 rfl) ?_
  refine x_get S hK hP dX0_upper_14 hA (by decide) (RX0, TX0, 4) rfl hin0 0 (by decide) fl9 rfl ?_
  refine x_get S hK hP dX0_upper_17 hp.2.1 (by decide) (RX2, TX2, 2) rfl hin2 0 (by decide) fl47 rfl ?_
  refine lv_iconst (v := 0) S.1 S.2.1 dX0_upper_20 (by decide) ?_
  refine x_row S hK hP dX0_upper_21 hp 0 rfl (by omega) ?_
  refine lv_aload_n S.1 S.2.1 dX0_upper_22 rfl (lv_at hl 1 rfl) ?_
  refine x_get S hK hP dX0_upper_23 hA (by decide) (RX0, TX0, 4) rfl hin0 1 (by decide) fl15 rfl ?_
  refine x_val S hK hP dX0_upper_26 hp (w := 0) i rfl (by omega) (by omega) ?_
  refine lv_i2l (v := (M 0 i).toInt64) S.1 S.2.1 dX0_upper_27 rfl ?_
  refine lv_topl (fun x28 ex28 => ?_)
  refine lv_lstore (lv' := [(5, .long x28), (4, .ref (xad g (1 + 2 + (1 + w)))), (0, .ref (xad g 60)), (1, .int (nI w)), (2, .long u)]) S.1 S.2.1 dX0_upper_28 hl (by decide) rfl (fun ls hl => ?_)
  refine lv_aload_n S.1 S.2.1 dX0_upper_30 rfl (lv_at hl 2 rfl) ?_
  refine x_get S hK hP dX0_upper_31 hA (by decide) (RX0, TX0, 4) rfl hin0 0 (by decide) fl9 rfl ?_
  refine x_get S hK hP dX0_upper_34 hp.2.1 (by decide) (RX2, TX2, 2) rfl hin2 0 (by decide) fl47 rfl ?_
  refine lv_iconst (v := 0) S.1 S.2.1 dX0_upper_37 (by decide) ?_
  refine x_row S hK hP dX0_upper_38 hp 0 rfl (by omega) ?_
  refine lv_aload_n S.1 S.2.1 dX0_upper_39 rfl (lv_at hl 2 rfl) ?_
  refine x_get S hK hP dX0_upper_40 hA (by decide) (RX0, TX0, 4) rfl hin0 2 (by decide) fl19 rfl ?_
  refine x_val S hK hP dX0_upper_43 hp (w := 0) j rfl (by omega) (by omega) ?_
  refine lv_i2l (v := (M 0 j).toInt64) S.1 S.2.1 dX0_upper_44 rfl ?_
  refine lv_topl (fun x45 ex45 => ?_)
  refine lv_lstore (lv' := [(7, .long x45), (5, .long x28), (4, .ref (xad g (1 + 2 + (1 + w)))), (0, .ref (xad g 60)), (1, .int (nI w)), (2, .long u)]) S.1 S.2.1 dX0_upper_45 hl (by decide) rfl (fun ls hl => ?_)
  refine lv_aload_n S.1 S.2.1 dX0_upper_47 rfl (lv_at hl 3 rfl) ?_
  refine x_get S hK hP dX0_upper_48 hA (by decide) (RX0, TX0, 4) rfl hin0 0 (by decide) fl9 rfl ?_
  refine x_get S hK hP dX0_upper_51 hp.2.1 (by decide) (RX2, TX2, 2) rfl hin2 0 (by decide) fl47 rfl ?_
  refine lv_iconst (v := 0) S.1 S.2.1 dX0_upper_54 (by decide) ?_
  refine x_row S hK hP dX0_upper_55 hp 0 rfl (by omega) ?_
  refine lv_aload_n S.1 S.2.1 dX0_upper_56 rfl (lv_at hl 3 rfl) ?_
  refine x_get S hK hP dX0_upper_57 hA (by decide) (RX0, TX0, 4) rfl hin0 3 (by decide) fl22 rfl ?_
  refine x_val S hK hP dX0_upper_60 hp (w := 0) k rfl (by omega) (by omega) ?_
  refine lv_i2l (v := (M 0 k).toInt64) S.1 S.2.1 dX0_upper_61 rfl ?_
  refine lv_topl (fun x62 ex62 => ?_)
  refine lv_lstore (lv' := [(9, .long x62), (7, .long x45), (5, .long x28), (4, .ref (xad g (1 + 2 + (1 + w)))), (0, .ref (xad g 60)), (1, .int (nI w)), (2, .long u)]) S.1 S.2.1 dX0_upper_62 hl (by decide) rfl (fun ls hl => ?_)
  refine lv_aload S.1 S.2.1 dX0_upper_64 (lv_at hl 3 rfl) ?_
  refine lv_aload_n S.1 S.2.1 dX0_upper_66 rfl (lv_at hl 4 rfl) ?_
  refine x_get S hK hP dX0_upper_67 hA (by decide) (RX0, TX0, 4) rfl hin0 1 (by decide) fl15 rfl ?_
  refine x_val S hK hP dX0_upper_70 hp (w := (1 + w)) i rfl (by omega) (by omega) ?_
  refine lv_i2l (v := (M (1 + w) i).toInt64) S.1 S.2.1 dX0_upper_71 rfl ?_
  refine lv_lload_n S.1 S.2.1 dX0_upper_72 rfl (lv_at hl 6 rfl) ?_
  refine lv_lload S.1 S.2.1 dX0_upper_73 (lv_at hl 1 rfl) ?_
  refine lv_lsub S.1 S.2.1 dX0_upper_75 ?_
  refine lv_lmul S.1 S.2.1 dX0_upper_76 ?_
  refine lv_lload_n S.1 S.2.1 dX0_upper_77 rfl (lv_at hl 6 rfl) ?_
  refine lv_lload S.1 S.2.1 dX0_upper_78 (lv_at hl 0 rfl) ?_
  refine lv_lsub S.1 S.2.1 dX0_upper_80 ?_
  refine lv_lmul S.1 S.2.1 dX0_upper_81 ?_
  refine lv_lload S.1 S.2.1 dX0_upper_82 (lv_at hl 0 rfl) ?_
  refine lv_lload S.1 S.2.1 dX0_upper_84 (lv_at hl 1 rfl) ?_
  refine lv_lsub S.1 S.2.1 dX0_upper_86 ?_
  refine lv_lmul S.1 S.2.1 dX0_upper_87 ?_
  refine lv_aload S.1 S.2.1 dX0_upper_88 (lv_at hl 3 rfl) ?_
  refine lv_aload_n S.1 S.2.1 dX0_upper_90 rfl (lv_at hl 4 rfl) ?_
  refine x_get S hK hP dX0_upper_91 hA (by decide) (RX0, TX0, 4) rfl hin0 2 (by decide) fl19 rfl ?_
  refine x_val S hK hP dX0_upper_94 hp (w := (1 + w)) j rfl (by omega) (by omega) ?_
  refine lv_i2l (v := (M (1 + w) j).toInt64) S.1 S.2.1 dX0_upper_95 rfl ?_
  refine lv_lload_n S.1 S.2.1 dX0_upper_96 rfl (lv_at hl 6 rfl) ?_
  refine lv_lload S.1 S.2.1 dX0_upper_97 (lv_at hl 2 rfl) ?_
  refine lv_lsub S.1 S.2.1 dX0_upper_99 ?_
  refine lv_lmul S.1 S.2.1 dX0_upper_100 ?_
  refine lv_lload_n S.1 S.2.1 dX0_upper_101 rfl (lv_at hl 6 rfl) ?_
  refine lv_lload S.1 S.2.1 dX0_upper_102 (lv_at hl 0 rfl) ?_
  refine lv_lsub S.1 S.2.1 dX0_upper_104 ?_
  refine lv_lmul S.1 S.2.1 dX0_upper_105 ?_
  refine lv_lload S.1 S.2.1 dX0_upper_106 (lv_at hl 2 rfl) ?_
  refine lv_lload S.1 S.2.1 dX0_upper_108 (lv_at hl 0 rfl) ?_
  refine lv_lsub S.1 S.2.1 dX0_upper_110 ?_
  refine lv_lmul S.1 S.2.1 dX0_upper_111 ?_
  refine lv_ladd S.1 S.2.1 dX0_upper_112 ?_
  refine lv_aload S.1 S.2.1 dX0_upper_113 (lv_at hl 3 rfl) ?_
  refine lv_aload_n S.1 S.2.1 dX0_upper_115 rfl (lv_at hl 4 rfl) ?_
  refine x_get S hK hP dX0_upper_116 hA (by decide) (RX0, TX0, 4) rfl hin0 3 (by decide) fl22 rfl ?_
  refine x_val S hK hP dX0_upper_119 hp (w := (1 + w)) k rfl (by omega) (by omega) ?_
  refine lv_i2l (v := (M (1 + w) k).toInt64) S.1 S.2.1 dX0_upper_120 rfl ?_
  refine lv_lload_n S.1 S.2.1 dX0_upper_121 rfl (lv_at hl 6 rfl) ?_
  refine lv_lload S.1 S.2.1 dX0_upper_122 (lv_at hl 2 rfl) ?_
  refine lv_lsub S.1 S.2.1 dX0_upper_124 ?_
  refine lv_lmul S.1 S.2.1 dX0_upper_125 ?_
  refine lv_lload_n S.1 S.2.1 dX0_upper_126 rfl (lv_at hl 6 rfl) ?_
  refine lv_lload S.1 S.2.1 dX0_upper_127 (lv_at hl 1 rfl) ?_
  refine lv_lsub S.1 S.2.1 dX0_upper_129 ?_
  refine lv_lmul S.1 S.2.1 dX0_upper_130 ?_
  refine lv_lload S.1 S.2.1 dX0_upper_131 (lv_at hl 1 rfl) ?_
  refine lv_lload S.1 S.2.1 dX0_upper_133 (lv_at hl 2 rfl) ?_
  refine lv_lsub S.1 S.2.1 dX0_upper_135 ?_
  refine lv_lmul S.1 S.2.1 dX0_upper_136 ?_
  refine lv_ladd S.1 S.2.1 dX0_upper_137 ?_
  exact x_lretR S hr hlocks dX0_upper_138 (by subst ex28 ex45 ex62; rfl)
set_option maxHeartbeats 4000000 in
set_option maxRecDepth 100000 in
/-- Arc.photoOf -/
theorem c_X0_photoOf (l : Launch) (g : xG) (E : Nat → va_E) {n i j k : Nat} {M : Nat → Nat → Int32} (hp : ePh g E 1 n M) (hA : E 60 = .inr (0, [.ref (xad g 1), .int (nI i), .int (nI j), .int (nI k)])) (hi : i < n) (hj : j < n) (hk : k < n) (x : Int32) : Met l yX0_photoOf wsX0_photoOf ({ frames := 0, cells := 0, slots := 0, locals := 0 }) (xPc g [.ref (xad g 60), .int x] E) (vp_Si (fun r => r = if x = 0 then nI i else if x = 1 then nI j else nI k)) 0 0 (fun _ => False) := by
  refine x_met (ws' := _) (by decide) rfl (Nat.le_of_ble_eq_true rfl) ?_
  intro pz ez s m below meth cz ls S hr hlocks hP hK hl
  have hl : lv_has ls 2 [(0, .ref (xad g 60)), (1, .int x)] := hl
  have hin0 : ∀ w ∈ u_ws RX0 TX0 4, w ∈ wsX0_photoOf := by decide +kernel
  have fl15 : Cond.fieldLink RX0 15 "DiscArcs$Arc" "first" "I" ∈ wsX0_photoOf := by decide +kernel
  have fl19 : Cond.fieldLink RX0 19 "DiscArcs$Arc" "second" "I" ∈ wsX0_photoOf := by decide +kernel
  have fl22 : Cond.fieldLink RX0 22 "DiscArcs$Arc" "third" "I" ∈ wsX0_photoOf := by decide +kernel
  have h0 := hp.1
  refine lv_iload_n S.1 S.2.1 dX0_photoOf_0 rfl (lv_at hl 1 rfl) ?_
  refine lv_if_ne (tgt := 9) S.1 S.2.1 dX0_photoOf_1 (by decide) (fun c1 => ?_) (fun c1 => ?_)
  · skip
    refine lv_iload_n S.1 S.2.1 dX0_photoOf_9 rfl (lv_at hl 1 rfl) ?_
    refine lv_iconst (v := 1) S.1 S.2.1 dX0_photoOf_10 (by decide) ?_
    refine lv_icmp_ne (tgt := 21) S.1 S.2.1 dX0_photoOf_11 (by decide) (fun c11 => ?_) (fun c11 => ?_)
    · skip
      refine lv_aload_n S.1 S.2.1 dX0_photoOf_21 rfl (lv_at hl 0 rfl) ?_
      refine x_get S hK hP dX0_photoOf_22 hA (by decide) (RX0, TX0, 4) rfl hin0 3 (by decide) fl22 rfl ?_
      exact x_iretR S hr hlocks dX0_photoOf_25 (by rw [if_neg c1, if_neg c11])
    · skip
      refine lv_aload_n S.1 S.2.1 dX0_photoOf_14 rfl (lv_at hl 0 rfl) ?_
      refine x_get S hK hP dX0_photoOf_15 hA (by decide) (RX0, TX0, 4) rfl hin0 2 (by decide) fl19 rfl ?_
      refine lv_goto (tgt := 25) S.1 S.2.1 dX0_photoOf_18 (by decide) ?_
      exact x_iretR S hr hlocks dX0_photoOf_25 (by rw [if_neg c1, if_pos c11])
  · skip
    refine lv_aload_n S.1 S.2.1 dX0_photoOf_4 rfl (lv_at hl 0 rfl) ?_
    refine x_get S hK hP dX0_photoOf_5 hA (by decide) (RX0, TX0, 4) rfl hin0 1 (by decide) fl15 rfl ?_
    exact x_iretR S hr hlocks dX0_photoOf_8 ((if_pos c1).symm)
theorem miss_n0 {M : Nat → Nat → Int32} {P : Nat → Bool} {i j k q : Nat} (h : ¬ P q = true) : ¬ pM M P i j k q = true := by
  unfold pM
  cases hp : P q <;> simp_all
theorem miss_n1 {M : Nat → Nat → Int32} {P : Nat → Bool} {i j k q : Nat} (h : hitB M i j k q = true) : ¬ pM M P i j k q = true := by unfold pM; rw [h]; simp
theorem hit_t {M : Nat → Nat → Int32} {i j k q : Nat} {ax ay e : Int64} (hx : ax = upN M 0 i j k (M 0 q).toInt64 - (M 1 q).toInt64 * loN M i j k) (hy : ay = upN M 1 i j k (M 0 q).toInt64 - (M 2 q).toInt64 * loN M i j k) (he : e = (M 3 q).toInt64 * loN M i j k) (hlo : 0 < loN M i j k) (h1 : (if 0 < ax then ax else -ax) ≤ e) (h2 : (if 0 < ay then ay else -ay) ≤ e) : hitB M i j k q = true := by
  subst hx hy he
  refine decide_eq_true ?_
  rw [abL_pos hlo]
  exact ⟨h1, h2⟩
theorem miss_t {M : Nat → Nat → Int32} {P : Nat → Bool} {i j k q : Nat} {ax ay e : Int64} (hP : P q = true) (hx : ax = upN M 0 i j k (M 0 q).toInt64 - (M 1 q).toInt64 * loN M i j k) (hy : ay = upN M 1 i j k (M 0 q).toInt64 - (M 2 q).toInt64 * loN M i j k) (he : e = (M 3 q).toInt64 * loN M i j k) (hlo : 0 < loN M i j k) (h : ¬ ((if 0 < ax then ax else -ax) ≤ e ∧ (if 0 < ay then ay else -ay) ≤ e)) : pM M P i j k q = true := by
  have h9 : hitB M i j k q = false := by
    refine decide_eq_false ?_
    rw [abL_pos hlo]
    subst hx hy he
    exact h
  unfold pM
  rw [hP, h9]
  rfl
set_option maxHeartbeats 4000000 in
set_option maxRecDepth 100000 in
/-- Arc.missedOf -/
theorem c_X0_missedOf (l : Launch) (g : xG) (E : Nat → va_E) {n i j k : Nat} {M : Nat → Nat → Int32} (hp : ePh g E 1 n M) (hA : E 60 = .inr (0, [.ref (xad g 1), .int (nI i), .int (nI j), .int (nI k)])) (hi : i < n) (hj : j < n) (hk : k < n) {P : Nat → Bool} (hlo : 0 < loN M i j k) : Met l yX0_missedOf wsX0_missedOf ({ frames := 1, cells := 0, slots := 0, locals := 40 }) (xPc g [.ref (xad g 60), .int (nI (mk P n))] E) (vp_Si (fun r => r = nI (mk (pM M P i j k) n))) 0 0 (fun _ => False) := by
  refine x_met (ws' := _) (by decide) rfl (Nat.le_of_ble_eq_true rfl) ?_
  intro pz ez s m below meth cz ls S hr hlocks hP hK hl
  have hl : lv_has ls 14 [(0, .ref (xad g 60)), (1, .int (nI (mk P n)))] := hl
  have hin0 : ∀ w ∈ u_ws RX0 TX0 4, w ∈ wsX0_missedOf := by decide +kernel
  have hin2 : ∀ w ∈ u_ws RX2 TX2 2, w ∈ wsX0_missedOf := by decide +kernel
  have fl9 : Cond.fieldLink RX0 9 "DiscArcs$Arc" "photos" "LDiscArcs$Photos;" ∈ wsX0_missedOf := by decide +kernel
  have fl25 : Cond.fieldLink RX0 25 "DiscArcs$Photos" "size" "I" ∈ wsX0_missedOf := by decide +kernel
  have fl47 : Cond.fieldLink RX0 47 "DiscArcs$Photos" "rows" "[[I" ∈ wsX0_missedOf := by decide +kernel
  have h0 := hp.1
  refine lv_aload_n S.1 S.2.1 dX0_missedOf_0 rfl (lv_at hl 0 rfl) ?_
  refine x_sl (va_runV (As := []) (rest := []) S (c_X0_lower l g E hp hA hi hj hk) (cwV 0 S.2.2.2.2 gX0_missedOf_X0_lower rfl rfl rfl (by decide +kernel) ⟨Nat.le_of_ble_eq_true rfl, Nat.le_of_ble_eq_true rfl⟩) (x_preV hK hP hA (by decide) rfl) rfl rfl hl.1 rfl (lv_room (Nat.le_of_ble_eq_true rfl)) dX0_missedOf_1 ⟨Nat.le_of_ble_eq_true rfl, Nat.le_of_ble_eq_true rfl⟩) (fun r1 hr1 => ?_)
  refine lv_lstore_n (lv' := [(2, .long r1), (0, .ref (xad g 60)), (1, .int (nI (mk P n)))]) S.1 S.2.1 dX0_missedOf_4 rfl hl (by decide) rfl (fun ls hl => ?_)
  refine lv_iconst (v := 0) S.1 S.2.1 dX0_missedOf_5 (by decide) ?_
  refine lv_istore (lv' := [(4, .int 0), (2, .long r1), (0, .ref (xad g 60)), (1, .int (nI (mk P n)))]) S.1 S.2.1 dX0_missedOf_6 hl (by decide) rfl (fun ls hl => ?_)
  refine lv_iconst (v := 0) S.1 S.2.1 dX0_missedOf_8 (by decide) ?_
  refine lv_istore (lv' := [(5, .int 0), (4, .int 0), (2, .long r1), (0, .ref (xad g 60)), (1, .int (nI (mk P n)))]) S.1 S.2.1 dX0_missedOf_9 hl (by decide) rfl (fun ls hl => ?_)
  have loop11 : ∀ (d : Nat) (q : Nat), (hq : q ≤ n) → (n - q) < d → ∀ ls : Array Slot, lv_has ls 14 [(5, .int (nI q)), (4, .int (nI (mk (pM M P i j k) q))), (2, .long r1), (1, .int (nI (mk P n))), (0, .ref (xad g 60))] → W pz l ez ({ frames := 1, cells := 0, slots := 0, locals := 40 }) s m ([.ref (xad g 60), .int (nI (mk P n))] : List Value).toArray below meth cz s.heap [] 0 0 (MQ below (vp_Si (fun r => r = nI (mk (pM M P i j k) n))) ([.ref (xad g 60), .int (nI (mk P n))] : List Value).toArray s 0 0 (fun _ => False)) (F0 m 11 ls []) := by
    intro d
    induction d with
    | zero => intro q hq hd; exact absurd hd (Nat.not_lt_zero _)
    | succ d ih11 =>
      intro q hq hd ls hl
      refine lv_iload S.1 S.2.1 dX0_missedOf_11 (lv_at hl 0 rfl) ?_
      refine lv_aload_n S.1 S.2.1 dX0_missedOf_13 rfl (lv_at hl 4 rfl) ?_
      refine x_get S hK hP dX0_missedOf_14 hA (by decide) (RX0, TX0, 4) rfl hin0 0 (by decide) fl9 rfl ?_
      refine x_get S hK hP dX0_missedOf_17 hp.2.1 (by decide) (RX2, TX2, 2) rfl hin2 1 (by decide) fl25 rfl ?_
      refine lv_icmp_ge (tgt := 151) S.1 S.2.1 dX0_missedOf_20 (by decide) (fun c20 => ?_) (fun c20 => ?_)
      · skip
        refine lv_iload S.1 S.2.1 dX0_missedOf_151 (lv_at hl 1 rfl) ?_
        exact x_iretR S hr hlocks dX0_missedOf_153 (by rw [show q = n from Nat.le_antisymm hq ((nI_leI (by omega) (by omega)).mp c20)])
      · skip
        have hqn : q < n := Nat.not_le.mp (fun h => c20 ((nI_leI (by omega) (by omega)).mpr h))
        refine lv_iload_n S.1 S.2.1 dX0_missedOf_23 rfl (lv_at hl 3 rfl) ?_
        refine lv_iload S.1 S.2.1 dX0_missedOf_24 (lv_at hl 0 rfl) ?_
        refine x_si (va_runSN (As := [.int (nI (mk P n)), .int (nI q)]) (rest := []) S (c_X6_isIn l g E (mk_lt10 P h0.2) (show q < 10 by omega)) ⟨va_cnB 2 S.2.2.2.2 gX0_missedOf_X6_isIn_n55 rfl rfl rfl hK.2 (S.2.2.2.2 (.initialized RX6) (by decide +kernel)) (by decide +kernel) ⟨Nat.le_of_ble_eq_true rfl, Nat.le_of_ble_eq_true rfl⟩, S.2.2.2.2 (.static yX6_isIn) (by decide +kernel), trivial⟩ (x_preS hK hP) rfl rfl hl.1 rfl (lv_room (Nat.le_of_ble_eq_true rfl)) dX0_missedOf_26 ⟨Nat.le_of_ble_eq_true rfl, Nat.le_of_ble_eq_true rfl⟩) (fun r26 hr26 => ?_)
        refine lv_if_eq (tgt := 145) S.1 S.2.1 dX0_missedOf_29 (by decide) (fun c29 => ?_) (fun c29 => ?_)
        · skip
          have hQ : ¬ (pM M P i j k) q = true := by
            first
            | exact miss_n1 hhit
            | exact miss_n0 (fun h => hr26.f c29 ((mk_in hqn).trans h))
          have e145 := mk_skip (P := pM M P i j k) hQ
          rw [e145] at hl
          refine lv_iinc (v := nI (q + 1)) (lv' := [(5, .int (nI (q + 1))), (4, .int (nI (mk (pM M P i j k) (q + 1)))), (2, .long r1), (1, .int (nI (mk P n))), (0, .ref (xad g 60))]) S.1 S.2.1 dX0_missedOf_145 hl (k := 0) rfl (show nI q + Int32.ofInt 1 = _ from nI_1 _) (by decide) rfl (fun ls hl => ?_)
          refine lv_goto (tgt := 11) S.1 S.2.1 dX0_missedOf_148 (by decide) ?_
          exact ih11 (q + 1) (by omega) (by omega) ls (lv_sub hl [0, 1, 2, 3, 4] rfl)
        · skip
          refine lv_aload_n S.1 S.2.1 dX0_missedOf_32 rfl (lv_at hl 4 rfl) ?_
          refine x_get S hK hP dX0_missedOf_33 hA (by decide) (RX0, TX0, 4) rfl hin0 0 (by decide) fl9 rfl ?_
          refine x_get S hK hP dX0_missedOf_36 hp.2.1 (by decide) (RX2, TX2, 2) rfl hin2 0 (by decide) fl47 rfl ?_
          refine lv_iconst (v := 0) S.1 S.2.1 dX0_missedOf_39 (by decide) ?_
          refine x_row S hK hP dX0_missedOf_40 hp 0 rfl (by omega) ?_
          refine lv_iload S.1 S.2.1 dX0_missedOf_41 (lv_at hl 0 rfl) ?_
          refine x_val S hK hP dX0_missedOf_43 hp (w := 0) q rfl (by omega) (by omega) ?_
          refine lv_i2l (v := (M 0 q).toInt64) S.1 S.2.1 dX0_missedOf_44 rfl ?_
          refine lv_topl (fun x45 ex45 => ?_)
          refine lv_lstore (lv' := [(6, .long x45), (5, .int (nI q)), (4, .int (nI (mk (pM M P i j k) q))), (2, .long r1), (1, .int (nI (mk P n))), (0, .ref (xad g 60))]) S.1 S.2.1 dX0_missedOf_45 hl (by decide) rfl (fun ls hl => ?_)
          refine lv_aload_n S.1 S.2.1 dX0_missedOf_47 rfl (lv_at hl 5 rfl) ?_
          refine x_get S hK hP dX0_missedOf_48 hA (by decide) (RX0, TX0, 4) rfl hin0 0 (by decide) fl9 rfl ?_
          refine x_get S hK hP dX0_missedOf_51 hp.2.1 (by decide) (RX2, TX2, 2) rfl hin2 0 (by decide) fl47 rfl ?_
          refine lv_iconst (v := 3) S.1 S.2.1 dX0_missedOf_54 (by decide) ?_
          refine x_row S hK hP dX0_missedOf_55 hp 3 rfl (by omega) ?_
          refine lv_iload S.1 S.2.1 dX0_missedOf_56 (lv_at hl 1 rfl) ?_
          refine x_val S hK hP dX0_missedOf_58 hp (w := 3) q rfl (by omega) (by omega) ?_
          refine lv_i2l (v := (M 3 q).toInt64) S.1 S.2.1 dX0_missedOf_59 rfl ?_
          refine lv_lload_n S.1 S.2.1 dX0_missedOf_60 rfl (lv_at hl 3 rfl) ?_
          refine lv_lmul S.1 S.2.1 dX0_missedOf_61 ?_
          refine lv_topl (fun x62 ex62 => ?_)
          refine lv_lstore (lv' := [(8, .long x62), (6, .long x45), (5, .int (nI q)), (4, .int (nI (mk (pM M P i j k) q))), (2, .long r1), (1, .int (nI (mk P n))), (0, .ref (xad g 60))]) S.1 S.2.1 dX0_missedOf_62 hl (by decide) rfl (fun ls hl => ?_)
          refine lv_aload_n S.1 S.2.1 dX0_missedOf_64 rfl (lv_at hl 6 rfl) ?_
          refine lv_iconst (v := 0) S.1 S.2.1 dX0_missedOf_65 (by decide) ?_
          refine lv_lload S.1 S.2.1 dX0_missedOf_66 (lv_at hl 1 rfl) ?_
          refine x_sl (va_runV (As := [.int 0, .long x45]) (rest := []) S (c_X0_upper l g E hp hA hi hj hk (w := 0) (by decide) x45) (cwV 2 S.2.2.2.2 gX0_missedOf_X0_upper rfl rfl rfl (by decide +kernel) ⟨Nat.le_of_ble_eq_true rfl, Nat.le_of_ble_eq_true rfl⟩) (x_preV hK hP hA (by decide) rfl) rfl rfl hl.1 rfl (lv_room (Nat.le_of_ble_eq_true rfl)) dX0_missedOf_68 ⟨Nat.le_of_ble_eq_true rfl, Nat.le_of_ble_eq_true rfl⟩) (fun r68 hr68 => ?_)
          refine lv_aload_n S.1 S.2.1 dX0_missedOf_71 rfl (lv_at hl 6 rfl) ?_
          refine x_get S hK hP dX0_missedOf_72 hA (by decide) (RX0, TX0, 4) rfl hin0 0 (by decide) fl9 rfl ?_
          refine x_get S hK hP dX0_missedOf_75 hp.2.1 (by decide) (RX2, TX2, 2) rfl hin2 0 (by decide) fl47 rfl ?_
          refine lv_iconst (v := 1) S.1 S.2.1 dX0_missedOf_78 (by decide) ?_
          refine x_row S hK hP dX0_missedOf_79 hp 1 rfl (by omega) ?_
          refine lv_iload S.1 S.2.1 dX0_missedOf_80 (lv_at hl 2 rfl) ?_
          refine x_val S hK hP dX0_missedOf_82 hp (w := 1) q rfl (by omega) (by omega) ?_
          refine lv_i2l (v := (M 1 q).toInt64) S.1 S.2.1 dX0_missedOf_83 rfl ?_
          refine lv_lload_n S.1 S.2.1 dX0_missedOf_84 rfl (lv_at hl 4 rfl) ?_
          refine lv_lmul S.1 S.2.1 dX0_missedOf_85 ?_
          refine lv_lsub S.1 S.2.1 dX0_missedOf_86 ?_
          refine lv_topl (fun x87 ex87 => ?_)
          refine lv_lstore (lv' := [(10, .long x87), (8, .long x62), (6, .long x45), (5, .int (nI q)), (4, .int (nI (mk (pM M P i j k) q))), (2, .long r1), (1, .int (nI (mk P n))), (0, .ref (xad g 60))]) S.1 S.2.1 dX0_missedOf_87 hl (by decide) rfl (fun ls hl => ?_)
          refine lv_aload_n S.1 S.2.1 dX0_missedOf_89 rfl (lv_at hl 7 rfl) ?_
          refine lv_iconst (v := 1) S.1 S.2.1 dX0_missedOf_90 (by decide) ?_
          refine lv_lload S.1 S.2.1 dX0_missedOf_91 (lv_at hl 2 rfl) ?_
          refine x_sl (va_runV (As := [.int 1, .long x45]) (rest := []) S (c_X0_upper l g E hp hA hi hj hk (w := 1) (by decide) x45) (cwV 2 S.2.2.2.2 gX0_missedOf_X0_upper rfl rfl rfl (by decide +kernel) ⟨Nat.le_of_ble_eq_true rfl, Nat.le_of_ble_eq_true rfl⟩) (x_preV hK hP hA (by decide) rfl) rfl rfl hl.1 rfl (lv_room (Nat.le_of_ble_eq_true rfl)) dX0_missedOf_93 ⟨Nat.le_of_ble_eq_true rfl, Nat.le_of_ble_eq_true rfl⟩) (fun r93 hr93 => ?_)
          refine lv_aload_n S.1 S.2.1 dX0_missedOf_96 rfl (lv_at hl 7 rfl) ?_
          refine x_get S hK hP dX0_missedOf_97 hA (by decide) (RX0, TX0, 4) rfl hin0 0 (by decide) fl9 rfl ?_
          refine x_get S hK hP dX0_missedOf_100 hp.2.1 (by decide) (RX2, TX2, 2) rfl hin2 0 (by decide) fl47 rfl ?_
          refine lv_iconst (v := 2) S.1 S.2.1 dX0_missedOf_103 (by decide) ?_
          refine x_row S hK hP dX0_missedOf_104 hp 2 rfl (by omega) ?_
          refine lv_iload S.1 S.2.1 dX0_missedOf_105 (lv_at hl 3 rfl) ?_
          refine x_val S hK hP dX0_missedOf_107 hp (w := 2) q rfl (by omega) (by omega) ?_
          refine lv_i2l (v := (M 2 q).toInt64) S.1 S.2.1 dX0_missedOf_108 rfl ?_
          refine lv_lload_n S.1 S.2.1 dX0_missedOf_109 rfl (lv_at hl 5 rfl) ?_
          refine lv_lmul S.1 S.2.1 dX0_missedOf_110 ?_
          refine lv_lsub S.1 S.2.1 dX0_missedOf_111 ?_
          refine lv_topl (fun x112 ex112 => ?_)
          refine lv_lstore (lv' := [(12, .long x112), (10, .long x87), (8, .long x62), (6, .long x45), (5, .int (nI q)), (4, .int (nI (mk (pM M P i j k) q))), (2, .long r1), (1, .int (nI (mk P n))), (0, .ref (xad g 60))]) S.1 S.2.1 dX0_missedOf_112 hl (by decide) rfl (fun ls hl => ?_)
          refine lv_lload S.1 S.2.1 dX0_missedOf_114 (lv_at hl 1 rfl) ?_
          refine va_mabs_long S.1 S.2.1 (by rw [S.2.2.1]; exact hl.1.symm) S.2.2.2.1 (S.2.2.2.2 (.methodLink RX0 63 Lib.MathLoose.abs_long.x) (by decide +kernel)) (S.2.2.2.2 (.static Lib.MathLoose.abs_long.x) (by decide +kernel)) (S.2.2.2.2 (.initialized "java/lang/Math") (by decide +kernel)) (S.2.2.2.2 (.code Lib.MathLoose.abs_long.x Lib.MathLoose.abs_long.code 2 (some .long)) (by decide +kernel)) (Nat.le_of_ble_eq_true rfl) (Nat.le_of_ble_eq_true rfl) (Nat.le_of_ble_eq_true rfl) (Nat.le_of_ble_eq_true rfl) dX0_missedOf_116 ?_
          refine lv_lload S.1 S.2.1 dX0_missedOf_119 (lv_at hl 2 rfl) ?_
          refine W.lcmp S.1 S.2.1 dX0_missedOf_121 ?_
          refine lv_if_gt (tgt := 136) S.1 S.2.1 dX0_missedOf_122 (by decide) (fun c122 => ?_) (fun c122 => ?_)
          · skip
            have hQ : (pM M P i j k) q = true := miss_t ((mk_in hqn).symm.trans (hr26.t c29)) (ex87.trans (by rw [hr68, ex45, hr1])) (ex112.trans (by rw [hr93, ex45, hr1])) (ex62.trans (by rw [hr1])) hlo (by first | exact fun h => absurd ((lg_cmp_gt _ _).mp c122) (Int64.not_lt.mpr h.1) | exact fun h => c133 ((lg_cmp_le _ _).mpr h.2))
            refine lv_iload S.1 S.2.1 dX0_missedOf_136 (lv_at hl 5 rfl) ?_
            refine lv_iconst (v := 1) S.1 S.2.1 dX0_missedOf_138 (by decide) ?_
            refine lv_iload S.1 S.2.1 dX0_missedOf_139 (lv_at hl 4 rfl) ?_
            refine lv_ishl S.1 S.2.1 dX0_missedOf_141 ?_
            refine lv_ior S.1 S.2.1 dX0_missedOf_142 ?_
            refine W.eq (g2 := F0 m 143 ls [.int (nI (mk (pM M P i j k) (q + 1)))]) (by rw [mk_step (P := pM M P i j k) (by omega) hQ]) ?_
            refine lv_istore (lv' := [(4, .int (nI (mk (pM M P i j k) (q + 1)))), (12, .long x112), (10, .long x87), (8, .long x62), (6, .long x45), (5, .int (nI q)), (2, .long r1), (1, .int (nI (mk P n))), (0, .ref (xad g 60))]) S.1 S.2.1 dX0_missedOf_143 hl (by decide) rfl (fun ls hl => ?_)
            refine lv_iinc (v := nI (q + 1)) (lv' := [(5, .int (nI (q + 1))), (4, .int (nI (mk (pM M P i j k) (q + 1)))), (12, .long x112), (10, .long x87), (8, .long x62), (6, .long x45), (2, .long r1), (1, .int (nI (mk P n))), (0, .ref (xad g 60))]) S.1 S.2.1 dX0_missedOf_145 hl (k := 5) rfl (show nI q + Int32.ofInt 1 = _ from nI_1 _) (by decide) rfl (fun ls hl => ?_)
            refine lv_goto (tgt := 11) S.1 S.2.1 dX0_missedOf_148 (by decide) ?_
            exact ih11 (q + 1) (by omega) (by omega) ls (lv_sub hl [0, 1, 6, 7, 8] rfl)
          · skip
            refine lv_lload S.1 S.2.1 dX0_missedOf_125 (lv_at hl 0 rfl) ?_
            refine va_mabs_long S.1 S.2.1 (by rw [S.2.2.1]; exact hl.1.symm) S.2.2.2.1 (S.2.2.2.2 (.methodLink RX0 63 Lib.MathLoose.abs_long.x) (by decide +kernel)) (S.2.2.2.2 (.static Lib.MathLoose.abs_long.x) (by decide +kernel)) (S.2.2.2.2 (.initialized "java/lang/Math") (by decide +kernel)) (S.2.2.2.2 (.code Lib.MathLoose.abs_long.x Lib.MathLoose.abs_long.code 2 (some .long)) (by decide +kernel)) (Nat.le_of_ble_eq_true rfl) (Nat.le_of_ble_eq_true rfl) (Nat.le_of_ble_eq_true rfl) (Nat.le_of_ble_eq_true rfl) dX0_missedOf_127 ?_
            refine lv_lload S.1 S.2.1 dX0_missedOf_130 (lv_at hl 2 rfl) ?_
            refine W.lcmp S.1 S.2.1 dX0_missedOf_132 ?_
            refine lv_if_le (tgt := 145) S.1 S.2.1 dX0_missedOf_133 (by decide) (fun c133 => ?_) (fun c133 => ?_)
            · skip
              have hhit := hit_t (q := q) (ex87.trans (by rw [hr68, ex45, hr1])) (ex112.trans (by rw [hr93, ex45, hr1])) (ex62.trans (by rw [hr1])) hlo (Int64.not_lt.mp (fun h => c122 ((lg_cmp_gt _ _).mpr h))) ((lg_cmp_le _ _).mp c133)
              have hQ : ¬ (pM M P i j k) q = true := by
                first
                | exact miss_n1 hhit
                | exact miss_n0 (fun h => hr26.f c29 ((mk_in hqn).trans h))
              have e145 := mk_skip (P := pM M P i j k) hQ
              rw [e145] at hl
              refine lv_iinc (v := nI (q + 1)) (lv' := [(5, .int (nI (q + 1))), (12, .long x112), (10, .long x87), (8, .long x62), (6, .long x45), (4, .int (nI (mk (pM M P i j k) (q + 1)))), (2, .long r1), (1, .int (nI (mk P n))), (0, .ref (xad g 60))]) S.1 S.2.1 dX0_missedOf_145 hl (k := 4) rfl (show nI q + Int32.ofInt 1 = _ from nI_1 _) (by decide) rfl (fun ls hl => ?_)
              refine lv_goto (tgt := 11) S.1 S.2.1 dX0_missedOf_148 (by decide) ?_
              exact ih11 (q + 1) (by omega) (by omega) ls (lv_sub hl [0, 5, 6, 7, 8] rfl)
            · skip
              have hQ : (pM M P i j k) q = true := miss_t ((mk_in hqn).symm.trans (hr26.t c29)) (ex87.trans (by rw [hr68, ex45, hr1])) (ex112.trans (by rw [hr93, ex45, hr1])) (ex62.trans (by rw [hr1])) hlo (by first | exact fun h => absurd ((lg_cmp_gt _ _).mp c122) (Int64.not_lt.mpr h.1) | exact fun h => c133 ((lg_cmp_le _ _).mpr h.2))
              refine lv_iload S.1 S.2.1 dX0_missedOf_136 (lv_at hl 5 rfl) ?_
              refine lv_iconst (v := 1) S.1 S.2.1 dX0_missedOf_138 (by decide) ?_
              refine lv_iload S.1 S.2.1 dX0_missedOf_139 (lv_at hl 4 rfl) ?_
              refine lv_ishl S.1 S.2.1 dX0_missedOf_141 ?_
              refine lv_ior S.1 S.2.1 dX0_missedOf_142 ?_
              refine W.eq (g2 := F0 m 143 ls [.int (nI (mk (pM M P i j k) (q + 1)))]) (by rw [mk_step (P := pM M P i j k) (by omega) hQ]) ?_
              refine lv_istore (lv' := [(4, .int (nI (mk (pM M P i j k) (q + 1)))), (12, .long x112), (10, .long x87), (8, .long x62), (6, .long x45), (5, .int (nI q)), (2, .long r1), (1, .int (nI (mk P n))), (0, .ref (xad g 60))]) S.1 S.2.1 dX0_missedOf_143 hl (by decide) rfl (fun ls hl => ?_)
              refine lv_iinc (v := nI (q + 1)) (lv' := [(5, .int (nI (q + 1))), (4, .int (nI (mk (pM M P i j k) (q + 1)))), (12, .long x112), (10, .long x87), (8, .long x62), (6, .long x45), (2, .long r1), (1, .int (nI (mk P n))), (0, .ref (xad g 60))]) S.1 S.2.1 dX0_missedOf_145 hl (k := 5) rfl (show nI q + Int32.ofInt 1 = _ from nI_1 _) (by decide) rfl (fun ls hl => ?_)
              refine lv_goto (tgt := 11) S.1 S.2.1 dX0_missedOf_148 (by decide) ?_
              exact ih11 (q + 1) (by omega) (by omega) ls (lv_sub hl [0, 1, 6, 7, 8] rfl)
  exact loop11 _ 0 (Nat.zero_le _) (Nat.lt_succ_self _) ls (lv_sub hl [0, 1, 2, 4, 3] rfl)
