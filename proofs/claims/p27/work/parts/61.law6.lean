/-! THE LAW: acts -/
theorem mv_b0 {v : Nat} {r : Int32} (h : (r < 0 ∧ nI (pop v) = 0) ∨ (¬ r < 0 ∧ nI (pop v) = r)) (c : ¬ 0 ≤ r) : nI (pop v) = 0 := by
  rcases h with ⟨-, h⟩ | ⟨h, -⟩
  · exact h
  · exact absurd (Int32.not_lt.mp h) c
theorem mv_b1 {v : Nat} {r : Int32} (h : (r < 0 ∧ nI (pop v) = 0) ∨ (¬ r < 0 ∧ nI (pop v) = r)) (c : 0 ≤ r) : nI (pop v) = r := by
  rcases h with ⟨h, -⟩ | ⟨-, h⟩
  · exact absurd c (Int32.not_le.mpr h)
  · exact h
theorem nI_z0 {n : Nat} (hn : n ≤ 10) (h : nI n = 0) : n = 0 := nI_inj (b := 0) (by omega) (by decide) h
theorem nI_zp {n : Nat} (h : ¬ nI n = 0) : 0 < n := Nat.pos_of_ne_zero (fun q => h (by rw [q]; rfl))
set_option maxHeartbeats 4000000 in
set_option maxRecDepth 100000 in
theorem c_L_acts (l : Launch) (g : xG) (hJ : xJ (xad g)) (E : Nat → va_E) {z : xS} (hX : sX g E z) (hv : vS z) (hQ : vQ z) (so gg hh : Int32)  : Met l yL_acts wsL_acts ({ frames := 8, cells := 0, slots := 0, locals := 186 }) (xPc g [.ref (xad g 0), .int so, .int gg, .int hh] E) (xQi g (fun r E1 => r = 1 ∧ ∃ z1, sX g E1 z1 ∧ vS z1 ∧ vQ z1 ∧ acR z z1)) 0 0 (xA (xad g)) := by
  refine x_met (ws' := _) (by decide) rfl (Nat.le_of_ble_eq_true rfl) ?_
  intro pz ez s m below meth cz ls S hr hlocks hP hK hl
  have hl : lv_has ls 13 [(0, .ref (xad g 0)), (1, .int so), (2, .int gg), (3, .int hh)] := hl
  have hS : va_S (xA (xad g)) s.heap s.heap [] := va_S.rf
  have h00 := hX.at0
  have hn := hv.1.1
  have hvM := hv.1.2
  refine lv_aload_n S.1 S.2.1 dL_acts_0 rfl (lv_at hl 0 rfl) ?_
  refine lv_iconst (v := 0) S.1 S.2.1 dL_acts_1 (by decide) ?_
  refine x_qi (va_runV (As := [.int 0]) (rest := []) S (c_X6_count l g hJ E hX hv 0) (cwV 1 S.2.2.2.2 gL_acts_X6_count rfl rfl rfl (by decide +kernel) ⟨Nat.le_of_ble_eq_true rfl, Nat.le_of_ble_eq_true rfl⟩) (x_preV hK hP h00 (by decide) rfl) rfl rfl hl.1 rfl (lv_room (Nat.le_of_ble_eq_true rfl)) dL_acts_2 ⟨Nat.le_of_ble_eq_true rfl, Nat.le_of_ble_eq_true rfl⟩) hS (fun r2 E1 H locs q2 hP hS => ?_)
  obtain ⟨q2, hX, -⟩ := q2
  have h00 := hX.at0
  obtain rfl : r2 = nI (zn z) := v_ct0 q2
  refine lv_istore (lv' := [(4, .int (nI (zn z))), (0, .ref (xad g 0)), (1, .int so), (2, .int gg), (3, .int hh)]) S.1 S.2.1 dL_acts_5 hl (by decide) rfl (fun ls hl => ?_)
  refine lv_iload S.1 S.2.1 dL_acts_7 (lv_at hl 0 rfl) ?_
  refine lv_if_ne (tgt := 16) S.1 S.2.1 dL_acts_9 (by decide) (fun c9 => ?_) (fun c9 => ?_)
  · skip
    have hnp := nI_zp c9
    refine lv_iload_n S.1 S.2.1 dL_acts_16 rfl (lv_at hl 3 rfl) ?_
    refine lv_iload S.1 S.2.1 dL_acts_17 (lv_at hl 0 rfl) ?_
    refine x_si (va_runS (As := [.int gg, .int (nI (zn z))]) (rest := []) S (c_L_low l g E1 gg (d := zn z) hnp (show zn z < 1000 by omega)) (va_cwS 2 S.2.2.2.2 gL_acts_L_low rfl rfl rfl (by decide +kernel) ⟨Nat.le_of_ble_eq_true rfl, Nat.le_of_ble_eq_true rfl⟩) (x_preS hK hP) rfl rfl hl.1 rfl (lv_room (Nat.le_of_ble_eq_true rfl)) dL_acts_19 ⟨Nat.le_of_ble_eq_true rfl, Nat.le_of_ble_eq_true rfl⟩) (fun r19 hr19 => ?_)
    obtain ⟨k, hk, rfl⟩ := hr19
    refine lv_istore (lv' := [(5, .int (nI k)), (4, .int (nI (zn z))), (0, .ref (xad g 0)), (1, .int so), (2, .int gg), (3, .int hh)]) S.1 S.2.1 dL_acts_22 hl (by decide) rfl (fun ls hl => ?_)
    refine lv_iload_n S.1 S.2.1 dL_acts_24 rfl (lv_at hl 5 rfl) ?_
    refine lv_sipush (v := 401) S.1 S.2.1 dL_acts_25 (by decide) ?_
    refine W.eq (g2 := F0 m 28 ls [.int (nI 401), .int hh]) (by rw [show (401 : Int32) = nI 401 from rfl]) ?_
    refine x_si (va_runS (As := [.int hh, .int (nI 401)]) (rest := []) S (c_L_low l g E1 hh (d := 401) (by decide) (by decide)) (va_cwS 2 S.2.2.2.2 gL_acts_L_low rfl rfl rfl (by decide +kernel) ⟨Nat.le_of_ble_eq_true rfl, Nat.le_of_ble_eq_true rfl⟩) (x_preS hK hP) rfl rfl hl.1 rfl (lv_room (Nat.le_of_ble_eq_true rfl)) dL_acts_28 ⟨Nat.le_of_ble_eq_true rfl, Nat.le_of_ble_eq_true rfl⟩) (fun r28 hr28 => ?_)
    obtain ⟨qx, hqx, rfl⟩ := hr28
    refine lv_sipush (v := 200) S.1 S.2.1 dL_acts_31 (by decide) ?_
    refine lv_isub S.1 S.2.1 dL_acts_34 ?_
    refine lv_topi (fun vx evx => ?_)
    refine lv_istore (lv' := [(6, .int vx), (5, .int (nI k)), (4, .int (nI (zn z))), (0, .ref (xad g 0)), (1, .int so), (2, .int gg), (3, .int hh)]) S.1 S.2.1 dL_acts_35 hl (by decide) rfl (fun ls hl => ?_)
    have hvxr := r400 (q401 hqx evx)
    refine lv_iload_n S.1 S.2.1 dL_acts_37 rfl (lv_at hl 6 rfl) ?_
    refine lv_bipush (v := 9) S.1 S.2.1 dL_acts_38 (by decide) ?_
    refine lv_ishr S.1 S.2.1 dL_acts_40 ?_
    refine lv_sipush (v := 401) S.1 S.2.1 dL_acts_41 (by decide) ?_
    refine W.eq (g2 := F0 m 44 ls [.int (nI 401), .int (hh >>> (9 &&& 31))]) (by rw [show (401 : Int32) = nI 401 from rfl]) ?_
    refine x_si (va_runS (As := [.int (hh >>> (9 &&& 31)), .int (nI 401)]) (rest := []) S (c_L_low l g E1 (hh >>> (9 &&& 31)) (d := 401) (by decide) (by decide)) (va_cwS 2 S.2.2.2.2 gL_acts_L_low rfl rfl rfl (by decide +kernel) ⟨Nat.le_of_ble_eq_true rfl, Nat.le_of_ble_eq_true rfl⟩) (x_preS hK hP) rfl rfl hl.1 rfl (lv_room (Nat.le_of_ble_eq_true rfl)) dL_acts_44 ⟨Nat.le_of_ble_eq_true rfl, Nat.le_of_ble_eq_true rfl⟩) (fun r44 hr44 => ?_)
    obtain ⟨qy, hqy, rfl⟩ := hr44
    refine lv_sipush (v := 200) S.1 S.2.1 dL_acts_47 (by decide) ?_
    refine lv_isub S.1 S.2.1 dL_acts_50 ?_
    refine lv_topi (fun vy evy => ?_)
    refine lv_istore (lv' := [(7, .int vy), (6, .int vx), (5, .int (nI k)), (4, .int (nI (zn z))), (0, .ref (xad g 0)), (1, .int so), (2, .int gg), (3, .int hh)]) S.1 S.2.1 dL_acts_51 hl (by decide) rfl (fun ls hl => ?_)
    have hvyr := r400 (q401 hqy evy)
    refine lv_iload_n S.1 S.2.1 dL_acts_53 rfl (lv_at hl 5 rfl) ?_
    refine lv_iconst (v := 4) S.1 S.2.1 dL_acts_54 (by decide) ?_
    refine lv_icmp_ge (tgt := 292) S.1 S.2.1 dL_acts_55 (by decide) (fun c55 => ?_) (fun c55 => ?_)
    · skip
      refine lv_iload S.1 S.2.1 dL_acts_292 (lv_at hl 3 rfl) ?_
      refine lv_if_ne (tgt := 344) S.1 S.2.1 dL_acts_294 (by decide) (fun c294 => ?_) (fun c294 => ?_)
      · skip
        refine lv_iload_n S.1 S.2.1 dL_acts_344 rfl (lv_at hl 5 rfl) ?_
        refine lv_bipush (v := 7) S.1 S.2.1 dL_acts_345 (by decide) ?_
        refine lv_icmp_ge (tgt := 520) S.1 S.2.1 dL_acts_347 (by decide) (fun c347 => ?_) (fun c347 => ?_)
        · skip
          refine lv_iload_n S.1 S.2.1 dL_acts_520 rfl (lv_at hl 5 rfl) ?_
          refine lv_bipush (v := 9) S.1 S.2.1 dL_acts_521 (by decide) ?_
          refine lv_icmp_ge (tgt := 646) S.1 S.2.1 dL_acts_523 (by decide) (fun c523 => ?_) (fun c523 => ?_)
          · skip
            refine lv_iload_n S.1 S.2.1 dL_acts_646 rfl (lv_at hl 5 rfl) ?_
            refine lv_bipush (v := 11) S.1 S.2.1 dL_acts_647 (by decide) ?_
            refine lv_icmp_ge (tgt := 743) S.1 S.2.1 dL_acts_649 (by decide) (fun c649 => ?_) (fun c649 => ?_)
            · skip
              refine lv_iload_n S.1 S.2.1 dL_acts_743 rfl (lv_at hl 5 rfl) ?_
              refine lv_bipush (v := 11) S.1 S.2.1 dL_acts_744 (by decide) ?_
              refine lv_icmp_ne (tgt := 830) S.1 S.2.1 dL_acts_746 (by decide) (fun c746 => ?_) (fun c746 => ?_)
              · skip
                refine lv_aload_n S.1 S.2.1 dL_acts_830 rfl (lv_at hl 4 rfl) ?_
                refine lv_iload S.1 S.2.1 dL_acts_831 (lv_at hl 2 rfl) ?_
                refine lv_iconst (v := 0) S.1 S.2.1 dL_acts_833 (by decide) ?_
                refine x_qi (va_runV (As := [.int (nI k), .int 0]) (rest := []) S (c_X6_photo l g hJ E1 hX hv (nI k) 0) (cwV 2 S.2.2.2.2 gL_acts_X6_photo rfl rfl rfl (by decide +kernel) ⟨Nat.le_of_ble_eq_true rfl, Nat.le_of_ble_eq_true rfl⟩) (x_preV hK hP h00 (by decide) rfl) rfl rfl hl.1 rfl (lv_room (Nat.le_of_ble_eq_true rfl)) dL_acts_834 ⟨Nat.le_of_ble_eq_true rfl, Nat.le_of_ble_eq_true rfl⟩) hS (fun r834 E1_1 H locs q834 hP hS => ?_)
                obtain ⟨q834, hX, -⟩ := q834
                have h00 := hX.at0
                obtain rfl : r834 = (zM z) 0 k := v_ph0 hv hk q834
                refine lv_istore (lv' := [(8, .int ((zM z) 0 k)), (7, .int vy), (6, .int vx), (5, .int (nI k)), (4, .int (nI (zn z))), (0, .ref (xad g 0)), (1, .int so), (2, .int gg), (3, .int hh)]) S.1 S.2.1 dL_acts_837 hl (by decide) rfl (fun ls hl => ?_)
                refine lv_aload_n S.1 S.2.1 dL_acts_839 rfl (lv_at hl 5 rfl) ?_
                refine lv_iload S.1 S.2.1 dL_acts_840 (lv_at hl 3 rfl) ?_
                refine x_qi (va_runV (As := [.int (nI k)]) (rest := []) S (c_X6_remove l g hJ E1_1 hX hv (nI k)) (cwV 1 S.2.2.2.2 gL_acts_X6_remove rfl rfl rfl (by decide +kernel) ⟨Nat.le_of_ble_eq_true rfl, Nat.le_of_ble_eq_true rfl⟩) (x_preV hK hP h00 (by decide) rfl) rfl rfl hl.1 rfl (lv_room (Nat.le_of_ble_eq_true rfl)) dL_acts_842 ⟨Nat.le_of_ble_eq_true rfl, Nat.le_of_ble_eq_true rfl⟩) hS (fun r842 E1_2 H locs q842 hP hS => ?_)
                obtain ⟨z1, q842, hX, -⟩ := q842
                obtain ⟨rfl, hz1⟩ := rm_n hv hk q842
                have hv1 := sp_remove.vS hv q842
                have h00 := hX.at0
                refine lv_iload S.1 S.2.1 dL_acts_845 (lv_at hl 4 rfl) ?_
                refine lv_iconst (v := 1) S.1 S.2.1 dL_acts_847 (by decide) ?_
                refine lv_isub S.1 S.2.1 dL_acts_848 ?_
                refine W.eq (g2 := F0 m 849 ls [.int (nI (zn z - 1)), .int (nI (zn z - 1))]) (by rw [n_m1 hnp]) ?_
                refine lv_icmp_ne (tgt := 889) S.1 S.2.1 dL_acts_849 (by decide) (fun c849 => ?_) (fun c849 => ?_)
                · skip
                  exact absurd rfl c849
                · skip
                  refine lv_aload_n S.1 S.2.1 dL_acts_852 rfl (lv_at hl 5 rfl) ?_
                  refine lv_iconst (v := 0) S.1 S.2.1 dL_acts_853 (by decide) ?_
                  refine x_qi (va_runV (As := [.int 0]) (rest := []) S (c_X6_count l g hJ E1_2 hX hv1 0) (cwV 1 S.2.2.2.2 gL_acts_X6_count rfl rfl rfl (by decide +kernel) ⟨Nat.le_of_ble_eq_true rfl, Nat.le_of_ble_eq_true rfl⟩) (x_preV hK hP h00 (by decide) rfl) rfl rfl hl.1 rfl (lv_room (Nat.le_of_ble_eq_true rfl)) dL_acts_854 ⟨Nat.le_of_ble_eq_true rfl, Nat.le_of_ble_eq_true rfl⟩) hS (fun r854 E1_3 H locs q854 hP hS => ?_)
                  obtain ⟨q854, hX, -⟩ := q854
                  have h00 := hX.at0
                  obtain rfl : r854 = nI (zn z1) := v_ct0 q854
                  refine lv_iload S.1 S.2.1 dL_acts_857 (lv_at hl 4 rfl) ?_
                  refine lv_iconst (v := 1) S.1 S.2.1 dL_acts_859 (by decide) ?_
                  refine lv_isub S.1 S.2.1 dL_acts_860 ?_
                  refine W.eq (g2 := F0 m 861 ls [.int (nI (zn z - 1)), .int (nI (zn z1))]) (by rw [n_m1 hnp]) ?_
                  refine lv_icmp_ne (tgt := 889) S.1 S.2.1 dL_acts_861 (by decide) (fun c861 => ?_) (fun c861 => ?_)
                  · skip
                    exact absurd (congrArg nI (zn_w hz1)) c861
                  · skip
                    refine lv_iload S.1 S.2.1 dL_acts_864 (lv_at hl 3 rfl) ?_
                    refine lv_iload S.1 S.2.1 dL_acts_866 (lv_at hl 4 rfl) ?_
                    refine lv_iconst (v := 1) S.1 S.2.1 dL_acts_868 (by decide) ?_
                    refine lv_isub S.1 S.2.1 dL_acts_869 ?_
                    refine W.eq (g2 := F0 m 870 ls [.int (nI (zn z - 1)), .int (nI k)]) (by rw [n_m1 hnp]) ?_
                    refine lv_icmp_eq (tgt := 885) S.1 S.2.1 dL_acts_870 (by decide) (fun c870 => ?_) (fun c870 => ?_)
                    · skip
                      refine lv_iconst (v := 1) S.1 S.2.1 dL_acts_885 (by decide) ?_
                      refine lv_goto (tgt := 890) S.1 S.2.1 dL_acts_886 (by decide) ?_
                      exact x_zret S hr hlocks hP hS dL_acts_890 rfl (⟨rfl, z1, hX, hv1, vQ_rec hQ (ok5_del hQ.1) hz1, Or.inr ⟨_, _, hz1⟩⟩)
                    · skip
                      have hk2 : k + 1 < zn z := by have h9 : ¬ k = zn z - 1 := fun h => c870 (congrArg nI h); omega
                      have hk1 : k < zn z1 := by rw [zn_w hz1]; omega
                      refine lv_aload_n S.1 S.2.1 dL_acts_873 rfl (lv_at hl 5 rfl) ?_
                      refine lv_iload S.1 S.2.1 dL_acts_874 (lv_at hl 3 rfl) ?_
                      refine lv_iconst (v := 0) S.1 S.2.1 dL_acts_876 (by decide) ?_
                      refine x_qi (va_runV (As := [.int (nI k), .int 0]) (rest := []) S (c_X6_photo l g hJ E1_3 hX hv1 (nI k) 0) (cwV 2 S.2.2.2.2 gL_acts_X6_photo rfl rfl rfl (by decide +kernel) ⟨Nat.le_of_ble_eq_true rfl, Nat.le_of_ble_eq_true rfl⟩) (x_preV hK hP h00 (by decide) rfl) rfl rfl hl.1 rfl (lv_room (Nat.le_of_ble_eq_true rfl)) dL_acts_877 ⟨Nat.le_of_ble_eq_true rfl, Nat.le_of_ble_eq_true rfl⟩) hS (fun r877 E1_4 H locs q877 hP hS => ?_)
                      obtain ⟨q877, hX, -⟩ := q877
                      have h00 := hX.at0
                      obtain rfl : r877 = (zM z1) 0 k := v_ph0 hv1 hk1 q877
                      refine lv_iload S.1 S.2.1 dL_acts_880 (lv_at hl 0 rfl) ?_
                      refine lv_icmp_le (tgt := 889) S.1 S.2.1 dL_acts_882 (by decide) (fun c882 => ?_) (fun c882 => ?_)
                      · skip
                        exact absurd c882 (Int32.not_le.mpr (by rw [del_0 hz1]; exact v_lt hvM (Nat.lt_succ_self k) hk2))
                      · skip
                        refine lv_iconst (v := 1) S.1 S.2.1 dL_acts_885 (by decide) ?_
                        refine lv_goto (tgt := 890) S.1 S.2.1 dL_acts_886 (by decide) ?_
                        exact x_zret S hr hlocks hP hS dL_acts_890 rfl (⟨rfl, z1, hX, hv1, vQ_rec hQ (ok5_del hQ.1) hz1, Or.inr ⟨_, _, hz1⟩⟩)
              · skip
                refine lv_aload_n S.1 S.2.1 dL_acts_749 rfl (lv_at hl 4 rfl) ?_
                refine lv_iconst (v := 4) S.1 S.2.1 dL_acts_750 (by decide) ?_
                refine x_qi (va_runV (As := [.int 4]) (rest := []) S (c_X6_best l g hJ E1 hX hv 4) (cwV 1 S.2.2.2.2 gL_acts_X6_best rfl rfl rfl (by decide +kernel) ⟨Nat.le_of_ble_eq_true rfl, Nat.le_of_ble_eq_true rfl⟩) (x_preV hK hP h00 (by decide) rfl) rfl rfl hl.1 rfl (lv_room (Nat.le_of_ble_eq_true rfl)) dL_acts_751 ⟨Nat.le_of_ble_eq_true rfl, Nat.le_of_ble_eq_true rfl⟩) hS (fun r751 E1_5 H locs q751 hP hS => ?_)
                obtain ⟨q751, hX, -⟩ := q751
                have h00 := hX.at0
                refine lv_istore (lv' := [(8, .int r751), (7, .int vy), (6, .int vx), (5, .int (nI k)), (4, .int (nI (zn z))), (0, .ref (xad g 0)), (1, .int so), (2, .int gg), (3, .int hh)]) S.1 S.2.1 dL_acts_754 hl (by decide) rfl (fun ls hl => ?_)
                refine lv_aload_n S.1 S.2.1 dL_acts_756 rfl (lv_at hl 5 rfl) ?_
                refine lv_iconst (v := 1) S.1 S.2.1 dL_acts_757 (by decide) ?_
                refine x_qi (va_runV (As := [.int 1]) (rest := []) S (c_X6_count l g hJ E1_5 hX hv 1) (cwV 1 S.2.2.2.2 gL_acts_X6_count rfl rfl rfl (by decide +kernel) ⟨Nat.le_of_ble_eq_true rfl, Nat.le_of_ble_eq_true rfl⟩) (x_preV hK hP h00 (by decide) rfl) rfl rfl hl.1 rfl (lv_room (Nat.le_of_ble_eq_true rfl)) dL_acts_758 ⟨Nat.le_of_ble_eq_true rfl, Nat.le_of_ble_eq_true rfl⟩) hS (fun r758 E1_6 H locs q758 hP hS => ?_)
                obtain ⟨q758, hX, -⟩ := q758
                have h00 := hX.at0
                obtain rfl : r758 = nI (mk (pU (zM z)) (zn z)) := v_ct1 q758
                refine lv_istore (lv' := [(9, .int (nI (mk (pU (zM z)) (zn z)))), (8, .int r751), (7, .int vy), (6, .int vx), (5, .int (nI k)), (4, .int (nI (zn z))), (0, .ref (xad g 0)), (1, .int so), (2, .int gg), (3, .int hh)]) S.1 S.2.1 dL_acts_761 hl (by decide) rfl (fun ls hl => ?_)
                refine lv_aload_n S.1 S.2.1 dL_acts_763 rfl (lv_at hl 6 rfl) ?_
                refine x_qi (va_runV (As := []) (rest := []) S (c_X6_dropMissed l g hJ E1_6 hX hv ) (cwV 0 S.2.2.2.2 gL_acts_X6_dropMissed rfl rfl rfl (by decide +kernel) ⟨Nat.le_of_ble_eq_true rfl, Nat.le_of_ble_eq_true rfl⟩) (x_preV hK hP h00 (by decide) rfl) rfl rfl hl.1 rfl (lv_room (Nat.le_of_ble_eq_true rfl)) dL_acts_764 ⟨Nat.le_of_ble_eq_true rfl, Nat.le_of_ble_eq_true rfl⟩) hS (fun r764 E1_7 H locs q764 hP hS => ?_)
                obtain ⟨z1, q764, hX, -⟩ := q764
                have h00 := hX.at0
                refine lv_istore (lv' := [(10, .int r764), (9, .int (nI (mk (pU (zM z)) (zn z)))), (8, .int r751), (7, .int vy), (6, .int vx), (5, .int (nI k)), (4, .int (nI (zn z))), (0, .ref (xad g 0)), (1, .int so), (2, .int gg), (3, .int hh)]) S.1 S.2.1 dL_acts_767 hl (by decide) rfl (fun ls hl => ?_)
                refine lv_iload S.1 S.2.1 dL_acts_769 (lv_at hl 0 rfl) ?_
                refine lv_iload S.1 S.2.1 dL_acts_771 (lv_at hl 2 rfl) ?_
                refine lv_if_ge (tgt := 781) S.1 S.2.1 dL_acts_773 (by decide) (fun c773 => ?_) (fun c773 => ?_)
                · skip
                  obtain ⟨i9, j9, l9, hb, rfl⟩ := bs_ex q751 c773 hv
                  refine lv_iload S.1 S.2.1 dL_acts_781 (lv_at hl 2 rfl) ?_
                  refine lv_if_ne (tgt := 791) S.1 S.2.1 dL_acts_783 (by decide) (fun c783 => ?_) (fun c783 => ?_)
                  · skip
                    obtain ⟨rfl, hz1⟩ := dr_n hv hb c783 q764
                    have hv1 := sp_dropMissed.vS hv q764
                    refine lv_iload S.1 S.2.1 dL_acts_791 (lv_at hl 2 rfl) ?_
                    refine x_si (va_runS (As := [.int (nI (mk (pM (zM z) (pU (zM z)) i9 j9 l9) (zn z)))]) (rest := [.int (nI (cnt (pM (zM z) (pU (zM z)) i9 j9 l9) (zn z)))]) S (c_L_bits l g E1_7 (mk_lt10 (pM (zM z) (pU (zM z)) i9 j9 l9) hn)) (va_cwS 1 S.2.2.2.2 gL_acts_L_bits rfl rfl rfl (by decide +kernel) ⟨Nat.le_of_ble_eq_true rfl, Nat.le_of_ble_eq_true rfl⟩) (x_preS hK hP) rfl rfl hl.1 rfl (lv_room (Nat.le_of_ble_eq_true rfl)) dL_acts_793 ⟨Nat.le_of_ble_eq_true rfl, Nat.le_of_ble_eq_true rfl⟩) (fun r793 hr793 => ?_)
                    obtain rfl : r793 = nI (cnt (pM (zM z) (pU (zM z)) i9 j9 l9) (zn z)) := hr793.trans (congrArg nI (pop_mk hn))
                    refine lv_icmp_ne (tgt := 828) S.1 S.2.1 dL_acts_796 (by decide) (fun c796 => ?_) (fun c796 => ?_)
                    · skip
                      exact absurd rfl c796
                    · skip
                      refine lv_aload_n S.1 S.2.1 dL_acts_799 rfl (lv_at hl 7 rfl) ?_
                      refine lv_iconst (v := 1) S.1 S.2.1 dL_acts_800 (by decide) ?_
                      refine x_qi (va_runV (As := [.int 1]) (rest := []) S (c_X6_count l g hJ E1_7 hX hv1 1) (cwV 1 S.2.2.2.2 gL_acts_X6_count rfl rfl rfl (by decide +kernel) ⟨Nat.le_of_ble_eq_true rfl, Nat.le_of_ble_eq_true rfl⟩) (x_preV hK hP h00 (by decide) rfl) rfl rfl hl.1 rfl (lv_room (Nat.le_of_ble_eq_true rfl)) dL_acts_801 ⟨Nat.le_of_ble_eq_true rfl, Nat.le_of_ble_eq_true rfl⟩) hS (fun r801 E1_8 H locs q801 hP hS => ?_)
                      obtain ⟨q801, hX, -⟩ := q801
                      have h00 := hX.at0
                      obtain rfl : r801 = nI (mk (pU (zM z1)) (zn z1)) := v_ct1 q801
                      refine lv_iload S.1 S.2.1 dL_acts_804 (lv_at hl 2 rfl) ?_
                      refine lv_if_le (tgt := 819) S.1 S.2.1 dL_acts_806 (by decide) (fun c806 => ?_) (fun c806 => ?_)
                      · skip
                        exact absurd (mk_le0 hn c806) c783
                      · skip
                        refine lv_iload S.1 S.2.1 dL_acts_809 (lv_at hl 1 rfl) ?_
                        refine lv_iload S.1 S.2.1 dL_acts_811 (lv_at hl 2 rfl) ?_
                        refine lv_iconst (v := (-1)) S.1 S.2.1 dL_acts_813 (by decide) ?_
                        refine lv_ixor S.1 S.2.1 dL_acts_814 ?_
                        refine lv_iand S.1 S.2.1 dL_acts_815 ?_
                        refine lv_goto (tgt := 821) S.1 S.2.1 dL_acts_816 (by decide) ?_
                        refine lv_icmp_ne (tgt := 828) S.1 S.2.1 dL_acts_821 (by decide) (fun c821 => ?_) (fun c821 => ?_)
                        · skip
                          exact absurd (dr_u hz1) c821
                        · skip
                          refine lv_iconst (v := 1) S.1 S.2.1 dL_acts_824 (by decide) ?_
                          refine lv_goto (tgt := 829) S.1 S.2.1 dL_acts_825 (by decide) ?_
                          exact x_zret S hr hlocks hP hS dL_acts_829 rfl (⟨rfl, z1, hX, hv1, vQ_rec hQ (ok5_dr hQ.1) hz1, Or.inr ⟨_, _, hz1⟩⟩)
                  · skip
                    obtain ⟨rfl, hz1⟩ := dr_0 hv hb c783 q764
                    rw [hz1] at hX
                    have h00 := hX.at0
                    refine lv_bipush (v := (-5)) S.1 S.2.1 dL_acts_786 (by decide) ?_
                    refine lv_goto (tgt := 796) S.1 S.2.1 dL_acts_788 (by decide) ?_
                    refine lv_icmp_ne (tgt := 828) S.1 S.2.1 dL_acts_796 (by decide) (fun c796 => ?_) (fun c796 => ?_)
                    · skip
                      exact absurd c796 (by decide)
                    · skip
                      refine lv_aload_n S.1 S.2.1 dL_acts_799 rfl (lv_at hl 7 rfl) ?_
                      refine lv_iconst (v := 1) S.1 S.2.1 dL_acts_800 (by decide) ?_
                      refine x_qi (va_runV (As := [.int 1]) (rest := []) S (c_X6_count l g hJ E1_7 hX hv 1) (cwV 1 S.2.2.2.2 gL_acts_X6_count rfl rfl rfl (by decide +kernel) ⟨Nat.le_of_ble_eq_true rfl, Nat.le_of_ble_eq_true rfl⟩) (x_preV hK hP h00 (by decide) rfl) rfl rfl hl.1 rfl (lv_room (Nat.le_of_ble_eq_true rfl)) dL_acts_801 ⟨Nat.le_of_ble_eq_true rfl, Nat.le_of_ble_eq_true rfl⟩) hS (fun r801 E1_9 H locs q801 hP hS => ?_)
                      obtain ⟨q801, hX, -⟩ := q801
                      have h00 := hX.at0
                      obtain rfl : r801 = nI (mk (pU (zM z)) (zn z)) := v_ct1 q801
                      refine lv_iload S.1 S.2.1 dL_acts_804 (lv_at hl 2 rfl) ?_
                      refine lv_if_le (tgt := 819) S.1 S.2.1 dL_acts_806 (by decide) (fun c806 => ?_) (fun c806 => ?_)
                      · skip
                        refine lv_iload S.1 S.2.1 dL_acts_819 (lv_at hl 1 rfl) ?_
                        refine lv_icmp_ne (tgt := 828) S.1 S.2.1 dL_acts_821 (by decide) (fun c821 => ?_) (fun c821 => ?_)
                        · skip
                          exact absurd rfl c821
                        · skip
                          refine lv_iconst (v := 1) S.1 S.2.1 dL_acts_824 (by decide) ?_
                          refine lv_goto (tgt := 829) S.1 S.2.1 dL_acts_825 (by decide) ?_
                          exact x_zret S hr hlocks hP hS dL_acts_829 rfl (⟨rfl, z, hX, hv, hQ, Or.inl rfl⟩)
                      · skip
                        exact absurd (by rw [c783]; decide) c806
                · skip
                  obtain ⟨hno, rfl⟩ := bs_no q751 c773 hv
                  obtain ⟨rfl, hz1⟩ := v_drN hno q764
                  rw [hz1] at hX
                  have h00 := hX.at0
                  refine lv_bipush (v := (-4)) S.1 S.2.1 dL_acts_776 (by decide) ?_
                  refine lv_goto (tgt := 796) S.1 S.2.1 dL_acts_778 (by decide) ?_
                  refine lv_icmp_ne (tgt := 828) S.1 S.2.1 dL_acts_796 (by decide) (fun c796 => ?_) (fun c796 => ?_)
                  · skip
                    exact absurd c796 (by decide)
                  · skip
                    refine lv_aload_n S.1 S.2.1 dL_acts_799 rfl (lv_at hl 7 rfl) ?_
                    refine lv_iconst (v := 1) S.1 S.2.1 dL_acts_800 (by decide) ?_
                    refine x_qi (va_runV (As := [.int 1]) (rest := []) S (c_X6_count l g hJ E1_7 hX hv 1) (cwV 1 S.2.2.2.2 gL_acts_X6_count rfl rfl rfl (by decide +kernel) ⟨Nat.le_of_ble_eq_true rfl, Nat.le_of_ble_eq_true rfl⟩) (x_preV hK hP h00 (by decide) rfl) rfl rfl hl.1 rfl (lv_room (Nat.le_of_ble_eq_true rfl)) dL_acts_801 ⟨Nat.le_of_ble_eq_true rfl, Nat.le_of_ble_eq_true rfl⟩) hS (fun r801 E1_10 H locs q801 hP hS => ?_)
                    obtain ⟨q801, hX, -⟩ := q801
                    have h00 := hX.at0
                    obtain rfl : r801 = nI (mk (pU (zM z)) (zn z)) := v_ct1 q801
                    refine lv_iload S.1 S.2.1 dL_acts_804 (lv_at hl 2 rfl) ?_
                    refine lv_if_le (tgt := 819) S.1 S.2.1 dL_acts_806 (by decide) (fun c806 => ?_) (fun c806 => ?_)
                    · skip
                      refine lv_iload S.1 S.2.1 dL_acts_819 (lv_at hl 1 rfl) ?_
                      refine lv_icmp_ne (tgt := 828) S.1 S.2.1 dL_acts_821 (by decide) (fun c821 => ?_) (fun c821 => ?_)
                      · skip
                        exact absurd rfl c821
                      · skip
                        refine lv_iconst (v := 1) S.1 S.2.1 dL_acts_824 (by decide) ?_
                        refine lv_goto (tgt := 829) S.1 S.2.1 dL_acts_825 (by decide) ?_
                        exact x_zret S hr hlocks hP hS dL_acts_829 rfl (⟨rfl, z, hX, hv, hQ, Or.inl rfl⟩)
                    · skip
                      exact absurd c806 (by decide)
            · skip
              refine lv_iload_n S.1 S.2.1 dL_acts_652 rfl (lv_at hl 7 rfl) ?_
              refine lv_iconst (v := 3) S.1 S.2.1 dL_acts_653 (by decide) ?_
              refine lv_iand S.1 S.2.1 dL_acts_654 ?_
              refine lv_if_ne (tgt := 662) S.1 S.2.1 dL_acts_655 (by decide) (fun c655 => ?_) (fun c655 => ?_)
              · skip
                refine lv_iconst (v := 0) S.1 S.2.1 dL_acts_662 (by decide) ?_
                refine lv_istore (lv' := [(8, .int 0), (7, .int vy), (6, .int vx), (5, .int (nI k)), (4, .int (nI (zn z))), (0, .ref (xad g 0)), (1, .int so), (2, .int gg), (3, .int hh)]) S.1 S.2.1 dL_acts_663 hl (by decide) rfl (fun ls hl => ?_)
                refine lv_aload_n S.1 S.2.1 dL_acts_665 rfl (lv_at hl 5 rfl) ?_
                refine lv_iload S.1 S.2.1 dL_acts_666 (lv_at hl 3 rfl) ?_
                refine lv_bipush (v := 6) S.1 S.2.1 dL_acts_668 (by decide) ?_
                refine x_qi (va_runV (As := [.int (nI k), .int 6]) (rest := []) S (c_X6_photo l g hJ E1 hX hv (nI k) 6) (cwV 2 S.2.2.2.2 gL_acts_X6_photo rfl rfl rfl (by decide +kernel) ⟨Nat.le_of_ble_eq_true rfl, Nat.le_of_ble_eq_true rfl⟩) (x_preV hK hP h00 (by decide) rfl) rfl rfl hl.1 rfl (lv_room (Nat.le_of_ble_eq_true rfl)) dL_acts_670 ⟨Nat.le_of_ble_eq_true rfl, Nat.le_of_ble_eq_true rfl⟩) hS (fun r670 E1_11 H locs q670 hP hS => ?_)
                obtain ⟨q670, hX, -⟩ := q670
                have h00 := hX.at0
                obtain rfl : r670 = (zM z) 6 k := v_ph6 hv hk q670
                refine lv_iconst (v := 1) S.1 S.2.1 dL_acts_673 (by decide) ?_
                refine lv_icmp_ne (tgt := 681) S.1 S.2.1 dL_acts_674 (by decide) (fun c674 => ?_) (fun c674 => ?_)
                · skip
                  refine lv_iconst (v := 0) S.1 S.2.1 dL_acts_681 (by decide) ?_
                  refine lv_istore (lv' := [(9, .int 0), (8, .int 0), (7, .int vy), (6, .int vx), (5, .int (nI k)), (4, .int (nI (zn z))), (0, .ref (xad g 0)), (1, .int so), (2, .int gg), (3, .int hh)]) S.1 S.2.1 dL_acts_682 hl (by decide) rfl (fun ls hl => ?_)
                  refine lv_aload_n S.1 S.2.1 dL_acts_684 rfl (lv_at hl 6 rfl) ?_
                  refine lv_iload S.1 S.2.1 dL_acts_685 (lv_at hl 4 rfl) ?_
                  refine lv_iload S.1 S.2.1 dL_acts_687 (lv_at hl 1 rfl) ?_
                  refine W.eq (g2 := F0 m 689 ls [.int (bI false), .int (nI k), .ref (xad g 0)]) (by rw [show (0 : Int32) = bI false from rfl]) ?_
                  refine x_qi (va_runV (As := [.int (nI k), .int (bI false)]) (rest := []) S (c_X6_setAside l g hJ E1_11 hX hv (nI k) false) (cwV 2 S.2.2.2.2 gL_acts_X6_setAside rfl rfl rfl (by decide +kernel) ⟨Nat.le_of_ble_eq_true rfl, Nat.le_of_ble_eq_true rfl⟩) (x_preV hK hP h00 (by decide) rfl) rfl rfl hl.1 rfl (lv_room (Nat.le_of_ble_eq_true rfl)) dL_acts_689 ⟨Nat.le_of_ble_eq_true rfl, Nat.le_of_ble_eq_true rfl⟩) hS (fun r689 E1_12 H locs q689 hP hS => ?_)
                  obtain ⟨z1, q689, hX, -⟩ := q689
                  have h00 := hX.at0
                  obtain ⟨rfl, hz1⟩ := sD_s hv hk (by rw [pU_0 hvM hk c674]; decide) q689
                  rw [hz1] at hX
                  have h00 := hX.at0
                  refine lv_iload S.1 S.2.1 dL_acts_692 (lv_at hl 0 rfl) ?_
                  refine lv_iload S.1 S.2.1 dL_acts_694 (lv_at hl 1 rfl) ?_
                  refine lv_icmp_ne (tgt := 704) S.1 S.2.1 dL_acts_696 (by decide) (fun c696 => ?_) (fun c696 => ?_)
                  · skip
                    exact absurd c696 (by decide)
                  · skip
                    refine lv_bipush (v := (-5)) S.1 S.2.1 dL_acts_699 (by decide) ?_
                    refine lv_goto (tgt := 712) S.1 S.2.1 dL_acts_701 (by decide) ?_
                    refine lv_icmp_ne (tgt := 741) S.1 S.2.1 dL_acts_712 (by decide) (fun c712 => ?_) (fun c712 => ?_)
                    · skip
                      exact absurd c712 (by decide)
                    · skip
                      refine lv_aload_n S.1 S.2.1 dL_acts_715 rfl (lv_at hl 6 rfl) ?_
                      refine lv_iload S.1 S.2.1 dL_acts_716 (lv_at hl 4 rfl) ?_
                      refine lv_bipush (v := 6) S.1 S.2.1 dL_acts_718 (by decide) ?_
                      refine x_qi (va_runV (As := [.int (nI k), .int 6]) (rest := []) S (c_X6_photo l g hJ E1_12 hX hv (nI k) 6) (cwV 2 S.2.2.2.2 gL_acts_X6_photo rfl rfl rfl (by decide +kernel) ⟨Nat.le_of_ble_eq_true rfl, Nat.le_of_ble_eq_true rfl⟩) (x_preV hK hP h00 (by decide) rfl) rfl rfl hl.1 rfl (lv_room (Nat.le_of_ble_eq_true rfl)) dL_acts_720 ⟨Nat.le_of_ble_eq_true rfl, Nat.le_of_ble_eq_true rfl⟩) hS (fun r720 E1_13 H locs q720 hP hS => ?_)
                      obtain ⟨q720, hX, -⟩ := q720
                      have h00 := hX.at0
                      obtain rfl : r720 = (zM z) 6 k := v_ph6 hv hk q720
                      refine lv_iconst (v := 1) S.1 S.2.1 dL_acts_723 (by decide) ?_
                      refine lv_icmp_ne (tgt := 731) S.1 S.2.1 dL_acts_724 (by decide) (fun c724 => ?_) (fun c724 => ?_)
                      · skip
                        refine lv_iconst (v := 0) S.1 S.2.1 dL_acts_731 (by decide) ?_
                        refine lv_iload S.1 S.2.1 dL_acts_732 (lv_at hl 1 rfl) ?_
                        refine lv_icmp_ne (tgt := 741) S.1 S.2.1 dL_acts_734 (by decide) (fun c734 => ?_) (fun c734 => ?_)
                        · skip
                          exact absurd c734 (by decide)
                        · skip
                          refine lv_iconst (v := 1) S.1 S.2.1 dL_acts_737 (by decide) ?_
                          refine lv_goto (tgt := 742) S.1 S.2.1 dL_acts_738 (by decide) ?_
                          exact x_zret S hr hlocks hP hS dL_acts_742 rfl (⟨rfl, z, hX, hv, hQ, Or.inl rfl⟩)
                      · skip
                        exact absurd c724 c674
                · skip
                  refine lv_iconst (v := 1) S.1 S.2.1 dL_acts_677 (by decide) ?_
                  refine lv_goto (tgt := 682) S.1 S.2.1 dL_acts_678 (by decide) ?_
                  refine lv_istore (lv' := [(9, .int 1), (8, .int 0), (7, .int vy), (6, .int vx), (5, .int (nI k)), (4, .int (nI (zn z))), (0, .ref (xad g 0)), (1, .int so), (2, .int gg), (3, .int hh)]) S.1 S.2.1 dL_acts_682 hl (by decide) rfl (fun ls hl => ?_)
                  refine lv_aload_n S.1 S.2.1 dL_acts_684 rfl (lv_at hl 6 rfl) ?_
                  refine lv_iload S.1 S.2.1 dL_acts_685 (lv_at hl 4 rfl) ?_
                  refine lv_iload S.1 S.2.1 dL_acts_687 (lv_at hl 1 rfl) ?_
                  refine W.eq (g2 := F0 m 689 ls [.int (bI false), .int (nI k), .ref (xad g 0)]) (by rw [show (0 : Int32) = bI false from rfl]) ?_
                  refine x_qi (va_runV (As := [.int (nI k), .int (bI false)]) (rest := []) S (c_X6_setAside l g hJ E1_11 hX hv (nI k) false) (cwV 2 S.2.2.2.2 gL_acts_X6_setAside rfl rfl rfl (by decide +kernel) ⟨Nat.le_of_ble_eq_true rfl, Nat.le_of_ble_eq_true rfl⟩) (x_preV hK hP h00 (by decide) rfl) rfl rfl hl.1 rfl (lv_room (Nat.le_of_ble_eq_true rfl)) dL_acts_689 ⟨Nat.le_of_ble_eq_true rfl, Nat.le_of_ble_eq_true rfl⟩) hS (fun r689 E1_14 H locs q689 hP hS => ?_)
                  obtain ⟨z1, q689, hX, -⟩ := q689
                  have h00 := hX.at0
                  obtain ⟨hz1, hr9⟩ := sD_n hv hk (Bool.eq_false_iff.mpr (pU_1 c674)) q689
                  have hv1 := sp_setAside.vS hv q689
                  have hk1 : k < zn z1 := by rw [zn_w hz1]; exact hk
                  refine lv_iload S.1 S.2.1 dL_acts_692 (lv_at hl 0 rfl) ?_
                  refine lv_iload S.1 S.2.1 dL_acts_694 (lv_at hl 1 rfl) ?_
                  refine lv_icmp_ne (tgt := 704) S.1 S.2.1 dL_acts_696 (by decide) (fun c696_1 => ?_) (fun c696_1 => ?_)
                  · skip
                    refine lv_aload_n S.1 S.2.1 dL_acts_704 rfl (lv_at hl 6 rfl) ?_
                    refine lv_iconst (v := 1) S.1 S.2.1 dL_acts_705 (by decide) ?_
                    refine x_qi (va_runV (As := [.int 1]) (rest := [.int r689]) S (c_X6_count l g hJ E1_14 hX hv1 1) (cwV 1 S.2.2.2.2 gL_acts_X6_count rfl rfl rfl (by decide +kernel) ⟨Nat.le_of_ble_eq_true rfl, Nat.le_of_ble_eq_true rfl⟩) (x_preV hK hP h00 (by decide) rfl) rfl rfl hl.1 rfl (lv_room (Nat.le_of_ble_eq_true rfl)) dL_acts_706 ⟨Nat.le_of_ble_eq_true rfl, Nat.le_of_ble_eq_true rfl⟩) hS (fun r706 E1_15 H locs q706 hP hS => ?_)
                    obtain ⟨q706, hX, -⟩ := q706
                    have h00 := hX.at0
                    obtain rfl : r706 = nI (mk (pU (zM z1)) (zn z1)) := v_ct1 q706
                    refine x_si (va_runS (As := [.int (nI (mk (pU (zM z1)) (zn z1)))]) (rest := [.int r689]) S (c_L_bits l g E1_15 (mk_lt10 (pU (zM z1)) hv1.1.1)) (va_cwS 1 S.2.2.2.2 gL_acts_L_bits rfl rfl rfl (by decide +kernel) ⟨Nat.le_of_ble_eq_true rfl, Nat.le_of_ble_eq_true rfl⟩) (x_preS hK hP) rfl rfl hl.1 rfl (lv_room (Nat.le_of_ble_eq_true rfl)) dL_acts_709 ⟨Nat.le_of_ble_eq_true rfl, Nat.le_of_ble_eq_true rfl⟩) (fun r709 hr709 => ?_)
                    obtain rfl : r709 = nI (cnt (pU (zM z1)) (zn z1)) := hr709.trans (congrArg nI (pop_mk hv1.1.1))
                    refine lv_icmp_ne (tgt := 741) S.1 S.2.1 dL_acts_712 (by decide) (fun c712 => ?_) (fun c712 => ?_)
                    · skip
                      exact absurd hr9 c712
                    · skip
                      refine lv_aload_n S.1 S.2.1 dL_acts_715 rfl (lv_at hl 6 rfl) ?_
                      refine lv_iload S.1 S.2.1 dL_acts_716 (lv_at hl 4 rfl) ?_
                      refine lv_bipush (v := 6) S.1 S.2.1 dL_acts_718 (by decide) ?_
                      refine x_qi (va_runV (As := [.int (nI k), .int 6]) (rest := []) S (c_X6_photo l g hJ E1_15 hX hv1 (nI k) 6) (cwV 2 S.2.2.2.2 gL_acts_X6_photo rfl rfl rfl (by decide +kernel) ⟨Nat.le_of_ble_eq_true rfl, Nat.le_of_ble_eq_true rfl⟩) (x_preV hK hP h00 (by decide) rfl) rfl rfl hl.1 rfl (lv_room (Nat.le_of_ble_eq_true rfl)) dL_acts_720 ⟨Nat.le_of_ble_eq_true rfl, Nat.le_of_ble_eq_true rfl⟩) hS (fun r720 E1_16 H locs q720 hP hS => ?_)
                      obtain ⟨q720, hX, -⟩ := q720
                      have h00 := hX.at0
                      obtain rfl : r720 = (zM z1) 6 k := v_ph6 hv1 hk1 q720
                      refine lv_iconst (v := 1) S.1 S.2.1 dL_acts_723 (by decide) ?_
                      refine lv_icmp_ne (tgt := 731) S.1 S.2.1 dL_acts_724 (by decide) (fun c724 => ?_) (fun c724 => ?_)
                      · skip
                        refine lv_iconst (v := 0) S.1 S.2.1 dL_acts_731 (by decide) ?_
                        refine lv_iload S.1 S.2.1 dL_acts_732 (lv_at hl 1 rfl) ?_
                        refine lv_icmp_ne (tgt := 741) S.1 S.2.1 dL_acts_734 (by decide) (fun c734_1 => ?_) (fun c734_1 => ?_)
                        · skip
                          exact absurd c734_1 (by decide)
                        · skip
                          refine lv_iconst (v := 1) S.1 S.2.1 dL_acts_737 (by decide) ?_
                          refine lv_goto (tgt := 742) S.1 S.2.1 dL_acts_738 (by decide) ?_
                          exact x_zret S hr hlocks hP hS dL_acts_742 rfl (⟨rfl, z1, hX, hv1, vQ_rec hQ (ok5_set hQ.1 (by decide) (by decide)) hz1, Or.inr ⟨_, _, hz1⟩⟩)
                      · skip
                        exact absurd (c724.symm.trans (sM_6 hz1)) (by decide)
                  · skip
                    exact absurd c696_1 (by decide)
              · skip
                refine lv_iconst (v := 1) S.1 S.2.1 dL_acts_658 (by decide) ?_
                refine lv_goto (tgt := 663) S.1 S.2.1 dL_acts_659 (by decide) ?_
                refine lv_istore (lv' := [(8, .int 1), (7, .int vy), (6, .int vx), (5, .int (nI k)), (4, .int (nI (zn z))), (0, .ref (xad g 0)), (1, .int so), (2, .int gg), (3, .int hh)]) S.1 S.2.1 dL_acts_663 hl (by decide) rfl (fun ls hl => ?_)
                refine lv_aload_n S.1 S.2.1 dL_acts_665 rfl (lv_at hl 5 rfl) ?_
                refine lv_iload S.1 S.2.1 dL_acts_666 (lv_at hl 3 rfl) ?_
                refine lv_bipush (v := 6) S.1 S.2.1 dL_acts_668 (by decide) ?_
                refine x_qi (va_runV (As := [.int (nI k), .int 6]) (rest := []) S (c_X6_photo l g hJ E1 hX hv (nI k) 6) (cwV 2 S.2.2.2.2 gL_acts_X6_photo rfl rfl rfl (by decide +kernel) ⟨Nat.le_of_ble_eq_true rfl, Nat.le_of_ble_eq_true rfl⟩) (x_preV hK hP h00 (by decide) rfl) rfl rfl hl.1 rfl (lv_room (Nat.le_of_ble_eq_true rfl)) dL_acts_670 ⟨Nat.le_of_ble_eq_true rfl, Nat.le_of_ble_eq_true rfl⟩) hS (fun r670 E1_17 H locs q670 hP hS => ?_)
                obtain ⟨q670, hX, -⟩ := q670
                have h00 := hX.at0
                obtain rfl : r670 = (zM z) 6 k := v_ph6 hv hk q670
                refine lv_iconst (v := 1) S.1 S.2.1 dL_acts_673 (by decide) ?_
                refine lv_icmp_ne (tgt := 681) S.1 S.2.1 dL_acts_674 (by decide) (fun c674 => ?_) (fun c674 => ?_)
                · skip
                  refine lv_iconst (v := 0) S.1 S.2.1 dL_acts_681 (by decide) ?_
                  refine lv_istore (lv' := [(9, .int 0), (8, .int 1), (7, .int vy), (6, .int vx), (5, .int (nI k)), (4, .int (nI (zn z))), (0, .ref (xad g 0)), (1, .int so), (2, .int gg), (3, .int hh)]) S.1 S.2.1 dL_acts_682 hl (by decide) rfl (fun ls hl => ?_)
                  refine lv_aload_n S.1 S.2.1 dL_acts_684 rfl (lv_at hl 6 rfl) ?_
                  refine lv_iload S.1 S.2.1 dL_acts_685 (lv_at hl 4 rfl) ?_
                  refine lv_iload S.1 S.2.1 dL_acts_687 (lv_at hl 1 rfl) ?_
                  refine W.eq (g2 := F0 m 689 ls [.int (bI true), .int (nI k), .ref (xad g 0)]) (by rw [show (1 : Int32) = bI true from rfl]) ?_
                  refine x_qi (va_runV (As := [.int (nI k), .int (bI true)]) (rest := []) S (c_X6_setAside l g hJ E1_17 hX hv (nI k) true) (cwV 2 S.2.2.2.2 gL_acts_X6_setAside rfl rfl rfl (by decide +kernel) ⟨Nat.le_of_ble_eq_true rfl, Nat.le_of_ble_eq_true rfl⟩) (x_preV hK hP h00 (by decide) rfl) rfl rfl hl.1 rfl (lv_room (Nat.le_of_ble_eq_true rfl)) dL_acts_689 ⟨Nat.le_of_ble_eq_true rfl, Nat.le_of_ble_eq_true rfl⟩) hS (fun r689 E1_18 H locs q689 hP hS => ?_)
                  obtain ⟨z1, q689, hX, -⟩ := q689
                  have h00 := hX.at0
                  obtain ⟨hz1, hr9⟩ := sD_n hv hk (pU_0 hvM hk c674) q689
                  have hv1 := sp_setAside.vS hv q689
                  have hk1 : k < zn z1 := by rw [zn_w hz1]; exact hk
                  refine lv_iload S.1 S.2.1 dL_acts_692 (lv_at hl 0 rfl) ?_
                  refine lv_iload S.1 S.2.1 dL_acts_694 (lv_at hl 1 rfl) ?_
                  refine lv_icmp_ne (tgt := 704) S.1 S.2.1 dL_acts_696 (by decide) (fun c696_2 => ?_) (fun c696_2 => ?_)
                  · skip
                    refine lv_aload_n S.1 S.2.1 dL_acts_704 rfl (lv_at hl 6 rfl) ?_
                    refine lv_iconst (v := 1) S.1 S.2.1 dL_acts_705 (by decide) ?_
                    refine x_qi (va_runV (As := [.int 1]) (rest := [.int r689]) S (c_X6_count l g hJ E1_18 hX hv1 1) (cwV 1 S.2.2.2.2 gL_acts_X6_count rfl rfl rfl (by decide +kernel) ⟨Nat.le_of_ble_eq_true rfl, Nat.le_of_ble_eq_true rfl⟩) (x_preV hK hP h00 (by decide) rfl) rfl rfl hl.1 rfl (lv_room (Nat.le_of_ble_eq_true rfl)) dL_acts_706 ⟨Nat.le_of_ble_eq_true rfl, Nat.le_of_ble_eq_true rfl⟩) hS (fun r706 E1_19 H locs q706 hP hS => ?_)
                    obtain ⟨q706, hX, -⟩ := q706
                    have h00 := hX.at0
                    obtain rfl : r706 = nI (mk (pU (zM z1)) (zn z1)) := v_ct1 q706
                    refine x_si (va_runS (As := [.int (nI (mk (pU (zM z1)) (zn z1)))]) (rest := [.int r689]) S (c_L_bits l g E1_19 (mk_lt10 (pU (zM z1)) hv1.1.1)) (va_cwS 1 S.2.2.2.2 gL_acts_L_bits rfl rfl rfl (by decide +kernel) ⟨Nat.le_of_ble_eq_true rfl, Nat.le_of_ble_eq_true rfl⟩) (x_preS hK hP) rfl rfl hl.1 rfl (lv_room (Nat.le_of_ble_eq_true rfl)) dL_acts_709 ⟨Nat.le_of_ble_eq_true rfl, Nat.le_of_ble_eq_true rfl⟩) (fun r709 hr709 => ?_)
                    obtain rfl : r709 = nI (cnt (pU (zM z1)) (zn z1)) := hr709.trans (congrArg nI (pop_mk hv1.1.1))
                    refine lv_icmp_ne (tgt := 741) S.1 S.2.1 dL_acts_712 (by decide) (fun c712 => ?_) (fun c712 => ?_)
                    · skip
                      exact absurd hr9 c712
                    · skip
                      refine lv_aload_n S.1 S.2.1 dL_acts_715 rfl (lv_at hl 6 rfl) ?_
                      refine lv_iload S.1 S.2.1 dL_acts_716 (lv_at hl 4 rfl) ?_
                      refine lv_bipush (v := 6) S.1 S.2.1 dL_acts_718 (by decide) ?_
                      refine x_qi (va_runV (As := [.int (nI k), .int 6]) (rest := []) S (c_X6_photo l g hJ E1_19 hX hv1 (nI k) 6) (cwV 2 S.2.2.2.2 gL_acts_X6_photo rfl rfl rfl (by decide +kernel) ⟨Nat.le_of_ble_eq_true rfl, Nat.le_of_ble_eq_true rfl⟩) (x_preV hK hP h00 (by decide) rfl) rfl rfl hl.1 rfl (lv_room (Nat.le_of_ble_eq_true rfl)) dL_acts_720 ⟨Nat.le_of_ble_eq_true rfl, Nat.le_of_ble_eq_true rfl⟩) hS (fun r720 E1_20 H locs q720 hP hS => ?_)
                      obtain ⟨q720, hX, -⟩ := q720
                      have h00 := hX.at0
                      obtain rfl : r720 = (zM z1) 6 k := v_ph6 hv1 hk1 q720
                      refine lv_iconst (v := 1) S.1 S.2.1 dL_acts_723 (by decide) ?_
                      refine lv_icmp_ne (tgt := 731) S.1 S.2.1 dL_acts_724 (by decide) (fun c724 => ?_) (fun c724 => ?_)
                      · skip
                        exact absurd (sM_6 hz1) c724
                      · skip
                        refine lv_iconst (v := 1) S.1 S.2.1 dL_acts_727 (by decide) ?_
                        refine lv_goto (tgt := 732) S.1 S.2.1 dL_acts_728 (by decide) ?_
                        refine lv_iload S.1 S.2.1 dL_acts_732 (lv_at hl 1 rfl) ?_
                        refine lv_icmp_ne (tgt := 741) S.1 S.2.1 dL_acts_734 (by decide) (fun c734_2 => ?_) (fun c734_2 => ?_)
                        · skip
                          exact absurd c734_2 (by decide)
                        · skip
                          refine lv_iconst (v := 1) S.1 S.2.1 dL_acts_737 (by decide) ?_
                          refine lv_goto (tgt := 742) S.1 S.2.1 dL_acts_738 (by decide) ?_
                          exact x_zret S hr hlocks hP hS dL_acts_742 rfl (⟨rfl, z1, hX, hv1, vQ_rec hQ (ok5_set hQ.1 (by decide) (by decide)) hz1, Or.inr ⟨_, _, hz1⟩⟩)
                  · skip
                    exact absurd c696_2 (by decide)
                · skip
                  refine lv_iconst (v := 1) S.1 S.2.1 dL_acts_677 (by decide) ?_
                  refine lv_goto (tgt := 682) S.1 S.2.1 dL_acts_678 (by decide) ?_
                  refine lv_istore (lv' := [(9, .int 1), (8, .int 1), (7, .int vy), (6, .int vx), (5, .int (nI k)), (4, .int (nI (zn z))), (0, .ref (xad g 0)), (1, .int so), (2, .int gg), (3, .int hh)]) S.1 S.2.1 dL_acts_682 hl (by decide) rfl (fun ls hl => ?_)
                  refine lv_aload_n S.1 S.2.1 dL_acts_684 rfl (lv_at hl 6 rfl) ?_
                  refine lv_iload S.1 S.2.1 dL_acts_685 (lv_at hl 4 rfl) ?_
                  refine lv_iload S.1 S.2.1 dL_acts_687 (lv_at hl 1 rfl) ?_
                  refine W.eq (g2 := F0 m 689 ls [.int (bI true), .int (nI k), .ref (xad g 0)]) (by rw [show (1 : Int32) = bI true from rfl]) ?_
                  refine x_qi (va_runV (As := [.int (nI k), .int (bI true)]) (rest := []) S (c_X6_setAside l g hJ E1_17 hX hv (nI k) true) (cwV 2 S.2.2.2.2 gL_acts_X6_setAside rfl rfl rfl (by decide +kernel) ⟨Nat.le_of_ble_eq_true rfl, Nat.le_of_ble_eq_true rfl⟩) (x_preV hK hP h00 (by decide) rfl) rfl rfl hl.1 rfl (lv_room (Nat.le_of_ble_eq_true rfl)) dL_acts_689 ⟨Nat.le_of_ble_eq_true rfl, Nat.le_of_ble_eq_true rfl⟩) hS (fun r689 E1_21 H locs q689 hP hS => ?_)
                  obtain ⟨z1, q689, hX, -⟩ := q689
                  have h00 := hX.at0
                  obtain ⟨rfl, hz1⟩ := sD_s hv hk (pU_1 c674) q689
                  rw [hz1] at hX
                  have h00 := hX.at0
                  refine lv_iload S.1 S.2.1 dL_acts_692 (lv_at hl 0 rfl) ?_
                  refine lv_iload S.1 S.2.1 dL_acts_694 (lv_at hl 1 rfl) ?_
                  refine lv_icmp_ne (tgt := 704) S.1 S.2.1 dL_acts_696 (by decide) (fun c696_3 => ?_) (fun c696_3 => ?_)
                  · skip
                    exact absurd c696_3 (by decide)
                  · skip
                    refine lv_bipush (v := (-5)) S.1 S.2.1 dL_acts_699 (by decide) ?_
                    refine lv_goto (tgt := 712) S.1 S.2.1 dL_acts_701 (by decide) ?_
                    refine lv_icmp_ne (tgt := 741) S.1 S.2.1 dL_acts_712 (by decide) (fun c712 => ?_) (fun c712 => ?_)
                    · skip
                      exact absurd c712 (by decide)
                    · skip
                      refine lv_aload_n S.1 S.2.1 dL_acts_715 rfl (lv_at hl 6 rfl) ?_
                      refine lv_iload S.1 S.2.1 dL_acts_716 (lv_at hl 4 rfl) ?_
                      refine lv_bipush (v := 6) S.1 S.2.1 dL_acts_718 (by decide) ?_
                      refine x_qi (va_runV (As := [.int (nI k), .int 6]) (rest := []) S (c_X6_photo l g hJ E1_21 hX hv (nI k) 6) (cwV 2 S.2.2.2.2 gL_acts_X6_photo rfl rfl rfl (by decide +kernel) ⟨Nat.le_of_ble_eq_true rfl, Nat.le_of_ble_eq_true rfl⟩) (x_preV hK hP h00 (by decide) rfl) rfl rfl hl.1 rfl (lv_room (Nat.le_of_ble_eq_true rfl)) dL_acts_720 ⟨Nat.le_of_ble_eq_true rfl, Nat.le_of_ble_eq_true rfl⟩) hS (fun r720 E1_22 H locs q720 hP hS => ?_)
                      obtain ⟨q720, hX, -⟩ := q720
                      have h00 := hX.at0
                      obtain rfl : r720 = (zM z) 6 k := v_ph6 hv hk q720
                      refine lv_iconst (v := 1) S.1 S.2.1 dL_acts_723 (by decide) ?_
                      refine lv_icmp_ne (tgt := 731) S.1 S.2.1 dL_acts_724 (by decide) (fun c724 => ?_) (fun c724 => ?_)
                      · skip
                        exact absurd c674 c724
                      · skip
                        refine lv_iconst (v := 1) S.1 S.2.1 dL_acts_727 (by decide) ?_
                        refine lv_goto (tgt := 732) S.1 S.2.1 dL_acts_728 (by decide) ?_
                        refine lv_iload S.1 S.2.1 dL_acts_732 (lv_at hl 1 rfl) ?_
                        refine lv_icmp_ne (tgt := 741) S.1 S.2.1 dL_acts_734 (by decide) (fun c734_3 => ?_) (fun c734_3 => ?_)
                        · skip
                          exact absurd c734_3 (by decide)
                        · skip
                          refine lv_iconst (v := 1) S.1 S.2.1 dL_acts_737 (by decide) ?_
                          refine lv_goto (tgt := 742) S.1 S.2.1 dL_acts_738 (by decide) ?_
                          exact x_zret S hr hlocks hP hS dL_acts_742 rfl (⟨rfl, z, hX, hv, hQ, Or.inl rfl⟩)
          · skip
            refine lv_aload_n S.1 S.2.1 dL_acts_526 rfl (lv_at hl 4 rfl) ?_
            refine lv_iload S.1 S.2.1 dL_acts_527 (lv_at hl 2 rfl) ?_
            refine lv_iconst (v := 1) S.1 S.2.1 dL_acts_529 (by decide) ?_
            refine x_qi (va_runV (As := [.int (nI k), .int 1]) (rest := []) S (c_X6_photo l g hJ E1 hX hv (nI k) 1) (cwV 2 S.2.2.2.2 gL_acts_X6_photo rfl rfl rfl (by decide +kernel) ⟨Nat.le_of_ble_eq_true rfl, Nat.le_of_ble_eq_true rfl⟩) (x_preV hK hP h00 (by decide) rfl) rfl rfl hl.1 rfl (lv_room (Nat.le_of_ble_eq_true rfl)) dL_acts_530 ⟨Nat.le_of_ble_eq_true rfl, Nat.le_of_ble_eq_true rfl⟩) hS (fun r530 E1_23 H locs q530 hP hS => ?_)
            obtain ⟨q530, hX, -⟩ := q530
            have h00 := hX.at0
            obtain rfl : r530 = (zM z) 1 k + 1000 := v_ph1 hv hk q530
            refine lv_iload S.1 S.2.1 dL_acts_533 (lv_at hl 1 rfl) ?_
            refine lv_sipush (v := 1000) S.1 S.2.1 dL_acts_535 (by decide) ?_
            refine lv_iadd S.1 S.2.1 dL_acts_538 ?_
            refine lv_icmp_ne (tgt := 562) S.1 S.2.1 dL_acts_539 (by decide) (fun c539 => ?_) (fun c539 => ?_)
            · skip
              refine lv_iconst (v := 0) S.1 S.2.1 dL_acts_562 (by decide) ?_
              refine lv_istore (lv' := [(8, .int 0), (7, .int vy), (6, .int vx), (5, .int (nI k)), (4, .int (nI (zn z))), (0, .ref (xad g 0)), (1, .int so), (2, .int gg), (3, .int hh)]) S.1 S.2.1 dL_acts_563 hl (by decide) rfl (fun ls hl => ?_)
              refine lv_aload_n S.1 S.2.1 dL_acts_565 rfl (lv_at hl 5 rfl) ?_
              refine lv_iload S.1 S.2.1 dL_acts_566 (lv_at hl 3 rfl) ?_
              refine lv_iload S.1 S.2.1 dL_acts_568 (lv_at hl 2 rfl) ?_
              refine lv_iload S.1 S.2.1 dL_acts_570 (lv_at hl 1 rfl) ?_
              refine x_qi (va_runV (As := [.int (nI k), .int vx, .int vy]) (rest := []) S (c_X6_move l g hJ E1_23 hX hv (nI k) vx vy) (cwV 3 S.2.2.2.2 gL_acts_X6_move rfl rfl rfl (by decide +kernel) ⟨Nat.le_of_ble_eq_true rfl, Nat.le_of_ble_eq_true rfl⟩) (x_preV hK hP h00 (by decide) rfl) rfl rfl hl.1 rfl (lv_room (Nat.le_of_ble_eq_true rfl)) dL_acts_572 ⟨Nat.le_of_ble_eq_true rfl, Nat.le_of_ble_eq_true rfl⟩) hS (fun r572 E1_24 H locs q572 hP hS => ?_)
              obtain ⟨z1, q572, hX, -⟩ := q572
              have h00 := hX.at0
              obtain ⟨hz1, v9, hm9, hr9⟩ := mv_n hv hk hvxr hvyr (fun h => c539 (by rw [h.1])) q572
              have hv1 := sp_move.vS hv q572
              have hk1 : k < zn z1 := by rw [zn_w hz1]; exact hk
              refine lv_istore (lv' := [(9, .int r572), (8, .int 0), (7, .int vy), (6, .int vx), (5, .int (nI k)), (4, .int (nI (zn z))), (0, .ref (xad g 0)), (1, .int so), (2, .int gg), (3, .int hh)]) S.1 S.2.1 dL_acts_575 hl (by decide) rfl (fun ls hl => ?_)
              refine lv_iload S.1 S.2.1 dL_acts_577 (lv_at hl 0 rfl) ?_
              refine lv_iload S.1 S.2.1 dL_acts_579 (lv_at hl 1 rfl) ?_
              refine lv_if_eq (tgt := 589) S.1 S.2.1 dL_acts_581 (by decide) (fun c581 => ?_) (fun c581 => ?_)
              · skip
                refine lv_aload_n S.1 S.2.1 dL_acts_589 rfl (lv_at hl 6 rfl) ?_
                refine lv_iconst (v := 3) S.1 S.2.1 dL_acts_590 (by decide) ?_
                refine x_qi (va_runV (As := [.int 3]) (rest := [.int r572]) S (c_X6_best l g hJ E1_24 hX hv1 3) (cwV 1 S.2.2.2.2 gL_acts_X6_best rfl rfl rfl (by decide +kernel) ⟨Nat.le_of_ble_eq_true rfl, Nat.le_of_ble_eq_true rfl⟩) (x_preV hK hP h00 (by decide) rfl) rfl rfl hl.1 rfl (lv_room (Nat.le_of_ble_eq_true rfl)) dL_acts_591 ⟨Nat.le_of_ble_eq_true rfl, Nat.le_of_ble_eq_true rfl⟩) hS (fun r591 E1_25 H locs q591 hP hS => ?_)
                obtain ⟨q591, hX, -⟩ := q591
                have h00 := hX.at0
                have hb9 := mv_b hv1 hm9 q591
                refine lv_if_ge (tgt := 601) S.1 S.2.1 dL_acts_594 (by decide) (fun c594 => ?_) (fun c594 => ?_)
                · skip
                  refine lv_aload_n S.1 S.2.1 dL_acts_601 rfl (lv_at hl 6 rfl) ?_
                  refine lv_iconst (v := 3) S.1 S.2.1 dL_acts_602 (by decide) ?_
                  refine x_qi (va_runV (As := [.int 3]) (rest := [.int r572]) S (c_X6_best l g hJ E1_25 hX hv1 3) (cwV 1 S.2.2.2.2 gL_acts_X6_best rfl rfl rfl (by decide +kernel) ⟨Nat.le_of_ble_eq_true rfl, Nat.le_of_ble_eq_true rfl⟩) (x_preV hK hP h00 (by decide) rfl) rfl rfl hl.1 rfl (lv_room (Nat.le_of_ble_eq_true rfl)) dL_acts_603 ⟨Nat.le_of_ble_eq_true rfl, Nat.le_of_ble_eq_true rfl⟩) hS (fun r603 E1_26 H locs q603 hP hS => ?_)
                  obtain ⟨q603, hX, -⟩ := q603
                  have h00 := hX.at0
                  refine lv_icmp_ne (tgt := 644) S.1 S.2.1 dL_acts_606 (by decide) (fun c606 => ?_) (fun c606 => ?_)
                  · skip
                    exact absurd (hr9.trans ((mv_b1 hb9 c594).trans (sp_best.det hv1 q591 q603))) c606
                  · skip
                    refine lv_aload_n S.1 S.2.1 dL_acts_609 rfl (lv_at hl 6 rfl) ?_
                    refine lv_iload S.1 S.2.1 dL_acts_610 (lv_at hl 4 rfl) ?_
                    refine lv_iconst (v := 1) S.1 S.2.1 dL_acts_612 (by decide) ?_
                    refine x_qi (va_runV (As := [.int (nI k), .int 1]) (rest := []) S (c_X6_photo l g hJ E1_26 hX hv1 (nI k) 1) (cwV 2 S.2.2.2.2 gL_acts_X6_photo rfl rfl rfl (by decide +kernel) ⟨Nat.le_of_ble_eq_true rfl, Nat.le_of_ble_eq_true rfl⟩) (x_preV hK hP h00 (by decide) rfl) rfl rfl hl.1 rfl (lv_room (Nat.le_of_ble_eq_true rfl)) dL_acts_613 ⟨Nat.le_of_ble_eq_true rfl, Nat.le_of_ble_eq_true rfl⟩) hS (fun r613 E1_27 H locs q613 hP hS => ?_)
                    obtain ⟨q613, hX, -⟩ := q613
                    have h00 := hX.at0
                    obtain rfl : r613 = (zM z1) 1 k + 1000 := v_ph1 hv1 hk1 q613
                    refine lv_iload S.1 S.2.1 dL_acts_616 (lv_at hl 3 rfl) ?_
                    refine lv_sipush (v := 1000) S.1 S.2.1 dL_acts_618 (by decide) ?_
                    refine lv_iadd S.1 S.2.1 dL_acts_621 ?_
                    refine lv_icmp_ne (tgt := 644) S.1 S.2.1 dL_acts_622 (by decide) (fun c622 => ?_) (fun c622 => ?_)
                    · skip
                      exact absurd (congrArg (fun q => q + 1000) (sM_1 hz1)) c622
                    · skip
                      refine lv_aload_n S.1 S.2.1 dL_acts_625 rfl (lv_at hl 6 rfl) ?_
                      refine lv_iload S.1 S.2.1 dL_acts_626 (lv_at hl 4 rfl) ?_
                      refine lv_sipush (v := 401) S.1 S.2.1 dL_acts_628 (by decide) ?_
                      refine lv_iconst (v := 0) S.1 S.2.1 dL_acts_631 (by decide) ?_
                      refine x_qi (va_runV (As := [.int (nI k), .int 401, .int 0]) (rest := []) S (c_X6_move l g hJ E1_27 hX hv1 (nI k) 401 0) (cwV 3 S.2.2.2.2 gL_acts_X6_move rfl rfl rfl (by decide +kernel) ⟨Nat.le_of_ble_eq_true rfl, Nat.le_of_ble_eq_true rfl⟩) (x_preV hK hP h00 (by decide) rfl) rfl rfl hl.1 rfl (lv_room (Nat.le_of_ble_eq_true rfl)) dL_acts_632 ⟨Nat.le_of_ble_eq_true rfl, Nat.le_of_ble_eq_true rfl⟩) hS (fun r632 E1_28 H locs q632 hP hS => ?_)
                      obtain ⟨z9, q632, hX, -⟩ := q632
                      obtain ⟨rfl, hz9⟩ := mv_2 hk1 (by decide) q632
                      rw [hz9] at hX
                      have h00 := hX.at0
                      refine lv_bipush (v := (-2)) S.1 S.2.1 dL_acts_635 (by decide) ?_
                      refine lv_icmp_ne (tgt := 644) S.1 S.2.1 dL_acts_637 (by decide) (fun c637 => ?_) (fun c637 => ?_)
                      · skip
                        exact absurd c637 (by decide)
                      · skip
                        refine lv_iconst (v := 1) S.1 S.2.1 dL_acts_640 (by decide) ?_
                        refine lv_goto (tgt := 645) S.1 S.2.1 dL_acts_641 (by decide) ?_
                        exact x_zret S hr hlocks hP hS dL_acts_645 rfl (⟨rfl, z1, hX, hv1, vQ_rec hQ (ok5_set (ok5_set hQ.1 (by decide) (by decide)) (by decide) (by decide)) hz1, Or.inr ⟨_, _, hz1⟩⟩)
                · skip
                  refine lv_iconst (v := 0) S.1 S.2.1 dL_acts_597 (by decide) ?_
                  refine lv_goto (tgt := 606) S.1 S.2.1 dL_acts_598 (by decide) ?_
                  refine lv_icmp_ne (tgt := 644) S.1 S.2.1 dL_acts_606 (by decide) (fun c606 => ?_) (fun c606 => ?_)
                  · skip
                    exact absurd (hr9.trans (mv_b0 hb9 c594)) c606
                  · skip
                    refine lv_aload_n S.1 S.2.1 dL_acts_609 rfl (lv_at hl 6 rfl) ?_
                    refine lv_iload S.1 S.2.1 dL_acts_610 (lv_at hl 4 rfl) ?_
                    refine lv_iconst (v := 1) S.1 S.2.1 dL_acts_612 (by decide) ?_
                    refine x_qi (va_runV (As := [.int (nI k), .int 1]) (rest := []) S (c_X6_photo l g hJ E1_25 hX hv1 (nI k) 1) (cwV 2 S.2.2.2.2 gL_acts_X6_photo rfl rfl rfl (by decide +kernel) ⟨Nat.le_of_ble_eq_true rfl, Nat.le_of_ble_eq_true rfl⟩) (x_preV hK hP h00 (by decide) rfl) rfl rfl hl.1 rfl (lv_room (Nat.le_of_ble_eq_true rfl)) dL_acts_613 ⟨Nat.le_of_ble_eq_true rfl, Nat.le_of_ble_eq_true rfl⟩) hS (fun r613 E1_29 H locs q613 hP hS => ?_)
                    obtain ⟨q613, hX, -⟩ := q613
                    have h00 := hX.at0
                    obtain rfl : r613 = (zM z1) 1 k + 1000 := v_ph1 hv1 hk1 q613
                    refine lv_iload S.1 S.2.1 dL_acts_616 (lv_at hl 3 rfl) ?_
                    refine lv_sipush (v := 1000) S.1 S.2.1 dL_acts_618 (by decide) ?_
                    refine lv_iadd S.1 S.2.1 dL_acts_621 ?_
                    refine lv_icmp_ne (tgt := 644) S.1 S.2.1 dL_acts_622 (by decide) (fun c622 => ?_) (fun c622 => ?_)
                    · skip
                      exact absurd (congrArg (fun q => q + 1000) (sM_1 hz1)) c622
                    · skip
                      refine lv_aload_n S.1 S.2.1 dL_acts_625 rfl (lv_at hl 6 rfl) ?_
                      refine lv_iload S.1 S.2.1 dL_acts_626 (lv_at hl 4 rfl) ?_
                      refine lv_sipush (v := 401) S.1 S.2.1 dL_acts_628 (by decide) ?_
                      refine lv_iconst (v := 0) S.1 S.2.1 dL_acts_631 (by decide) ?_
                      refine x_qi (va_runV (As := [.int (nI k), .int 401, .int 0]) (rest := []) S (c_X6_move l g hJ E1_29 hX hv1 (nI k) 401 0) (cwV 3 S.2.2.2.2 gL_acts_X6_move rfl rfl rfl (by decide +kernel) ⟨Nat.le_of_ble_eq_true rfl, Nat.le_of_ble_eq_true rfl⟩) (x_preV hK hP h00 (by decide) rfl) rfl rfl hl.1 rfl (lv_room (Nat.le_of_ble_eq_true rfl)) dL_acts_632 ⟨Nat.le_of_ble_eq_true rfl, Nat.le_of_ble_eq_true rfl⟩) hS (fun r632 E1_30 H locs q632 hP hS => ?_)
                      obtain ⟨z9, q632, hX, -⟩ := q632
                      obtain ⟨rfl, hz9⟩ := mv_2 hk1 (by decide) q632
                      rw [hz9] at hX
                      have h00 := hX.at0
                      refine lv_bipush (v := (-2)) S.1 S.2.1 dL_acts_635 (by decide) ?_
                      refine lv_icmp_ne (tgt := 644) S.1 S.2.1 dL_acts_637 (by decide) (fun c637_1 => ?_) (fun c637_1 => ?_)
                      · skip
                        exact absurd c637_1 (by decide)
                      · skip
                        refine lv_iconst (v := 1) S.1 S.2.1 dL_acts_640 (by decide) ?_
                        refine lv_goto (tgt := 645) S.1 S.2.1 dL_acts_641 (by decide) ?_
                        exact x_zret S hr hlocks hP hS dL_acts_645 rfl (⟨rfl, z1, hX, hv1, vQ_rec hQ (ok5_set (ok5_set hQ.1 (by decide) (by decide)) (by decide) (by decide)) hz1, Or.inr ⟨_, _, hz1⟩⟩)
              · skip
                exact absurd c581 (by decide)
            · skip
              refine lv_aload_n S.1 S.2.1 dL_acts_542 rfl (lv_at hl 4 rfl) ?_
              refine lv_iload S.1 S.2.1 dL_acts_543 (lv_at hl 2 rfl) ?_
              refine lv_iconst (v := 2) S.1 S.2.1 dL_acts_545 (by decide) ?_
              refine x_qi (va_runV (As := [.int (nI k), .int 2]) (rest := []) S (c_X6_photo l g hJ E1_23 hX hv (nI k) 2) (cwV 2 S.2.2.2.2 gL_acts_X6_photo rfl rfl rfl (by decide +kernel) ⟨Nat.le_of_ble_eq_true rfl, Nat.le_of_ble_eq_true rfl⟩) (x_preV hK hP h00 (by decide) rfl) rfl rfl hl.1 rfl (lv_room (Nat.le_of_ble_eq_true rfl)) dL_acts_546 ⟨Nat.le_of_ble_eq_true rfl, Nat.le_of_ble_eq_true rfl⟩) hS (fun r546 E1_31 H locs q546 hP hS => ?_)
              obtain ⟨q546, hX, -⟩ := q546
              have h00 := hX.at0
              obtain rfl : r546 = (zM z) 2 k + 1000 := v_ph2 hv hk q546
              refine lv_iload S.1 S.2.1 dL_acts_549 (lv_at hl 0 rfl) ?_
              refine lv_sipush (v := 1000) S.1 S.2.1 dL_acts_551 (by decide) ?_
              refine lv_iadd S.1 S.2.1 dL_acts_554 ?_
              refine lv_icmp_ne (tgt := 562) S.1 S.2.1 dL_acts_555 (by decide) (fun c555 => ?_) (fun c555 => ?_)
              · skip
                refine lv_iconst (v := 0) S.1 S.2.1 dL_acts_562 (by decide) ?_
                refine lv_istore (lv' := [(8, .int 0), (7, .int vy), (6, .int vx), (5, .int (nI k)), (4, .int (nI (zn z))), (0, .ref (xad g 0)), (1, .int so), (2, .int gg), (3, .int hh)]) S.1 S.2.1 dL_acts_563 hl (by decide) rfl (fun ls hl => ?_)
                refine lv_aload_n S.1 S.2.1 dL_acts_565 rfl (lv_at hl 5 rfl) ?_
                refine lv_iload S.1 S.2.1 dL_acts_566 (lv_at hl 3 rfl) ?_
                refine lv_iload S.1 S.2.1 dL_acts_568 (lv_at hl 2 rfl) ?_
                refine lv_iload S.1 S.2.1 dL_acts_570 (lv_at hl 1 rfl) ?_
                refine x_qi (va_runV (As := [.int (nI k), .int vx, .int vy]) (rest := []) S (c_X6_move l g hJ E1_31 hX hv (nI k) vx vy) (cwV 3 S.2.2.2.2 gL_acts_X6_move rfl rfl rfl (by decide +kernel) ⟨Nat.le_of_ble_eq_true rfl, Nat.le_of_ble_eq_true rfl⟩) (x_preV hK hP h00 (by decide) rfl) rfl rfl hl.1 rfl (lv_room (Nat.le_of_ble_eq_true rfl)) dL_acts_572 ⟨Nat.le_of_ble_eq_true rfl, Nat.le_of_ble_eq_true rfl⟩) hS (fun r572 E1_32 H locs q572 hP hS => ?_)
                obtain ⟨z1, q572, hX, -⟩ := q572
                have h00 := hX.at0
                obtain ⟨hz1, v9, hm9, hr9⟩ := mv_n hv hk hvxr hvyr (fun h => c555 (by rw [h.2])) q572
                have hv1 := sp_move.vS hv q572
                have hk1 : k < zn z1 := by rw [zn_w hz1]; exact hk
                refine lv_istore (lv' := [(9, .int r572), (8, .int 0), (7, .int vy), (6, .int vx), (5, .int (nI k)), (4, .int (nI (zn z))), (0, .ref (xad g 0)), (1, .int so), (2, .int gg), (3, .int hh)]) S.1 S.2.1 dL_acts_575 hl (by decide) rfl (fun ls hl => ?_)
                refine lv_iload S.1 S.2.1 dL_acts_577 (lv_at hl 0 rfl) ?_
                refine lv_iload S.1 S.2.1 dL_acts_579 (lv_at hl 1 rfl) ?_
                refine lv_if_eq (tgt := 589) S.1 S.2.1 dL_acts_581 (by decide) (fun c581_1 => ?_) (fun c581_1 => ?_)
                · skip
                  refine lv_aload_n S.1 S.2.1 dL_acts_589 rfl (lv_at hl 6 rfl) ?_
                  refine lv_iconst (v := 3) S.1 S.2.1 dL_acts_590 (by decide) ?_
                  refine x_qi (va_runV (As := [.int 3]) (rest := [.int r572]) S (c_X6_best l g hJ E1_32 hX hv1 3) (cwV 1 S.2.2.2.2 gL_acts_X6_best rfl rfl rfl (by decide +kernel) ⟨Nat.le_of_ble_eq_true rfl, Nat.le_of_ble_eq_true rfl⟩) (x_preV hK hP h00 (by decide) rfl) rfl rfl hl.1 rfl (lv_room (Nat.le_of_ble_eq_true rfl)) dL_acts_591 ⟨Nat.le_of_ble_eq_true rfl, Nat.le_of_ble_eq_true rfl⟩) hS (fun r591 E1_33 H locs q591 hP hS => ?_)
                  obtain ⟨q591, hX, -⟩ := q591
                  have h00 := hX.at0
                  have hb9 := mv_b hv1 hm9 q591
                  refine lv_if_ge (tgt := 601) S.1 S.2.1 dL_acts_594 (by decide) (fun c594 => ?_) (fun c594 => ?_)
                  · skip
                    refine lv_aload_n S.1 S.2.1 dL_acts_601 rfl (lv_at hl 6 rfl) ?_
                    refine lv_iconst (v := 3) S.1 S.2.1 dL_acts_602 (by decide) ?_
                    refine x_qi (va_runV (As := [.int 3]) (rest := [.int r572]) S (c_X6_best l g hJ E1_33 hX hv1 3) (cwV 1 S.2.2.2.2 gL_acts_X6_best rfl rfl rfl (by decide +kernel) ⟨Nat.le_of_ble_eq_true rfl, Nat.le_of_ble_eq_true rfl⟩) (x_preV hK hP h00 (by decide) rfl) rfl rfl hl.1 rfl (lv_room (Nat.le_of_ble_eq_true rfl)) dL_acts_603 ⟨Nat.le_of_ble_eq_true rfl, Nat.le_of_ble_eq_true rfl⟩) hS (fun r603 E1_34 H locs q603 hP hS => ?_)
                    obtain ⟨q603, hX, -⟩ := q603
                    have h00 := hX.at0
                    refine lv_icmp_ne (tgt := 644) S.1 S.2.1 dL_acts_606 (by decide) (fun c606 => ?_) (fun c606 => ?_)
                    · skip
                      exact absurd (hr9.trans ((mv_b1 hb9 c594).trans (sp_best.det hv1 q591 q603))) c606
                    · skip
                      refine lv_aload_n S.1 S.2.1 dL_acts_609 rfl (lv_at hl 6 rfl) ?_
                      refine lv_iload S.1 S.2.1 dL_acts_610 (lv_at hl 4 rfl) ?_
                      refine lv_iconst (v := 1) S.1 S.2.1 dL_acts_612 (by decide) ?_
                      refine x_qi (va_runV (As := [.int (nI k), .int 1]) (rest := []) S (c_X6_photo l g hJ E1_34 hX hv1 (nI k) 1) (cwV 2 S.2.2.2.2 gL_acts_X6_photo rfl rfl rfl (by decide +kernel) ⟨Nat.le_of_ble_eq_true rfl, Nat.le_of_ble_eq_true rfl⟩) (x_preV hK hP h00 (by decide) rfl) rfl rfl hl.1 rfl (lv_room (Nat.le_of_ble_eq_true rfl)) dL_acts_613 ⟨Nat.le_of_ble_eq_true rfl, Nat.le_of_ble_eq_true rfl⟩) hS (fun r613 E1_35 H locs q613 hP hS => ?_)
                      obtain ⟨q613, hX, -⟩ := q613
                      have h00 := hX.at0
                      obtain rfl : r613 = (zM z1) 1 k + 1000 := v_ph1 hv1 hk1 q613
                      refine lv_iload S.1 S.2.1 dL_acts_616 (lv_at hl 3 rfl) ?_
                      refine lv_sipush (v := 1000) S.1 S.2.1 dL_acts_618 (by decide) ?_
                      refine lv_iadd S.1 S.2.1 dL_acts_621 ?_
                      refine lv_icmp_ne (tgt := 644) S.1 S.2.1 dL_acts_622 (by decide) (fun c622 => ?_) (fun c622 => ?_)
                      · skip
                        exact absurd (congrArg (fun q => q + 1000) (sM_1 hz1)) c622
                      · skip
                        refine lv_aload_n S.1 S.2.1 dL_acts_625 rfl (lv_at hl 6 rfl) ?_
                        refine lv_iload S.1 S.2.1 dL_acts_626 (lv_at hl 4 rfl) ?_
                        refine lv_sipush (v := 401) S.1 S.2.1 dL_acts_628 (by decide) ?_
                        refine lv_iconst (v := 0) S.1 S.2.1 dL_acts_631 (by decide) ?_
                        refine x_qi (va_runV (As := [.int (nI k), .int 401, .int 0]) (rest := []) S (c_X6_move l g hJ E1_35 hX hv1 (nI k) 401 0) (cwV 3 S.2.2.2.2 gL_acts_X6_move rfl rfl rfl (by decide +kernel) ⟨Nat.le_of_ble_eq_true rfl, Nat.le_of_ble_eq_true rfl⟩) (x_preV hK hP h00 (by decide) rfl) rfl rfl hl.1 rfl (lv_room (Nat.le_of_ble_eq_true rfl)) dL_acts_632 ⟨Nat.le_of_ble_eq_true rfl, Nat.le_of_ble_eq_true rfl⟩) hS (fun r632 E1_36 H locs q632 hP hS => ?_)
                        obtain ⟨z9, q632, hX, -⟩ := q632
                        obtain ⟨rfl, hz9⟩ := mv_2 hk1 (by decide) q632
                        rw [hz9] at hX
                        have h00 := hX.at0
                        refine lv_bipush (v := (-2)) S.1 S.2.1 dL_acts_635 (by decide) ?_
                        refine lv_icmp_ne (tgt := 644) S.1 S.2.1 dL_acts_637 (by decide) (fun c637_2 => ?_) (fun c637_2 => ?_)
                        · skip
                          exact absurd c637_2 (by decide)
                        · skip
                          refine lv_iconst (v := 1) S.1 S.2.1 dL_acts_640 (by decide) ?_
                          refine lv_goto (tgt := 645) S.1 S.2.1 dL_acts_641 (by decide) ?_
                          exact x_zret S hr hlocks hP hS dL_acts_645 rfl (⟨rfl, z1, hX, hv1, vQ_rec hQ (ok5_set (ok5_set hQ.1 (by decide) (by decide)) (by decide) (by decide)) hz1, Or.inr ⟨_, _, hz1⟩⟩)
                  · skip
                    refine lv_iconst (v := 0) S.1 S.2.1 dL_acts_597 (by decide) ?_
                    refine lv_goto (tgt := 606) S.1 S.2.1 dL_acts_598 (by decide) ?_
                    refine lv_icmp_ne (tgt := 644) S.1 S.2.1 dL_acts_606 (by decide) (fun c606 => ?_) (fun c606 => ?_)
                    · skip
                      exact absurd (hr9.trans (mv_b0 hb9 c594)) c606
                    · skip
                      refine lv_aload_n S.1 S.2.1 dL_acts_609 rfl (lv_at hl 6 rfl) ?_
                      refine lv_iload S.1 S.2.1 dL_acts_610 (lv_at hl 4 rfl) ?_
                      refine lv_iconst (v := 1) S.1 S.2.1 dL_acts_612 (by decide) ?_
                      refine x_qi (va_runV (As := [.int (nI k), .int 1]) (rest := []) S (c_X6_photo l g hJ E1_33 hX hv1 (nI k) 1) (cwV 2 S.2.2.2.2 gL_acts_X6_photo rfl rfl rfl (by decide +kernel) ⟨Nat.le_of_ble_eq_true rfl, Nat.le_of_ble_eq_true rfl⟩) (x_preV hK hP h00 (by decide) rfl) rfl rfl hl.1 rfl (lv_room (Nat.le_of_ble_eq_true rfl)) dL_acts_613 ⟨Nat.le_of_ble_eq_true rfl, Nat.le_of_ble_eq_true rfl⟩) hS (fun r613 E1_37 H locs q613 hP hS => ?_)
                      obtain ⟨q613, hX, -⟩ := q613
                      have h00 := hX.at0
                      obtain rfl : r613 = (zM z1) 1 k + 1000 := v_ph1 hv1 hk1 q613
                      refine lv_iload S.1 S.2.1 dL_acts_616 (lv_at hl 3 rfl) ?_
                      refine lv_sipush (v := 1000) S.1 S.2.1 dL_acts_618 (by decide) ?_
                      refine lv_iadd S.1 S.2.1 dL_acts_621 ?_
                      refine lv_icmp_ne (tgt := 644) S.1 S.2.1 dL_acts_622 (by decide) (fun c622 => ?_) (fun c622 => ?_)
                      · skip
                        exact absurd (congrArg (fun q => q + 1000) (sM_1 hz1)) c622
                      · skip
                        refine lv_aload_n S.1 S.2.1 dL_acts_625 rfl (lv_at hl 6 rfl) ?_
                        refine lv_iload S.1 S.2.1 dL_acts_626 (lv_at hl 4 rfl) ?_
                        refine lv_sipush (v := 401) S.1 S.2.1 dL_acts_628 (by decide) ?_
                        refine lv_iconst (v := 0) S.1 S.2.1 dL_acts_631 (by decide) ?_
                        refine x_qi (va_runV (As := [.int (nI k), .int 401, .int 0]) (rest := []) S (c_X6_move l g hJ E1_37 hX hv1 (nI k) 401 0) (cwV 3 S.2.2.2.2 gL_acts_X6_move rfl rfl rfl (by decide +kernel) ⟨Nat.le_of_ble_eq_true rfl, Nat.le_of_ble_eq_true rfl⟩) (x_preV hK hP h00 (by decide) rfl) rfl rfl hl.1 rfl (lv_room (Nat.le_of_ble_eq_true rfl)) dL_acts_632 ⟨Nat.le_of_ble_eq_true rfl, Nat.le_of_ble_eq_true rfl⟩) hS (fun r632 E1_38 H locs q632 hP hS => ?_)
                        obtain ⟨z9, q632, hX, -⟩ := q632
                        obtain ⟨rfl, hz9⟩ := mv_2 hk1 (by decide) q632
                        rw [hz9] at hX
                        have h00 := hX.at0
                        refine lv_bipush (v := (-2)) S.1 S.2.1 dL_acts_635 (by decide) ?_
                        refine lv_icmp_ne (tgt := 644) S.1 S.2.1 dL_acts_637 (by decide) (fun c637_3 => ?_) (fun c637_3 => ?_)
                        · skip
                          exact absurd c637_3 (by decide)
                        · skip
                          refine lv_iconst (v := 1) S.1 S.2.1 dL_acts_640 (by decide) ?_
                          refine lv_goto (tgt := 645) S.1 S.2.1 dL_acts_641 (by decide) ?_
                          exact x_zret S hr hlocks hP hS dL_acts_645 rfl (⟨rfl, z1, hX, hv1, vQ_rec hQ (ok5_set (ok5_set hQ.1 (by decide) (by decide)) (by decide) (by decide)) hz1, Or.inr ⟨_, _, hz1⟩⟩)
                · skip
                  exact absurd c581_1 (by decide)
              · skip
                refine lv_iconst (v := 1) S.1 S.2.1 dL_acts_558 (by decide) ?_
                refine lv_goto (tgt := 563) S.1 S.2.1 dL_acts_559 (by decide) ?_
                refine lv_istore (lv' := [(8, .int 1), (7, .int vy), (6, .int vx), (5, .int (nI k)), (4, .int (nI (zn z))), (0, .ref (xad g 0)), (1, .int so), (2, .int gg), (3, .int hh)]) S.1 S.2.1 dL_acts_563 hl (by decide) rfl (fun ls hl => ?_)
                refine lv_aload_n S.1 S.2.1 dL_acts_565 rfl (lv_at hl 5 rfl) ?_
                refine lv_iload S.1 S.2.1 dL_acts_566 (lv_at hl 3 rfl) ?_
                refine lv_iload S.1 S.2.1 dL_acts_568 (lv_at hl 2 rfl) ?_
                refine lv_iload S.1 S.2.1 dL_acts_570 (lv_at hl 1 rfl) ?_
                refine x_qi (va_runV (As := [.int (nI k), .int vx, .int vy]) (rest := []) S (c_X6_move l g hJ E1_31 hX hv (nI k) vx vy) (cwV 3 S.2.2.2.2 gL_acts_X6_move rfl rfl rfl (by decide +kernel) ⟨Nat.le_of_ble_eq_true rfl, Nat.le_of_ble_eq_true rfl⟩) (x_preV hK hP h00 (by decide) rfl) rfl rfl hl.1 rfl (lv_room (Nat.le_of_ble_eq_true rfl)) dL_acts_572 ⟨Nat.le_of_ble_eq_true rfl, Nat.le_of_ble_eq_true rfl⟩) hS (fun r572 E1_39 H locs q572 hP hS => ?_)
                obtain ⟨z1, q572, hX, -⟩ := q572
                have h00 := hX.at0
                obtain ⟨rfl, hz1⟩ := mv_s hv hk hvxr hvyr (I_ac c539) (I_ac c555) q572
                rw [hz1] at hX
                have h00 := hX.at0
                refine lv_istore (lv' := [(9, .int (-5)), (8, .int 1), (7, .int vy), (6, .int vx), (5, .int (nI k)), (4, .int (nI (zn z))), (0, .ref (xad g 0)), (1, .int so), (2, .int gg), (3, .int hh)]) S.1 S.2.1 dL_acts_575 hl (by decide) rfl (fun ls hl => ?_)
                refine lv_iload S.1 S.2.1 dL_acts_577 (lv_at hl 0 rfl) ?_
                refine lv_iload S.1 S.2.1 dL_acts_579 (lv_at hl 1 rfl) ?_
                refine lv_if_eq (tgt := 589) S.1 S.2.1 dL_acts_581 (by decide) (fun c581_2 => ?_) (fun c581_2 => ?_)
                · skip
                  exact absurd c581_2 (by decide)
                · skip
                  refine lv_bipush (v := (-5)) S.1 S.2.1 dL_acts_584 (by decide) ?_
                  refine lv_goto (tgt := 606) S.1 S.2.1 dL_acts_586 (by decide) ?_
                  refine lv_icmp_ne (tgt := 644) S.1 S.2.1 dL_acts_606 (by decide) (fun c606 => ?_) (fun c606 => ?_)
                  · skip
                    exact absurd c606 (by decide)
                  · skip
                    refine lv_aload_n S.1 S.2.1 dL_acts_609 rfl (lv_at hl 6 rfl) ?_
                    refine lv_iload S.1 S.2.1 dL_acts_610 (lv_at hl 4 rfl) ?_
                    refine lv_iconst (v := 1) S.1 S.2.1 dL_acts_612 (by decide) ?_
                    refine x_qi (va_runV (As := [.int (nI k), .int 1]) (rest := []) S (c_X6_photo l g hJ E1_39 hX hv (nI k) 1) (cwV 2 S.2.2.2.2 gL_acts_X6_photo rfl rfl rfl (by decide +kernel) ⟨Nat.le_of_ble_eq_true rfl, Nat.le_of_ble_eq_true rfl⟩) (x_preV hK hP h00 (by decide) rfl) rfl rfl hl.1 rfl (lv_room (Nat.le_of_ble_eq_true rfl)) dL_acts_613 ⟨Nat.le_of_ble_eq_true rfl, Nat.le_of_ble_eq_true rfl⟩) hS (fun r613 E1_40 H locs q613 hP hS => ?_)
                    obtain ⟨q613, hX, -⟩ := q613
                    have h00 := hX.at0
                    obtain rfl : r613 = (zM z) 1 k + 1000 := v_ph1 hv hk q613
                    refine lv_iload S.1 S.2.1 dL_acts_616 (lv_at hl 3 rfl) ?_
                    refine lv_sipush (v := 1000) S.1 S.2.1 dL_acts_618 (by decide) ?_
                    refine lv_iadd S.1 S.2.1 dL_acts_621 ?_
                    refine lv_icmp_ne (tgt := 644) S.1 S.2.1 dL_acts_622 (by decide) (fun c622 => ?_) (fun c622 => ?_)
                    · skip
                      exact absurd c539 c622
                    · skip
                      refine lv_aload_n S.1 S.2.1 dL_acts_625 rfl (lv_at hl 6 rfl) ?_
                      refine lv_iload S.1 S.2.1 dL_acts_626 (lv_at hl 4 rfl) ?_
                      refine lv_sipush (v := 401) S.1 S.2.1 dL_acts_628 (by decide) ?_
                      refine lv_iconst (v := 0) S.1 S.2.1 dL_acts_631 (by decide) ?_
                      refine x_qi (va_runV (As := [.int (nI k), .int 401, .int 0]) (rest := []) S (c_X6_move l g hJ E1_40 hX hv (nI k) 401 0) (cwV 3 S.2.2.2.2 gL_acts_X6_move rfl rfl rfl (by decide +kernel) ⟨Nat.le_of_ble_eq_true rfl, Nat.le_of_ble_eq_true rfl⟩) (x_preV hK hP h00 (by decide) rfl) rfl rfl hl.1 rfl (lv_room (Nat.le_of_ble_eq_true rfl)) dL_acts_632 ⟨Nat.le_of_ble_eq_true rfl, Nat.le_of_ble_eq_true rfl⟩) hS (fun r632 E1_41 H locs q632 hP hS => ?_)
                      obtain ⟨z9, q632, hX, -⟩ := q632
                      obtain ⟨rfl, hz9⟩ := mv_2 hk (by decide) q632
                      rw [hz9] at hX
                      have h00 := hX.at0
                      refine lv_bipush (v := (-2)) S.1 S.2.1 dL_acts_635 (by decide) ?_
                      refine lv_icmp_ne (tgt := 644) S.1 S.2.1 dL_acts_637 (by decide) (fun c637_4 => ?_) (fun c637_4 => ?_)
                      · skip
                        exact absurd c637_4 (by decide)
                      · skip
                        refine lv_iconst (v := 1) S.1 S.2.1 dL_acts_640 (by decide) ?_
                        refine lv_goto (tgt := 645) S.1 S.2.1 dL_acts_641 (by decide) ?_
                        exact x_zret S hr hlocks hP hS dL_acts_645 rfl (⟨rfl, z, hX, hv, hQ, Or.inl rfl⟩)
        · skip
          refine lv_iload_n S.1 S.2.1 dL_acts_350 rfl (lv_at hl 7 rfl) ?_
          refine lv_sipush (v := 361) S.1 S.2.1 dL_acts_351 (by decide) ?_
          refine W.eq (g2 := F0 m 354 ls [.int (nI 361), .int hh]) (by rw [show (361 : Int32) = nI 361 from rfl]) ?_
          refine x_si (va_runS (As := [.int hh, .int (nI 361)]) (rest := []) S (c_L_low l g E1 hh (d := 361) (by decide) (by decide)) (va_cwS 2 S.2.2.2.2 gL_acts_L_low rfl rfl rfl (by decide +kernel) ⟨Nat.le_of_ble_eq_true rfl, Nat.le_of_ble_eq_true rfl⟩) (x_preS hK hP) rfl rfl hl.1 rfl (lv_room (Nat.le_of_ble_eq_true rfl)) dL_acts_354 ⟨Nat.le_of_ble_eq_true rfl, Nat.le_of_ble_eq_true rfl⟩) (fun r354 hr354 => ?_)
          obtain ⟨an, han, rfl⟩ := hr354
          refine lv_istore (lv' := [(8, .int (nI an)), (7, .int vy), (6, .int vx), (5, .int (nI k)), (4, .int (nI (zn z))), (0, .ref (xad g 0)), (1, .int so), (2, .int gg), (3, .int hh)]) S.1 S.2.1 dL_acts_357 hl (by decide) rfl (fun ls hl => ?_)
          refine lv_iload S.1 S.2.1 dL_acts_359 (lv_at hl 0 rfl) ?_
          refine lv_sipush (v := 360) S.1 S.2.1 dL_acts_361 (by decide) ?_
          refine lv_icmp_ne (tgt := 371) S.1 S.2.1 dL_acts_364 (by decide) (fun c364 => ?_) (fun c364 => ?_)
          · skip
            refine lv_iload_n S.1 S.2.1 dL_acts_371 rfl (lv_at hl 8 rfl) ?_
            refine lv_bipush (v := 9) S.1 S.2.1 dL_acts_372 (by decide) ?_
            refine lv_ishr S.1 S.2.1 dL_acts_374 ?_
            refine lv_bipush (v := 61) S.1 S.2.1 dL_acts_375 (by decide) ?_
            refine W.eq (g2 := F0 m 377 ls [.int (nI 61), .int (hh >>> (9 &&& 31))]) (by rw [show (61 : Int32) = nI 61 from rfl]) ?_
            refine x_si (va_runS (As := [.int (hh >>> (9 &&& 31)), .int (nI 61)]) (rest := []) S (c_L_low l g E1 (hh >>> (9 &&& 31)) (d := 61) (by decide) (by decide)) (va_cwS 2 S.2.2.2.2 gL_acts_L_low rfl rfl rfl (by decide +kernel) ⟨Nat.le_of_ble_eq_true rfl, Nat.le_of_ble_eq_true rfl⟩) (x_preS hK hP) rfl rfl hl.1 rfl (lv_room (Nat.le_of_ble_eq_true rfl)) dL_acts_377 ⟨Nat.le_of_ble_eq_true rfl, Nat.le_of_ble_eq_true rfl⟩) (fun r377 hr377 => ?_)
            obtain ⟨er, her, rfl⟩ := hr377
            refine lv_istore (lv' := [(9, .int (nI er)), (8, .int (nI an)), (7, .int vy), (6, .int vx), (5, .int (nI k)), (4, .int (nI (zn z))), (0, .ref (xad g 0)), (1, .int so), (2, .int gg), (3, .int hh)]) S.1 S.2.1 dL_acts_380 hl (by decide) rfl (fun ls hl => ?_)
            refine lv_aload_n S.1 S.2.1 dL_acts_382 rfl (lv_at hl 6 rfl) ?_
            refine lv_iload S.1 S.2.1 dL_acts_383 (lv_at hl 4 rfl) ?_
            refine lv_iconst (v := 4) S.1 S.2.1 dL_acts_385 (by decide) ?_
            refine x_qi (va_runV (As := [.int (nI k), .int 4]) (rest := []) S (c_X6_photo l g hJ E1 hX hv (nI k) 4) (cwV 2 S.2.2.2.2 gL_acts_X6_photo rfl rfl rfl (by decide +kernel) ⟨Nat.le_of_ble_eq_true rfl, Nat.le_of_ble_eq_true rfl⟩) (x_preV hK hP h00 (by decide) rfl) rfl rfl hl.1 rfl (lv_room (Nat.le_of_ble_eq_true rfl)) dL_acts_386 ⟨Nat.le_of_ble_eq_true rfl, Nat.le_of_ble_eq_true rfl⟩) hS (fun r386 E1_42 H locs q386 hP hS => ?_)
            obtain ⟨q386, hX, -⟩ := q386
            have h00 := hX.at0
            obtain rfl : r386 = an4 (zM z) k := v_ph4 hv hk q386
            refine lv_istore (lv' := [(10, .int (an4 (zM z) k)), (9, .int (nI er)), (8, .int (nI an)), (7, .int vy), (6, .int vx), (5, .int (nI k)), (4, .int (nI (zn z))), (0, .ref (xad g 0)), (1, .int so), (2, .int gg), (3, .int hh)]) S.1 S.2.1 dL_acts_389 hl (by decide) rfl (fun ls hl => ?_)
            refine lv_iload S.1 S.2.1 dL_acts_391 (lv_at hl 2 rfl) ?_
            refine lv_sipush (v := 360) S.1 S.2.1 dL_acts_393 (by decide) ?_
            refine lv_icmp_ne (tgt := 412) S.1 S.2.1 dL_acts_396 (by decide) (fun c396 => ?_) (fun c396 => ?_)
            · skip
              refine lv_iload S.1 S.2.1 dL_acts_412 (lv_at hl 0 rfl) ?_
              refine lv_iload S.1 S.2.1 dL_acts_414 (lv_at hl 2 rfl) ?_
              refine lv_icmp_ne (tgt := 435) S.1 S.2.1 dL_acts_416 (by decide) (fun c416 => ?_) (fun c416 => ?_)
              · skip
                refine lv_iconst (v := 0) S.1 S.2.1 dL_acts_435 (by decide) ?_
                refine lv_istore (lv' := [(11, .int 0), (10, .int (an4 (zM z) k)), (9, .int (nI er)), (8, .int (nI an)), (7, .int vy), (6, .int vx), (5, .int (nI k)), (4, .int (nI (zn z))), (0, .ref (xad g 0)), (1, .int so), (2, .int gg), (3, .int hh)]) S.1 S.2.1 dL_acts_436 hl (by decide) rfl (fun ls hl => ?_)
                refine lv_aload_n S.1 S.2.1 dL_acts_438 rfl (lv_at hl 8 rfl) ?_
                refine lv_iload S.1 S.2.1 dL_acts_439 (lv_at hl 6 rfl) ?_
                refine lv_iload S.1 S.2.1 dL_acts_441 (lv_at hl 3 rfl) ?_
                refine lv_iload S.1 S.2.1 dL_acts_443 (lv_at hl 2 rfl) ?_
                refine x_qi (va_runV (As := [.int (nI k), .int (nI an), .int (nI er)]) (rest := []) S (c_X6_setAngle l g hJ E1_42 hX hv (nI k) (nI an) (nI er)) (cwV 3 S.2.2.2.2 gL_acts_X6_setAngle rfl rfl rfl (by decide +kernel) ⟨Nat.le_of_ble_eq_true rfl, Nat.le_of_ble_eq_true rfl⟩) (x_preV hK hP h00 (by decide) rfl) rfl rfl hl.1 rfl (lv_room (Nat.le_of_ble_eq_true rfl)) dL_acts_445 ⟨Nat.le_of_ble_eq_true rfl, Nat.le_of_ble_eq_true rfl⟩) hS (fun r445 E1_43 H locs q445 hP hS => ?_)
                obtain ⟨z1, q445, hX, -⟩ := q445
                have h00 := hX.at0
                obtain ⟨rfl, hz1⟩ := sA_n hv hk (ang_ok han (er_ok her) (fun h => absurd h c364)) (fun h => an_ne c364 c416 h.1) q445
                have hv1 := sp_setAngle.vS hv q445
                have hk1 : k < zn z1 := by rw [zn_w hz1]; exact hk
                refine lv_iload S.1 S.2.1 dL_acts_448 (lv_at hl 0 rfl) ?_
                refine lv_if_eq (tgt := 458) S.1 S.2.1 dL_acts_450 (by decide) (fun c450 => ?_) (fun c450 => ?_)
                · skip
                  refine lv_iload S.1 S.2.1 dL_acts_458 (lv_at hl 1 rfl) ?_
                  refine lv_if_ge (tgt := 469) S.1 S.2.1 dL_acts_460 (by decide) (fun c460 => ?_) (fun c460 => ?_)
                  · skip
                    refine lv_iload S.1 S.2.1 dL_acts_469 (lv_at hl 1 rfl) ?_
                    refine lv_icmp_ne (tgt := 518) S.1 S.2.1 dL_acts_471 (by decide) (fun c471 => ?_) (fun c471 => ?_)
                    · skip
                      exact absurd (an_pos hvM hk c460).2.symm c471
                    · skip
                      refine lv_aload_n S.1 S.2.1 dL_acts_474 rfl (lv_at hl 8 rfl) ?_
                      refine lv_iload S.1 S.2.1 dL_acts_475 (lv_at hl 6 rfl) ?_
                      refine lv_iconst (v := 4) S.1 S.2.1 dL_acts_477 (by decide) ?_
                      refine x_qi (va_runV (As := [.int (nI k), .int 4]) (rest := []) S (c_X6_photo l g hJ E1_43 hX hv1 (nI k) 4) (cwV 2 S.2.2.2.2 gL_acts_X6_photo rfl rfl rfl (by decide +kernel) ⟨Nat.le_of_ble_eq_true rfl, Nat.le_of_ble_eq_true rfl⟩) (x_preV hK hP h00 (by decide) rfl) rfl rfl hl.1 rfl (lv_room (Nat.le_of_ble_eq_true rfl)) dL_acts_478 ⟨Nat.le_of_ble_eq_true rfl, Nat.le_of_ble_eq_true rfl⟩) hS (fun r478 E1_44 H locs q478 hP hS => ?_)
                      obtain ⟨q478, hX, -⟩ := q478
                      have h00 := hX.at0
                      obtain rfl : r478 = an4 (zM z1) k := v_ph4 hv1 hk1 q478
                      refine lv_iload S.1 S.2.1 dL_acts_481 (lv_at hl 3 rfl) ?_
                      refine lv_sipush (v := 360) S.1 S.2.1 dL_acts_483 (by decide) ?_
                      refine lv_icmp_ne (tgt := 494) S.1 S.2.1 dL_acts_486 (by decide) (fun c486 => ?_) (fun c486 => ?_)
                      · skip
                        refine lv_iload S.1 S.2.1 dL_acts_494 (lv_at hl 3 rfl) ?_
                        refine lv_icmp_ne (tgt := 518) S.1 S.2.1 dL_acts_496 (by decide) (fun c496 => ?_) (fun c496 => ?_)
                        · skip
                          exact absurd (an4_of c364 (sM_4 hz1)) c496
                        · skip
                          refine lv_aload_n S.1 S.2.1 dL_acts_499 rfl (lv_at hl 8 rfl) ?_
                          refine lv_iload S.1 S.2.1 dL_acts_500 (lv_at hl 6 rfl) ?_
                          refine lv_sipush (v := 360) S.1 S.2.1 dL_acts_502 (by decide) ?_
                          refine lv_iconst (v := 1) S.1 S.2.1 dL_acts_505 (by decide) ?_
                          refine x_qi (va_runV (As := [.int (nI k), .int 360, .int 1]) (rest := []) S (c_X6_setAngle l g hJ E1_44 hX hv1 (nI k) 360 1) (cwV 3 S.2.2.2.2 gL_acts_X6_setAngle rfl rfl rfl (by decide +kernel) ⟨Nat.le_of_ble_eq_true rfl, Nat.le_of_ble_eq_true rfl⟩) (x_preV hK hP h00 (by decide) rfl) rfl rfl hl.1 rfl (lv_room (Nat.le_of_ble_eq_true rfl)) dL_acts_506 ⟨Nat.le_of_ble_eq_true rfl, Nat.le_of_ble_eq_true rfl⟩) hS (fun r506 E1_45 H locs q506 hP hS => ?_)
                          obtain ⟨z9, q506, hX, -⟩ := q506
                          obtain ⟨rfl, hz9⟩ := sA_2 hk1 no361 q506
                          rw [hz9] at hX
                          have h00 := hX.at0
                          refine lv_bipush (v := (-2)) S.1 S.2.1 dL_acts_509 (by decide) ?_
                          refine lv_icmp_ne (tgt := 518) S.1 S.2.1 dL_acts_511 (by decide) (fun c511 => ?_) (fun c511 => ?_)
                          · skip
                            exact absurd c511 (by decide)
                          · skip
                            refine lv_iconst (v := 1) S.1 S.2.1 dL_acts_514 (by decide) ?_
                            refine lv_goto (tgt := 519) S.1 S.2.1 dL_acts_515 (by decide) ?_
                            exact x_zret S hr hlocks hP hS dL_acts_519 rfl (⟨rfl, z1, hX, hv1, vQ_rec hQ (ok5_sA hQ.1 (fun h => absurd h c364)) hz1, Or.inr ⟨_, _, hz1⟩⟩)
                      · skip
                        exact absurd c486 c364
                  · skip
                    refine lv_sipush (v := 360) S.1 S.2.1 dL_acts_463 (by decide) ?_
                    refine lv_goto (tgt := 471) S.1 S.2.1 dL_acts_466 (by decide) ?_
                    refine lv_icmp_ne (tgt := 518) S.1 S.2.1 dL_acts_471 (by decide) (fun c471 => ?_) (fun c471 => ?_)
                    · skip
                      exact absurd (an_neg hvM hk c460).1 c471
                    · skip
                      refine lv_aload_n S.1 S.2.1 dL_acts_474 rfl (lv_at hl 8 rfl) ?_
                      refine lv_iload S.1 S.2.1 dL_acts_475 (lv_at hl 6 rfl) ?_
                      refine lv_iconst (v := 4) S.1 S.2.1 dL_acts_477 (by decide) ?_
                      refine x_qi (va_runV (As := [.int (nI k), .int 4]) (rest := []) S (c_X6_photo l g hJ E1_43 hX hv1 (nI k) 4) (cwV 2 S.2.2.2.2 gL_acts_X6_photo rfl rfl rfl (by decide +kernel) ⟨Nat.le_of_ble_eq_true rfl, Nat.le_of_ble_eq_true rfl⟩) (x_preV hK hP h00 (by decide) rfl) rfl rfl hl.1 rfl (lv_room (Nat.le_of_ble_eq_true rfl)) dL_acts_478 ⟨Nat.le_of_ble_eq_true rfl, Nat.le_of_ble_eq_true rfl⟩) hS (fun r478 E1_46 H locs q478 hP hS => ?_)
                      obtain ⟨q478, hX, -⟩ := q478
                      have h00 := hX.at0
                      obtain rfl : r478 = an4 (zM z1) k := v_ph4 hv1 hk1 q478
                      refine lv_iload S.1 S.2.1 dL_acts_481 (lv_at hl 3 rfl) ?_
                      refine lv_sipush (v := 360) S.1 S.2.1 dL_acts_483 (by decide) ?_
                      refine lv_icmp_ne (tgt := 494) S.1 S.2.1 dL_acts_486 (by decide) (fun c486 => ?_) (fun c486 => ?_)
                      · skip
                        refine lv_iload S.1 S.2.1 dL_acts_494 (lv_at hl 3 rfl) ?_
                        refine lv_icmp_ne (tgt := 518) S.1 S.2.1 dL_acts_496 (by decide) (fun c496 => ?_) (fun c496 => ?_)
                        · skip
                          exact absurd (an4_of c364 (sM_4 hz1)) c496
                        · skip
                          refine lv_aload_n S.1 S.2.1 dL_acts_499 rfl (lv_at hl 8 rfl) ?_
                          refine lv_iload S.1 S.2.1 dL_acts_500 (lv_at hl 6 rfl) ?_
                          refine lv_sipush (v := 360) S.1 S.2.1 dL_acts_502 (by decide) ?_
                          refine lv_iconst (v := 1) S.1 S.2.1 dL_acts_505 (by decide) ?_
                          refine x_qi (va_runV (As := [.int (nI k), .int 360, .int 1]) (rest := []) S (c_X6_setAngle l g hJ E1_46 hX hv1 (nI k) 360 1) (cwV 3 S.2.2.2.2 gL_acts_X6_setAngle rfl rfl rfl (by decide +kernel) ⟨Nat.le_of_ble_eq_true rfl, Nat.le_of_ble_eq_true rfl⟩) (x_preV hK hP h00 (by decide) rfl) rfl rfl hl.1 rfl (lv_room (Nat.le_of_ble_eq_true rfl)) dL_acts_506 ⟨Nat.le_of_ble_eq_true rfl, Nat.le_of_ble_eq_true rfl⟩) hS (fun r506 E1_47 H locs q506 hP hS => ?_)
                          obtain ⟨z9, q506, hX, -⟩ := q506
                          obtain ⟨rfl, hz9⟩ := sA_2 hk1 no361 q506
                          rw [hz9] at hX
                          have h00 := hX.at0
                          refine lv_bipush (v := (-2)) S.1 S.2.1 dL_acts_509 (by decide) ?_
                          refine lv_icmp_ne (tgt := 518) S.1 S.2.1 dL_acts_511 (by decide) (fun c511_1 => ?_) (fun c511_1 => ?_)
                          · skip
                            exact absurd c511_1 (by decide)
                          · skip
                            refine lv_iconst (v := 1) S.1 S.2.1 dL_acts_514 (by decide) ?_
                            refine lv_goto (tgt := 519) S.1 S.2.1 dL_acts_515 (by decide) ?_
                            exact x_zret S hr hlocks hP hS dL_acts_519 rfl (⟨rfl, z1, hX, hv1, vQ_rec hQ (ok5_sA hQ.1 (fun h => absurd h c364)) hz1, Or.inr ⟨_, _, hz1⟩⟩)
                      · skip
                        exact absurd c486 c364
                · skip
                  exact absurd c450 (by decide)
              · skip
                refine lv_aload_n S.1 S.2.1 dL_acts_419 rfl (lv_at hl 7 rfl) ?_
                refine lv_iload S.1 S.2.1 dL_acts_420 (lv_at hl 5 rfl) ?_
                refine lv_iconst (v := 5) S.1 S.2.1 dL_acts_422 (by decide) ?_
                refine x_qi (va_runV (As := [.int (nI k), .int 5]) (rest := []) S (c_X6_photo l g hJ E1_42 hX hv (nI k) 5) (cwV 2 S.2.2.2.2 gL_acts_X6_photo rfl rfl rfl (by decide +kernel) ⟨Nat.le_of_ble_eq_true rfl, Nat.le_of_ble_eq_true rfl⟩) (x_preV hK hP h00 (by decide) rfl) rfl rfl hl.1 rfl (lv_room (Nat.le_of_ble_eq_true rfl)) dL_acts_423 ⟨Nat.le_of_ble_eq_true rfl, Nat.le_of_ble_eq_true rfl⟩) hS (fun r423 E1_48 H locs q423 hP hS => ?_)
                obtain ⟨q423, hX, -⟩ := q423
                have h00 := hX.at0
                obtain rfl : r423 = an5 (zM z) k := v_ph5 hv hk q423
                refine lv_iload S.1 S.2.1 dL_acts_426 (lv_at hl 1 rfl) ?_
                refine lv_icmp_ne (tgt := 435) S.1 S.2.1 dL_acts_428 (by decide) (fun c428 => ?_) (fun c428 => ?_)
                · skip
                  refine lv_iconst (v := 0) S.1 S.2.1 dL_acts_435 (by decide) ?_
                  refine lv_istore (lv' := [(11, .int 0), (10, .int (an4 (zM z) k)), (9, .int (nI er)), (8, .int (nI an)), (7, .int vy), (6, .int vx), (5, .int (nI k)), (4, .int (nI (zn z))), (0, .ref (xad g 0)), (1, .int so), (2, .int gg), (3, .int hh)]) S.1 S.2.1 dL_acts_436 hl (by decide) rfl (fun ls hl => ?_)
                  refine lv_aload_n S.1 S.2.1 dL_acts_438 rfl (lv_at hl 8 rfl) ?_
                  refine lv_iload S.1 S.2.1 dL_acts_439 (lv_at hl 6 rfl) ?_
                  refine lv_iload S.1 S.2.1 dL_acts_441 (lv_at hl 3 rfl) ?_
                  refine lv_iload S.1 S.2.1 dL_acts_443 (lv_at hl 2 rfl) ?_
                  refine x_qi (va_runV (As := [.int (nI k), .int (nI an), .int (nI er)]) (rest := []) S (c_X6_setAngle l g hJ E1_48 hX hv (nI k) (nI an) (nI er)) (cwV 3 S.2.2.2.2 gL_acts_X6_setAngle rfl rfl rfl (by decide +kernel) ⟨Nat.le_of_ble_eq_true rfl, Nat.le_of_ble_eq_true rfl⟩) (x_preV hK hP h00 (by decide) rfl) rfl rfl hl.1 rfl (lv_room (Nat.le_of_ble_eq_true rfl)) dL_acts_445 ⟨Nat.le_of_ble_eq_true rfl, Nat.le_of_ble_eq_true rfl⟩) hS (fun r445 E1_49 H locs q445 hP hS => ?_)
                  obtain ⟨z1, q445, hX, -⟩ := q445
                  have h00 := hX.at0
                  obtain ⟨rfl, hz1⟩ := sA_n hv hk (ang_ok han (er_ok her) (fun h => absurd h c364)) (fun h => c428 ((an5_eq c364 (an_eq han c364 c416)).trans h.2)) q445
                  have hv1 := sp_setAngle.vS hv q445
                  have hk1 : k < zn z1 := by rw [zn_w hz1]; exact hk
                  refine lv_iload S.1 S.2.1 dL_acts_448 (lv_at hl 0 rfl) ?_
                  refine lv_if_eq (tgt := 458) S.1 S.2.1 dL_acts_450 (by decide) (fun c450_1 => ?_) (fun c450_1 => ?_)
                  · skip
                    refine lv_iload S.1 S.2.1 dL_acts_458 (lv_at hl 1 rfl) ?_
                    refine lv_if_ge (tgt := 469) S.1 S.2.1 dL_acts_460 (by decide) (fun c460 => ?_) (fun c460 => ?_)
                    · skip
                      refine lv_iload S.1 S.2.1 dL_acts_469 (lv_at hl 1 rfl) ?_
                      refine lv_icmp_ne (tgt := 518) S.1 S.2.1 dL_acts_471 (by decide) (fun c471 => ?_) (fun c471 => ?_)
                      · skip
                        exact absurd (an_pos hvM hk c460).2.symm c471
                      · skip
                        refine lv_aload_n S.1 S.2.1 dL_acts_474 rfl (lv_at hl 8 rfl) ?_
                        refine lv_iload S.1 S.2.1 dL_acts_475 (lv_at hl 6 rfl) ?_
                        refine lv_iconst (v := 4) S.1 S.2.1 dL_acts_477 (by decide) ?_
                        refine x_qi (va_runV (As := [.int (nI k), .int 4]) (rest := []) S (c_X6_photo l g hJ E1_49 hX hv1 (nI k) 4) (cwV 2 S.2.2.2.2 gL_acts_X6_photo rfl rfl rfl (by decide +kernel) ⟨Nat.le_of_ble_eq_true rfl, Nat.le_of_ble_eq_true rfl⟩) (x_preV hK hP h00 (by decide) rfl) rfl rfl hl.1 rfl (lv_room (Nat.le_of_ble_eq_true rfl)) dL_acts_478 ⟨Nat.le_of_ble_eq_true rfl, Nat.le_of_ble_eq_true rfl⟩) hS (fun r478 E1_50 H locs q478 hP hS => ?_)
                        obtain ⟨q478, hX, -⟩ := q478
                        have h00 := hX.at0
                        obtain rfl : r478 = an4 (zM z1) k := v_ph4 hv1 hk1 q478
                        refine lv_iload S.1 S.2.1 dL_acts_481 (lv_at hl 3 rfl) ?_
                        refine lv_sipush (v := 360) S.1 S.2.1 dL_acts_483 (by decide) ?_
                        refine lv_icmp_ne (tgt := 494) S.1 S.2.1 dL_acts_486 (by decide) (fun c486 => ?_) (fun c486 => ?_)
                        · skip
                          refine lv_iload S.1 S.2.1 dL_acts_494 (lv_at hl 3 rfl) ?_
                          refine lv_icmp_ne (tgt := 518) S.1 S.2.1 dL_acts_496 (by decide) (fun c496 => ?_) (fun c496 => ?_)
                          · skip
                            exact absurd (an4_of c364 (sM_4 hz1)) c496
                          · skip
                            refine lv_aload_n S.1 S.2.1 dL_acts_499 rfl (lv_at hl 8 rfl) ?_
                            refine lv_iload S.1 S.2.1 dL_acts_500 (lv_at hl 6 rfl) ?_
                            refine lv_sipush (v := 360) S.1 S.2.1 dL_acts_502 (by decide) ?_
                            refine lv_iconst (v := 1) S.1 S.2.1 dL_acts_505 (by decide) ?_
                            refine x_qi (va_runV (As := [.int (nI k), .int 360, .int 1]) (rest := []) S (c_X6_setAngle l g hJ E1_50 hX hv1 (nI k) 360 1) (cwV 3 S.2.2.2.2 gL_acts_X6_setAngle rfl rfl rfl (by decide +kernel) ⟨Nat.le_of_ble_eq_true rfl, Nat.le_of_ble_eq_true rfl⟩) (x_preV hK hP h00 (by decide) rfl) rfl rfl hl.1 rfl (lv_room (Nat.le_of_ble_eq_true rfl)) dL_acts_506 ⟨Nat.le_of_ble_eq_true rfl, Nat.le_of_ble_eq_true rfl⟩) hS (fun r506 E1_51 H locs q506 hP hS => ?_)
                            obtain ⟨z9, q506, hX, -⟩ := q506
                            obtain ⟨rfl, hz9⟩ := sA_2 hk1 no361 q506
                            rw [hz9] at hX
                            have h00 := hX.at0
                            refine lv_bipush (v := (-2)) S.1 S.2.1 dL_acts_509 (by decide) ?_
                            refine lv_icmp_ne (tgt := 518) S.1 S.2.1 dL_acts_511 (by decide) (fun c511_2 => ?_) (fun c511_2 => ?_)
                            · skip
                              exact absurd c511_2 (by decide)
                            · skip
                              refine lv_iconst (v := 1) S.1 S.2.1 dL_acts_514 (by decide) ?_
                              refine lv_goto (tgt := 519) S.1 S.2.1 dL_acts_515 (by decide) ?_
                              exact x_zret S hr hlocks hP hS dL_acts_519 rfl (⟨rfl, z1, hX, hv1, vQ_rec hQ (ok5_sA hQ.1 (fun h => absurd h c364)) hz1, Or.inr ⟨_, _, hz1⟩⟩)
                        · skip
                          exact absurd c486 c364
                    · skip
                      refine lv_sipush (v := 360) S.1 S.2.1 dL_acts_463 (by decide) ?_
                      refine lv_goto (tgt := 471) S.1 S.2.1 dL_acts_466 (by decide) ?_
                      refine lv_icmp_ne (tgt := 518) S.1 S.2.1 dL_acts_471 (by decide) (fun c471 => ?_) (fun c471 => ?_)
                      · skip
                        exact absurd (an_neg hvM hk c460).1 c471
                      · skip
                        refine lv_aload_n S.1 S.2.1 dL_acts_474 rfl (lv_at hl 8 rfl) ?_
                        refine lv_iload S.1 S.2.1 dL_acts_475 (lv_at hl 6 rfl) ?_
                        refine lv_iconst (v := 4) S.1 S.2.1 dL_acts_477 (by decide) ?_
                        refine x_qi (va_runV (As := [.int (nI k), .int 4]) (rest := []) S (c_X6_photo l g hJ E1_49 hX hv1 (nI k) 4) (cwV 2 S.2.2.2.2 gL_acts_X6_photo rfl rfl rfl (by decide +kernel) ⟨Nat.le_of_ble_eq_true rfl, Nat.le_of_ble_eq_true rfl⟩) (x_preV hK hP h00 (by decide) rfl) rfl rfl hl.1 rfl (lv_room (Nat.le_of_ble_eq_true rfl)) dL_acts_478 ⟨Nat.le_of_ble_eq_true rfl, Nat.le_of_ble_eq_true rfl⟩) hS (fun r478 E1_52 H locs q478 hP hS => ?_)
                        obtain ⟨q478, hX, -⟩ := q478
                        have h00 := hX.at0
                        obtain rfl : r478 = an4 (zM z1) k := v_ph4 hv1 hk1 q478
                        refine lv_iload S.1 S.2.1 dL_acts_481 (lv_at hl 3 rfl) ?_
                        refine lv_sipush (v := 360) S.1 S.2.1 dL_acts_483 (by decide) ?_
                        refine lv_icmp_ne (tgt := 494) S.1 S.2.1 dL_acts_486 (by decide) (fun c486 => ?_) (fun c486 => ?_)
                        · skip
                          refine lv_iload S.1 S.2.1 dL_acts_494 (lv_at hl 3 rfl) ?_
                          refine lv_icmp_ne (tgt := 518) S.1 S.2.1 dL_acts_496 (by decide) (fun c496 => ?_) (fun c496 => ?_)
                          · skip
                            exact absurd (an4_of c364 (sM_4 hz1)) c496
                          · skip
                            refine lv_aload_n S.1 S.2.1 dL_acts_499 rfl (lv_at hl 8 rfl) ?_
                            refine lv_iload S.1 S.2.1 dL_acts_500 (lv_at hl 6 rfl) ?_
                            refine lv_sipush (v := 360) S.1 S.2.1 dL_acts_502 (by decide) ?_
                            refine lv_iconst (v := 1) S.1 S.2.1 dL_acts_505 (by decide) ?_
                            refine x_qi (va_runV (As := [.int (nI k), .int 360, .int 1]) (rest := []) S (c_X6_setAngle l g hJ E1_52 hX hv1 (nI k) 360 1) (cwV 3 S.2.2.2.2 gL_acts_X6_setAngle rfl rfl rfl (by decide +kernel) ⟨Nat.le_of_ble_eq_true rfl, Nat.le_of_ble_eq_true rfl⟩) (x_preV hK hP h00 (by decide) rfl) rfl rfl hl.1 rfl (lv_room (Nat.le_of_ble_eq_true rfl)) dL_acts_506 ⟨Nat.le_of_ble_eq_true rfl, Nat.le_of_ble_eq_true rfl⟩) hS (fun r506 E1_53 H locs q506 hP hS => ?_)
                            obtain ⟨z9, q506, hX, -⟩ := q506
                            obtain ⟨rfl, hz9⟩ := sA_2 hk1 no361 q506
                            rw [hz9] at hX
                            have h00 := hX.at0
                            refine lv_bipush (v := (-2)) S.1 S.2.1 dL_acts_509 (by decide) ?_
                            refine lv_icmp_ne (tgt := 518) S.1 S.2.1 dL_acts_511 (by decide) (fun c511_3 => ?_) (fun c511_3 => ?_)
                            · skip
                              exact absurd c511_3 (by decide)
                            · skip
                              refine lv_iconst (v := 1) S.1 S.2.1 dL_acts_514 (by decide) ?_
                              refine lv_goto (tgt := 519) S.1 S.2.1 dL_acts_515 (by decide) ?_
                              exact x_zret S hr hlocks hP hS dL_acts_519 rfl (⟨rfl, z1, hX, hv1, vQ_rec hQ (ok5_sA hQ.1 (fun h => absurd h c364)) hz1, Or.inr ⟨_, _, hz1⟩⟩)
                        · skip
                          exact absurd c486 c364
                  · skip
                    exact absurd c450_1 (by decide)
                · skip
                  refine lv_iconst (v := 1) S.1 S.2.1 dL_acts_431 (by decide) ?_
                  refine lv_goto (tgt := 436) S.1 S.2.1 dL_acts_432 (by decide) ?_
                  refine lv_istore (lv' := [(11, .int 1), (10, .int (an4 (zM z) k)), (9, .int (nI er)), (8, .int (nI an)), (7, .int vy), (6, .int vx), (5, .int (nI k)), (4, .int (nI (zn z))), (0, .ref (xad g 0)), (1, .int so), (2, .int gg), (3, .int hh)]) S.1 S.2.1 dL_acts_436 hl (by decide) rfl (fun ls hl => ?_)
                  refine lv_aload_n S.1 S.2.1 dL_acts_438 rfl (lv_at hl 8 rfl) ?_
                  refine lv_iload S.1 S.2.1 dL_acts_439 (lv_at hl 6 rfl) ?_
                  refine lv_iload S.1 S.2.1 dL_acts_441 (lv_at hl 3 rfl) ?_
                  refine lv_iload S.1 S.2.1 dL_acts_443 (lv_at hl 2 rfl) ?_
                  refine x_qi (va_runV (As := [.int (nI k), .int (nI an), .int (nI er)]) (rest := []) S (c_X6_setAngle l g hJ E1_48 hX hv (nI k) (nI an) (nI er)) (cwV 3 S.2.2.2.2 gL_acts_X6_setAngle rfl rfl rfl (by decide +kernel) ⟨Nat.le_of_ble_eq_true rfl, Nat.le_of_ble_eq_true rfl⟩) (x_preV hK hP h00 (by decide) rfl) rfl rfl hl.1 rfl (lv_room (Nat.le_of_ble_eq_true rfl)) dL_acts_445 ⟨Nat.le_of_ble_eq_true rfl, Nat.le_of_ble_eq_true rfl⟩) hS (fun r445 E1_54 H locs q445 hP hS => ?_)
                  obtain ⟨z1, q445, hX, -⟩ := q445
                  have h00 := hX.at0
                  obtain ⟨rfl, hz1⟩ := sA_s hv hk (ang_ok han (er_ok her) (fun h => absurd h c364)) (an_eq han c364 c416) ((an5_eq c364 (an_eq han c364 c416)).symm.trans c428) q445
                  rw [hz1] at hX
                  have h00 := hX.at0
                  refine lv_iload S.1 S.2.1 dL_acts_448 (lv_at hl 0 rfl) ?_
                  refine lv_if_eq (tgt := 458) S.1 S.2.1 dL_acts_450 (by decide) (fun c450_2 => ?_) (fun c450_2 => ?_)
                  · skip
                    exact absurd c450_2 (by decide)
                  · skip
                    refine lv_bipush (v := (-5)) S.1 S.2.1 dL_acts_453 (by decide) ?_
                    refine lv_goto (tgt := 471) S.1 S.2.1 dL_acts_455 (by decide) ?_
                    refine lv_icmp_ne (tgt := 518) S.1 S.2.1 dL_acts_471 (by decide) (fun c471 => ?_) (fun c471 => ?_)
                    · skip
                      exact absurd c471 (by decide)
                    · skip
                      refine lv_aload_n S.1 S.2.1 dL_acts_474 rfl (lv_at hl 8 rfl) ?_
                      refine lv_iload S.1 S.2.1 dL_acts_475 (lv_at hl 6 rfl) ?_
                      refine lv_iconst (v := 4) S.1 S.2.1 dL_acts_477 (by decide) ?_
                      refine x_qi (va_runV (As := [.int (nI k), .int 4]) (rest := []) S (c_X6_photo l g hJ E1_54 hX hv (nI k) 4) (cwV 2 S.2.2.2.2 gL_acts_X6_photo rfl rfl rfl (by decide +kernel) ⟨Nat.le_of_ble_eq_true rfl, Nat.le_of_ble_eq_true rfl⟩) (x_preV hK hP h00 (by decide) rfl) rfl rfl hl.1 rfl (lv_room (Nat.le_of_ble_eq_true rfl)) dL_acts_478 ⟨Nat.le_of_ble_eq_true rfl, Nat.le_of_ble_eq_true rfl⟩) hS (fun r478 E1_55 H locs q478 hP hS => ?_)
                      obtain ⟨q478, hX, -⟩ := q478
                      have h00 := hX.at0
                      obtain rfl : r478 = an4 (zM z) k := v_ph4 hv hk q478
                      refine lv_iload S.1 S.2.1 dL_acts_481 (lv_at hl 3 rfl) ?_
                      refine lv_sipush (v := 360) S.1 S.2.1 dL_acts_483 (by decide) ?_
                      refine lv_icmp_ne (tgt := 494) S.1 S.2.1 dL_acts_486 (by decide) (fun c486 => ?_) (fun c486 => ?_)
                      · skip
                        refine lv_iload S.1 S.2.1 dL_acts_494 (lv_at hl 3 rfl) ?_
                        refine lv_icmp_ne (tgt := 518) S.1 S.2.1 dL_acts_496 (by decide) (fun c496 => ?_) (fun c496 => ?_)
                        · skip
                          exact absurd c416 c496
                        · skip
                          refine lv_aload_n S.1 S.2.1 dL_acts_499 rfl (lv_at hl 8 rfl) ?_
                          refine lv_iload S.1 S.2.1 dL_acts_500 (lv_at hl 6 rfl) ?_
                          refine lv_sipush (v := 360) S.1 S.2.1 dL_acts_502 (by decide) ?_
                          refine lv_iconst (v := 1) S.1 S.2.1 dL_acts_505 (by decide) ?_
                          refine x_qi (va_runV (As := [.int (nI k), .int 360, .int 1]) (rest := []) S (c_X6_setAngle l g hJ E1_55 hX hv (nI k) 360 1) (cwV 3 S.2.2.2.2 gL_acts_X6_setAngle rfl rfl rfl (by decide +kernel) ⟨Nat.le_of_ble_eq_true rfl, Nat.le_of_ble_eq_true rfl⟩) (x_preV hK hP h00 (by decide) rfl) rfl rfl hl.1 rfl (lv_room (Nat.le_of_ble_eq_true rfl)) dL_acts_506 ⟨Nat.le_of_ble_eq_true rfl, Nat.le_of_ble_eq_true rfl⟩) hS (fun r506 E1_56 H locs q506 hP hS => ?_)
                          obtain ⟨z9, q506, hX, -⟩ := q506
                          obtain ⟨rfl, hz9⟩ := sA_2 hk no361 q506
                          rw [hz9] at hX
                          have h00 := hX.at0
                          refine lv_bipush (v := (-2)) S.1 S.2.1 dL_acts_509 (by decide) ?_
                          refine lv_icmp_ne (tgt := 518) S.1 S.2.1 dL_acts_511 (by decide) (fun c511_4 => ?_) (fun c511_4 => ?_)
                          · skip
                            exact absurd c511_4 (by decide)
                          · skip
                            refine lv_iconst (v := 1) S.1 S.2.1 dL_acts_514 (by decide) ?_
                            refine lv_goto (tgt := 519) S.1 S.2.1 dL_acts_515 (by decide) ?_
                            exact x_zret S hr hlocks hP hS dL_acts_519 rfl (⟨rfl, z, hX, hv, hQ, Or.inl rfl⟩)
                      · skip
                        exact absurd c486 c364
            · skip
              exact absurd c396 c364
          · skip
            refine lv_iconst (v := 0) S.1 S.2.1 dL_acts_367 (by decide) ?_
            refine lv_goto (tgt := 380) S.1 S.2.1 dL_acts_368 (by decide) ?_
            refine lv_istore (lv' := [(9, .int 0), (8, .int (nI an)), (7, .int vy), (6, .int vx), (5, .int (nI k)), (4, .int (nI (zn z))), (0, .ref (xad g 0)), (1, .int so), (2, .int gg), (3, .int hh)]) S.1 S.2.1 dL_acts_380 hl (by decide) rfl (fun ls hl => ?_)
            refine lv_aload_n S.1 S.2.1 dL_acts_382 rfl (lv_at hl 6 rfl) ?_
            refine lv_iload S.1 S.2.1 dL_acts_383 (lv_at hl 4 rfl) ?_
            refine lv_iconst (v := 4) S.1 S.2.1 dL_acts_385 (by decide) ?_
            refine x_qi (va_runV (As := [.int (nI k), .int 4]) (rest := []) S (c_X6_photo l g hJ E1 hX hv (nI k) 4) (cwV 2 S.2.2.2.2 gL_acts_X6_photo rfl rfl rfl (by decide +kernel) ⟨Nat.le_of_ble_eq_true rfl, Nat.le_of_ble_eq_true rfl⟩) (x_preV hK hP h00 (by decide) rfl) rfl rfl hl.1 rfl (lv_room (Nat.le_of_ble_eq_true rfl)) dL_acts_386 ⟨Nat.le_of_ble_eq_true rfl, Nat.le_of_ble_eq_true rfl⟩) hS (fun r386 E1_57 H locs q386 hP hS => ?_)
            obtain ⟨q386, hX, -⟩ := q386
            have h00 := hX.at0
            obtain rfl : r386 = an4 (zM z) k := v_ph4 hv hk q386
            refine lv_istore (lv' := [(10, .int (an4 (zM z) k)), (9, .int 0), (8, .int (nI an)), (7, .int vy), (6, .int vx), (5, .int (nI k)), (4, .int (nI (zn z))), (0, .ref (xad g 0)), (1, .int so), (2, .int gg), (3, .int hh)]) S.1 S.2.1 dL_acts_389 hl (by decide) rfl (fun ls hl => ?_)
            refine lv_iload S.1 S.2.1 dL_acts_391 (lv_at hl 2 rfl) ?_
            refine lv_sipush (v := 360) S.1 S.2.1 dL_acts_393 (by decide) ?_
            refine lv_icmp_ne (tgt := 412) S.1 S.2.1 dL_acts_396 (by decide) (fun c396 => ?_) (fun c396 => ?_)
            · skip
              exact absurd c364 c396
            · skip
              refine lv_iload S.1 S.2.1 dL_acts_399 (lv_at hl 0 rfl) ?_
              refine lv_if_ge (tgt := 408) S.1 S.2.1 dL_acts_401 (by decide) (fun c401 => ?_) (fun c401 => ?_)
              · skip
                refine lv_iconst (v := 0) S.1 S.2.1 dL_acts_408 (by decide) ?_
                refine lv_goto (tgt := 436) S.1 S.2.1 dL_acts_409 (by decide) ?_
                refine lv_istore (lv' := [(11, .int 0), (10, .int (an4 (zM z) k)), (9, .int 0), (8, .int (nI an)), (7, .int vy), (6, .int vx), (5, .int (nI k)), (4, .int (nI (zn z))), (0, .ref (xad g 0)), (1, .int so), (2, .int gg), (3, .int hh)]) S.1 S.2.1 dL_acts_436 hl (by decide) rfl (fun ls hl => ?_)
                refine lv_aload_n S.1 S.2.1 dL_acts_438 rfl (lv_at hl 8 rfl) ?_
                refine lv_iload S.1 S.2.1 dL_acts_439 (lv_at hl 6 rfl) ?_
                refine lv_iload S.1 S.2.1 dL_acts_441 (lv_at hl 3 rfl) ?_
                refine lv_iload S.1 S.2.1 dL_acts_443 (lv_at hl 2 rfl) ?_
                refine x_qi (va_runV (As := [.int (nI k), .int (nI an), .int 0]) (rest := []) S (c_X6_setAngle l g hJ E1_57 hX hv (nI k) (nI an) 0) (cwV 3 S.2.2.2.2 gL_acts_X6_setAngle rfl rfl rfl (by decide +kernel) ⟨Nat.le_of_ble_eq_true rfl, Nat.le_of_ble_eq_true rfl⟩) (x_preV hK hP h00 (by decide) rfl) rfl rfl hl.1 rfl (lv_room (Nat.le_of_ble_eq_true rfl)) dL_acts_445 ⟨Nat.le_of_ble_eq_true rfl, Nat.le_of_ble_eq_true rfl⟩) hS (fun r445 E1_58 H locs q445 hP hS => ?_)
                obtain ⟨z1, q445, hX, -⟩ := q445
                have h00 := hX.at0
                obtain ⟨rfl, hz1⟩ := sA_n hv hk (ang_ok han (by decide) (fun _ => rfl)) (fun h => (an_pos hvM hk c401).1 (h.1.trans c364)) q445
                have hv1 := sp_setAngle.vS hv q445
                have hk1 : k < zn z1 := by rw [zn_w hz1]; exact hk
                refine lv_iload S.1 S.2.1 dL_acts_448 (lv_at hl 0 rfl) ?_
                refine lv_if_eq (tgt := 458) S.1 S.2.1 dL_acts_450 (by decide) (fun c450_3 => ?_) (fun c450_3 => ?_)
                · skip
                  refine lv_iload S.1 S.2.1 dL_acts_458 (lv_at hl 1 rfl) ?_
                  refine lv_if_ge (tgt := 469) S.1 S.2.1 dL_acts_460 (by decide) (fun c460 => ?_) (fun c460 => ?_)
                  · skip
                    refine lv_iload S.1 S.2.1 dL_acts_469 (lv_at hl 1 rfl) ?_
                    refine lv_icmp_ne (tgt := 518) S.1 S.2.1 dL_acts_471 (by decide) (fun c471 => ?_) (fun c471 => ?_)
                    · skip
                      exact absurd (an_pos hvM hk c460).2.symm c471
                    · skip
                      refine lv_aload_n S.1 S.2.1 dL_acts_474 rfl (lv_at hl 8 rfl) ?_
                      refine lv_iload S.1 S.2.1 dL_acts_475 (lv_at hl 6 rfl) ?_
                      refine lv_iconst (v := 4) S.1 S.2.1 dL_acts_477 (by decide) ?_
                      refine x_qi (va_runV (As := [.int (nI k), .int 4]) (rest := []) S (c_X6_photo l g hJ E1_58 hX hv1 (nI k) 4) (cwV 2 S.2.2.2.2 gL_acts_X6_photo rfl rfl rfl (by decide +kernel) ⟨Nat.le_of_ble_eq_true rfl, Nat.le_of_ble_eq_true rfl⟩) (x_preV hK hP h00 (by decide) rfl) rfl rfl hl.1 rfl (lv_room (Nat.le_of_ble_eq_true rfl)) dL_acts_478 ⟨Nat.le_of_ble_eq_true rfl, Nat.le_of_ble_eq_true rfl⟩) hS (fun r478 E1_59 H locs q478 hP hS => ?_)
                      obtain ⟨q478, hX, -⟩ := q478
                      have h00 := hX.at0
                      obtain rfl : r478 = an4 (zM z1) k := v_ph4 hv1 hk1 q478
                      refine lv_iload S.1 S.2.1 dL_acts_481 (lv_at hl 3 rfl) ?_
                      refine lv_sipush (v := 360) S.1 S.2.1 dL_acts_483 (by decide) ?_
                      refine lv_icmp_ne (tgt := 494) S.1 S.2.1 dL_acts_486 (by decide) (fun c486 => ?_) (fun c486 => ?_)
                      · skip
                        exact absurd c364 c486
                      · skip
                        refine lv_bipush (v := (-5)) S.1 S.2.1 dL_acts_489 (by decide) ?_
                        refine lv_goto (tgt := 496) S.1 S.2.1 dL_acts_491 (by decide) ?_
                        refine lv_icmp_ne (tgt := 518) S.1 S.2.1 dL_acts_496 (by decide) (fun c496 => ?_) (fun c496 => ?_)
                        · skip
                          exact absurd (an4_0 ((sM_4 hz1).trans c364)) c496
                        · skip
                          refine lv_aload_n S.1 S.2.1 dL_acts_499 rfl (lv_at hl 8 rfl) ?_
                          refine lv_iload S.1 S.2.1 dL_acts_500 (lv_at hl 6 rfl) ?_
                          refine lv_sipush (v := 360) S.1 S.2.1 dL_acts_502 (by decide) ?_
                          refine lv_iconst (v := 1) S.1 S.2.1 dL_acts_505 (by decide) ?_
                          refine x_qi (va_runV (As := [.int (nI k), .int 360, .int 1]) (rest := []) S (c_X6_setAngle l g hJ E1_59 hX hv1 (nI k) 360 1) (cwV 3 S.2.2.2.2 gL_acts_X6_setAngle rfl rfl rfl (by decide +kernel) ⟨Nat.le_of_ble_eq_true rfl, Nat.le_of_ble_eq_true rfl⟩) (x_preV hK hP h00 (by decide) rfl) rfl rfl hl.1 rfl (lv_room (Nat.le_of_ble_eq_true rfl)) dL_acts_506 ⟨Nat.le_of_ble_eq_true rfl, Nat.le_of_ble_eq_true rfl⟩) hS (fun r506 E1_60 H locs q506 hP hS => ?_)
                          obtain ⟨z9, q506, hX, -⟩ := q506
                          obtain ⟨rfl, hz9⟩ := sA_2 hk1 no361 q506
                          rw [hz9] at hX
                          have h00 := hX.at0
                          refine lv_bipush (v := (-2)) S.1 S.2.1 dL_acts_509 (by decide) ?_
                          refine lv_icmp_ne (tgt := 518) S.1 S.2.1 dL_acts_511 (by decide) (fun c511_5 => ?_) (fun c511_5 => ?_)
                          · skip
                            exact absurd c511_5 (by decide)
                          · skip
                            refine lv_iconst (v := 1) S.1 S.2.1 dL_acts_514 (by decide) ?_
                            refine lv_goto (tgt := 519) S.1 S.2.1 dL_acts_515 (by decide) ?_
                            exact x_zret S hr hlocks hP hS dL_acts_519 rfl (⟨rfl, z1, hX, hv1, vQ_rec hQ (ok5_sA hQ.1 (fun _ => rfl)) hz1, Or.inr ⟨_, _, hz1⟩⟩)
                  · skip
                    exact absurd c401 c460
                · skip
                  exact absurd c450_3 (by decide)
              · skip
                refine lv_iconst (v := 1) S.1 S.2.1 dL_acts_404 (by decide) ?_
                refine lv_goto (tgt := 436) S.1 S.2.1 dL_acts_405 (by decide) ?_
                refine lv_istore (lv' := [(11, .int 1), (10, .int (an4 (zM z) k)), (9, .int 0), (8, .int (nI an)), (7, .int vy), (6, .int vx), (5, .int (nI k)), (4, .int (nI (zn z))), (0, .ref (xad g 0)), (1, .int so), (2, .int gg), (3, .int hh)]) S.1 S.2.1 dL_acts_436 hl (by decide) rfl (fun ls hl => ?_)
                refine lv_aload_n S.1 S.2.1 dL_acts_438 rfl (lv_at hl 8 rfl) ?_
                refine lv_iload S.1 S.2.1 dL_acts_439 (lv_at hl 6 rfl) ?_
                refine lv_iload S.1 S.2.1 dL_acts_441 (lv_at hl 3 rfl) ?_
                refine lv_iload S.1 S.2.1 dL_acts_443 (lv_at hl 2 rfl) ?_
                refine x_qi (va_runV (As := [.int (nI k), .int (nI an), .int 0]) (rest := []) S (c_X6_setAngle l g hJ E1_57 hX hv (nI k) (nI an) 0) (cwV 3 S.2.2.2.2 gL_acts_X6_setAngle rfl rfl rfl (by decide +kernel) ⟨Nat.le_of_ble_eq_true rfl, Nat.le_of_ble_eq_true rfl⟩) (x_preV hK hP h00 (by decide) rfl) rfl rfl hl.1 rfl (lv_room (Nat.le_of_ble_eq_true rfl)) dL_acts_445 ⟨Nat.le_of_ble_eq_true rfl, Nat.le_of_ble_eq_true rfl⟩) hS (fun r445 E1_61 H locs q445 hP hS => ?_)
                obtain ⟨z1, q445, hX, -⟩ := q445
                have h00 := hX.at0
                obtain ⟨rfl, hz1⟩ := sA_s hv hk (ang_ok han (by decide) (fun _ => rfl)) ((an_neg hvM hk c401).1.trans c364.symm) (hQ.1 k hk (an_neg hvM hk c401).1) q445
                rw [hz1] at hX
                have h00 := hX.at0
                refine lv_iload S.1 S.2.1 dL_acts_448 (lv_at hl 0 rfl) ?_
                refine lv_if_eq (tgt := 458) S.1 S.2.1 dL_acts_450 (by decide) (fun c450_4 => ?_) (fun c450_4 => ?_)
                · skip
                  exact absurd c450_4 (by decide)
                · skip
                  refine lv_bipush (v := (-5)) S.1 S.2.1 dL_acts_453 (by decide) ?_
                  refine lv_goto (tgt := 471) S.1 S.2.1 dL_acts_455 (by decide) ?_
                  refine lv_icmp_ne (tgt := 518) S.1 S.2.1 dL_acts_471 (by decide) (fun c471 => ?_) (fun c471 => ?_)
                  · skip
                    exact absurd c471 (by decide)
                  · skip
                    refine lv_aload_n S.1 S.2.1 dL_acts_474 rfl (lv_at hl 8 rfl) ?_
                    refine lv_iload S.1 S.2.1 dL_acts_475 (lv_at hl 6 rfl) ?_
                    refine lv_iconst (v := 4) S.1 S.2.1 dL_acts_477 (by decide) ?_
                    refine x_qi (va_runV (As := [.int (nI k), .int 4]) (rest := []) S (c_X6_photo l g hJ E1_61 hX hv (nI k) 4) (cwV 2 S.2.2.2.2 gL_acts_X6_photo rfl rfl rfl (by decide +kernel) ⟨Nat.le_of_ble_eq_true rfl, Nat.le_of_ble_eq_true rfl⟩) (x_preV hK hP h00 (by decide) rfl) rfl rfl hl.1 rfl (lv_room (Nat.le_of_ble_eq_true rfl)) dL_acts_478 ⟨Nat.le_of_ble_eq_true rfl, Nat.le_of_ble_eq_true rfl⟩) hS (fun r478 E1_62 H locs q478 hP hS => ?_)
                    obtain ⟨q478, hX, -⟩ := q478
                    have h00 := hX.at0
                    obtain rfl : r478 = an4 (zM z) k := v_ph4 hv hk q478
                    refine lv_iload S.1 S.2.1 dL_acts_481 (lv_at hl 3 rfl) ?_
                    refine lv_sipush (v := 360) S.1 S.2.1 dL_acts_483 (by decide) ?_
                    refine lv_icmp_ne (tgt := 494) S.1 S.2.1 dL_acts_486 (by decide) (fun c486 => ?_) (fun c486 => ?_)
                    · skip
                      exact absurd c364 c486
                    · skip
                      refine lv_bipush (v := (-5)) S.1 S.2.1 dL_acts_489 (by decide) ?_
                      refine lv_goto (tgt := 496) S.1 S.2.1 dL_acts_491 (by decide) ?_
                      refine lv_icmp_ne (tgt := 518) S.1 S.2.1 dL_acts_496 (by decide) (fun c496 => ?_) (fun c496 => ?_)
                      · skip
                        exact absurd (an_neg hvM hk c401).2 c496
                      · skip
                        refine lv_aload_n S.1 S.2.1 dL_acts_499 rfl (lv_at hl 8 rfl) ?_
                        refine lv_iload S.1 S.2.1 dL_acts_500 (lv_at hl 6 rfl) ?_
                        refine lv_sipush (v := 360) S.1 S.2.1 dL_acts_502 (by decide) ?_
                        refine lv_iconst (v := 1) S.1 S.2.1 dL_acts_505 (by decide) ?_
                        refine x_qi (va_runV (As := [.int (nI k), .int 360, .int 1]) (rest := []) S (c_X6_setAngle l g hJ E1_62 hX hv (nI k) 360 1) (cwV 3 S.2.2.2.2 gL_acts_X6_setAngle rfl rfl rfl (by decide +kernel) ⟨Nat.le_of_ble_eq_true rfl, Nat.le_of_ble_eq_true rfl⟩) (x_preV hK hP h00 (by decide) rfl) rfl rfl hl.1 rfl (lv_room (Nat.le_of_ble_eq_true rfl)) dL_acts_506 ⟨Nat.le_of_ble_eq_true rfl, Nat.le_of_ble_eq_true rfl⟩) hS (fun r506 E1_63 H locs q506 hP hS => ?_)
                        obtain ⟨z9, q506, hX, -⟩ := q506
                        obtain ⟨rfl, hz9⟩ := sA_2 hk no361 q506
                        rw [hz9] at hX
                        have h00 := hX.at0
                        refine lv_bipush (v := (-2)) S.1 S.2.1 dL_acts_509 (by decide) ?_
                        refine lv_icmp_ne (tgt := 518) S.1 S.2.1 dL_acts_511 (by decide) (fun c511_6 => ?_) (fun c511_6 => ?_)
                        · skip
                          exact absurd c511_6 (by decide)
                        · skip
                          refine lv_iconst (v := 1) S.1 S.2.1 dL_acts_514 (by decide) ?_
                          refine lv_goto (tgt := 519) S.1 S.2.1 dL_acts_515 (by decide) ?_
                          exact x_zret S hr hlocks hP hS dL_acts_519 rfl (⟨rfl, z, hX, hv, hQ, Or.inl rfl⟩)
      · skip
        exact absurd c294 c9
    · skip
      refine lv_iload_n S.1 S.2.1 dL_acts_58 rfl (lv_at hl 6 rfl) ?_
      refine lv_iconst (v := 3) S.1 S.2.1 dL_acts_59 (by decide) ?_
      refine lv_ishr S.1 S.2.1 dL_acts_60 ?_
      refine lv_bipush (v := 100) S.1 S.2.1 dL_acts_61 (by decide) ?_
      refine W.eq (g2 := F0 m 63 ls [.int (nI 100), .int (gg >>> (3 &&& 31))]) (by rw [show (100 : Int32) = nI 100 from rfl]) ?_
      refine x_si (va_runS (As := [.int (gg >>> (3 &&& 31)), .int (nI 100)]) (rest := []) S (c_L_low l g E1 (gg >>> (3 &&& 31)) (d := 100) (by decide) (by decide)) (va_cwS 2 S.2.2.2.2 gL_acts_L_low rfl rfl rfl (by decide +kernel) ⟨Nat.le_of_ble_eq_true rfl, Nat.le_of_ble_eq_true rfl⟩) (x_preS hK hP) rfl rfl hl.1 rfl (lv_room (Nat.le_of_ble_eq_true rfl)) dL_acts_63 ⟨Nat.le_of_ble_eq_true rfl, Nat.le_of_ble_eq_true rfl⟩) (fun r63 hr63 => ?_)
      obtain ⟨t9, ht9, rfl⟩ := hr63
      refine lv_istore (lv' := [(8, .int (nI t9)), (7, .int vy), (6, .int vx), (5, .int (nI k)), (4, .int (nI (zn z))), (0, .ref (xad g 0)), (1, .int so), (2, .int gg), (3, .int hh)]) S.1 S.2.1 dL_acts_66 hl (by decide) rfl (fun ls hl => ?_)
      refine lv_iload_n S.1 S.2.1 dL_acts_68 rfl (lv_at hl 7 rfl) ?_
      refine lv_bipush (v := 10) S.1 S.2.1 dL_acts_69 (by decide) ?_
      refine lv_ishr S.1 S.2.1 dL_acts_71 ?_
      refine lv_bipush (v := 41) S.1 S.2.1 dL_acts_72 (by decide) ?_
      refine W.eq (g2 := F0 m 74 ls [.int (nI 41), .int (gg >>> (10 &&& 31))]) (by rw [show (41 : Int32) = nI 41 from rfl]) ?_
      refine x_si (va_runS (As := [.int (gg >>> (10 &&& 31)), .int (nI 41)]) (rest := []) S (c_L_low l g E1 (gg >>> (10 &&& 31)) (d := 41) (by decide) (by decide)) (va_cwS 2 S.2.2.2.2 gL_acts_L_low rfl rfl rfl (by decide +kernel) ⟨Nat.le_of_ble_eq_true rfl, Nat.le_of_ble_eq_true rfl⟩) (x_preS hK hP) rfl rfl hl.1 rfl (lv_room (Nat.le_of_ble_eq_true rfl)) dL_acts_74 ⟨Nat.le_of_ble_eq_true rfl, Nat.le_of_ble_eq_true rfl⟩) (fun r74 hr74 => ?_)
      obtain ⟨er, her, rfl⟩ := hr74
      refine lv_istore (lv' := [(9, .int (nI er)), (8, .int (nI t9)), (7, .int vy), (6, .int vx), (5, .int (nI k)), (4, .int (nI (zn z))), (0, .ref (xad g 0)), (1, .int so), (2, .int gg), (3, .int hh)]) S.1 S.2.1 dL_acts_77 hl (by decide) rfl (fun ls hl => ?_)
      refine lv_iconst (v := 0) S.1 S.2.1 dL_acts_79 (by decide) ?_
      refine lv_istore (lv' := [(10, .int 0), (9, .int (nI er)), (8, .int (nI t9)), (7, .int vy), (6, .int vx), (5, .int (nI k)), (4, .int (nI (zn z))), (0, .ref (xad g 0)), (1, .int so), (2, .int gg), (3, .int hh)]) S.1 S.2.1 dL_acts_80 hl (by decide) rfl (fun ls hl => ?_)
      refine lv_iconst (v := 0) S.1 S.2.1 dL_acts_82 (by decide) ?_
      refine lv_istore (lv' := [(11, .int 0), (10, .int 0), (9, .int (nI er)), (8, .int (nI t9)), (7, .int vy), (6, .int vx), (5, .int (nI k)), (4, .int (nI (zn z))), (0, .ref (xad g 0)), (1, .int so), (2, .int gg), (3, .int hh)]) S.1 S.2.1 dL_acts_83 hl (by decide) rfl (fun ls hl => ?_)
      refine lv_iconst (v := 0) S.1 S.2.1 dL_acts_85 (by decide) ?_
      refine lv_istore (lv' := [(12, .int 0), (11, .int 0), (10, .int 0), (9, .int (nI er)), (8, .int (nI t9)), (7, .int vy), (6, .int vx), (5, .int (nI k)), (4, .int (nI (zn z))), (0, .ref (xad g 0)), (1, .int so), (2, .int gg), (3, .int hh)]) S.1 S.2.1 dL_acts_86 hl (by decide) rfl (fun ls hl => ?_)
      have loop88 : ∀ (d : Nat) (q : Nat) (EL : Nat → va_E) (H : Heap) (locs : List Loc), (hq : q ≤ zn z) → (zn z + 1 - q) < d → (hX : sX g EL z) → (h00 : EL 0 = .inr (6, [.ref (xad g 1), .ref (xad g 10), .int (bI (zf z)), .ref (xad g 19), .ref (xad g 57), .ref (xad g 59), .ref (xad g 60), .ref (xad g 61), .ref (xad g 64)])) → xP g EL H → va_S (xA (xad g)) s.heap H locs → ∀ ls : Array Slot, lv_has ls 13 [(12, .int (nI q)), (10, .int (bI (thB (zM z) (nI t9) q))), (11, .int (nI (cnt (ltB (zM z) (nI t9)) q))), (4, .int (nI (zn z))), (6, .int vx), (7, .int vy), (8, .int (nI t9)), (9, .int (nI er)), (0, .ref (xad g 0))] → W pz l ez ({ frames := 8, cells := 0, slots := 0, locals := 186 }) s m ([.ref (xad g 0), .int so, .int gg, .int hh] : List Value).toArray below meth cz H locs 0 0 (MQ below (xQi g (fun r E1 => r = 1 ∧ ∃ z1, sX g E1 z1 ∧ vS z1 ∧ vQ z1 ∧ acR z z1)) ([.ref (xad g 0), .int so, .int gg, .int hh] : List Value).toArray s 0 0 (xA (xad g))) (F0 m 88 ls []) := by
        intro d
        induction d with
        | zero => intro q EL H locs hq hd; exact absurd hd (Nat.not_lt_zero _)
        | succ d ih88 =>
          intro q EL H locs hq hd hX h00 hP hS ls hl
          refine lv_iload S.1 S.2.1 dL_acts_88 (lv_at hl 0 rfl) ?_
          refine lv_iload S.1 S.2.1 dL_acts_90 (lv_at hl 3 rfl) ?_
          refine lv_icmp_ge (tgt := 145) S.1 S.2.1 dL_acts_92 (by decide) (fun c92 => ?_) (fun c92 => ?_)
          · skip
            obtain rfl := kn_eq hn hq c92
            refine lv_aload_n S.1 S.2.1 dL_acts_145 rfl (lv_at hl 8 rfl) ?_
            refine lv_iload S.1 S.2.1 dL_acts_146 (lv_at hl 6 rfl) ?_
            refine lv_iload S.1 S.2.1 dL_acts_148 (lv_at hl 4 rfl) ?_
            refine lv_iload S.1 S.2.1 dL_acts_150 (lv_at hl 5 rfl) ?_
            refine lv_iload S.1 S.2.1 dL_acts_152 (lv_at hl 7 rfl) ?_
            refine x_qi (va_runV (As := [.int (nI t9), .int vx, .int vy, .int (nI er)]) (rest := []) S (c_X6_addPhoto l g hJ EL hX hv (nI t9) vx vy (nI er)) (cwV 4 S.2.2.2.2 gL_acts_X6_addPhoto rfl rfl rfl (by decide +kernel) ⟨Nat.le_of_ble_eq_true rfl, Nat.le_of_ble_eq_true rfl⟩) (x_preV hK hP h00 (by decide) rfl) rfl rfl hl.1 rfl (lv_room (Nat.le_of_ble_eq_true rfl)) dL_acts_154 ⟨Nat.le_of_ble_eq_true rfl, Nat.le_of_ble_eq_true rfl⟩) hS (fun r154 E1_64 H locs q154 hP hS => ?_)
            obtain ⟨z1, q154, hX, -⟩ := q154
            have h00 := hX.at0
            refine lv_istore (lv' := [(12, .int r154), (10, .int (bI (thB (zM z) (nI t9) (zn z)))), (11, .int (nI (cnt (ltB (zM z) (nI t9)) (zn z)))), (4, .int (nI (zn z))), (6, .int vx), (7, .int vy), (8, .int (nI t9)), (9, .int (nI er)), (0, .ref (xad g 0))]) S.1 S.2.1 dL_acts_157 hl (by decide) rfl (fun ls hl => ?_)
            refine lv_iload S.1 S.2.1 dL_acts_159 (lv_at hl 0 rfl) ?_
            refine lv_iload S.1 S.2.1 dL_acts_161 (lv_at hl 1 rfl) ?_
            refine lv_if_eq (tgt := 171) S.1 S.2.1 dL_acts_163 (by decide) (fun c163 => ?_) (fun c163 => ?_)
            · skip
              refine lv_iload S.1 S.2.1 dL_acts_171 (lv_at hl 3 rfl) ?_
              refine lv_bipush (v := 10) S.1 S.2.1 dL_acts_173 (by decide) ?_
              refine lv_icmp_ne (tgt := 183) S.1 S.2.1 dL_acts_175 (by decide) (fun c175 => ?_) (fun c175 => ?_)
              · skip
                obtain ⟨q9, hq9, hq9n, rfl, hn10, hz1⟩ := ad_n hv (rng_ad ht9 her hvxr hvyr) (bI_z c163) (fun h => c175 (by rw [h]; rfl)) q154
                have hv1 := sp_addPhoto.vS hv q154
                have hk1 : q9 < zn z1 := by rw [zn_w hz1]; omega
                refine lv_iload S.1 S.2.1 dL_acts_183 (lv_at hl 2 rfl) ?_
                refine lv_icmp_ne (tgt := 290) S.1 S.2.1 dL_acts_185 (by decide) (fun c185 => ?_) (fun c185 => ?_)
                · skip
                  exact absurd (congrArg nI hq9) c185
                · skip
                  refine lv_iload S.1 S.2.1 dL_acts_188 (lv_at hl 0 rfl) ?_
                  refine lv_if_lt (tgt := 272) S.1 S.2.1 dL_acts_190 (by decide) (fun c190 => ?_) (fun c190 => ?_)
                  · skip
                    exact absurd c190 (nI_pos (by omega))
                  · skip
                    refine lv_aload_n S.1 S.2.1 dL_acts_193 rfl (lv_at hl 8 rfl) ?_
                    refine lv_iload S.1 S.2.1 dL_acts_194 (lv_at hl 0 rfl) ?_
                    refine lv_iconst (v := 0) S.1 S.2.1 dL_acts_196 (by decide) ?_
                    refine x_qi (va_runV (As := [.int (nI q9), .int 0]) (rest := []) S (c_X6_photo l g hJ E1_64 hX hv1 (nI q9) 0) (cwV 2 S.2.2.2.2 gL_acts_X6_photo rfl rfl rfl (by decide +kernel) ⟨Nat.le_of_ble_eq_true rfl, Nat.le_of_ble_eq_true rfl⟩) (x_preV hK hP h00 (by decide) rfl) rfl rfl hl.1 rfl (lv_room (Nat.le_of_ble_eq_true rfl)) dL_acts_197 ⟨Nat.le_of_ble_eq_true rfl, Nat.le_of_ble_eq_true rfl⟩) hS (fun r197 E1_65 H locs q197 hP hS => ?_)
                    obtain ⟨q197, hX, -⟩ := q197
                    have h00 := hX.at0
                    obtain rfl : r197 = (zM z1) 0 q9 := v_ph0 hv1 hk1 q197
                    refine lv_iload S.1 S.2.1 dL_acts_200 (lv_at hl 6 rfl) ?_
                    refine lv_icmp_ne (tgt := 290) S.1 S.2.1 dL_acts_202 (by decide) (fun c202 => ?_) (fun c202 => ?_)
                    · skip
                      exact absurd (ins_w hz1 (by decide)) c202
                    · skip
                      refine lv_aload_n S.1 S.2.1 dL_acts_205 rfl (lv_at hl 8 rfl) ?_
                      refine lv_iload S.1 S.2.1 dL_acts_206 (lv_at hl 0 rfl) ?_
                      refine lv_iconst (v := 1) S.1 S.2.1 dL_acts_208 (by decide) ?_
                      refine x_qi (va_runV (As := [.int (nI q9), .int 1]) (rest := []) S (c_X6_photo l g hJ E1_65 hX hv1 (nI q9) 1) (cwV 2 S.2.2.2.2 gL_acts_X6_photo rfl rfl rfl (by decide +kernel) ⟨Nat.le_of_ble_eq_true rfl, Nat.le_of_ble_eq_true rfl⟩) (x_preV hK hP h00 (by decide) rfl) rfl rfl hl.1 rfl (lv_room (Nat.le_of_ble_eq_true rfl)) dL_acts_209 ⟨Nat.le_of_ble_eq_true rfl, Nat.le_of_ble_eq_true rfl⟩) hS (fun r209 E1_66 H locs q209 hP hS => ?_)
                      obtain ⟨q209, hX, -⟩ := q209
                      have h00 := hX.at0
                      obtain rfl : r209 = (zM z1) 1 q9 + 1000 := v_ph1 hv1 hk1 q209
                      refine lv_iload S.1 S.2.1 dL_acts_212 (lv_at hl 4 rfl) ?_
                      refine lv_sipush (v := 1000) S.1 S.2.1 dL_acts_214 (by decide) ?_
                      refine lv_iadd S.1 S.2.1 dL_acts_217 ?_
                      refine lv_icmp_ne (tgt := 290) S.1 S.2.1 dL_acts_218 (by decide) (fun c218 => ?_) (fun c218 => ?_)
                      · skip
                        exact absurd (congrArg (fun q => q + 1000) (ins_w hz1 (by decide))) c218
                      · skip
                        refine lv_aload_n S.1 S.2.1 dL_acts_221 rfl (lv_at hl 8 rfl) ?_
                        refine lv_iload S.1 S.2.1 dL_acts_222 (lv_at hl 0 rfl) ?_
                        refine lv_iconst (v := 2) S.1 S.2.1 dL_acts_224 (by decide) ?_
                        refine x_qi (va_runV (As := [.int (nI q9), .int 2]) (rest := []) S (c_X6_photo l g hJ E1_66 hX hv1 (nI q9) 2) (cwV 2 S.2.2.2.2 gL_acts_X6_photo rfl rfl rfl (by decide +kernel) ⟨Nat.le_of_ble_eq_true rfl, Nat.le_of_ble_eq_true rfl⟩) (x_preV hK hP h00 (by decide) rfl) rfl rfl hl.1 rfl (lv_room (Nat.le_of_ble_eq_true rfl)) dL_acts_225 ⟨Nat.le_of_ble_eq_true rfl, Nat.le_of_ble_eq_true rfl⟩) hS (fun r225 E1_67 H locs q225 hP hS => ?_)
                        obtain ⟨q225, hX, -⟩ := q225
                        have h00 := hX.at0
                        obtain rfl : r225 = (zM z1) 2 q9 + 1000 := v_ph2 hv1 hk1 q225
                        refine lv_iload S.1 S.2.1 dL_acts_228 (lv_at hl 5 rfl) ?_
                        refine lv_sipush (v := 1000) S.1 S.2.1 dL_acts_230 (by decide) ?_
                        refine lv_iadd S.1 S.2.1 dL_acts_233 ?_
                        refine lv_icmp_ne (tgt := 290) S.1 S.2.1 dL_acts_234 (by decide) (fun c234 => ?_) (fun c234 => ?_)
                        · skip
                          exact absurd (congrArg (fun q => q + 1000) (ins_w hz1 (by decide))) c234
                        · skip
                          refine lv_aload_n S.1 S.2.1 dL_acts_237 rfl (lv_at hl 8 rfl) ?_
                          refine lv_iload S.1 S.2.1 dL_acts_238 (lv_at hl 0 rfl) ?_
                          refine lv_iconst (v := 3) S.1 S.2.1 dL_acts_240 (by decide) ?_
                          refine x_qi (va_runV (As := [.int (nI q9), .int 3]) (rest := []) S (c_X6_photo l g hJ E1_67 hX hv1 (nI q9) 3) (cwV 2 S.2.2.2.2 gL_acts_X6_photo rfl rfl rfl (by decide +kernel) ⟨Nat.le_of_ble_eq_true rfl, Nat.le_of_ble_eq_true rfl⟩) (x_preV hK hP h00 (by decide) rfl) rfl rfl hl.1 rfl (lv_room (Nat.le_of_ble_eq_true rfl)) dL_acts_241 ⟨Nat.le_of_ble_eq_true rfl, Nat.le_of_ble_eq_true rfl⟩) hS (fun r241 E1_68 H locs q241 hP hS => ?_)
                          obtain ⟨q241, hX, -⟩ := q241
                          have h00 := hX.at0
                          obtain rfl : r241 = (zM z1) 3 q9 := v_ph3 hv1 hk1 q241
                          refine lv_iload S.1 S.2.1 dL_acts_244 (lv_at hl 7 rfl) ?_
                          refine lv_icmp_ne (tgt := 290) S.1 S.2.1 dL_acts_246 (by decide) (fun c246 => ?_) (fun c246 => ?_)
                          · skip
                            exact absurd (ins_w hz1 (by decide)) c246
                          · skip
                            refine lv_aload_n S.1 S.2.1 dL_acts_249 rfl (lv_at hl 8 rfl) ?_
                            refine lv_iload S.1 S.2.1 dL_acts_250 (lv_at hl 0 rfl) ?_
                            refine lv_iconst (v := 4) S.1 S.2.1 dL_acts_252 (by decide) ?_
                            refine x_qi (va_runV (As := [.int (nI q9), .int 4]) (rest := []) S (c_X6_photo l g hJ E1_68 hX hv1 (nI q9) 4) (cwV 2 S.2.2.2.2 gL_acts_X6_photo rfl rfl rfl (by decide +kernel) ⟨Nat.le_of_ble_eq_true rfl, Nat.le_of_ble_eq_true rfl⟩) (x_preV hK hP h00 (by decide) rfl) rfl rfl hl.1 rfl (lv_room (Nat.le_of_ble_eq_true rfl)) dL_acts_253 ⟨Nat.le_of_ble_eq_true rfl, Nat.le_of_ble_eq_true rfl⟩) hS (fun r253 E1_69 H locs q253 hP hS => ?_)
                            obtain ⟨q253, hX, -⟩ := q253
                            have h00 := hX.at0
                            obtain rfl : r253 = an4 (zM z1) q9 := v_ph4 hv1 hk1 q253
                            refine lv_bipush (v := (-5)) S.1 S.2.1 dL_acts_256 (by decide) ?_
                            refine lv_icmp_ne (tgt := 290) S.1 S.2.1 dL_acts_258 (by decide) (fun c258 => ?_) (fun c258 => ?_)
                            · skip
                              exact absurd (an4_0 (ins_w hz1 (by decide))) c258
                            · skip
                              refine lv_aload_n S.1 S.2.1 dL_acts_261 rfl (lv_at hl 8 rfl) ?_
                              refine lv_iload S.1 S.2.1 dL_acts_262 (lv_at hl 0 rfl) ?_
                              refine lv_bipush (v := 6) S.1 S.2.1 dL_acts_264 (by decide) ?_
                              refine x_qi (va_runV (As := [.int (nI q9), .int 6]) (rest := []) S (c_X6_photo l g hJ E1_69 hX hv1 (nI q9) 6) (cwV 2 S.2.2.2.2 gL_acts_X6_photo rfl rfl rfl (by decide +kernel) ⟨Nat.le_of_ble_eq_true rfl, Nat.le_of_ble_eq_true rfl⟩) (x_preV hK hP h00 (by decide) rfl) rfl rfl hl.1 rfl (lv_room (Nat.le_of_ble_eq_true rfl)) dL_acts_266 ⟨Nat.le_of_ble_eq_true rfl, Nat.le_of_ble_eq_true rfl⟩) hS (fun r266 E1_70 H locs q266 hP hS => ?_)
                              obtain ⟨q266, hX, -⟩ := q266
                              have h00 := hX.at0
                              obtain rfl : r266 = (zM z1) 6 q9 := v_ph6 hv1 hk1 q266
                              refine lv_if_ne (tgt := 290) S.1 S.2.1 dL_acts_269 (by decide) (fun c269 => ?_) (fun c269 => ?_)
                              · skip
                                exact absurd (ins_6 hz1) c269
                              · skip
                                refine lv_aload_n S.1 S.2.1 dL_acts_272 rfl (lv_at hl 8 rfl) ?_
                                refine lv_bipush (v := 100) S.1 S.2.1 dL_acts_273 (by decide) ?_
                                refine lv_iconst (v := 0) S.1 S.2.1 dL_acts_275 (by decide) ?_
                                refine lv_iconst (v := 0) S.1 S.2.1 dL_acts_276 (by decide) ?_
                                refine lv_iconst (v := 0) S.1 S.2.1 dL_acts_277 (by decide) ?_
                                refine x_qi (va_runV (As := [.int 100, .int 0, .int 0, .int 0]) (rest := []) S (c_X6_addPhoto l g hJ E1_70 hX hv1 100 0 0 0) (cwV 4 S.2.2.2.2 gL_acts_X6_addPhoto rfl rfl rfl (by decide +kernel) ⟨Nat.le_of_ble_eq_true rfl, Nat.le_of_ble_eq_true rfl⟩) (x_preV hK hP h00 (by decide) rfl) rfl rfl hl.1 rfl (lv_room (Nat.le_of_ble_eq_true rfl)) dL_acts_278 ⟨Nat.le_of_ble_eq_true rfl, Nat.le_of_ble_eq_true rfl⟩) hS (fun r278 E1_71 H locs q278 hP hS => ?_)
                                obtain ⟨z9, q278, hX, -⟩ := q278
                                obtain ⟨rfl, hz9⟩ := ad_2 no100 q278
                                rw [hz9] at hX
                                have h00 := hX.at0
                                refine lv_bipush (v := (-2)) S.1 S.2.1 dL_acts_281 (by decide) ?_
                                refine lv_icmp_ne (tgt := 290) S.1 S.2.1 dL_acts_283 (by decide) (fun c283 => ?_) (fun c283 => ?_)
                                · skip
                                  exact absurd c283 (by decide)
                                · skip
                                  refine lv_iconst (v := 1) S.1 S.2.1 dL_acts_286 (by decide) ?_
                                  refine lv_goto (tgt := 291) S.1 S.2.1 dL_acts_287 (by decide) ?_
                                  exact x_zret S hr hlocks hP hS dL_acts_291 rfl (⟨rfl, z1, hX, hv1, vQ_rec hQ (ok5_ins hQ.1 hq9n rfl) hz1, Or.inr ⟨_, _, hz1⟩⟩)
              · skip
                obtain ⟨rfl, hz1⟩ := ad_3 (rng_ad ht9 her hvxr hvyr) (bI_z c163) (nI_inj (b := 10) (by omega) (by decide) c175) q154
                rw [hz1] at hX
                have h00 := hX.at0
                refine lv_bipush (v := (-3)) S.1 S.2.1 dL_acts_178 (by decide) ?_
                refine lv_goto (tgt := 185) S.1 S.2.1 dL_acts_180 (by decide) ?_
                refine lv_icmp_ne (tgt := 290) S.1 S.2.1 dL_acts_185 (by decide) (fun c185 => ?_) (fun c185 => ?_)
                · skip
                  exact absurd c185 (by decide)
                · skip
                  refine lv_iload S.1 S.2.1 dL_acts_188 (lv_at hl 0 rfl) ?_
                  refine lv_if_lt (tgt := 272) S.1 S.2.1 dL_acts_190 (by decide) (fun c190 => ?_) (fun c190 => ?_)
                  · skip
                    refine lv_aload_n S.1 S.2.1 dL_acts_272 rfl (lv_at hl 8 rfl) ?_
                    refine lv_bipush (v := 100) S.1 S.2.1 dL_acts_273 (by decide) ?_
                    refine lv_iconst (v := 0) S.1 S.2.1 dL_acts_275 (by decide) ?_
                    refine lv_iconst (v := 0) S.1 S.2.1 dL_acts_276 (by decide) ?_
                    refine lv_iconst (v := 0) S.1 S.2.1 dL_acts_277 (by decide) ?_
                    refine x_qi (va_runV (As := [.int 100, .int 0, .int 0, .int 0]) (rest := []) S (c_X6_addPhoto l g hJ E1_64 hX hv 100 0 0 0) (cwV 4 S.2.2.2.2 gL_acts_X6_addPhoto rfl rfl rfl (by decide +kernel) ⟨Nat.le_of_ble_eq_true rfl, Nat.le_of_ble_eq_true rfl⟩) (x_preV hK hP h00 (by decide) rfl) rfl rfl hl.1 rfl (lv_room (Nat.le_of_ble_eq_true rfl)) dL_acts_278 ⟨Nat.le_of_ble_eq_true rfl, Nat.le_of_ble_eq_true rfl⟩) hS (fun r278 E1_72 H locs q278 hP hS => ?_)
                    obtain ⟨z9, q278, hX, -⟩ := q278
                    obtain ⟨rfl, hz9⟩ := ad_2 no100 q278
                    rw [hz9] at hX
                    have h00 := hX.at0
                    refine lv_bipush (v := (-2)) S.1 S.2.1 dL_acts_281 (by decide) ?_
                    refine lv_icmp_ne (tgt := 290) S.1 S.2.1 dL_acts_283 (by decide) (fun c283_1 => ?_) (fun c283_1 => ?_)
                    · skip
                      exact absurd c283_1 (by decide)
                    · skip
                      refine lv_iconst (v := 1) S.1 S.2.1 dL_acts_286 (by decide) ?_
                      refine lv_goto (tgt := 291) S.1 S.2.1 dL_acts_287 (by decide) ?_
                      exact x_zret S hr hlocks hP hS dL_acts_291 rfl (⟨rfl, z, hX, hv, hQ, Or.inl rfl⟩)
                  · skip
                    exact absurd c190 (by decide)
            · skip
              obtain ⟨rfl, hz1⟩ := ad_4 (rng_ad ht9 her hvxr hvyr) (bI_nz c163) q154
              rw [hz1] at hX
              have h00 := hX.at0
              refine lv_bipush (v := (-4)) S.1 S.2.1 dL_acts_166 (by decide) ?_
              refine lv_goto (tgt := 185) S.1 S.2.1 dL_acts_168 (by decide) ?_
              refine lv_icmp_ne (tgt := 290) S.1 S.2.1 dL_acts_185 (by decide) (fun c185 => ?_) (fun c185 => ?_)
              · skip
                exact absurd c185 (by decide)
              · skip
                refine lv_iload S.1 S.2.1 dL_acts_188 (lv_at hl 0 rfl) ?_
                refine lv_if_lt (tgt := 272) S.1 S.2.1 dL_acts_190 (by decide) (fun c190 => ?_) (fun c190 => ?_)
                · skip
                  refine lv_aload_n S.1 S.2.1 dL_acts_272 rfl (lv_at hl 8 rfl) ?_
                  refine lv_bipush (v := 100) S.1 S.2.1 dL_acts_273 (by decide) ?_
                  refine lv_iconst (v := 0) S.1 S.2.1 dL_acts_275 (by decide) ?_
                  refine lv_iconst (v := 0) S.1 S.2.1 dL_acts_276 (by decide) ?_
                  refine lv_iconst (v := 0) S.1 S.2.1 dL_acts_277 (by decide) ?_
                  refine x_qi (va_runV (As := [.int 100, .int 0, .int 0, .int 0]) (rest := []) S (c_X6_addPhoto l g hJ E1_64 hX hv 100 0 0 0) (cwV 4 S.2.2.2.2 gL_acts_X6_addPhoto rfl rfl rfl (by decide +kernel) ⟨Nat.le_of_ble_eq_true rfl, Nat.le_of_ble_eq_true rfl⟩) (x_preV hK hP h00 (by decide) rfl) rfl rfl hl.1 rfl (lv_room (Nat.le_of_ble_eq_true rfl)) dL_acts_278 ⟨Nat.le_of_ble_eq_true rfl, Nat.le_of_ble_eq_true rfl⟩) hS (fun r278 E1_73 H locs q278 hP hS => ?_)
                  obtain ⟨z9, q278, hX, -⟩ := q278
                  obtain ⟨rfl, hz9⟩ := ad_2 no100 q278
                  rw [hz9] at hX
                  have h00 := hX.at0
                  refine lv_bipush (v := (-2)) S.1 S.2.1 dL_acts_281 (by decide) ?_
                  refine lv_icmp_ne (tgt := 290) S.1 S.2.1 dL_acts_283 (by decide) (fun c283_2 => ?_) (fun c283_2 => ?_)
                  · skip
                    exact absurd c283_2 (by decide)
                  · skip
                    refine lv_iconst (v := 1) S.1 S.2.1 dL_acts_286 (by decide) ?_
                    refine lv_goto (tgt := 291) S.1 S.2.1 dL_acts_287 (by decide) ?_
                    exact x_zret S hr hlocks hP hS dL_acts_291 rfl (⟨rfl, z, hX, hv, hQ, Or.inl rfl⟩)
                · skip
                  exact absurd c190 (by decide)
          · skip
            have hqn := kn_lt hn hq c92
            refine lv_iload S.1 S.2.1 dL_acts_95 (lv_at hl 1 rfl) ?_
            refine lv_aload_n S.1 S.2.1 dL_acts_97 rfl (lv_at hl 8 rfl) ?_
            refine lv_iload S.1 S.2.1 dL_acts_98 (lv_at hl 0 rfl) ?_
            refine lv_iconst (v := 0) S.1 S.2.1 dL_acts_100 (by decide) ?_
            refine x_qi (va_runV (As := [.int (nI q), .int 0]) (rest := [.int (bI (thB (zM z) (nI t9) q))]) S (c_X6_photo l g hJ EL hX hv (nI q) 0) (cwV 2 S.2.2.2.2 gL_acts_X6_photo rfl rfl rfl (by decide +kernel) ⟨Nat.le_of_ble_eq_true rfl, Nat.le_of_ble_eq_true rfl⟩) (x_preV hK hP h00 (by decide) rfl) rfl rfl hl.1 rfl (lv_room (Nat.le_of_ble_eq_true rfl)) dL_acts_101 ⟨Nat.le_of_ble_eq_true rfl, Nat.le_of_ble_eq_true rfl⟩) hS (fun r101 E1_74 H locs q101 hP hS => ?_)
            obtain ⟨q101, hX, -⟩ := q101
            have h00 := hX.at0
            obtain rfl : r101 = (zM z) 0 q := v_ph0 hv hqn q101
            refine lv_iload S.1 S.2.1 dL_acts_104 (lv_at hl 6 rfl) ?_
            refine lv_icmp_ne (tgt := 113) S.1 S.2.1 dL_acts_106 (by decide) (fun c106 => ?_) (fun c106 => ?_)
            · skip
              refine lv_iconst (v := 0) S.1 S.2.1 dL_acts_113 (by decide) ?_
              refine lv_ior S.1 S.2.1 dL_acts_114 ?_
              refine W.eq (g2 := F0 m 115 ls [.int (bI (thB (zM z) (nI t9) (q + 1)))]) (by rw [th_f c106]) ?_
              refine lv_istore (lv' := [(10, .int (bI (thB (zM z) (nI t9) (q + 1)))), (12, .int (nI q)), (11, .int (nI (cnt (ltB (zM z) (nI t9)) q))), (4, .int (nI (zn z))), (6, .int vx), (7, .int vy), (8, .int (nI t9)), (9, .int (nI er)), (0, .ref (xad g 0))]) S.1 S.2.1 dL_acts_115 hl (by decide) rfl (fun ls hl => ?_)
              refine lv_iload S.1 S.2.1 dL_acts_117 (lv_at hl 2 rfl) ?_
              refine lv_aload_n S.1 S.2.1 dL_acts_119 rfl (lv_at hl 8 rfl) ?_
              refine lv_iload S.1 S.2.1 dL_acts_120 (lv_at hl 1 rfl) ?_
              refine lv_iconst (v := 0) S.1 S.2.1 dL_acts_122 (by decide) ?_
              refine x_qi (va_runV (As := [.int (nI q), .int 0]) (rest := [.int (nI (cnt (ltB (zM z) (nI t9)) q))]) S (c_X6_photo l g hJ E1_74 hX hv (nI q) 0) (cwV 2 S.2.2.2.2 gL_acts_X6_photo rfl rfl rfl (by decide +kernel) ⟨Nat.le_of_ble_eq_true rfl, Nat.le_of_ble_eq_true rfl⟩) (x_preV hK hP h00 (by decide) rfl) rfl rfl hl.1 rfl (lv_room (Nat.le_of_ble_eq_true rfl)) dL_acts_123 ⟨Nat.le_of_ble_eq_true rfl, Nat.le_of_ble_eq_true rfl⟩) hS (fun r123 E1_75 H locs q123 hP hS => ?_)
              obtain ⟨q123, hX, -⟩ := q123
              have h00 := hX.at0
              obtain rfl : r123 = (zM z) 0 q := v_ph0 hv hqn q123
              refine lv_iload S.1 S.2.1 dL_acts_126 (lv_at hl 6 rfl) ?_
              refine lv_icmp_ge (tgt := 135) S.1 S.2.1 dL_acts_128 (by decide) (fun c128 => ?_) (fun c128 => ?_)
              · skip
                refine lv_iconst (v := 0) S.1 S.2.1 dL_acts_135 (by decide) ?_
                refine lv_iadd S.1 S.2.1 dL_acts_136 ?_
                refine W.eq (g2 := F0 m 137 ls [.int (nI (cnt (ltB (zM z) (nI t9)) (q + 1)))]) (by rw [lt_f (Int32.not_lt.mpr c128)]) ?_
                refine lv_istore (lv' := [(11, .int (nI (cnt (ltB (zM z) (nI t9)) (q + 1)))), (10, .int (bI (thB (zM z) (nI t9) (q + 1)))), (12, .int (nI q)), (4, .int (nI (zn z))), (6, .int vx), (7, .int vy), (8, .int (nI t9)), (9, .int (nI er)), (0, .ref (xad g 0))]) S.1 S.2.1 dL_acts_137 hl (by decide) rfl (fun ls hl => ?_)
                refine lv_iinc (v := nI (q + 1)) (lv' := [(12, .int (nI (q + 1))), (11, .int (nI (cnt (ltB (zM z) (nI t9)) (q + 1)))), (10, .int (bI (thB (zM z) (nI t9) (q + 1)))), (4, .int (nI (zn z))), (6, .int vx), (7, .int vy), (8, .int (nI t9)), (9, .int (nI er)), (0, .ref (xad g 0))]) S.1 S.2.1 dL_acts_139 hl (k := 2) rfl (show nI q + Int32.ofInt 1 = _ from nI_1 _) (by decide) rfl (fun ls hl => ?_)
                refine lv_goto (tgt := 88) S.1 S.2.1 dL_acts_142 (by decide) ?_
                exact ih88 (q + 1) _ _ _ (by omega) (by omega) hX h00 hP hS ls (lv_sub hl [0, 2, 1, 3, 4, 5, 6, 7, 8] rfl)
              · skip
                refine lv_iconst (v := 1) S.1 S.2.1 dL_acts_131 (by decide) ?_
                refine lv_goto (tgt := 136) S.1 S.2.1 dL_acts_132 (by decide) ?_
                refine lv_iadd S.1 S.2.1 dL_acts_136 ?_
                refine W.eq (g2 := F0 m 137 ls [.int (nI (cnt (ltB (zM z) (nI t9)) (q + 1)))]) (by rw [lt_t (Int32.not_le.mp c128)]) ?_
                refine lv_istore (lv' := [(11, .int (nI (cnt (ltB (zM z) (nI t9)) (q + 1)))), (10, .int (bI (thB (zM z) (nI t9) (q + 1)))), (12, .int (nI q)), (4, .int (nI (zn z))), (6, .int vx), (7, .int vy), (8, .int (nI t9)), (9, .int (nI er)), (0, .ref (xad g 0))]) S.1 S.2.1 dL_acts_137 hl (by decide) rfl (fun ls hl => ?_)
                refine lv_iinc (v := nI (q + 1)) (lv' := [(12, .int (nI (q + 1))), (11, .int (nI (cnt (ltB (zM z) (nI t9)) (q + 1)))), (10, .int (bI (thB (zM z) (nI t9) (q + 1)))), (4, .int (nI (zn z))), (6, .int vx), (7, .int vy), (8, .int (nI t9)), (9, .int (nI er)), (0, .ref (xad g 0))]) S.1 S.2.1 dL_acts_139 hl (k := 2) rfl (show nI q + Int32.ofInt 1 = _ from nI_1 _) (by decide) rfl (fun ls hl => ?_)
                refine lv_goto (tgt := 88) S.1 S.2.1 dL_acts_142 (by decide) ?_
                exact ih88 (q + 1) _ _ _ (by omega) (by omega) hX h00 hP hS ls (lv_sub hl [0, 2, 1, 3, 4, 5, 6, 7, 8] rfl)
            · skip
              refine lv_iconst (v := 1) S.1 S.2.1 dL_acts_109 (by decide) ?_
              refine lv_goto (tgt := 114) S.1 S.2.1 dL_acts_110 (by decide) ?_
              refine lv_ior S.1 S.2.1 dL_acts_114 ?_
              refine W.eq (g2 := F0 m 115 ls [.int (bI (thB (zM z) (nI t9) (q + 1)))]) (by rw [th_t c106]) ?_
              refine lv_istore (lv' := [(10, .int (bI (thB (zM z) (nI t9) (q + 1)))), (12, .int (nI q)), (11, .int (nI (cnt (ltB (zM z) (nI t9)) q))), (4, .int (nI (zn z))), (6, .int vx), (7, .int vy), (8, .int (nI t9)), (9, .int (nI er)), (0, .ref (xad g 0))]) S.1 S.2.1 dL_acts_115 hl (by decide) rfl (fun ls hl => ?_)
              refine lv_iload S.1 S.2.1 dL_acts_117 (lv_at hl 2 rfl) ?_
              refine lv_aload_n S.1 S.2.1 dL_acts_119 rfl (lv_at hl 8 rfl) ?_
              refine lv_iload S.1 S.2.1 dL_acts_120 (lv_at hl 1 rfl) ?_
              refine lv_iconst (v := 0) S.1 S.2.1 dL_acts_122 (by decide) ?_
              refine x_qi (va_runV (As := [.int (nI q), .int 0]) (rest := [.int (nI (cnt (ltB (zM z) (nI t9)) q))]) S (c_X6_photo l g hJ E1_74 hX hv (nI q) 0) (cwV 2 S.2.2.2.2 gL_acts_X6_photo rfl rfl rfl (by decide +kernel) ⟨Nat.le_of_ble_eq_true rfl, Nat.le_of_ble_eq_true rfl⟩) (x_preV hK hP h00 (by decide) rfl) rfl rfl hl.1 rfl (lv_room (Nat.le_of_ble_eq_true rfl)) dL_acts_123 ⟨Nat.le_of_ble_eq_true rfl, Nat.le_of_ble_eq_true rfl⟩) hS (fun r123 E1_76 H locs q123 hP hS => ?_)
              obtain ⟨q123, hX, -⟩ := q123
              have h00 := hX.at0
              obtain rfl : r123 = (zM z) 0 q := v_ph0 hv hqn q123
              refine lv_iload S.1 S.2.1 dL_acts_126 (lv_at hl 6 rfl) ?_
              refine lv_icmp_ge (tgt := 135) S.1 S.2.1 dL_acts_128 (by decide) (fun c128 => ?_) (fun c128 => ?_)
              · skip
                refine lv_iconst (v := 0) S.1 S.2.1 dL_acts_135 (by decide) ?_
                refine lv_iadd S.1 S.2.1 dL_acts_136 ?_
                refine W.eq (g2 := F0 m 137 ls [.int (nI (cnt (ltB (zM z) (nI t9)) (q + 1)))]) (by rw [lt_f (Int32.not_lt.mpr c128)]) ?_
                refine lv_istore (lv' := [(11, .int (nI (cnt (ltB (zM z) (nI t9)) (q + 1)))), (10, .int (bI (thB (zM z) (nI t9) (q + 1)))), (12, .int (nI q)), (4, .int (nI (zn z))), (6, .int vx), (7, .int vy), (8, .int (nI t9)), (9, .int (nI er)), (0, .ref (xad g 0))]) S.1 S.2.1 dL_acts_137 hl (by decide) rfl (fun ls hl => ?_)
                refine lv_iinc (v := nI (q + 1)) (lv' := [(12, .int (nI (q + 1))), (11, .int (nI (cnt (ltB (zM z) (nI t9)) (q + 1)))), (10, .int (bI (thB (zM z) (nI t9) (q + 1)))), (4, .int (nI (zn z))), (6, .int vx), (7, .int vy), (8, .int (nI t9)), (9, .int (nI er)), (0, .ref (xad g 0))]) S.1 S.2.1 dL_acts_139 hl (k := 2) rfl (show nI q + Int32.ofInt 1 = _ from nI_1 _) (by decide) rfl (fun ls hl => ?_)
                refine lv_goto (tgt := 88) S.1 S.2.1 dL_acts_142 (by decide) ?_
                exact ih88 (q + 1) _ _ _ (by omega) (by omega) hX h00 hP hS ls (lv_sub hl [0, 2, 1, 3, 4, 5, 6, 7, 8] rfl)
              · skip
                refine lv_iconst (v := 1) S.1 S.2.1 dL_acts_131 (by decide) ?_
                refine lv_goto (tgt := 136) S.1 S.2.1 dL_acts_132 (by decide) ?_
                refine lv_iadd S.1 S.2.1 dL_acts_136 ?_
                refine W.eq (g2 := F0 m 137 ls [.int (nI (cnt (ltB (zM z) (nI t9)) (q + 1)))]) (by rw [lt_t (Int32.not_le.mp c128)]) ?_
                refine lv_istore (lv' := [(11, .int (nI (cnt (ltB (zM z) (nI t9)) (q + 1)))), (10, .int (bI (thB (zM z) (nI t9) (q + 1)))), (12, .int (nI q)), (4, .int (nI (zn z))), (6, .int vx), (7, .int vy), (8, .int (nI t9)), (9, .int (nI er)), (0, .ref (xad g 0))]) S.1 S.2.1 dL_acts_137 hl (by decide) rfl (fun ls hl => ?_)
                refine lv_iinc (v := nI (q + 1)) (lv' := [(12, .int (nI (q + 1))), (11, .int (nI (cnt (ltB (zM z) (nI t9)) (q + 1)))), (10, .int (bI (thB (zM z) (nI t9) (q + 1)))), (4, .int (nI (zn z))), (6, .int vx), (7, .int vy), (8, .int (nI t9)), (9, .int (nI er)), (0, .ref (xad g 0))]) S.1 S.2.1 dL_acts_139 hl (k := 2) rfl (show nI q + Int32.ofInt 1 = _ from nI_1 _) (by decide) rfl (fun ls hl => ?_)
                refine lv_goto (tgt := 88) S.1 S.2.1 dL_acts_142 (by decide) ?_
                exact ih88 (q + 1) _ _ _ (by omega) (by omega) hX h00 hP hS ls (lv_sub hl [0, 2, 1, 3, 4, 5, 6, 7, 8] rfl)
      exact loop88 _ 0 _ _ _ (Nat.zero_le _) (Nat.lt_succ_self _) hX h00 hP hS ls (lv_sub hl [0, 2, 1, 8, 6, 5, 4, 3, 9] rfl)
  · skip
    have hn0 := nI_z0 hn c9
    refine lv_iconst (v := 0) S.1 S.2.1 dL_acts_12 (by decide) ?_
    refine lv_goto (tgt := 22) S.1 S.2.1 dL_acts_13 (by decide) ?_
    refine lv_istore (lv' := [(5, .int 0), (4, .int (nI (zn z))), (0, .ref (xad g 0)), (1, .int so), (2, .int gg), (3, .int hh)]) S.1 S.2.1 dL_acts_22 hl (by decide) rfl (fun ls hl => ?_)
    refine lv_iload_n S.1 S.2.1 dL_acts_24 rfl (lv_at hl 5 rfl) ?_
    refine lv_sipush (v := 401) S.1 S.2.1 dL_acts_25 (by decide) ?_
    refine W.eq (g2 := F0 m 28 ls [.int (nI 401), .int hh]) (by rw [show (401 : Int32) = nI 401 from rfl]) ?_
    refine x_si (va_runS (As := [.int hh, .int (nI 401)]) (rest := []) S (c_L_low l g E1 hh (d := 401) (by decide) (by decide)) (va_cwS 2 S.2.2.2.2 gL_acts_L_low rfl rfl rfl (by decide +kernel) ⟨Nat.le_of_ble_eq_true rfl, Nat.le_of_ble_eq_true rfl⟩) (x_preS hK hP) rfl rfl hl.1 rfl (lv_room (Nat.le_of_ble_eq_true rfl)) dL_acts_28 ⟨Nat.le_of_ble_eq_true rfl, Nat.le_of_ble_eq_true rfl⟩) (fun r28 hr28 => ?_)
    obtain ⟨qx, hqx, rfl⟩ := hr28
    refine lv_sipush (v := 200) S.1 S.2.1 dL_acts_31 (by decide) ?_
    refine lv_isub S.1 S.2.1 dL_acts_34 ?_
    refine lv_topi (fun vx evx => ?_)
    refine lv_istore (lv' := [(6, .int vx), (5, .int 0), (4, .int (nI (zn z))), (0, .ref (xad g 0)), (1, .int so), (2, .int gg), (3, .int hh)]) S.1 S.2.1 dL_acts_35 hl (by decide) rfl (fun ls hl => ?_)
    have hvxr := r400 (q401 hqx evx)
    refine lv_iload_n S.1 S.2.1 dL_acts_37 rfl (lv_at hl 6 rfl) ?_
    refine lv_bipush (v := 9) S.1 S.2.1 dL_acts_38 (by decide) ?_
    refine lv_ishr S.1 S.2.1 dL_acts_40 ?_
    refine lv_sipush (v := 401) S.1 S.2.1 dL_acts_41 (by decide) ?_
    refine W.eq (g2 := F0 m 44 ls [.int (nI 401), .int (hh >>> (9 &&& 31))]) (by rw [show (401 : Int32) = nI 401 from rfl]) ?_
    refine x_si (va_runS (As := [.int (hh >>> (9 &&& 31)), .int (nI 401)]) (rest := []) S (c_L_low l g E1 (hh >>> (9 &&& 31)) (d := 401) (by decide) (by decide)) (va_cwS 2 S.2.2.2.2 gL_acts_L_low rfl rfl rfl (by decide +kernel) ⟨Nat.le_of_ble_eq_true rfl, Nat.le_of_ble_eq_true rfl⟩) (x_preS hK hP) rfl rfl hl.1 rfl (lv_room (Nat.le_of_ble_eq_true rfl)) dL_acts_44 ⟨Nat.le_of_ble_eq_true rfl, Nat.le_of_ble_eq_true rfl⟩) (fun r44 hr44 => ?_)
    obtain ⟨qy, hqy, rfl⟩ := hr44
    refine lv_sipush (v := 200) S.1 S.2.1 dL_acts_47 (by decide) ?_
    refine lv_isub S.1 S.2.1 dL_acts_50 ?_
    refine lv_topi (fun vy evy => ?_)
    refine lv_istore (lv' := [(7, .int vy), (6, .int vx), (5, .int 0), (4, .int (nI (zn z))), (0, .ref (xad g 0)), (1, .int so), (2, .int gg), (3, .int hh)]) S.1 S.2.1 dL_acts_51 hl (by decide) rfl (fun ls hl => ?_)
    have hvyr := r400 (q401 hqy evy)
    refine lv_iload_n S.1 S.2.1 dL_acts_53 rfl (lv_at hl 5 rfl) ?_
    refine lv_iconst (v := 4) S.1 S.2.1 dL_acts_54 (by decide) ?_
    refine lv_icmp_ge (tgt := 292) S.1 S.2.1 dL_acts_55 (by decide) (fun c55 => ?_) (fun c55 => ?_)
    · skip
      refine lv_iload S.1 S.2.1 dL_acts_292 (lv_at hl 3 rfl) ?_
      refine lv_if_ne (tgt := 344) S.1 S.2.1 dL_acts_294 (by decide) (fun c294 => ?_) (fun c294 => ?_)
      · skip
        exact absurd c9 c294
      · skip
        refine lv_aload_n S.1 S.2.1 dL_acts_297 rfl (lv_at hl 4 rfl) ?_
        refine lv_iconst (v := 0) S.1 S.2.1 dL_acts_298 (by decide) ?_
        refine lv_iconst (v := 0) S.1 S.2.1 dL_acts_299 (by decide) ?_
        refine lv_iconst (v := 0) S.1 S.2.1 dL_acts_300 (by decide) ?_
        refine x_qi (va_runV (As := [.int 0, .int 0, .int 0]) (rest := []) S (c_X6_move l g hJ E1 hX hv 0 0 0) (cwV 3 S.2.2.2.2 gL_acts_X6_move rfl rfl rfl (by decide +kernel) ⟨Nat.le_of_ble_eq_true rfl, Nat.le_of_ble_eq_true rfl⟩) (x_preV hK hP h00 (by decide) rfl) rfl rfl hl.1 rfl (lv_room (Nat.le_of_ble_eq_true rfl)) dL_acts_301 ⟨Nat.le_of_ble_eq_true rfl, Nat.le_of_ble_eq_true rfl⟩) hS (fun r301 E1_77 H locs q301 hP hS => ?_)
        obtain ⟨z9, q301, hX, -⟩ := q301
        obtain ⟨rfl, hz9⟩ := mv_0 hn0 q301
        rw [hz9] at hX
        have h00 := hX.at0
        refine lv_iconst (v := (-1)) S.1 S.2.1 dL_acts_304 (by decide) ?_
        refine lv_icmp_ne (tgt := 342) S.1 S.2.1 dL_acts_305 (by decide) (fun c305 => ?_) (fun c305 => ?_)
        · skip
          exact absurd c305 (by decide)
        · skip
          refine lv_aload_n S.1 S.2.1 dL_acts_308 rfl (lv_at hl 4 rfl) ?_
          refine lv_iconst (v := 0) S.1 S.2.1 dL_acts_309 (by decide) ?_
          refine x_qi (va_runV (As := [.int 0]) (rest := []) S (c_X6_remove l g hJ E1_77 hX hv 0) (cwV 1 S.2.2.2.2 gL_acts_X6_remove rfl rfl rfl (by decide +kernel) ⟨Nat.le_of_ble_eq_true rfl, Nat.le_of_ble_eq_true rfl⟩) (x_preV hK hP h00 (by decide) rfl) rfl rfl hl.1 rfl (lv_room (Nat.le_of_ble_eq_true rfl)) dL_acts_310 ⟨Nat.le_of_ble_eq_true rfl, Nat.le_of_ble_eq_true rfl⟩) hS (fun r310 E1_78 H locs q310 hP hS => ?_)
          obtain ⟨z9, q310, hX, -⟩ := q310
          obtain ⟨rfl, hz9⟩ := rm_0 hn0 q310
          rw [hz9] at hX
          have h00 := hX.at0
          refine lv_iconst (v := (-1)) S.1 S.2.1 dL_acts_313 (by decide) ?_
          refine lv_icmp_ne (tgt := 342) S.1 S.2.1 dL_acts_314 (by decide) (fun c314 => ?_) (fun c314 => ?_)
          · skip
            exact absurd c314 (by decide)
          · skip
            refine lv_aload_n S.1 S.2.1 dL_acts_317 rfl (lv_at hl 4 rfl) ?_
            refine lv_iconst (v := 0) S.1 S.2.1 dL_acts_318 (by decide) ?_
            refine lv_iconst (v := 0) S.1 S.2.1 dL_acts_319 (by decide) ?_
            refine lv_iconst (v := 0) S.1 S.2.1 dL_acts_320 (by decide) ?_
            refine x_qi (va_runV (As := [.int 0, .int 0, .int 0]) (rest := []) S (c_X6_setAngle l g hJ E1_78 hX hv 0 0 0) (cwV 3 S.2.2.2.2 gL_acts_X6_setAngle rfl rfl rfl (by decide +kernel) ⟨Nat.le_of_ble_eq_true rfl, Nat.le_of_ble_eq_true rfl⟩) (x_preV hK hP h00 (by decide) rfl) rfl rfl hl.1 rfl (lv_room (Nat.le_of_ble_eq_true rfl)) dL_acts_321 ⟨Nat.le_of_ble_eq_true rfl, Nat.le_of_ble_eq_true rfl⟩) hS (fun r321 E1_79 H locs q321 hP hS => ?_)
            obtain ⟨z9, q321, hX, -⟩ := q321
            obtain ⟨rfl, hz9⟩ := sA_0 hn0 q321
            rw [hz9] at hX
            have h00 := hX.at0
            refine lv_iconst (v := (-1)) S.1 S.2.1 dL_acts_324 (by decide) ?_
            refine lv_icmp_ne (tgt := 342) S.1 S.2.1 dL_acts_325 (by decide) (fun c325 => ?_) (fun c325 => ?_)
            · skip
              exact absurd c325 (by decide)
            · skip
              refine lv_aload_n S.1 S.2.1 dL_acts_328 rfl (lv_at hl 4 rfl) ?_
              refine lv_iconst (v := 0) S.1 S.2.1 dL_acts_329 (by decide) ?_
              refine lv_iconst (v := 1) S.1 S.2.1 dL_acts_330 (by decide) ?_
              refine W.eq (g2 := F0 m 331 ls [.int (bI true), .int 0, .ref (xad g 0)]) (by rw [show (1 : Int32) = bI true from rfl]) ?_
              refine x_qi (va_runV (As := [.int 0, .int (bI true)]) (rest := []) S (c_X6_setAside l g hJ E1_79 hX hv 0 true) (cwV 2 S.2.2.2.2 gL_acts_X6_setAside rfl rfl rfl (by decide +kernel) ⟨Nat.le_of_ble_eq_true rfl, Nat.le_of_ble_eq_true rfl⟩) (x_preV hK hP h00 (by decide) rfl) rfl rfl hl.1 rfl (lv_room (Nat.le_of_ble_eq_true rfl)) dL_acts_331 ⟨Nat.le_of_ble_eq_true rfl, Nat.le_of_ble_eq_true rfl⟩) hS (fun r331 E1_80 H locs q331 hP hS => ?_)
              obtain ⟨z9, q331, hX, -⟩ := q331
              obtain ⟨rfl, hz9⟩ := sD_0 hn0 q331
              rw [hz9] at hX
              have h00 := hX.at0
              refine lv_iconst (v := (-1)) S.1 S.2.1 dL_acts_334 (by decide) ?_
              refine lv_icmp_ne (tgt := 342) S.1 S.2.1 dL_acts_335 (by decide) (fun c335 => ?_) (fun c335 => ?_)
              · skip
                exact absurd c335 (by decide)
              · skip
                refine lv_iconst (v := 1) S.1 S.2.1 dL_acts_338 (by decide) ?_
                refine lv_goto (tgt := 343) S.1 S.2.1 dL_acts_339 (by decide) ?_
                exact x_zret S hr hlocks hP hS dL_acts_343 rfl (⟨rfl, z, hX, hv, hQ, Or.inl rfl⟩)
    · skip
      refine lv_iload_n S.1 S.2.1 dL_acts_58 rfl (lv_at hl 6 rfl) ?_
      refine lv_iconst (v := 3) S.1 S.2.1 dL_acts_59 (by decide) ?_
      refine lv_ishr S.1 S.2.1 dL_acts_60 ?_
      refine lv_bipush (v := 100) S.1 S.2.1 dL_acts_61 (by decide) ?_
      refine W.eq (g2 := F0 m 63 ls [.int (nI 100), .int (gg >>> (3 &&& 31))]) (by rw [show (100 : Int32) = nI 100 from rfl]) ?_
      refine x_si (va_runS (As := [.int (gg >>> (3 &&& 31)), .int (nI 100)]) (rest := []) S (c_L_low l g E1 (gg >>> (3 &&& 31)) (d := 100) (by decide) (by decide)) (va_cwS 2 S.2.2.2.2 gL_acts_L_low rfl rfl rfl (by decide +kernel) ⟨Nat.le_of_ble_eq_true rfl, Nat.le_of_ble_eq_true rfl⟩) (x_preS hK hP) rfl rfl hl.1 rfl (lv_room (Nat.le_of_ble_eq_true rfl)) dL_acts_63 ⟨Nat.le_of_ble_eq_true rfl, Nat.le_of_ble_eq_true rfl⟩) (fun r63 hr63 => ?_)
      obtain ⟨t9, ht9, rfl⟩ := hr63
      refine lv_istore (lv' := [(8, .int (nI t9)), (7, .int vy), (6, .int vx), (5, .int 0), (4, .int (nI (zn z))), (0, .ref (xad g 0)), (1, .int so), (2, .int gg), (3, .int hh)]) S.1 S.2.1 dL_acts_66 hl (by decide) rfl (fun ls hl => ?_)
      refine lv_iload_n S.1 S.2.1 dL_acts_68 rfl (lv_at hl 7 rfl) ?_
      refine lv_bipush (v := 10) S.1 S.2.1 dL_acts_69 (by decide) ?_
      refine lv_ishr S.1 S.2.1 dL_acts_71 ?_
      refine lv_bipush (v := 41) S.1 S.2.1 dL_acts_72 (by decide) ?_
      refine W.eq (g2 := F0 m 74 ls [.int (nI 41), .int (gg >>> (10 &&& 31))]) (by rw [show (41 : Int32) = nI 41 from rfl]) ?_
      refine x_si (va_runS (As := [.int (gg >>> (10 &&& 31)), .int (nI 41)]) (rest := []) S (c_L_low l g E1 (gg >>> (10 &&& 31)) (d := 41) (by decide) (by decide)) (va_cwS 2 S.2.2.2.2 gL_acts_L_low rfl rfl rfl (by decide +kernel) ⟨Nat.le_of_ble_eq_true rfl, Nat.le_of_ble_eq_true rfl⟩) (x_preS hK hP) rfl rfl hl.1 rfl (lv_room (Nat.le_of_ble_eq_true rfl)) dL_acts_74 ⟨Nat.le_of_ble_eq_true rfl, Nat.le_of_ble_eq_true rfl⟩) (fun r74 hr74 => ?_)
      obtain ⟨er, her, rfl⟩ := hr74
      refine lv_istore (lv' := [(9, .int (nI er)), (8, .int (nI t9)), (7, .int vy), (6, .int vx), (5, .int 0), (4, .int (nI (zn z))), (0, .ref (xad g 0)), (1, .int so), (2, .int gg), (3, .int hh)]) S.1 S.2.1 dL_acts_77 hl (by decide) rfl (fun ls hl => ?_)
      refine lv_iconst (v := 0) S.1 S.2.1 dL_acts_79 (by decide) ?_
      refine lv_istore (lv' := [(10, .int 0), (9, .int (nI er)), (8, .int (nI t9)), (7, .int vy), (6, .int vx), (5, .int 0), (4, .int (nI (zn z))), (0, .ref (xad g 0)), (1, .int so), (2, .int gg), (3, .int hh)]) S.1 S.2.1 dL_acts_80 hl (by decide) rfl (fun ls hl => ?_)
      refine lv_iconst (v := 0) S.1 S.2.1 dL_acts_82 (by decide) ?_
      refine lv_istore (lv' := [(11, .int 0), (10, .int 0), (9, .int (nI er)), (8, .int (nI t9)), (7, .int vy), (6, .int vx), (5, .int 0), (4, .int (nI (zn z))), (0, .ref (xad g 0)), (1, .int so), (2, .int gg), (3, .int hh)]) S.1 S.2.1 dL_acts_83 hl (by decide) rfl (fun ls hl => ?_)
      refine lv_iconst (v := 0) S.1 S.2.1 dL_acts_85 (by decide) ?_
      refine lv_istore (lv' := [(12, .int 0), (11, .int 0), (10, .int 0), (9, .int (nI er)), (8, .int (nI t9)), (7, .int vy), (6, .int vx), (5, .int 0), (4, .int (nI (zn z))), (0, .ref (xad g 0)), (1, .int so), (2, .int gg), (3, .int hh)]) S.1 S.2.1 dL_acts_86 hl (by decide) rfl (fun ls hl => ?_)
      have loop88 : ∀ (d : Nat) (q : Nat) (EL : Nat → va_E) (H : Heap) (locs : List Loc), (hq : q ≤ zn z) → (zn z + 1 - q) < d → (hX : sX g EL z) → (h00 : EL 0 = .inr (6, [.ref (xad g 1), .ref (xad g 10), .int (bI (zf z)), .ref (xad g 19), .ref (xad g 57), .ref (xad g 59), .ref (xad g 60), .ref (xad g 61), .ref (xad g 64)])) → xP g EL H → va_S (xA (xad g)) s.heap H locs → ∀ ls : Array Slot, lv_has ls 13 [(12, .int (nI q)), (10, .int (bI (thB (zM z) (nI t9) q))), (11, .int (nI (cnt (ltB (zM z) (nI t9)) q))), (4, .int (nI (zn z))), (6, .int vx), (7, .int vy), (8, .int (nI t9)), (9, .int (nI er)), (0, .ref (xad g 0))] → W pz l ez ({ frames := 8, cells := 0, slots := 0, locals := 186 }) s m ([.ref (xad g 0), .int so, .int gg, .int hh] : List Value).toArray below meth cz H locs 0 0 (MQ below (xQi g (fun r E1 => r = 1 ∧ ∃ z1, sX g E1 z1 ∧ vS z1 ∧ vQ z1 ∧ acR z z1)) ([.ref (xad g 0), .int so, .int gg, .int hh] : List Value).toArray s 0 0 (xA (xad g))) (F0 m 88 ls []) := by
        intro d
        induction d with
        | zero => intro q EL H locs hq hd; exact absurd hd (Nat.not_lt_zero _)
        | succ d ih88 =>
          intro q EL H locs hq hd hX h00 hP hS ls hl
          refine lv_iload S.1 S.2.1 dL_acts_88 (lv_at hl 0 rfl) ?_
          refine lv_iload S.1 S.2.1 dL_acts_90 (lv_at hl 3 rfl) ?_
          refine lv_icmp_ge (tgt := 145) S.1 S.2.1 dL_acts_92 (by decide) (fun c92 => ?_) (fun c92 => ?_)
          · skip
            obtain rfl := kn_eq hn hq c92
            refine lv_aload_n S.1 S.2.1 dL_acts_145 rfl (lv_at hl 8 rfl) ?_
            refine lv_iload S.1 S.2.1 dL_acts_146 (lv_at hl 6 rfl) ?_
            refine lv_iload S.1 S.2.1 dL_acts_148 (lv_at hl 4 rfl) ?_
            refine lv_iload S.1 S.2.1 dL_acts_150 (lv_at hl 5 rfl) ?_
            refine lv_iload S.1 S.2.1 dL_acts_152 (lv_at hl 7 rfl) ?_
            refine x_qi (va_runV (As := [.int (nI t9), .int vx, .int vy, .int (nI er)]) (rest := []) S (c_X6_addPhoto l g hJ EL hX hv (nI t9) vx vy (nI er)) (cwV 4 S.2.2.2.2 gL_acts_X6_addPhoto rfl rfl rfl (by decide +kernel) ⟨Nat.le_of_ble_eq_true rfl, Nat.le_of_ble_eq_true rfl⟩) (x_preV hK hP h00 (by decide) rfl) rfl rfl hl.1 rfl (lv_room (Nat.le_of_ble_eq_true rfl)) dL_acts_154 ⟨Nat.le_of_ble_eq_true rfl, Nat.le_of_ble_eq_true rfl⟩) hS (fun r154 E1_81 H locs q154 hP hS => ?_)
            obtain ⟨z1, q154, hX, -⟩ := q154
            have h00 := hX.at0
            refine lv_istore (lv' := [(12, .int r154), (10, .int (bI (thB (zM z) (nI t9) (zn z)))), (11, .int (nI (cnt (ltB (zM z) (nI t9)) (zn z)))), (4, .int (nI (zn z))), (6, .int vx), (7, .int vy), (8, .int (nI t9)), (9, .int (nI er)), (0, .ref (xad g 0))]) S.1 S.2.1 dL_acts_157 hl (by decide) rfl (fun ls hl => ?_)
            refine lv_iload S.1 S.2.1 dL_acts_159 (lv_at hl 0 rfl) ?_
            refine lv_iload S.1 S.2.1 dL_acts_161 (lv_at hl 1 rfl) ?_
            refine lv_if_eq (tgt := 171) S.1 S.2.1 dL_acts_163 (by decide) (fun c163 => ?_) (fun c163 => ?_)
            · skip
              refine lv_iload S.1 S.2.1 dL_acts_171 (lv_at hl 3 rfl) ?_
              refine lv_bipush (v := 10) S.1 S.2.1 dL_acts_173 (by decide) ?_
              refine lv_icmp_ne (tgt := 183) S.1 S.2.1 dL_acts_175 (by decide) (fun c175 => ?_) (fun c175 => ?_)
              · skip
                obtain ⟨q9, hq9, hq9n, rfl, hn10, hz1⟩ := ad_n hv (rng_ad ht9 her hvxr hvyr) (bI_z c163) (fun h => c175 (by rw [h]; rfl)) q154
                have hv1 := sp_addPhoto.vS hv q154
                have hk1 : q9 < zn z1 := by rw [zn_w hz1]; omega
                refine lv_iload S.1 S.2.1 dL_acts_183 (lv_at hl 2 rfl) ?_
                refine lv_icmp_ne (tgt := 290) S.1 S.2.1 dL_acts_185 (by decide) (fun c185 => ?_) (fun c185 => ?_)
                · skip
                  exact absurd (congrArg nI hq9) c185
                · skip
                  refine lv_iload S.1 S.2.1 dL_acts_188 (lv_at hl 0 rfl) ?_
                  refine lv_if_lt (tgt := 272) S.1 S.2.1 dL_acts_190 (by decide) (fun c190 => ?_) (fun c190 => ?_)
                  · skip
                    exact absurd c190 (nI_pos (by omega))
                  · skip
                    refine lv_aload_n S.1 S.2.1 dL_acts_193 rfl (lv_at hl 8 rfl) ?_
                    refine lv_iload S.1 S.2.1 dL_acts_194 (lv_at hl 0 rfl) ?_
                    refine lv_iconst (v := 0) S.1 S.2.1 dL_acts_196 (by decide) ?_
                    refine x_qi (va_runV (As := [.int (nI q9), .int 0]) (rest := []) S (c_X6_photo l g hJ E1_81 hX hv1 (nI q9) 0) (cwV 2 S.2.2.2.2 gL_acts_X6_photo rfl rfl rfl (by decide +kernel) ⟨Nat.le_of_ble_eq_true rfl, Nat.le_of_ble_eq_true rfl⟩) (x_preV hK hP h00 (by decide) rfl) rfl rfl hl.1 rfl (lv_room (Nat.le_of_ble_eq_true rfl)) dL_acts_197 ⟨Nat.le_of_ble_eq_true rfl, Nat.le_of_ble_eq_true rfl⟩) hS (fun r197 E1_82 H locs q197 hP hS => ?_)
                    obtain ⟨q197, hX, -⟩ := q197
                    have h00 := hX.at0
                    obtain rfl : r197 = (zM z1) 0 q9 := v_ph0 hv1 hk1 q197
                    refine lv_iload S.1 S.2.1 dL_acts_200 (lv_at hl 6 rfl) ?_
                    refine lv_icmp_ne (tgt := 290) S.1 S.2.1 dL_acts_202 (by decide) (fun c202 => ?_) (fun c202 => ?_)
                    · skip
                      exact absurd (ins_w hz1 (by decide)) c202
                    · skip
                      refine lv_aload_n S.1 S.2.1 dL_acts_205 rfl (lv_at hl 8 rfl) ?_
                      refine lv_iload S.1 S.2.1 dL_acts_206 (lv_at hl 0 rfl) ?_
                      refine lv_iconst (v := 1) S.1 S.2.1 dL_acts_208 (by decide) ?_
                      refine x_qi (va_runV (As := [.int (nI q9), .int 1]) (rest := []) S (c_X6_photo l g hJ E1_82 hX hv1 (nI q9) 1) (cwV 2 S.2.2.2.2 gL_acts_X6_photo rfl rfl rfl (by decide +kernel) ⟨Nat.le_of_ble_eq_true rfl, Nat.le_of_ble_eq_true rfl⟩) (x_preV hK hP h00 (by decide) rfl) rfl rfl hl.1 rfl (lv_room (Nat.le_of_ble_eq_true rfl)) dL_acts_209 ⟨Nat.le_of_ble_eq_true rfl, Nat.le_of_ble_eq_true rfl⟩) hS (fun r209 E1_83 H locs q209 hP hS => ?_)
                      obtain ⟨q209, hX, -⟩ := q209
                      have h00 := hX.at0
                      obtain rfl : r209 = (zM z1) 1 q9 + 1000 := v_ph1 hv1 hk1 q209
                      refine lv_iload S.1 S.2.1 dL_acts_212 (lv_at hl 4 rfl) ?_
                      refine lv_sipush (v := 1000) S.1 S.2.1 dL_acts_214 (by decide) ?_
                      refine lv_iadd S.1 S.2.1 dL_acts_217 ?_
                      refine lv_icmp_ne (tgt := 290) S.1 S.2.1 dL_acts_218 (by decide) (fun c218 => ?_) (fun c218 => ?_)
                      · skip
                        exact absurd (congrArg (fun q => q + 1000) (ins_w hz1 (by decide))) c218
                      · skip
                        refine lv_aload_n S.1 S.2.1 dL_acts_221 rfl (lv_at hl 8 rfl) ?_
                        refine lv_iload S.1 S.2.1 dL_acts_222 (lv_at hl 0 rfl) ?_
                        refine lv_iconst (v := 2) S.1 S.2.1 dL_acts_224 (by decide) ?_
                        refine x_qi (va_runV (As := [.int (nI q9), .int 2]) (rest := []) S (c_X6_photo l g hJ E1_83 hX hv1 (nI q9) 2) (cwV 2 S.2.2.2.2 gL_acts_X6_photo rfl rfl rfl (by decide +kernel) ⟨Nat.le_of_ble_eq_true rfl, Nat.le_of_ble_eq_true rfl⟩) (x_preV hK hP h00 (by decide) rfl) rfl rfl hl.1 rfl (lv_room (Nat.le_of_ble_eq_true rfl)) dL_acts_225 ⟨Nat.le_of_ble_eq_true rfl, Nat.le_of_ble_eq_true rfl⟩) hS (fun r225 E1_84 H locs q225 hP hS => ?_)
                        obtain ⟨q225, hX, -⟩ := q225
                        have h00 := hX.at0
                        obtain rfl : r225 = (zM z1) 2 q9 + 1000 := v_ph2 hv1 hk1 q225
                        refine lv_iload S.1 S.2.1 dL_acts_228 (lv_at hl 5 rfl) ?_
                        refine lv_sipush (v := 1000) S.1 S.2.1 dL_acts_230 (by decide) ?_
                        refine lv_iadd S.1 S.2.1 dL_acts_233 ?_
                        refine lv_icmp_ne (tgt := 290) S.1 S.2.1 dL_acts_234 (by decide) (fun c234 => ?_) (fun c234 => ?_)
                        · skip
                          exact absurd (congrArg (fun q => q + 1000) (ins_w hz1 (by decide))) c234
                        · skip
                          refine lv_aload_n S.1 S.2.1 dL_acts_237 rfl (lv_at hl 8 rfl) ?_
                          refine lv_iload S.1 S.2.1 dL_acts_238 (lv_at hl 0 rfl) ?_
                          refine lv_iconst (v := 3) S.1 S.2.1 dL_acts_240 (by decide) ?_
                          refine x_qi (va_runV (As := [.int (nI q9), .int 3]) (rest := []) S (c_X6_photo l g hJ E1_84 hX hv1 (nI q9) 3) (cwV 2 S.2.2.2.2 gL_acts_X6_photo rfl rfl rfl (by decide +kernel) ⟨Nat.le_of_ble_eq_true rfl, Nat.le_of_ble_eq_true rfl⟩) (x_preV hK hP h00 (by decide) rfl) rfl rfl hl.1 rfl (lv_room (Nat.le_of_ble_eq_true rfl)) dL_acts_241 ⟨Nat.le_of_ble_eq_true rfl, Nat.le_of_ble_eq_true rfl⟩) hS (fun r241 E1_85 H locs q241 hP hS => ?_)
                          obtain ⟨q241, hX, -⟩ := q241
                          have h00 := hX.at0
                          obtain rfl : r241 = (zM z1) 3 q9 := v_ph3 hv1 hk1 q241
                          refine lv_iload S.1 S.2.1 dL_acts_244 (lv_at hl 7 rfl) ?_
                          refine lv_icmp_ne (tgt := 290) S.1 S.2.1 dL_acts_246 (by decide) (fun c246 => ?_) (fun c246 => ?_)
                          · skip
                            exact absurd (ins_w hz1 (by decide)) c246
                          · skip
                            refine lv_aload_n S.1 S.2.1 dL_acts_249 rfl (lv_at hl 8 rfl) ?_
                            refine lv_iload S.1 S.2.1 dL_acts_250 (lv_at hl 0 rfl) ?_
                            refine lv_iconst (v := 4) S.1 S.2.1 dL_acts_252 (by decide) ?_
                            refine x_qi (va_runV (As := [.int (nI q9), .int 4]) (rest := []) S (c_X6_photo l g hJ E1_85 hX hv1 (nI q9) 4) (cwV 2 S.2.2.2.2 gL_acts_X6_photo rfl rfl rfl (by decide +kernel) ⟨Nat.le_of_ble_eq_true rfl, Nat.le_of_ble_eq_true rfl⟩) (x_preV hK hP h00 (by decide) rfl) rfl rfl hl.1 rfl (lv_room (Nat.le_of_ble_eq_true rfl)) dL_acts_253 ⟨Nat.le_of_ble_eq_true rfl, Nat.le_of_ble_eq_true rfl⟩) hS (fun r253 E1_86 H locs q253 hP hS => ?_)
                            obtain ⟨q253, hX, -⟩ := q253
                            have h00 := hX.at0
                            obtain rfl : r253 = an4 (zM z1) q9 := v_ph4 hv1 hk1 q253
                            refine lv_bipush (v := (-5)) S.1 S.2.1 dL_acts_256 (by decide) ?_
                            refine lv_icmp_ne (tgt := 290) S.1 S.2.1 dL_acts_258 (by decide) (fun c258 => ?_) (fun c258 => ?_)
                            · skip
                              exact absurd (an4_0 (ins_w hz1 (by decide))) c258
                            · skip
                              refine lv_aload_n S.1 S.2.1 dL_acts_261 rfl (lv_at hl 8 rfl) ?_
                              refine lv_iload S.1 S.2.1 dL_acts_262 (lv_at hl 0 rfl) ?_
                              refine lv_bipush (v := 6) S.1 S.2.1 dL_acts_264 (by decide) ?_
                              refine x_qi (va_runV (As := [.int (nI q9), .int 6]) (rest := []) S (c_X6_photo l g hJ E1_86 hX hv1 (nI q9) 6) (cwV 2 S.2.2.2.2 gL_acts_X6_photo rfl rfl rfl (by decide +kernel) ⟨Nat.le_of_ble_eq_true rfl, Nat.le_of_ble_eq_true rfl⟩) (x_preV hK hP h00 (by decide) rfl) rfl rfl hl.1 rfl (lv_room (Nat.le_of_ble_eq_true rfl)) dL_acts_266 ⟨Nat.le_of_ble_eq_true rfl, Nat.le_of_ble_eq_true rfl⟩) hS (fun r266 E1_87 H locs q266 hP hS => ?_)
                              obtain ⟨q266, hX, -⟩ := q266
                              have h00 := hX.at0
                              obtain rfl : r266 = (zM z1) 6 q9 := v_ph6 hv1 hk1 q266
                              refine lv_if_ne (tgt := 290) S.1 S.2.1 dL_acts_269 (by decide) (fun c269 => ?_) (fun c269 => ?_)
                              · skip
                                exact absurd (ins_6 hz1) c269
                              · skip
                                refine lv_aload_n S.1 S.2.1 dL_acts_272 rfl (lv_at hl 8 rfl) ?_
                                refine lv_bipush (v := 100) S.1 S.2.1 dL_acts_273 (by decide) ?_
                                refine lv_iconst (v := 0) S.1 S.2.1 dL_acts_275 (by decide) ?_
                                refine lv_iconst (v := 0) S.1 S.2.1 dL_acts_276 (by decide) ?_
                                refine lv_iconst (v := 0) S.1 S.2.1 dL_acts_277 (by decide) ?_
                                refine x_qi (va_runV (As := [.int 100, .int 0, .int 0, .int 0]) (rest := []) S (c_X6_addPhoto l g hJ E1_87 hX hv1 100 0 0 0) (cwV 4 S.2.2.2.2 gL_acts_X6_addPhoto rfl rfl rfl (by decide +kernel) ⟨Nat.le_of_ble_eq_true rfl, Nat.le_of_ble_eq_true rfl⟩) (x_preV hK hP h00 (by decide) rfl) rfl rfl hl.1 rfl (lv_room (Nat.le_of_ble_eq_true rfl)) dL_acts_278 ⟨Nat.le_of_ble_eq_true rfl, Nat.le_of_ble_eq_true rfl⟩) hS (fun r278 E1_88 H locs q278 hP hS => ?_)
                                obtain ⟨z9, q278, hX, -⟩ := q278
                                obtain ⟨rfl, hz9⟩ := ad_2 no100 q278
                                rw [hz9] at hX
                                have h00 := hX.at0
                                refine lv_bipush (v := (-2)) S.1 S.2.1 dL_acts_281 (by decide) ?_
                                refine lv_icmp_ne (tgt := 290) S.1 S.2.1 dL_acts_283 (by decide) (fun c283_3 => ?_) (fun c283_3 => ?_)
                                · skip
                                  exact absurd c283_3 (by decide)
                                · skip
                                  refine lv_iconst (v := 1) S.1 S.2.1 dL_acts_286 (by decide) ?_
                                  refine lv_goto (tgt := 291) S.1 S.2.1 dL_acts_287 (by decide) ?_
                                  exact x_zret S hr hlocks hP hS dL_acts_291 rfl (⟨rfl, z1, hX, hv1, vQ_rec hQ (ok5_ins hQ.1 hq9n rfl) hz1, Or.inr ⟨_, _, hz1⟩⟩)
              · skip
                obtain ⟨rfl, hz1⟩ := ad_3 (rng_ad ht9 her hvxr hvyr) (bI_z c163) (nI_inj (b := 10) (by omega) (by decide) c175) q154
                rw [hz1] at hX
                have h00 := hX.at0
                refine lv_bipush (v := (-3)) S.1 S.2.1 dL_acts_178 (by decide) ?_
                refine lv_goto (tgt := 185) S.1 S.2.1 dL_acts_180 (by decide) ?_
                refine lv_icmp_ne (tgt := 290) S.1 S.2.1 dL_acts_185 (by decide) (fun c185 => ?_) (fun c185 => ?_)
                · skip
                  exact absurd c185 (by decide)
                · skip
                  refine lv_iload S.1 S.2.1 dL_acts_188 (lv_at hl 0 rfl) ?_
                  refine lv_if_lt (tgt := 272) S.1 S.2.1 dL_acts_190 (by decide) (fun c190 => ?_) (fun c190 => ?_)
                  · skip
                    refine lv_aload_n S.1 S.2.1 dL_acts_272 rfl (lv_at hl 8 rfl) ?_
                    refine lv_bipush (v := 100) S.1 S.2.1 dL_acts_273 (by decide) ?_
                    refine lv_iconst (v := 0) S.1 S.2.1 dL_acts_275 (by decide) ?_
                    refine lv_iconst (v := 0) S.1 S.2.1 dL_acts_276 (by decide) ?_
                    refine lv_iconst (v := 0) S.1 S.2.1 dL_acts_277 (by decide) ?_
                    refine x_qi (va_runV (As := [.int 100, .int 0, .int 0, .int 0]) (rest := []) S (c_X6_addPhoto l g hJ E1_81 hX hv 100 0 0 0) (cwV 4 S.2.2.2.2 gL_acts_X6_addPhoto rfl rfl rfl (by decide +kernel) ⟨Nat.le_of_ble_eq_true rfl, Nat.le_of_ble_eq_true rfl⟩) (x_preV hK hP h00 (by decide) rfl) rfl rfl hl.1 rfl (lv_room (Nat.le_of_ble_eq_true rfl)) dL_acts_278 ⟨Nat.le_of_ble_eq_true rfl, Nat.le_of_ble_eq_true rfl⟩) hS (fun r278 E1_89 H locs q278 hP hS => ?_)
                    obtain ⟨z9, q278, hX, -⟩ := q278
                    obtain ⟨rfl, hz9⟩ := ad_2 no100 q278
                    rw [hz9] at hX
                    have h00 := hX.at0
                    refine lv_bipush (v := (-2)) S.1 S.2.1 dL_acts_281 (by decide) ?_
                    refine lv_icmp_ne (tgt := 290) S.1 S.2.1 dL_acts_283 (by decide) (fun c283_4 => ?_) (fun c283_4 => ?_)
                    · skip
                      exact absurd c283_4 (by decide)
                    · skip
                      refine lv_iconst (v := 1) S.1 S.2.1 dL_acts_286 (by decide) ?_
                      refine lv_goto (tgt := 291) S.1 S.2.1 dL_acts_287 (by decide) ?_
                      exact x_zret S hr hlocks hP hS dL_acts_291 rfl (⟨rfl, z, hX, hv, hQ, Or.inl rfl⟩)
                  · skip
                    exact absurd c190 (by decide)
            · skip
              obtain ⟨rfl, hz1⟩ := ad_4 (rng_ad ht9 her hvxr hvyr) (bI_nz c163) q154
              rw [hz1] at hX
              have h00 := hX.at0
              refine lv_bipush (v := (-4)) S.1 S.2.1 dL_acts_166 (by decide) ?_
              refine lv_goto (tgt := 185) S.1 S.2.1 dL_acts_168 (by decide) ?_
              refine lv_icmp_ne (tgt := 290) S.1 S.2.1 dL_acts_185 (by decide) (fun c185 => ?_) (fun c185 => ?_)
              · skip
                exact absurd c185 (by decide)
              · skip
                refine lv_iload S.1 S.2.1 dL_acts_188 (lv_at hl 0 rfl) ?_
                refine lv_if_lt (tgt := 272) S.1 S.2.1 dL_acts_190 (by decide) (fun c190 => ?_) (fun c190 => ?_)
                · skip
                  refine lv_aload_n S.1 S.2.1 dL_acts_272 rfl (lv_at hl 8 rfl) ?_
                  refine lv_bipush (v := 100) S.1 S.2.1 dL_acts_273 (by decide) ?_
                  refine lv_iconst (v := 0) S.1 S.2.1 dL_acts_275 (by decide) ?_
                  refine lv_iconst (v := 0) S.1 S.2.1 dL_acts_276 (by decide) ?_
                  refine lv_iconst (v := 0) S.1 S.2.1 dL_acts_277 (by decide) ?_
                  refine x_qi (va_runV (As := [.int 100, .int 0, .int 0, .int 0]) (rest := []) S (c_X6_addPhoto l g hJ E1_81 hX hv 100 0 0 0) (cwV 4 S.2.2.2.2 gL_acts_X6_addPhoto rfl rfl rfl (by decide +kernel) ⟨Nat.le_of_ble_eq_true rfl, Nat.le_of_ble_eq_true rfl⟩) (x_preV hK hP h00 (by decide) rfl) rfl rfl hl.1 rfl (lv_room (Nat.le_of_ble_eq_true rfl)) dL_acts_278 ⟨Nat.le_of_ble_eq_true rfl, Nat.le_of_ble_eq_true rfl⟩) hS (fun r278 E1_90 H locs q278 hP hS => ?_)
                  obtain ⟨z9, q278, hX, -⟩ := q278
                  obtain ⟨rfl, hz9⟩ := ad_2 no100 q278
                  rw [hz9] at hX
                  have h00 := hX.at0
                  refine lv_bipush (v := (-2)) S.1 S.2.1 dL_acts_281 (by decide) ?_
                  refine lv_icmp_ne (tgt := 290) S.1 S.2.1 dL_acts_283 (by decide) (fun c283_5 => ?_) (fun c283_5 => ?_)
                  · skip
                    exact absurd c283_5 (by decide)
                  · skip
                    refine lv_iconst (v := 1) S.1 S.2.1 dL_acts_286 (by decide) ?_
                    refine lv_goto (tgt := 291) S.1 S.2.1 dL_acts_287 (by decide) ?_
                    exact x_zret S hr hlocks hP hS dL_acts_291 rfl (⟨rfl, z, hX, hv, hQ, Or.inl rfl⟩)
                · skip
                  exact absurd c190 (by decide)
          · skip
            have hqn := kn_lt hn hq c92
            refine lv_iload S.1 S.2.1 dL_acts_95 (lv_at hl 1 rfl) ?_
            refine lv_aload_n S.1 S.2.1 dL_acts_97 rfl (lv_at hl 8 rfl) ?_
            refine lv_iload S.1 S.2.1 dL_acts_98 (lv_at hl 0 rfl) ?_
            refine lv_iconst (v := 0) S.1 S.2.1 dL_acts_100 (by decide) ?_
            refine x_qi (va_runV (As := [.int (nI q), .int 0]) (rest := [.int (bI (thB (zM z) (nI t9) q))]) S (c_X6_photo l g hJ EL hX hv (nI q) 0) (cwV 2 S.2.2.2.2 gL_acts_X6_photo rfl rfl rfl (by decide +kernel) ⟨Nat.le_of_ble_eq_true rfl, Nat.le_of_ble_eq_true rfl⟩) (x_preV hK hP h00 (by decide) rfl) rfl rfl hl.1 rfl (lv_room (Nat.le_of_ble_eq_true rfl)) dL_acts_101 ⟨Nat.le_of_ble_eq_true rfl, Nat.le_of_ble_eq_true rfl⟩) hS (fun r101 E1_91 H locs q101 hP hS => ?_)
            obtain ⟨q101, hX, -⟩ := q101
            have h00 := hX.at0
            obtain rfl : r101 = (zM z) 0 q := v_ph0 hv hqn q101
            refine lv_iload S.1 S.2.1 dL_acts_104 (lv_at hl 6 rfl) ?_
            refine lv_icmp_ne (tgt := 113) S.1 S.2.1 dL_acts_106 (by decide) (fun c106 => ?_) (fun c106 => ?_)
            · skip
              refine lv_iconst (v := 0) S.1 S.2.1 dL_acts_113 (by decide) ?_
              refine lv_ior S.1 S.2.1 dL_acts_114 ?_
              refine W.eq (g2 := F0 m 115 ls [.int (bI (thB (zM z) (nI t9) (q + 1)))]) (by rw [th_f c106]) ?_
              refine lv_istore (lv' := [(10, .int (bI (thB (zM z) (nI t9) (q + 1)))), (12, .int (nI q)), (11, .int (nI (cnt (ltB (zM z) (nI t9)) q))), (4, .int (nI (zn z))), (6, .int vx), (7, .int vy), (8, .int (nI t9)), (9, .int (nI er)), (0, .ref (xad g 0))]) S.1 S.2.1 dL_acts_115 hl (by decide) rfl (fun ls hl => ?_)
              refine lv_iload S.1 S.2.1 dL_acts_117 (lv_at hl 2 rfl) ?_
              refine lv_aload_n S.1 S.2.1 dL_acts_119 rfl (lv_at hl 8 rfl) ?_
              refine lv_iload S.1 S.2.1 dL_acts_120 (lv_at hl 1 rfl) ?_
              refine lv_iconst (v := 0) S.1 S.2.1 dL_acts_122 (by decide) ?_
              refine x_qi (va_runV (As := [.int (nI q), .int 0]) (rest := [.int (nI (cnt (ltB (zM z) (nI t9)) q))]) S (c_X6_photo l g hJ E1_91 hX hv (nI q) 0) (cwV 2 S.2.2.2.2 gL_acts_X6_photo rfl rfl rfl (by decide +kernel) ⟨Nat.le_of_ble_eq_true rfl, Nat.le_of_ble_eq_true rfl⟩) (x_preV hK hP h00 (by decide) rfl) rfl rfl hl.1 rfl (lv_room (Nat.le_of_ble_eq_true rfl)) dL_acts_123 ⟨Nat.le_of_ble_eq_true rfl, Nat.le_of_ble_eq_true rfl⟩) hS (fun r123 E1_92 H locs q123 hP hS => ?_)
              obtain ⟨q123, hX, -⟩ := q123
              have h00 := hX.at0
              obtain rfl : r123 = (zM z) 0 q := v_ph0 hv hqn q123
              refine lv_iload S.1 S.2.1 dL_acts_126 (lv_at hl 6 rfl) ?_
              refine lv_icmp_ge (tgt := 135) S.1 S.2.1 dL_acts_128 (by decide) (fun c128 => ?_) (fun c128 => ?_)
              · skip
                refine lv_iconst (v := 0) S.1 S.2.1 dL_acts_135 (by decide) ?_
                refine lv_iadd S.1 S.2.1 dL_acts_136 ?_
                refine W.eq (g2 := F0 m 137 ls [.int (nI (cnt (ltB (zM z) (nI t9)) (q + 1)))]) (by rw [lt_f (Int32.not_lt.mpr c128)]) ?_
                refine lv_istore (lv' := [(11, .int (nI (cnt (ltB (zM z) (nI t9)) (q + 1)))), (10, .int (bI (thB (zM z) (nI t9) (q + 1)))), (12, .int (nI q)), (4, .int (nI (zn z))), (6, .int vx), (7, .int vy), (8, .int (nI t9)), (9, .int (nI er)), (0, .ref (xad g 0))]) S.1 S.2.1 dL_acts_137 hl (by decide) rfl (fun ls hl => ?_)
                refine lv_iinc (v := nI (q + 1)) (lv' := [(12, .int (nI (q + 1))), (11, .int (nI (cnt (ltB (zM z) (nI t9)) (q + 1)))), (10, .int (bI (thB (zM z) (nI t9) (q + 1)))), (4, .int (nI (zn z))), (6, .int vx), (7, .int vy), (8, .int (nI t9)), (9, .int (nI er)), (0, .ref (xad g 0))]) S.1 S.2.1 dL_acts_139 hl (k := 2) rfl (show nI q + Int32.ofInt 1 = _ from nI_1 _) (by decide) rfl (fun ls hl => ?_)
                refine lv_goto (tgt := 88) S.1 S.2.1 dL_acts_142 (by decide) ?_
                exact ih88 (q + 1) _ _ _ (by omega) (by omega) hX h00 hP hS ls (lv_sub hl [0, 2, 1, 3, 4, 5, 6, 7, 8] rfl)
              · skip
                refine lv_iconst (v := 1) S.1 S.2.1 dL_acts_131 (by decide) ?_
                refine lv_goto (tgt := 136) S.1 S.2.1 dL_acts_132 (by decide) ?_
                refine lv_iadd S.1 S.2.1 dL_acts_136 ?_
                refine W.eq (g2 := F0 m 137 ls [.int (nI (cnt (ltB (zM z) (nI t9)) (q + 1)))]) (by rw [lt_t (Int32.not_le.mp c128)]) ?_
                refine lv_istore (lv' := [(11, .int (nI (cnt (ltB (zM z) (nI t9)) (q + 1)))), (10, .int (bI (thB (zM z) (nI t9) (q + 1)))), (12, .int (nI q)), (4, .int (nI (zn z))), (6, .int vx), (7, .int vy), (8, .int (nI t9)), (9, .int (nI er)), (0, .ref (xad g 0))]) S.1 S.2.1 dL_acts_137 hl (by decide) rfl (fun ls hl => ?_)
                refine lv_iinc (v := nI (q + 1)) (lv' := [(12, .int (nI (q + 1))), (11, .int (nI (cnt (ltB (zM z) (nI t9)) (q + 1)))), (10, .int (bI (thB (zM z) (nI t9) (q + 1)))), (4, .int (nI (zn z))), (6, .int vx), (7, .int vy), (8, .int (nI t9)), (9, .int (nI er)), (0, .ref (xad g 0))]) S.1 S.2.1 dL_acts_139 hl (k := 2) rfl (show nI q + Int32.ofInt 1 = _ from nI_1 _) (by decide) rfl (fun ls hl => ?_)
                refine lv_goto (tgt := 88) S.1 S.2.1 dL_acts_142 (by decide) ?_
                exact ih88 (q + 1) _ _ _ (by omega) (by omega) hX h00 hP hS ls (lv_sub hl [0, 2, 1, 3, 4, 5, 6, 7, 8] rfl)
            · skip
              refine lv_iconst (v := 1) S.1 S.2.1 dL_acts_109 (by decide) ?_
              refine lv_goto (tgt := 114) S.1 S.2.1 dL_acts_110 (by decide) ?_
              refine lv_ior S.1 S.2.1 dL_acts_114 ?_
              refine W.eq (g2 := F0 m 115 ls [.int (bI (thB (zM z) (nI t9) (q + 1)))]) (by rw [th_t c106]) ?_
              refine lv_istore (lv' := [(10, .int (bI (thB (zM z) (nI t9) (q + 1)))), (12, .int (nI q)), (11, .int (nI (cnt (ltB (zM z) (nI t9)) q))), (4, .int (nI (zn z))), (6, .int vx), (7, .int vy), (8, .int (nI t9)), (9, .int (nI er)), (0, .ref (xad g 0))]) S.1 S.2.1 dL_acts_115 hl (by decide) rfl (fun ls hl => ?_)
              refine lv_iload S.1 S.2.1 dL_acts_117 (lv_at hl 2 rfl) ?_
              refine lv_aload_n S.1 S.2.1 dL_acts_119 rfl (lv_at hl 8 rfl) ?_
              refine lv_iload S.1 S.2.1 dL_acts_120 (lv_at hl 1 rfl) ?_
              refine lv_iconst (v := 0) S.1 S.2.1 dL_acts_122 (by decide) ?_
              refine x_qi (va_runV (As := [.int (nI q), .int 0]) (rest := [.int (nI (cnt (ltB (zM z) (nI t9)) q))]) S (c_X6_photo l g hJ E1_91 hX hv (nI q) 0) (cwV 2 S.2.2.2.2 gL_acts_X6_photo rfl rfl rfl (by decide +kernel) ⟨Nat.le_of_ble_eq_true rfl, Nat.le_of_ble_eq_true rfl⟩) (x_preV hK hP h00 (by decide) rfl) rfl rfl hl.1 rfl (lv_room (Nat.le_of_ble_eq_true rfl)) dL_acts_123 ⟨Nat.le_of_ble_eq_true rfl, Nat.le_of_ble_eq_true rfl⟩) hS (fun r123 E1_93 H locs q123 hP hS => ?_)
              obtain ⟨q123, hX, -⟩ := q123
              have h00 := hX.at0
              obtain rfl : r123 = (zM z) 0 q := v_ph0 hv hqn q123
              refine lv_iload S.1 S.2.1 dL_acts_126 (lv_at hl 6 rfl) ?_
              refine lv_icmp_ge (tgt := 135) S.1 S.2.1 dL_acts_128 (by decide) (fun c128 => ?_) (fun c128 => ?_)
              · skip
                refine lv_iconst (v := 0) S.1 S.2.1 dL_acts_135 (by decide) ?_
                refine lv_iadd S.1 S.2.1 dL_acts_136 ?_
                refine W.eq (g2 := F0 m 137 ls [.int (nI (cnt (ltB (zM z) (nI t9)) (q + 1)))]) (by rw [lt_f (Int32.not_lt.mpr c128)]) ?_
                refine lv_istore (lv' := [(11, .int (nI (cnt (ltB (zM z) (nI t9)) (q + 1)))), (10, .int (bI (thB (zM z) (nI t9) (q + 1)))), (12, .int (nI q)), (4, .int (nI (zn z))), (6, .int vx), (7, .int vy), (8, .int (nI t9)), (9, .int (nI er)), (0, .ref (xad g 0))]) S.1 S.2.1 dL_acts_137 hl (by decide) rfl (fun ls hl => ?_)
                refine lv_iinc (v := nI (q + 1)) (lv' := [(12, .int (nI (q + 1))), (11, .int (nI (cnt (ltB (zM z) (nI t9)) (q + 1)))), (10, .int (bI (thB (zM z) (nI t9) (q + 1)))), (4, .int (nI (zn z))), (6, .int vx), (7, .int vy), (8, .int (nI t9)), (9, .int (nI er)), (0, .ref (xad g 0))]) S.1 S.2.1 dL_acts_139 hl (k := 2) rfl (show nI q + Int32.ofInt 1 = _ from nI_1 _) (by decide) rfl (fun ls hl => ?_)
                refine lv_goto (tgt := 88) S.1 S.2.1 dL_acts_142 (by decide) ?_
                exact ih88 (q + 1) _ _ _ (by omega) (by omega) hX h00 hP hS ls (lv_sub hl [0, 2, 1, 3, 4, 5, 6, 7, 8] rfl)
              · skip
                refine lv_iconst (v := 1) S.1 S.2.1 dL_acts_131 (by decide) ?_
                refine lv_goto (tgt := 136) S.1 S.2.1 dL_acts_132 (by decide) ?_
                refine lv_iadd S.1 S.2.1 dL_acts_136 ?_
                refine W.eq (g2 := F0 m 137 ls [.int (nI (cnt (ltB (zM z) (nI t9)) (q + 1)))]) (by rw [lt_t (Int32.not_le.mp c128)]) ?_
                refine lv_istore (lv' := [(11, .int (nI (cnt (ltB (zM z) (nI t9)) (q + 1)))), (10, .int (bI (thB (zM z) (nI t9) (q + 1)))), (12, .int (nI q)), (4, .int (nI (zn z))), (6, .int vx), (7, .int vy), (8, .int (nI t9)), (9, .int (nI er)), (0, .ref (xad g 0))]) S.1 S.2.1 dL_acts_137 hl (by decide) rfl (fun ls hl => ?_)
                refine lv_iinc (v := nI (q + 1)) (lv' := [(12, .int (nI (q + 1))), (11, .int (nI (cnt (ltB (zM z) (nI t9)) (q + 1)))), (10, .int (bI (thB (zM z) (nI t9) (q + 1)))), (4, .int (nI (zn z))), (6, .int vx), (7, .int vy), (8, .int (nI t9)), (9, .int (nI er)), (0, .ref (xad g 0))]) S.1 S.2.1 dL_acts_139 hl (k := 2) rfl (show nI q + Int32.ofInt 1 = _ from nI_1 _) (by decide) rfl (fun ls hl => ?_)
                refine lv_goto (tgt := 88) S.1 S.2.1 dL_acts_142 (by decide) ?_
                exact ih88 (q + 1) _ _ _ (by omega) (by omega) hX h00 hP hS ls (lv_sub hl [0, 2, 1, 3, 4, 5, 6, 7, 8] rfl)
      exact loop88 _ 0 _ _ _ (Nat.zero_le _) (Nat.lt_succ_self _) hX h00 hP hS ls (lv_sub hl [0, 2, 1, 8, 6, 5, 4, 3, 9] rfl)
