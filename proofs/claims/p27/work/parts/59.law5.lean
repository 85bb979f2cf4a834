/-! THE LAW: spins -/
theorem bI_nf {x : Bool} (h : ¬ bI x = 1) : ¬ x = true := fun q => h (by rw [q]; rfl)
set_option maxHeartbeats 4000000 in
set_option maxRecDepth 100000 in
theorem c_L_spins (l : Launch) (g : xG) (hJ : xJ (xad g)) (E : Nat → va_E) {z : xS} (hX : sX g E z) (hv : vS z) (x : Int32)  : Met l yL_spins wsL_spins ({ frames := 8, cells := 0, slots := 0, locals := 186 }) (xPc g [.ref (xad g 0), .int x] E) (xQi g (fun r E1 => r = 1 ∧ sX g E1 z)) 0 0 (xA (xad g)) := by
  refine x_met (ws' := _) (by decide) rfl (Nat.le_of_ble_eq_true rfl) ?_
  intro pz ez s m below meth cz ls S hr hlocks hP hK hl
  have hl : lv_has ls 11 [(0, .ref (xad g 0)), (1, .int x)] := hl
  have hS : va_S (xA (xad g)) s.heap s.heap [] := va_S.rf
  have h00 := hX.at0
  have hn := hv.1.1
  have hvM := hv.1.2
  refine lv_aload_n S.1 S.2.1 dL_spins_0 rfl (lv_at hl 0 rfl) ?_
  refine lv_iconst (v := 2) S.1 S.2.1 dL_spins_1 (by decide) ?_
  refine x_qi (va_runV (As := [.int 2]) (rest := []) S (c_X6_count l g hJ E hX hv 2) (cwV 1 S.2.2.2.2 gL_spins_X6_count rfl rfl rfl (by decide +kernel) ⟨Nat.le_of_ble_eq_true rfl, Nat.le_of_ble_eq_true rfl⟩) (x_preV hK hP h00 (by decide) rfl) rfl rfl hl.1 rfl (lv_room (Nat.le_of_ble_eq_true rfl)) dL_spins_2 ⟨Nat.le_of_ble_eq_true rfl, Nat.le_of_ble_eq_true rfl⟩) hS (fun r2 E1 H locs q2 hP hS => ?_)
  obtain ⟨q2, hX, -⟩ := q2
  have h00 := hX.at0
  obtain rfl : r2 = nI (mk (pK (zM z)) (zn z)) := v_ct2 q2
  refine lv_istore_n (lv' := [(2, .int (nI (mk (pK (zM z)) (zn z)))), (0, .ref (xad g 0)), (1, .int x)]) S.1 S.2.1 dL_spins_5 rfl hl (by decide) rfl (fun ls hl => ?_)
  refine lv_iload_n S.1 S.2.1 dL_spins_6 rfl (lv_at hl 2 rfl) ?_
  refine lv_sipush (v := 360) S.1 S.2.1 dL_spins_7 (by decide) ?_
  refine W.eq (g2 := F0 m 10 ls [.int (nI 360), .int x]) (by rw [show (360 : Int32) = nI 360 from rfl]) ?_
  refine x_si (va_runS (As := [.int x, .int (nI 360)]) (rest := []) S (c_L_low l g E1 x (d := 360) (by decide) (by decide)) (va_cwS 2 S.2.2.2.2 gL_spins_L_low rfl rfl rfl (by decide +kernel) ⟨Nat.le_of_ble_eq_true rfl, Nat.le_of_ble_eq_true rfl⟩) (x_preS hK hP) rfl rfl hl.1 rfl (lv_room (Nat.le_of_ble_eq_true rfl)) dL_spins_10 ⟨Nat.le_of_ble_eq_true rfl, Nat.le_of_ble_eq_true rfl⟩) (fun r10 hr10 => ?_)
  obtain ⟨q9, hq9, rfl⟩ := hr10
  refine lv_sipush (v := 179) S.1 S.2.1 dL_spins_13 (by decide) ?_
  refine lv_isub S.1 S.2.1 dL_spins_16 ?_
  refine lv_topi (fun T eT => ?_)
  refine lv_istore_n (lv' := [(3, .int T), (2, .int (nI (mk (pK (zM z)) (zn z)))), (0, .ref (xad g 0)), (1, .int x)]) S.1 S.2.1 dL_spins_17 rfl hl (by decide) rfl (fun ls hl => ?_)
  have hT := spT hq9 eT
  refine lv_iload_n S.1 S.2.1 dL_spins_18 rfl (lv_at hl 3 rfl) ?_
  refine lv_bipush (v := 9) S.1 S.2.1 dL_spins_19 (by decide) ?_
  refine lv_ishr S.1 S.2.1 dL_spins_21 ?_
  refine lv_sipush (v := 360) S.1 S.2.1 dL_spins_22 (by decide) ?_
  refine W.eq (g2 := F0 m 25 ls [.int (nI 360), .int (x >>> (9 &&& 31))]) (by rw [show (360 : Int32) = nI 360 from rfl]) ?_
  refine x_si (va_runS (As := [.int (x >>> (9 &&& 31)), .int (nI 360)]) (rest := []) S (c_L_low l g E1 (x >>> (9 &&& 31)) (d := 360) (by decide) (by decide)) (va_cwS 2 S.2.2.2.2 gL_spins_L_low rfl rfl rfl (by decide +kernel) ⟨Nat.le_of_ble_eq_true rfl, Nat.le_of_ble_eq_true rfl⟩) (x_preS hK hP) rfl rfl hl.1 rfl (lv_room (Nat.le_of_ble_eq_true rfl)) dL_spins_25 ⟨Nat.le_of_ble_eq_true rfl, Nat.le_of_ble_eq_true rfl⟩) (fun r25 hr25 => ?_)
  obtain ⟨b9, hb9, rfl⟩ := hr25
  refine lv_istore (lv' := [(4, .int (nI b9)), (3, .int T), (2, .int (nI (mk (pK (zM z)) (zn z)))), (0, .ref (xad g 0)), (1, .int x)]) S.1 S.2.1 dL_spins_28 hl (by decide) rfl (fun ls hl => ?_)
  refine lv_aload_n S.1 S.2.1 dL_spins_30 rfl (lv_at hl 3 rfl) ?_
  refine lv_iload_n S.1 S.2.1 dL_spins_31 rfl (lv_at hl 1 rfl) ?_
  refine lv_iload S.1 S.2.1 dL_spins_32 (lv_at hl 0 rfl) ?_
  refine x_qi (va_runV (As := [.int T, .int (nI b9)]) (rest := []) S (c_X6_fits l g hJ E1 hX hv T (nI b9)) (cwV 2 S.2.2.2.2 gL_spins_X6_fits rfl rfl rfl (by decide +kernel) ⟨Nat.le_of_ble_eq_true rfl, Nat.le_of_ble_eq_true rfl⟩) (x_preV hK hP h00 (by decide) rfl) rfl rfl hl.1 rfl (lv_room (Nat.le_of_ble_eq_true rfl)) dL_spins_34 ⟨Nat.le_of_ble_eq_true rfl, Nat.le_of_ble_eq_true rfl⟩) hS (fun r34 E1_1 H locs q34 hP hS => ?_)
  obtain ⟨q34, hX, -⟩ := q34
  have h00 := hX.at0
  obtain rfl : r34 = nI (cnt (pF (zM z) T.toInt (nI b9).toInt) (zn z)) := v_fi (okS hT hb9) q34
  refine lv_istore (lv' := [(5, .int (nI (cnt (pF (zM z) T.toInt (nI b9).toInt) (zn z)))), (4, .int (nI b9)), (3, .int T), (2, .int (nI (mk (pK (zM z)) (zn z)))), (0, .ref (xad g 0)), (1, .int x)]) S.1 S.2.1 dL_spins_37 hl (by decide) rfl (fun ls hl => ?_)
  refine lv_iconst (v := 0) S.1 S.2.1 dL_spins_39 (by decide) ?_
  refine lv_istore (lv' := [(6, .int 0), (5, .int (nI (cnt (pF (zM z) T.toInt (nI b9).toInt) (zn z)))), (4, .int (nI b9)), (3, .int T), (2, .int (nI (mk (pK (zM z)) (zn z)))), (0, .ref (xad g 0)), (1, .int x)]) S.1 S.2.1 dL_spins_40 hl (by decide) rfl (fun ls hl => ?_)
  refine lv_iconst (v := 0) S.1 S.2.1 dL_spins_42 (by decide) ?_
  refine lv_istore (lv' := [(7, .int 0), (6, .int 0), (5, .int (nI (cnt (pF (zM z) T.toInt (nI b9).toInt) (zn z)))), (4, .int (nI b9)), (3, .int T), (2, .int (nI (mk (pK (zM z)) (zn z)))), (0, .ref (xad g 0)), (1, .int x)]) S.1 S.2.1 dL_spins_43 hl (by decide) rfl (fun ls hl => ?_)
  have loop45 : ∀ (d : Nat) (p : Nat) (EL : Nat → va_E) (H : Heap) (locs : List Loc), (hp : p ≤ zn z) → (zn z + 1 - p) < d → (hX : sX g EL z) → (h00 : EL 0 = .inr (6, [.ref (xad g 1), .ref (xad g 10), .int (bI (zf z)), .ref (xad g 19), .ref (xad g 57), .ref (xad g 59), .ref (xad g 60), .ref (xad g 61), .ref (xad g 64)])) → xP g EL H → va_S (xA (xad g)) s.heap H locs → ∀ ls : Array Slot, lv_has ls 11 [(7, .int (nI p)), (6, .int (nI (cnt (pF (zM z) T.toInt (nI b9).toInt) p))), (5, .int (nI (cnt (pF (zM z) T.toInt (nI b9).toInt) (zn z)))), (4, .int (nI b9)), (3, .int T), (2, .int (nI (mk (pK (zM z)) (zn z)))), (0, .ref (xad g 0)), (1, .int x)] → W pz l ez ({ frames := 8, cells := 0, slots := 0, locals := 186 }) s m ([.ref (xad g 0), .int x] : List Value).toArray below meth cz H locs 0 0 (MQ below (xQi g (fun r E1 => r = 1 ∧ sX g E1 z)) ([.ref (xad g 0), .int x] : List Value).toArray s 0 0 (xA (xad g))) (F0 m 45 ls []) := by
    intro d
    induction d with
    | zero => intro p EL H locs hp hd; exact absurd hd (Nat.not_lt_zero _)
    | succ d ih45 =>
      intro p EL H locs hp hd hX h00 hP hS ls hl
      refine lv_iload S.1 S.2.1 dL_spins_45 (lv_at hl 0 rfl) ?_
      refine lv_aload_n S.1 S.2.1 dL_spins_47 rfl (lv_at hl 6 rfl) ?_
      refine lv_iconst (v := 0) S.1 S.2.1 dL_spins_48 (by decide) ?_
      refine x_qi (va_runV (As := [.int 0]) (rest := [.int (nI p)]) S (c_X6_count l g hJ EL hX hv 0) (cwV 1 S.2.2.2.2 gL_spins_X6_count rfl rfl rfl (by decide +kernel) ⟨Nat.le_of_ble_eq_true rfl, Nat.le_of_ble_eq_true rfl⟩) (x_preV hK hP h00 (by decide) rfl) rfl rfl hl.1 rfl (lv_room (Nat.le_of_ble_eq_true rfl)) dL_spins_49 ⟨Nat.le_of_ble_eq_true rfl, Nat.le_of_ble_eq_true rfl⟩) hS (fun r49 E1_2 H locs q49 hP hS => ?_)
      obtain ⟨q49, hX, -⟩ := q49
      have h00 := hX.at0
      obtain rfl : r49 = nI (zn z) := v_ct0 q49
      refine lv_icmp_ge (tgt := 154) S.1 S.2.1 dL_spins_52 (by decide) (fun c52 => ?_) (fun c52 => ?_)
      · skip
        have hpe := kn_eq hn hp c52
        rw [hpe] at hl
        refine lv_iload S.1 S.2.1 dL_spins_154 (lv_at hl 2 rfl) ?_
        refine lv_iload S.1 S.2.1 dL_spins_156 (lv_at hl 1 rfl) ?_
        refine lv_icmp_ne (tgt := 187) S.1 S.2.1 dL_spins_158 (by decide) (fun c158 => ?_) (fun c158 => ?_)
        · skip
          exact absurd rfl c158
        · skip
          refine lv_aload_n S.1 S.2.1 dL_spins_161 rfl (lv_at hl 6 rfl) ?_
          refine lv_sipush (v := 181) S.1 S.2.1 dL_spins_162 (by decide) ?_
          refine lv_iconst (v := 0) S.1 S.2.1 dL_spins_165 (by decide) ?_
          refine x_qi (va_runV (As := [.int 181, .int 0]) (rest := []) S (c_X6_fits l g hJ E1_2 hX hv 181 0) (cwV 2 S.2.2.2.2 gL_spins_X6_fits rfl rfl rfl (by decide +kernel) ⟨Nat.le_of_ble_eq_true rfl, Nat.le_of_ble_eq_true rfl⟩) (x_preV hK hP h00 (by decide) rfl) rfl rfl hl.1 rfl (lv_room (Nat.le_of_ble_eq_true rfl)) dL_spins_166 ⟨Nat.le_of_ble_eq_true rfl, Nat.le_of_ble_eq_true rfl⟩) hS (fun r166 E1_3 H locs q166 hP hS => ?_)
          obtain ⟨q166, hX, -⟩ := q166
          have h00 := hX.at0
          obtain rfl : r166 = -2 := v_fi2 (by unfold okSp; decide) q166
          refine lv_bipush (v := (-2)) S.1 S.2.1 dL_spins_169 (by decide) ?_
          refine lv_icmp_ne (tgt := 187) S.1 S.2.1 dL_spins_171 (by decide) (fun c171 => ?_) (fun c171 => ?_)
          · skip
            exact absurd c171 (by decide)
          · skip
            refine lv_aload_n S.1 S.2.1 dL_spins_174 rfl (lv_at hl 6 rfl) ?_
            refine lv_iconst (v := 0) S.1 S.2.1 dL_spins_175 (by decide) ?_
            refine lv_sipush (v := 360) S.1 S.2.1 dL_spins_176 (by decide) ?_
            refine x_qi (va_runV (As := [.int 0, .int 360]) (rest := []) S (c_X6_fits l g hJ E1_3 hX hv 0 360) (cwV 2 S.2.2.2.2 gL_spins_X6_fits rfl rfl rfl (by decide +kernel) ⟨Nat.le_of_ble_eq_true rfl, Nat.le_of_ble_eq_true rfl⟩) (x_preV hK hP h00 (by decide) rfl) rfl rfl hl.1 rfl (lv_room (Nat.le_of_ble_eq_true rfl)) dL_spins_179 ⟨Nat.le_of_ble_eq_true rfl, Nat.le_of_ble_eq_true rfl⟩) hS (fun r179 E1_4 H locs q179 hP hS => ?_)
            obtain ⟨q179, hX, -⟩ := q179
            have h00 := hX.at0
            obtain rfl : r179 = -2 := v_fi2 (by unfold okSp; decide) q179
            refine lv_bipush (v := (-2)) S.1 S.2.1 dL_spins_182 (by decide) ?_
            refine lv_icmp_eq (tgt := 189) S.1 S.2.1 dL_spins_184 (by decide) (fun c184 => ?_) (fun c184 => ?_)
            · skip
              refine lv_iload_n S.1 S.2.1 dL_spins_189 rfl (lv_at hl 5 rfl) ?_
              refine lv_if_ne (tgt := 224) S.1 S.2.1 dL_spins_190 (by decide) (fun c190 => ?_) (fun c190 => ?_)
              · skip
                have hex : ∃ k, k < zn z ∧ pK (zM z) k = true := mk_ex (fun h => c190 ((nI_mk0 hn).mpr h))
                refine lv_aload_n S.1 S.2.1 dL_spins_224 rfl (lv_at hl 6 rfl) ?_
                refine lv_iconst (v := 0) S.1 S.2.1 dL_spins_225 (by decide) ?_
                refine x_qi (va_runV (As := [.int 0]) (rest := []) S (c_X6_spin l g hJ E1_4 hX hv 0) (cwV 1 S.2.2.2.2 gL_spins_X6_spin rfl rfl rfl (by decide +kernel) ⟨Nat.le_of_ble_eq_true rfl, Nat.le_of_ble_eq_true rfl⟩) (x_preV hK hP h00 (by decide) rfl) rfl rfl hl.1 rfl (lv_room (Nat.le_of_ble_eq_true rfl)) dL_spins_226 ⟨Nat.le_of_ble_eq_true rfl, Nat.le_of_ble_eq_true rfl⟩) hS (fun r226 E1_5 H locs q226 hP hS => ?_)
                obtain ⟨q226, hX, -⟩ := q226
                have h00 := hX.at0
                obtain ⟨T9, B9, hsp, rfl⟩ := v_sp0 hex q226
                have hokB := okB hsp
                refine lv_sipush (v := 200) S.1 S.2.1 dL_spins_229 (by decide) ?_
                refine lv_isub S.1 S.2.1 dL_spins_232 ?_
                refine W.eq (g2 := F0 m 233 ls [.int T9]) (by rw [I_200 T9]) ?_
                refine lv_istore (lv' := [(7, .int T9), (6, .int (nI (cnt (pF (zM z) T.toInt (nI b9).toInt) (zn z)))), (5, .int (nI (cnt (pF (zM z) T.toInt (nI b9).toInt) (zn z)))), (4, .int (nI b9)), (3, .int T), (2, .int (nI (mk (pK (zM z)) (zn z)))), (0, .ref (xad g 0)), (1, .int x)]) S.1 S.2.1 dL_spins_233 hl (by decide) rfl (fun ls hl => ?_)
                refine lv_aload_n S.1 S.2.1 dL_spins_235 rfl (lv_at hl 6 rfl) ?_
                refine lv_iconst (v := 1) S.1 S.2.1 dL_spins_236 (by decide) ?_
                refine x_qi (va_runV (As := [.int 1]) (rest := []) S (c_X6_spin l g hJ E1_5 hX hv 1) (cwV 1 S.2.2.2.2 gL_spins_X6_spin rfl rfl rfl (by decide +kernel) ⟨Nat.le_of_ble_eq_true rfl, Nat.le_of_ble_eq_true rfl⟩) (x_preV hK hP h00 (by decide) rfl) rfl rfl hl.1 rfl (lv_room (Nat.le_of_ble_eq_true rfl)) dL_spins_237 ⟨Nat.le_of_ble_eq_true rfl, Nat.le_of_ble_eq_true rfl⟩) hS (fun r237 E1_6 H locs q237 hP hS => ?_)
                obtain ⟨q237, hX, -⟩ := q237
                have h00 := hX.at0
                obtain rfl : B9 = r237 := Eq.symm (v_sp1 hsp hex q237)
                refine lv_istore (lv' := [(8, .int B9), (7, .int T9), (6, .int (nI (cnt (pF (zM z) T.toInt (nI b9).toInt) (zn z)))), (5, .int (nI (cnt (pF (zM z) T.toInt (nI b9).toInt) (zn z)))), (4, .int (nI b9)), (3, .int T), (2, .int (nI (mk (pK (zM z)) (zn z)))), (0, .ref (xad g 0)), (1, .int x)]) S.1 S.2.1 dL_spins_240 hl (by decide) rfl (fun ls hl => ?_)
                refine lv_aload_n S.1 S.2.1 dL_spins_242 rfl (lv_at hl 7 rfl) ?_
                refine lv_iconst (v := 3) S.1 S.2.1 dL_spins_243 (by decide) ?_
                refine x_qi (va_runV (As := [.int 3]) (rest := []) S (c_X6_spin l g hJ E1_6 hX hv 3) (cwV 1 S.2.2.2.2 gL_spins_X6_spin rfl rfl rfl (by decide +kernel) ⟨Nat.le_of_ble_eq_true rfl, Nat.le_of_ble_eq_true rfl⟩) (x_preV hK hP h00 (by decide) rfl) rfl rfl hl.1 rfl (lv_room (Nat.le_of_ble_eq_true rfl)) dL_spins_244 ⟨Nat.le_of_ble_eq_true rfl, Nat.le_of_ble_eq_true rfl⟩) hS (fun r244 E1_7 H locs q244 hP hS => ?_)
                obtain ⟨q244, hX, -⟩ := q244
                have h00 := hX.at0
                obtain rfl : r244 = nI (mk (pF (zM z) T9.toInt B9.toInt) (zn z)) := v_sp3 hsp hex q244
                refine lv_istore (lv' := [(9, .int (nI (mk (pF (zM z) T9.toInt B9.toInt) (zn z)))), (8, .int B9), (7, .int T9), (6, .int (nI (cnt (pF (zM z) T.toInt (nI b9).toInt) (zn z)))), (5, .int (nI (cnt (pF (zM z) T.toInt (nI b9).toInt) (zn z)))), (4, .int (nI b9)), (3, .int T), (2, .int (nI (mk (pK (zM z)) (zn z)))), (0, .ref (xad g 0)), (1, .int x)]) S.1 S.2.1 dL_spins_247 hl (by decide) rfl (fun ls hl => ?_)
                refine lv_iload S.1 S.2.1 dL_spins_249 (lv_at hl 1 rfl) ?_
                refine lv_iload S.1 S.2.1 dL_spins_251 (lv_at hl 2 rfl) ?_
                refine lv_bipush (v := 40) S.1 S.2.1 dL_spins_253 (by decide) ?_
                refine lv_imul S.1 S.2.1 dL_spins_255 ?_
                refine lv_iadd S.1 S.2.1 dL_spins_256 ?_
                refine lv_sipush (v := 360) S.1 S.2.1 dL_spins_257 (by decide) ?_
                refine lv_irem S.1 S.2.1 dL_spins_260 (by decide) ?_
                refine lv_topi (fun m10 em10 => ?_)
                refine lv_istore (lv' := [(10, .int m10), (9, .int (nI (mk (pF (zM z) T9.toInt B9.toInt) (zn z)))), (8, .int B9), (7, .int T9), (6, .int (nI (cnt (pF (zM z) T.toInt (nI b9).toInt) (zn z)))), (5, .int (nI (cnt (pF (zM z) T.toInt (nI b9).toInt) (zn z)))), (4, .int (nI b9)), (3, .int T), (2, .int (nI (mk (pK (zM z)) (zn z)))), (0, .ref (xad g 0)), (1, .int x)]) S.1 S.2.1 dL_spins_261 hl (by decide) rfl (fun ls hl => ?_)
                refine lv_aload_n S.1 S.2.1 dL_spins_263 rfl (lv_at hl 9 rfl) ?_
                refine lv_iconst (v := 2) S.1 S.2.1 dL_spins_264 (by decide) ?_
                refine x_qi (va_runV (As := [.int 2]) (rest := []) S (c_X6_spin l g hJ E1_7 hX hv 2) (cwV 1 S.2.2.2.2 gL_spins_X6_spin rfl rfl rfl (by decide +kernel) ⟨Nat.le_of_ble_eq_true rfl, Nat.le_of_ble_eq_true rfl⟩) (x_preV hK hP h00 (by decide) rfl) rfl rfl hl.1 rfl (lv_room (Nat.le_of_ble_eq_true rfl)) dL_spins_265 ⟨Nat.le_of_ble_eq_true rfl, Nat.le_of_ble_eq_true rfl⟩) hS (fun r265 E1_8 H locs q265 hP hS => ?_)
                obtain ⟨q265, hX, -⟩ := q265
                have h00 := hX.at0
                obtain rfl : r265 = nI (cnt (pF (zM z) T9.toInt B9.toInt) (zn z)) := v_sp2 hsp hex q265
                refine lv_iload S.1 S.2.1 dL_spins_268 (lv_at hl 1 rfl) ?_
                refine x_si (va_runS (As := [.int (nI (mk (pF (zM z) T9.toInt B9.toInt) (zn z)))]) (rest := [.int (nI (cnt (pF (zM z) T9.toInt B9.toInt) (zn z)))]) S (c_L_bits l g E1_8 (mk_lt10 (pF (zM z) T9.toInt B9.toInt) hn)) (va_cwS 1 S.2.2.2.2 gL_spins_L_bits rfl rfl rfl (by decide +kernel) ⟨Nat.le_of_ble_eq_true rfl, Nat.le_of_ble_eq_true rfl⟩) (x_preS hK hP) rfl rfl hl.1 rfl (lv_room (Nat.le_of_ble_eq_true rfl)) dL_spins_270 ⟨Nat.le_of_ble_eq_true rfl, Nat.le_of_ble_eq_true rfl⟩) (fun r270 hr270 => ?_)
                obtain rfl : r270 = nI (cnt (pF (zM z) T9.toInt B9.toInt) (zn z)) := hr270.trans (congrArg nI (pop_mk hn))
                refine lv_icmp_ne (tgt := 348) S.1 S.2.1 dL_spins_273 (by decide) (fun c273 => ?_) (fun c273 => ?_)
                · skip
                  exact absurd rfl c273
                · skip
                  refine lv_aload_n S.1 S.2.1 dL_spins_276 rfl (lv_at hl 9 rfl) ?_
                  refine lv_iload S.1 S.2.1 dL_spins_277 (lv_at hl 3 rfl) ?_
                  refine lv_iload S.1 S.2.1 dL_spins_279 (lv_at hl 2 rfl) ?_
                  refine x_qi (va_runV (As := [.int T9, .int B9]) (rest := []) S (c_X6_fits l g hJ E1_8 hX hv T9 B9) (cwV 2 S.2.2.2.2 gL_spins_X6_fits rfl rfl rfl (by decide +kernel) ⟨Nat.le_of_ble_eq_true rfl, Nat.le_of_ble_eq_true rfl⟩) (x_preV hK hP h00 (by decide) rfl) rfl rfl hl.1 rfl (lv_room (Nat.le_of_ble_eq_true rfl)) dL_spins_281 ⟨Nat.le_of_ble_eq_true rfl, Nat.le_of_ble_eq_true rfl⟩) hS (fun r281 E1_9 H locs q281 hP hS => ?_)
                  obtain ⟨q281, hX, -⟩ := q281
                  have h00 := hX.at0
                  obtain rfl : r281 = nI (cnt (pF (zM z) T9.toInt B9.toInt) (zn z)) := v_fi hokB q281
                  refine lv_iload S.1 S.2.1 dL_spins_284 (lv_at hl 1 rfl) ?_
                  refine x_si (va_runS (As := [.int (nI (mk (pF (zM z) T9.toInt B9.toInt) (zn z)))]) (rest := [.int (nI (cnt (pF (zM z) T9.toInt B9.toInt) (zn z)))]) S (c_L_bits l g E1_9 (mk_lt10 (pF (zM z) T9.toInt B9.toInt) hn)) (va_cwS 1 S.2.2.2.2 gL_spins_L_bits rfl rfl rfl (by decide +kernel) ⟨Nat.le_of_ble_eq_true rfl, Nat.le_of_ble_eq_true rfl⟩) (x_preS hK hP) rfl rfl hl.1 rfl (lv_room (Nat.le_of_ble_eq_true rfl)) dL_spins_286 ⟨Nat.le_of_ble_eq_true rfl, Nat.le_of_ble_eq_true rfl⟩) (fun r286 hr286 => ?_)
                  obtain rfl : r286 = nI (cnt (pF (zM z) T9.toInt B9.toInt) (zn z)) := hr286.trans (congrArg nI (pop_mk hn))
                  refine lv_icmp_ne (tgt := 348) S.1 S.2.1 dL_spins_289 (by decide) (fun c289 => ?_) (fun c289 => ?_)
                  · skip
                    exact absurd rfl c289
                  · skip
                    refine lv_iload S.1 S.2.1 dL_spins_292 (lv_at hl 1 rfl) ?_
                    refine x_si (va_runS (As := [.int (nI (mk (pF (zM z) T9.toInt B9.toInt) (zn z)))]) (rest := []) S (c_L_bits l g E1_9 (mk_lt10 (pF (zM z) T9.toInt B9.toInt) hn)) (va_cwS 1 S.2.2.2.2 gL_spins_L_bits rfl rfl rfl (by decide +kernel) ⟨Nat.le_of_ble_eq_true rfl, Nat.le_of_ble_eq_true rfl⟩) (x_preS hK hP) rfl rfl hl.1 rfl (lv_room (Nat.le_of_ble_eq_true rfl)) dL_spins_294 ⟨Nat.le_of_ble_eq_true rfl, Nat.le_of_ble_eq_true rfl⟩) (fun r294 hr294 => ?_)
                    obtain rfl : r294 = nI (cnt (pF (zM z) T9.toInt B9.toInt) (zn z)) := hr294.trans (congrArg nI (pop_mk hn))
                    refine lv_iload S.1 S.2.1 dL_spins_297 (lv_at hl 5 rfl) ?_
                    refine lv_icmp_lt (tgt := 348) S.1 S.2.1 dL_spins_299 (by decide) (fun c299 => ?_) (fun c299 => ?_)
                    · skip
                      exact absurd c299 (sp_max hn hsp (okS hT hb9))
                    · skip
                      refine lv_iload S.1 S.2.1 dL_spins_302 (lv_at hl 1 rfl) ?_
                      refine x_si (va_runS (As := [.int (nI (mk (pF (zM z) T9.toInt B9.toInt) (zn z)))]) (rest := []) S (c_L_bits l g E1_9 (mk_lt10 (pF (zM z) T9.toInt B9.toInt) hn)) (va_cwS 1 S.2.2.2.2 gL_spins_L_bits rfl rfl rfl (by decide +kernel) ⟨Nat.le_of_ble_eq_true rfl, Nat.le_of_ble_eq_true rfl⟩) (x_preS hK hP) rfl rfl hl.1 rfl (lv_room (Nat.le_of_ble_eq_true rfl)) dL_spins_304 ⟨Nat.le_of_ble_eq_true rfl, Nat.le_of_ble_eq_true rfl⟩) (fun r304 hr304 => ?_)
                      obtain rfl : r304 = nI (cnt (pF (zM z) T9.toInt B9.toInt) (zn z)) := hr304.trans (congrArg nI (pop_mk hn))
                      refine lv_if_le (tgt := 348) S.1 S.2.1 dL_spins_307 (by decide) (fun c307 => ?_) (fun c307 => ?_)
                      · skip
                        exact absurd c307 (sp_pos hn hvM hsp hex)
                      · skip
                        refine lv_iload S.1 S.2.1 dL_spins_310 (lv_at hl 1 rfl) ?_
                        refine lv_iload_n S.1 S.2.1 dL_spins_312 rfl (lv_at hl 8 rfl) ?_
                        refine lv_iconst (v := (-1)) S.1 S.2.1 dL_spins_313 (by decide) ?_
                        refine lv_ixor S.1 S.2.1 dL_spins_314 ?_
                        refine lv_iand S.1 S.2.1 dL_spins_315 ?_
                        refine lv_if_ne (tgt := 348) S.1 S.2.1 dL_spins_316 (by decide) (fun c316 => ?_) (fun c316 => ?_)
                        · skip
                          exact absurd sp_in c316
                        · skip
                          refine lv_aload_n S.1 S.2.1 dL_spins_319 rfl (lv_at hl 9 rfl) ?_
                          refine lv_bipush (v := 40) S.1 S.2.1 dL_spins_320 (by decide) ?_
                          refine x_qi (va_runV (As := [.int 40]) (rest := []) S (c_X6_angleAt l g hJ E1_9 hX hv 40) (cwV 1 S.2.2.2.2 gL_spins_X6_angleAt rfl rfl rfl (by decide +kernel) ⟨Nat.le_of_ble_eq_true rfl, Nat.le_of_ble_eq_true rfl⟩) (x_preV hK hP h00 (by decide) rfl) rfl rfl hl.1 rfl (lv_room (Nat.le_of_ble_eq_true rfl)) dL_spins_322 ⟨Nat.le_of_ble_eq_true rfl, Nat.le_of_ble_eq_true rfl⟩) hS (fun r322 E1_10 H locs q322 hP hS => ?_)
                          obtain ⟨q322, hX, -⟩ := q322
                          have h00 := hX.at0
                          refine lv_iload S.1 S.2.1 dL_spins_325 (lv_at hl 0 rfl) ?_
                          refine lv_if_ge (tgt := 339) S.1 S.2.1 dL_spins_327 (by decide) (fun c327 => ?_) (fun c327 => ?_)
                          · skip
                            refine lv_iload S.1 S.2.1 dL_spins_339 (lv_at hl 0 rfl) ?_
                            refine lv_icmp_ne (tgt := 348) S.1 S.2.1 dL_spins_341 (by decide) (fun c341 => ?_) (fun c341 => ?_)
                            · skip
                              exact absurd (I_eq.mpr ((v_an hsp hex (by decide) q322).trans (ap_p (at40 hsp em10) (b40 hsp) c327).symm)) c341
                            · skip
                              refine lv_iconst (v := 1) S.1 S.2.1 dL_spins_344 (by decide) ?_
                              refine lv_goto (tgt := 349) S.1 S.2.1 dL_spins_345 (by decide) ?_
                              exact x_zret S hr hlocks hP hS dL_spins_349 rfl (⟨rfl, hX⟩)
                          · skip
                            refine lv_iload S.1 S.2.1 dL_spins_330 (lv_at hl 0 rfl) ?_
                            refine lv_sipush (v := 360) S.1 S.2.1 dL_spins_332 (by decide) ?_
                            refine lv_iadd S.1 S.2.1 dL_spins_335 ?_
                            refine lv_goto (tgt := 341) S.1 S.2.1 dL_spins_336 (by decide) ?_
                            refine lv_icmp_ne (tgt := 348) S.1 S.2.1 dL_spins_341 (by decide) (fun c341 => ?_) (fun c341 => ?_)
                            · skip
                              exact absurd (I_eq.mpr ((v_an hsp hex (by decide) q322).trans (ap_n (at40 hsp em10) (b40 hsp) c327 rfl).symm)) c341
                            · skip
                              refine lv_iconst (v := 1) S.1 S.2.1 dL_spins_344 (by decide) ?_
                              refine lv_goto (tgt := 349) S.1 S.2.1 dL_spins_345 (by decide) ?_
                              exact x_zret S hr hlocks hP hS dL_spins_349 rfl (⟨rfl, hX⟩)
              · skip
                have hno := mk_00 c190 hn
                refine lv_aload_n S.1 S.2.1 dL_spins_193 rfl (lv_at hl 6 rfl) ?_
                refine lv_iconst (v := 0) S.1 S.2.1 dL_spins_194 (by decide) ?_
                refine x_qi (va_runV (As := [.int 0]) (rest := []) S (c_X6_spin l g hJ E1_4 hX hv 0) (cwV 1 S.2.2.2.2 gL_spins_X6_spin rfl rfl rfl (by decide +kernel) ⟨Nat.le_of_ble_eq_true rfl, Nat.le_of_ble_eq_true rfl⟩) (x_preV hK hP h00 (by decide) rfl) rfl rfl hl.1 rfl (lv_room (Nat.le_of_ble_eq_true rfl)) dL_spins_195 ⟨Nat.le_of_ble_eq_true rfl, Nat.le_of_ble_eq_true rfl⟩) hS (fun r195 E1_11 H locs q195 hP hS => ?_)
                obtain ⟨q195, hX, -⟩ := q195
                have h00 := hX.at0
                obtain rfl : r195 = -4 := v_spN hno (by decide) q195
                refine lv_bipush (v := (-4)) S.1 S.2.1 dL_spins_198 (by decide) ?_
                refine lv_icmp_ne (tgt := 222) S.1 S.2.1 dL_spins_200 (by decide) (fun c200 => ?_) (fun c200 => ?_)
                · skip
                  exact absurd c200 (by decide)
                · skip
                  refine lv_aload_n S.1 S.2.1 dL_spins_203 rfl (lv_at hl 6 rfl) ?_
                  refine lv_iconst (v := 0) S.1 S.2.1 dL_spins_204 (by decide) ?_
                  refine x_qi (va_runV (As := [.int 0]) (rest := []) S (c_X6_angleAt l g hJ E1_11 hX hv 0) (cwV 1 S.2.2.2.2 gL_spins_X6_angleAt rfl rfl rfl (by decide +kernel) ⟨Nat.le_of_ble_eq_true rfl, Nat.le_of_ble_eq_true rfl⟩) (x_preV hK hP h00 (by decide) rfl) rfl rfl hl.1 rfl (lv_room (Nat.le_of_ble_eq_true rfl)) dL_spins_205 ⟨Nat.le_of_ble_eq_true rfl, Nat.le_of_ble_eq_true rfl⟩) hS (fun r205 E1_12 H locs q205 hP hS => ?_)
                  obtain ⟨q205, hX, -⟩ := q205
                  have h00 := hX.at0
                  obtain rfl : r205 = -4 := v_anN hno (by decide) q205
                  refine lv_bipush (v := (-4)) S.1 S.2.1 dL_spins_208 (by decide) ?_
                  refine lv_icmp_ne (tgt := 222) S.1 S.2.1 dL_spins_210 (by decide) (fun c210 => ?_) (fun c210 => ?_)
                  · skip
                    exact absurd c210 (by decide)
                  · skip
                    refine lv_iload S.1 S.2.1 dL_spins_213 (lv_at hl 2 rfl) ?_
                    refine lv_if_ne (tgt := 222) S.1 S.2.1 dL_spins_215 (by decide) (fun c215 => ?_) (fun c215 => ?_)
                    · skip
                      exact absurd (by rw [cnt_none (P := pF (zM z) T.toInt (nI b9).toInt) (fun k hk h => hno k hk (Bool.and_eq_true_iff.mp h).1)]; rfl) c215
                    · skip
                      refine lv_iconst (v := 1) S.1 S.2.1 dL_spins_218 (by decide) ?_
                      refine lv_goto (tgt := 223) S.1 S.2.1 dL_spins_219 (by decide) ?_
                      exact x_zret S hr hlocks hP hS dL_spins_223 rfl (⟨rfl, hX⟩)
            · skip
              exact absurd c184 (by decide)
      · skip
        have hpn := kn_lt hn hp c52
        refine lv_iload_n S.1 S.2.1 dL_spins_55 rfl (lv_at hl 5 rfl) ?_
        refine lv_iload S.1 S.2.1 dL_spins_56 (lv_at hl 0 rfl) ?_
        refine lv_ishr S.1 S.2.1 dL_spins_58 ?_
        refine lv_iconst (v := 1) S.1 S.2.1 dL_spins_59 (by decide) ?_
        refine lv_iand S.1 S.2.1 dL_spins_60 ?_
        refine W.eq (g2 := F0 m 61 ls [.int (bI (pK (zM z) p))]) (by rw [hit_at hn hpn]) ?_
        refine lv_iconst (v := 1) S.1 S.2.1 dL_spins_61 (by decide) ?_
        refine lv_icmp_ne (tgt := 148) S.1 S.2.1 dL_spins_62 (by decide) (fun c62 => ?_) (fun c62 => ?_)
        · skip
          rw [cnt_no (P := (pF (zM z) T.toInt (nI b9).toInt)) (k := p) (fun h => bI_nf c62 (Bool.and_eq_true_iff.mp h).1)] at hl
          refine lv_iinc (v := nI (p + 1)) (lv' := [(7, .int (nI (p + 1))), (6, .int (nI (cnt (pF (zM z) T.toInt (nI b9).toInt) (p + 1)))), (5, .int (nI (cnt (pF (zM z) T.toInt (nI b9).toInt) (zn z)))), (4, .int (nI b9)), (3, .int T), (2, .int (nI (mk (pK (zM z)) (zn z)))), (0, .ref (xad g 0)), (1, .int x)]) S.1 S.2.1 dL_spins_148 hl (k := 0) rfl (show nI p + Int32.ofInt 1 = _ from nI_1 _) (by decide) rfl (fun ls hl => ?_)
          refine lv_goto (tgt := 45) S.1 S.2.1 dL_spins_151 (by decide) ?_
          exact ih45 (p + 1) _ _ _ (by omega) (by omega) hX h00 hP hS ls (lv_sub hl [0, 1, 2, 3, 4, 5, 6, 7] rfl)
        · skip
          have hkp := bI_t c62
          refine lv_iload S.1 S.2.1 dL_spins_65 (lv_at hl 3 rfl) ?_
          refine lv_iload_n S.1 S.2.1 dL_spins_67 rfl (lv_at hl 4 rfl) ?_
          refine lv_aload_n S.1 S.2.1 dL_spins_68 rfl (lv_at hl 6 rfl) ?_
          refine lv_iload S.1 S.2.1 dL_spins_69 (lv_at hl 0 rfl) ?_
          refine lv_iconst (v := 0) S.1 S.2.1 dL_spins_71 (by decide) ?_
          refine x_qi (va_runV (As := [.int (nI p), .int 0]) (rest := [.int T, .int (nI b9)]) S (c_X6_photo l g hJ E1_2 hX hv (nI p) 0) (cwV 2 S.2.2.2.2 gL_spins_X6_photo rfl rfl rfl (by decide +kernel) ⟨Nat.le_of_ble_eq_true rfl, Nat.le_of_ble_eq_true rfl⟩) (x_preV hK hP h00 (by decide) rfl) rfl rfl hl.1 rfl (lv_room (Nat.le_of_ble_eq_true rfl)) dL_spins_72 ⟨Nat.le_of_ble_eq_true rfl, Nat.le_of_ble_eq_true rfl⟩) hS (fun r72 E1_13 H locs q72 hP hS => ?_)
          obtain ⟨q72, hX, -⟩ := q72
          have h00 := hX.at0
          obtain rfl : r72 = (zM z) 0 p := v_ph0 hv hpn q72
          refine lv_imul S.1 S.2.1 dL_spins_75 ?_
          refine lv_iadd S.1 S.2.1 dL_spins_76 ?_
          refine lv_aload_n S.1 S.2.1 dL_spins_77 rfl (lv_at hl 6 rfl) ?_
          refine lv_iload S.1 S.2.1 dL_spins_78 (lv_at hl 0 rfl) ?_
          refine lv_iconst (v := 4) S.1 S.2.1 dL_spins_80 (by decide) ?_
          refine x_qi (va_runV (As := [.int (nI p), .int 4]) (rest := [.int ((nI b9) + (T * ((zM z) 0 p)))]) S (c_X6_photo l g hJ E1_13 hX hv (nI p) 4) (cwV 2 S.2.2.2.2 gL_spins_X6_photo rfl rfl rfl (by decide +kernel) ⟨Nat.le_of_ble_eq_true rfl, Nat.le_of_ble_eq_true rfl⟩) (x_preV hK hP h00 (by decide) rfl) rfl rfl hl.1 rfl (lv_room (Nat.le_of_ble_eq_true rfl)) dL_spins_81 ⟨Nat.le_of_ble_eq_true rfl, Nat.le_of_ble_eq_true rfl⟩) hS (fun r81 E1_14 H locs q81 hP hS => ?_)
          obtain ⟨q81, hX, -⟩ := q81
          have h00 := hX.at0
          obtain rfl : r81 = an4 (zM z) p := v_ph4 hv hpn q81
          refine W.eq (g2 := F0 m 84 ls [.int (zM z 4 p), .int ((nI b9) + (T * ((zM z) 0 p)))]) (by rw [(pK_an hkp).2.1]) ?_
          refine lv_isub S.1 S.2.1 dL_spins_84 ?_
          refine lv_sipush (v := 360) S.1 S.2.1 dL_spins_85 (by decide) ?_
          refine lv_irem S.1 S.2.1 dL_spins_88 (by decide) ?_
          refine lv_topi (fun m8 em8 => ?_)
          refine lv_istore (lv' := [(8, .int m8), (7, .int (nI p)), (6, .int (nI (cnt (pF (zM z) T.toInt (nI b9).toInt) p))), (5, .int (nI (cnt (pF (zM z) T.toInt (nI b9).toInt) (zn z)))), (4, .int (nI b9)), (3, .int T), (2, .int (nI (mk (pK (zM z)) (zn z)))), (0, .ref (xad g 0)), (1, .int x)]) S.1 S.2.1 dL_spins_89 hl (by decide) rfl (fun ls hl => ?_)
          refine lv_iload S.1 S.2.1 dL_spins_91 (lv_at hl 0 rfl) ?_
          refine lv_if_ge (tgt := 105) S.1 S.2.1 dL_spins_93 (by decide) (fun c93 => ?_) (fun c93 => ?_)
          · skip
            refine lv_iload S.1 S.2.1 dL_spins_105 (lv_at hl 0 rfl) ?_
            refine lv_istore (lv' := [(8, .int m8), (7, .int (nI p)), (6, .int (nI (cnt (pF (zM z) T.toInt (nI b9).toInt) p))), (5, .int (nI (cnt (pF (zM z) T.toInt (nI b9).toInt) (zn z)))), (4, .int (nI b9)), (3, .int T), (2, .int (nI (mk (pK (zM z)) (zn z)))), (0, .ref (xad g 0)), (1, .int x)]) S.1 S.2.1 dL_spins_107 hl (by decide) rfl (fun ls hl => ?_)
            have hd := ap_p (ap_x hvM hpn hkp hT hb9 em8) (ap_b hvM hpn hT hb9) c93
            refine lv_iload S.1 S.2.1 dL_spins_109 (lv_at hl 2 rfl) ?_
            refine lv_iload S.1 S.2.1 dL_spins_111 (lv_at hl 0 rfl) ?_
            refine lv_sipush (v := 180) S.1 S.2.1 dL_spins_113 (by decide) ?_
            refine lv_icmp_le (tgt := 128) S.1 S.2.1 dL_spins_116 (by decide) (fun c116 => ?_) (fun c116 => ?_)
            · skip
              refine lv_iload S.1 S.2.1 dL_spins_128 (lv_at hl 0 rfl) ?_
              refine lv_aload_n S.1 S.2.1 dL_spins_130 rfl (lv_at hl 7 rfl) ?_
              refine lv_iload S.1 S.2.1 dL_spins_131 (lv_at hl 1 rfl) ?_
              refine lv_iconst (v := 5) S.1 S.2.1 dL_spins_133 (by decide) ?_
              refine x_qi (va_runV (As := [.int (nI p), .int 5]) (rest := [.int m8, .int (nI (cnt (pF (zM z) T.toInt (nI b9).toInt) p))]) S (c_X6_photo l g hJ E1_14 hX hv (nI p) 5) (cwV 2 S.2.2.2.2 gL_spins_X6_photo rfl rfl rfl (by decide +kernel) ⟨Nat.le_of_ble_eq_true rfl, Nat.le_of_ble_eq_true rfl⟩) (x_preV hK hP h00 (by decide) rfl) rfl rfl hl.1 rfl (lv_room (Nat.le_of_ble_eq_true rfl)) dL_spins_134 ⟨Nat.le_of_ble_eq_true rfl, Nat.le_of_ble_eq_true rfl⟩) hS (fun r134 E1_15 H locs q134 hP hS => ?_)
              obtain ⟨q134, hX, -⟩ := q134
              have h00 := hX.at0
              obtain rfl : r134 = an5 (zM z) p := v_ph5 hv hpn q134
              refine W.eq (g2 := F0 m 137 ls [.int (zM z 5 p), .int m8, .int (nI (cnt (pF (zM z) T.toInt (nI b9).toInt) p))]) (by rw [(pK_an hkp).2.2.1]) ?_
              refine lv_icmp_gt (tgt := 144) S.1 S.2.1 dL_spins_137 (by decide) (fun c137 => ?_) (fun c137 => ?_)
              · skip
                refine lv_iconst (v := 0) S.1 S.2.1 dL_spins_144 (by decide) ?_
                refine lv_iadd S.1 S.2.1 dL_spins_145 ?_
                refine W.eq (g2 := F0 m 146 ls [.int (nI (cnt (pF (zM z) T.toInt (nI b9).toInt) (p + 1)))]) (by rw [cnt_f (fun h => absurd ((near_lo hvM hpn hkp hd c116).mpr h) (Int32.not_le.mpr c137))]) ?_
                refine lv_istore (lv' := [(6, .int (nI (cnt (pF (zM z) T.toInt (nI b9).toInt) (p + 1)))), (8, .int m8), (7, .int (nI p)), (5, .int (nI (cnt (pF (zM z) T.toInt (nI b9).toInt) (zn z)))), (4, .int (nI b9)), (3, .int T), (2, .int (nI (mk (pK (zM z)) (zn z)))), (0, .ref (xad g 0)), (1, .int x)]) S.1 S.2.1 dL_spins_146 hl (by decide) rfl (fun ls hl => ?_)
                refine lv_iinc (v := nI (p + 1)) (lv' := [(7, .int (nI (p + 1))), (6, .int (nI (cnt (pF (zM z) T.toInt (nI b9).toInt) (p + 1)))), (8, .int m8), (5, .int (nI (cnt (pF (zM z) T.toInt (nI b9).toInt) (zn z)))), (4, .int (nI b9)), (3, .int T), (2, .int (nI (mk (pK (zM z)) (zn z)))), (0, .ref (xad g 0)), (1, .int x)]) S.1 S.2.1 dL_spins_148 hl (k := 2) rfl (show nI p + Int32.ofInt 1 = _ from nI_1 _) (by decide) rfl (fun ls hl => ?_)
                refine lv_goto (tgt := 45) S.1 S.2.1 dL_spins_151 (by decide) ?_
                exact ih45 (p + 1) _ _ _ (by omega) (by omega) hX h00 hP hS ls (lv_sub hl [0, 1, 3, 4, 5, 6, 7, 8] rfl)
              · skip
                refine lv_iconst (v := 1) S.1 S.2.1 dL_spins_140 (by decide) ?_
                refine lv_goto (tgt := 145) S.1 S.2.1 dL_spins_141 (by decide) ?_
                refine lv_iadd S.1 S.2.1 dL_spins_145 ?_
                refine W.eq (g2 := F0 m 146 ls [.int (nI (cnt (pF (zM z) T.toInt (nI b9).toInt) (p + 1)))]) (by rw [cnt_t ((near_lo hvM hpn hkp hd c116).mp (Int32.not_lt.mp c137))]) ?_
                refine lv_istore (lv' := [(6, .int (nI (cnt (pF (zM z) T.toInt (nI b9).toInt) (p + 1)))), (8, .int m8), (7, .int (nI p)), (5, .int (nI (cnt (pF (zM z) T.toInt (nI b9).toInt) (zn z)))), (4, .int (nI b9)), (3, .int T), (2, .int (nI (mk (pK (zM z)) (zn z)))), (0, .ref (xad g 0)), (1, .int x)]) S.1 S.2.1 dL_spins_146 hl (by decide) rfl (fun ls hl => ?_)
                refine lv_iinc (v := nI (p + 1)) (lv' := [(7, .int (nI (p + 1))), (6, .int (nI (cnt (pF (zM z) T.toInt (nI b9).toInt) (p + 1)))), (8, .int m8), (5, .int (nI (cnt (pF (zM z) T.toInt (nI b9).toInt) (zn z)))), (4, .int (nI b9)), (3, .int T), (2, .int (nI (mk (pK (zM z)) (zn z)))), (0, .ref (xad g 0)), (1, .int x)]) S.1 S.2.1 dL_spins_148 hl (k := 2) rfl (show nI p + Int32.ofInt 1 = _ from nI_1 _) (by decide) rfl (fun ls hl => ?_)
                refine lv_goto (tgt := 45) S.1 S.2.1 dL_spins_151 (by decide) ?_
                exact ih45 (p + 1) _ _ _ (by omega) (by omega) hX h00 hP hS ls (lv_sub hl [0, 1, 3, 4, 5, 6, 7, 8] rfl)
            · skip
              refine lv_sipush (v := 360) S.1 S.2.1 dL_spins_119 (by decide) ?_
              refine lv_iload S.1 S.2.1 dL_spins_122 (lv_at hl 0 rfl) ?_
              refine lv_isub S.1 S.2.1 dL_spins_124 ?_
              refine lv_goto (tgt := 130) S.1 S.2.1 dL_spins_125 (by decide) ?_
              refine lv_aload_n S.1 S.2.1 dL_spins_130 rfl (lv_at hl 7 rfl) ?_
              refine lv_iload S.1 S.2.1 dL_spins_131 (lv_at hl 1 rfl) ?_
              refine lv_iconst (v := 5) S.1 S.2.1 dL_spins_133 (by decide) ?_
              refine x_qi (va_runV (As := [.int (nI p), .int 5]) (rest := [.int (360 - m8), .int (nI (cnt (pF (zM z) T.toInt (nI b9).toInt) p))]) S (c_X6_photo l g hJ E1_14 hX hv (nI p) 5) (cwV 2 S.2.2.2.2 gL_spins_X6_photo rfl rfl rfl (by decide +kernel) ⟨Nat.le_of_ble_eq_true rfl, Nat.le_of_ble_eq_true rfl⟩) (x_preV hK hP h00 (by decide) rfl) rfl rfl hl.1 rfl (lv_room (Nat.le_of_ble_eq_true rfl)) dL_spins_134 ⟨Nat.le_of_ble_eq_true rfl, Nat.le_of_ble_eq_true rfl⟩) hS (fun r134 E1_16 H locs q134 hP hS => ?_)
              obtain ⟨q134, hX, -⟩ := q134
              have h00 := hX.at0
              obtain rfl : r134 = an5 (zM z) p := v_ph5 hv hpn q134
              refine W.eq (g2 := F0 m 137 ls [.int (zM z 5 p), .int (360 - m8), .int (nI (cnt (pF (zM z) T.toInt (nI b9).toInt) p))]) (by rw [(pK_an hkp).2.2.1]) ?_
              refine lv_icmp_gt (tgt := 144) S.1 S.2.1 dL_spins_137 (by decide) (fun c137 => ?_) (fun c137 => ?_)
              · skip
                refine lv_iconst (v := 0) S.1 S.2.1 dL_spins_144 (by decide) ?_
                refine lv_iadd S.1 S.2.1 dL_spins_145 ?_
                refine W.eq (g2 := F0 m 146 ls [.int (nI (cnt (pF (zM z) T.toInt (nI b9).toInt) (p + 1)))]) (by rw [cnt_f (fun h => absurd ((near_hi hvM hpn hkp hd c116).mpr h) (Int32.not_le.mpr c137))]) ?_
                refine lv_istore (lv' := [(6, .int (nI (cnt (pF (zM z) T.toInt (nI b9).toInt) (p + 1)))), (8, .int m8), (7, .int (nI p)), (5, .int (nI (cnt (pF (zM z) T.toInt (nI b9).toInt) (zn z)))), (4, .int (nI b9)), (3, .int T), (2, .int (nI (mk (pK (zM z)) (zn z)))), (0, .ref (xad g 0)), (1, .int x)]) S.1 S.2.1 dL_spins_146 hl (by decide) rfl (fun ls hl => ?_)
                refine lv_iinc (v := nI (p + 1)) (lv' := [(7, .int (nI (p + 1))), (6, .int (nI (cnt (pF (zM z) T.toInt (nI b9).toInt) (p + 1)))), (8, .int m8), (5, .int (nI (cnt (pF (zM z) T.toInt (nI b9).toInt) (zn z)))), (4, .int (nI b9)), (3, .int T), (2, .int (nI (mk (pK (zM z)) (zn z)))), (0, .ref (xad g 0)), (1, .int x)]) S.1 S.2.1 dL_spins_148 hl (k := 2) rfl (show nI p + Int32.ofInt 1 = _ from nI_1 _) (by decide) rfl (fun ls hl => ?_)
                refine lv_goto (tgt := 45) S.1 S.2.1 dL_spins_151 (by decide) ?_
                exact ih45 (p + 1) _ _ _ (by omega) (by omega) hX h00 hP hS ls (lv_sub hl [0, 1, 3, 4, 5, 6, 7, 8] rfl)
              · skip
                refine lv_iconst (v := 1) S.1 S.2.1 dL_spins_140 (by decide) ?_
                refine lv_goto (tgt := 145) S.1 S.2.1 dL_spins_141 (by decide) ?_
                refine lv_iadd S.1 S.2.1 dL_spins_145 ?_
                refine W.eq (g2 := F0 m 146 ls [.int (nI (cnt (pF (zM z) T.toInt (nI b9).toInt) (p + 1)))]) (by rw [cnt_t ((near_hi hvM hpn hkp hd c116).mp (Int32.not_lt.mp c137))]) ?_
                refine lv_istore (lv' := [(6, .int (nI (cnt (pF (zM z) T.toInt (nI b9).toInt) (p + 1)))), (8, .int m8), (7, .int (nI p)), (5, .int (nI (cnt (pF (zM z) T.toInt (nI b9).toInt) (zn z)))), (4, .int (nI b9)), (3, .int T), (2, .int (nI (mk (pK (zM z)) (zn z)))), (0, .ref (xad g 0)), (1, .int x)]) S.1 S.2.1 dL_spins_146 hl (by decide) rfl (fun ls hl => ?_)
                refine lv_iinc (v := nI (p + 1)) (lv' := [(7, .int (nI (p + 1))), (6, .int (nI (cnt (pF (zM z) T.toInt (nI b9).toInt) (p + 1)))), (8, .int m8), (5, .int (nI (cnt (pF (zM z) T.toInt (nI b9).toInt) (zn z)))), (4, .int (nI b9)), (3, .int T), (2, .int (nI (mk (pK (zM z)) (zn z)))), (0, .ref (xad g 0)), (1, .int x)]) S.1 S.2.1 dL_spins_148 hl (k := 2) rfl (show nI p + Int32.ofInt 1 = _ from nI_1 _) (by decide) rfl (fun ls hl => ?_)
                refine lv_goto (tgt := 45) S.1 S.2.1 dL_spins_151 (by decide) ?_
                exact ih45 (p + 1) _ _ _ (by omega) (by omega) hX h00 hP hS ls (lv_sub hl [0, 1, 3, 4, 5, 6, 7, 8] rfl)
          · skip
            refine lv_iload S.1 S.2.1 dL_spins_96 (lv_at hl 0 rfl) ?_
            refine lv_sipush (v := 360) S.1 S.2.1 dL_spins_98 (by decide) ?_
            refine lv_iadd S.1 S.2.1 dL_spins_101 ?_
            refine lv_goto (tgt := 107) S.1 S.2.1 dL_spins_102 (by decide) ?_
            refine lv_topi (fun d8 ed8 => ?_)
            refine lv_istore (lv' := [(8, .int d8), (7, .int (nI p)), (6, .int (nI (cnt (pF (zM z) T.toInt (nI b9).toInt) p))), (5, .int (nI (cnt (pF (zM z) T.toInt (nI b9).toInt) (zn z)))), (4, .int (nI b9)), (3, .int T), (2, .int (nI (mk (pK (zM z)) (zn z)))), (0, .ref (xad g 0)), (1, .int x)]) S.1 S.2.1 dL_spins_107 hl (by decide) rfl (fun ls hl => ?_)
            have hd := ap_n (ap_x hvM hpn hkp hT hb9 em8) (ap_b hvM hpn hT hb9) c93 ed8
            refine lv_iload S.1 S.2.1 dL_spins_109 (lv_at hl 2 rfl) ?_
            refine lv_iload S.1 S.2.1 dL_spins_111 (lv_at hl 0 rfl) ?_
            refine lv_sipush (v := 180) S.1 S.2.1 dL_spins_113 (by decide) ?_
            refine lv_icmp_le (tgt := 128) S.1 S.2.1 dL_spins_116 (by decide) (fun c116 => ?_) (fun c116 => ?_)
            · skip
              refine lv_iload S.1 S.2.1 dL_spins_128 (lv_at hl 0 rfl) ?_
              refine lv_aload_n S.1 S.2.1 dL_spins_130 rfl (lv_at hl 7 rfl) ?_
              refine lv_iload S.1 S.2.1 dL_spins_131 (lv_at hl 1 rfl) ?_
              refine lv_iconst (v := 5) S.1 S.2.1 dL_spins_133 (by decide) ?_
              refine x_qi (va_runV (As := [.int (nI p), .int 5]) (rest := [.int d8, .int (nI (cnt (pF (zM z) T.toInt (nI b9).toInt) p))]) S (c_X6_photo l g hJ E1_14 hX hv (nI p) 5) (cwV 2 S.2.2.2.2 gL_spins_X6_photo rfl rfl rfl (by decide +kernel) ⟨Nat.le_of_ble_eq_true rfl, Nat.le_of_ble_eq_true rfl⟩) (x_preV hK hP h00 (by decide) rfl) rfl rfl hl.1 rfl (lv_room (Nat.le_of_ble_eq_true rfl)) dL_spins_134 ⟨Nat.le_of_ble_eq_true rfl, Nat.le_of_ble_eq_true rfl⟩) hS (fun r134 E1_17 H locs q134 hP hS => ?_)
              obtain ⟨q134, hX, -⟩ := q134
              have h00 := hX.at0
              obtain rfl : r134 = an5 (zM z) p := v_ph5 hv hpn q134
              refine W.eq (g2 := F0 m 137 ls [.int (zM z 5 p), .int d8, .int (nI (cnt (pF (zM z) T.toInt (nI b9).toInt) p))]) (by rw [(pK_an hkp).2.2.1]) ?_
              refine lv_icmp_gt (tgt := 144) S.1 S.2.1 dL_spins_137 (by decide) (fun c137 => ?_) (fun c137 => ?_)
              · skip
                refine lv_iconst (v := 0) S.1 S.2.1 dL_spins_144 (by decide) ?_
                refine lv_iadd S.1 S.2.1 dL_spins_145 ?_
                refine W.eq (g2 := F0 m 146 ls [.int (nI (cnt (pF (zM z) T.toInt (nI b9).toInt) (p + 1)))]) (by rw [cnt_f (fun h => absurd ((near_lo hvM hpn hkp hd c116).mpr h) (Int32.not_le.mpr c137))]) ?_
                refine lv_istore (lv' := [(6, .int (nI (cnt (pF (zM z) T.toInt (nI b9).toInt) (p + 1)))), (8, .int d8), (7, .int (nI p)), (5, .int (nI (cnt (pF (zM z) T.toInt (nI b9).toInt) (zn z)))), (4, .int (nI b9)), (3, .int T), (2, .int (nI (mk (pK (zM z)) (zn z)))), (0, .ref (xad g 0)), (1, .int x)]) S.1 S.2.1 dL_spins_146 hl (by decide) rfl (fun ls hl => ?_)
                refine lv_iinc (v := nI (p + 1)) (lv' := [(7, .int (nI (p + 1))), (6, .int (nI (cnt (pF (zM z) T.toInt (nI b9).toInt) (p + 1)))), (8, .int d8), (5, .int (nI (cnt (pF (zM z) T.toInt (nI b9).toInt) (zn z)))), (4, .int (nI b9)), (3, .int T), (2, .int (nI (mk (pK (zM z)) (zn z)))), (0, .ref (xad g 0)), (1, .int x)]) S.1 S.2.1 dL_spins_148 hl (k := 2) rfl (show nI p + Int32.ofInt 1 = _ from nI_1 _) (by decide) rfl (fun ls hl => ?_)
                refine lv_goto (tgt := 45) S.1 S.2.1 dL_spins_151 (by decide) ?_
                exact ih45 (p + 1) _ _ _ (by omega) (by omega) hX h00 hP hS ls (lv_sub hl [0, 1, 3, 4, 5, 6, 7, 8] rfl)
              · skip
                refine lv_iconst (v := 1) S.1 S.2.1 dL_spins_140 (by decide) ?_
                refine lv_goto (tgt := 145) S.1 S.2.1 dL_spins_141 (by decide) ?_
                refine lv_iadd S.1 S.2.1 dL_spins_145 ?_
                refine W.eq (g2 := F0 m 146 ls [.int (nI (cnt (pF (zM z) T.toInt (nI b9).toInt) (p + 1)))]) (by rw [cnt_t ((near_lo hvM hpn hkp hd c116).mp (Int32.not_lt.mp c137))]) ?_
                refine lv_istore (lv' := [(6, .int (nI (cnt (pF (zM z) T.toInt (nI b9).toInt) (p + 1)))), (8, .int d8), (7, .int (nI p)), (5, .int (nI (cnt (pF (zM z) T.toInt (nI b9).toInt) (zn z)))), (4, .int (nI b9)), (3, .int T), (2, .int (nI (mk (pK (zM z)) (zn z)))), (0, .ref (xad g 0)), (1, .int x)]) S.1 S.2.1 dL_spins_146 hl (by decide) rfl (fun ls hl => ?_)
                refine lv_iinc (v := nI (p + 1)) (lv' := [(7, .int (nI (p + 1))), (6, .int (nI (cnt (pF (zM z) T.toInt (nI b9).toInt) (p + 1)))), (8, .int d8), (5, .int (nI (cnt (pF (zM z) T.toInt (nI b9).toInt) (zn z)))), (4, .int (nI b9)), (3, .int T), (2, .int (nI (mk (pK (zM z)) (zn z)))), (0, .ref (xad g 0)), (1, .int x)]) S.1 S.2.1 dL_spins_148 hl (k := 2) rfl (show nI p + Int32.ofInt 1 = _ from nI_1 _) (by decide) rfl (fun ls hl => ?_)
                refine lv_goto (tgt := 45) S.1 S.2.1 dL_spins_151 (by decide) ?_
                exact ih45 (p + 1) _ _ _ (by omega) (by omega) hX h00 hP hS ls (lv_sub hl [0, 1, 3, 4, 5, 6, 7, 8] rfl)
            · skip
              refine lv_sipush (v := 360) S.1 S.2.1 dL_spins_119 (by decide) ?_
              refine lv_iload S.1 S.2.1 dL_spins_122 (lv_at hl 0 rfl) ?_
              refine lv_isub S.1 S.2.1 dL_spins_124 ?_
              refine lv_goto (tgt := 130) S.1 S.2.1 dL_spins_125 (by decide) ?_
              refine lv_aload_n S.1 S.2.1 dL_spins_130 rfl (lv_at hl 7 rfl) ?_
              refine lv_iload S.1 S.2.1 dL_spins_131 (lv_at hl 1 rfl) ?_
              refine lv_iconst (v := 5) S.1 S.2.1 dL_spins_133 (by decide) ?_
              refine x_qi (va_runV (As := [.int (nI p), .int 5]) (rest := [.int (360 - d8), .int (nI (cnt (pF (zM z) T.toInt (nI b9).toInt) p))]) S (c_X6_photo l g hJ E1_14 hX hv (nI p) 5) (cwV 2 S.2.2.2.2 gL_spins_X6_photo rfl rfl rfl (by decide +kernel) ⟨Nat.le_of_ble_eq_true rfl, Nat.le_of_ble_eq_true rfl⟩) (x_preV hK hP h00 (by decide) rfl) rfl rfl hl.1 rfl (lv_room (Nat.le_of_ble_eq_true rfl)) dL_spins_134 ⟨Nat.le_of_ble_eq_true rfl, Nat.le_of_ble_eq_true rfl⟩) hS (fun r134 E1_18 H locs q134 hP hS => ?_)
              obtain ⟨q134, hX, -⟩ := q134
              have h00 := hX.at0
              obtain rfl : r134 = an5 (zM z) p := v_ph5 hv hpn q134
              refine W.eq (g2 := F0 m 137 ls [.int (zM z 5 p), .int (360 - d8), .int (nI (cnt (pF (zM z) T.toInt (nI b9).toInt) p))]) (by rw [(pK_an hkp).2.2.1]) ?_
              refine lv_icmp_gt (tgt := 144) S.1 S.2.1 dL_spins_137 (by decide) (fun c137 => ?_) (fun c137 => ?_)
              · skip
                refine lv_iconst (v := 0) S.1 S.2.1 dL_spins_144 (by decide) ?_
                refine lv_iadd S.1 S.2.1 dL_spins_145 ?_
                refine W.eq (g2 := F0 m 146 ls [.int (nI (cnt (pF (zM z) T.toInt (nI b9).toInt) (p + 1)))]) (by rw [cnt_f (fun h => absurd ((near_hi hvM hpn hkp hd c116).mpr h) (Int32.not_le.mpr c137))]) ?_
                refine lv_istore (lv' := [(6, .int (nI (cnt (pF (zM z) T.toInt (nI b9).toInt) (p + 1)))), (8, .int d8), (7, .int (nI p)), (5, .int (nI (cnt (pF (zM z) T.toInt (nI b9).toInt) (zn z)))), (4, .int (nI b9)), (3, .int T), (2, .int (nI (mk (pK (zM z)) (zn z)))), (0, .ref (xad g 0)), (1, .int x)]) S.1 S.2.1 dL_spins_146 hl (by decide) rfl (fun ls hl => ?_)
                refine lv_iinc (v := nI (p + 1)) (lv' := [(7, .int (nI (p + 1))), (6, .int (nI (cnt (pF (zM z) T.toInt (nI b9).toInt) (p + 1)))), (8, .int d8), (5, .int (nI (cnt (pF (zM z) T.toInt (nI b9).toInt) (zn z)))), (4, .int (nI b9)), (3, .int T), (2, .int (nI (mk (pK (zM z)) (zn z)))), (0, .ref (xad g 0)), (1, .int x)]) S.1 S.2.1 dL_spins_148 hl (k := 2) rfl (show nI p + Int32.ofInt 1 = _ from nI_1 _) (by decide) rfl (fun ls hl => ?_)
                refine lv_goto (tgt := 45) S.1 S.2.1 dL_spins_151 (by decide) ?_
                exact ih45 (p + 1) _ _ _ (by omega) (by omega) hX h00 hP hS ls (lv_sub hl [0, 1, 3, 4, 5, 6, 7, 8] rfl)
              · skip
                refine lv_iconst (v := 1) S.1 S.2.1 dL_spins_140 (by decide) ?_
                refine lv_goto (tgt := 145) S.1 S.2.1 dL_spins_141 (by decide) ?_
                refine lv_iadd S.1 S.2.1 dL_spins_145 ?_
                refine W.eq (g2 := F0 m 146 ls [.int (nI (cnt (pF (zM z) T.toInt (nI b9).toInt) (p + 1)))]) (by rw [cnt_t ((near_hi hvM hpn hkp hd c116).mp (Int32.not_lt.mp c137))]) ?_
                refine lv_istore (lv' := [(6, .int (nI (cnt (pF (zM z) T.toInt (nI b9).toInt) (p + 1)))), (8, .int d8), (7, .int (nI p)), (5, .int (nI (cnt (pF (zM z) T.toInt (nI b9).toInt) (zn z)))), (4, .int (nI b9)), (3, .int T), (2, .int (nI (mk (pK (zM z)) (zn z)))), (0, .ref (xad g 0)), (1, .int x)]) S.1 S.2.1 dL_spins_146 hl (by decide) rfl (fun ls hl => ?_)
                refine lv_iinc (v := nI (p + 1)) (lv' := [(7, .int (nI (p + 1))), (6, .int (nI (cnt (pF (zM z) T.toInt (nI b9).toInt) (p + 1)))), (8, .int d8), (5, .int (nI (cnt (pF (zM z) T.toInt (nI b9).toInt) (zn z)))), (4, .int (nI b9)), (3, .int T), (2, .int (nI (mk (pK (zM z)) (zn z)))), (0, .ref (xad g 0)), (1, .int x)]) S.1 S.2.1 dL_spins_148 hl (k := 2) rfl (show nI p + Int32.ofInt 1 = _ from nI_1 _) (by decide) rfl (fun ls hl => ?_)
                refine lv_goto (tgt := 45) S.1 S.2.1 dL_spins_151 (by decide) ?_
                exact ih45 (p + 1) _ _ _ (by omega) (by omega) hX h00 hP hS ls (lv_sub hl [0, 1, 3, 4, 5, 6, 7, 8] rfl)
  exact loop45 _ 0 _ _ _ (Nat.zero_le _) (Nat.lt_succ_self _) hX h00 hP hS ls (lv_sub hl [0, 1, 2, 3, 4, 5, 6, 7] rfl)
