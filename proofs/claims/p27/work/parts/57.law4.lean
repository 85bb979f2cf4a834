/-! THE LAW: the track -/
theorem mk_lt0 (M : Nat → Nat → Int32) (n : Nat) : (0 : Int32) = nI (mk (fun q => pU M q && decide (q < 0)) n) := by
  rw [show mk (fun q => pU M q && decide (q < 0)) n = 0 from Nat.eq_of_testBit_eq (fun i => by rw [mk_tb, Nat.zero_testBit]; simp)]
  rfl
set_option maxHeartbeats 4000000 in
set_option maxRecDepth 100000 in
theorem c_L_track (l : Launch) (g : xG) (hJ : xJ (xad g)) (E : Nat → va_E) {z : xS} (hX : sX g E z) (hv : vS z)  : Met l yL_track wsL_track ({ frames := 8, cells := 0, slots := 0, locals := 188 }) (xPc g [.ref (xad g 0)] E) (xQi g (fun r E1 => r = 1 ∧ sX g E1 z)) 0 0 (xA (xad g)) := by
  refine x_met (ws' := _) (by decide) rfl (Nat.le_of_ble_eq_true rfl) ?_
  intro pz ez s m below meth cz ls S hr hlocks hP hK hl
  have hl : lv_has ls 9 [(0, .ref (xad g 0))] := hl
  have hS : va_S (xA (xad g)) s.heap s.heap [] := va_S.rf
  have h00 := hX.at0
  have hn := hv.1.1
  have hvM := hv.1.2
  refine lv_aload_n S.1 S.2.1 dL_track_0 rfl (lv_at hl 0 rfl) ?_
  refine lv_iconst (v := 3) S.1 S.2.1 dL_track_1 (by decide) ?_
  refine x_qi (va_runV (As := [.int 3]) (rest := []) S (c_X6_count l g hJ E hX hv 3) (cwV 1 S.2.2.2.2 gL_track_X6_count rfl rfl rfl (by decide +kernel) ⟨Nat.le_of_ble_eq_true rfl, Nat.le_of_ble_eq_true rfl⟩) (x_preV hK hP h00 (by decide) rfl) rfl rfl hl.1 rfl (lv_room (Nat.le_of_ble_eq_true rfl)) dL_track_2 ⟨Nat.le_of_ble_eq_true rfl, Nat.le_of_ble_eq_true rfl⟩) hS (fun r2 E1 H locs q2 hP hS => ?_)
  obtain ⟨q2, hX, -⟩ := q2
  have h00 := hX.at0
  obtain ⟨R, T, hT, rfl⟩ := v_ct3 q2
  have hR10 := (hT.le (zn z) 0 (Nat.zero_le _) (Nat.le_refl _)).1
  refine lv_istore_n (lv' := [(1, .int (nI (R 0))), (0, .ref (xad g 0))]) S.1 S.2.1 dL_track_5 rfl hl (by decide) rfl (fun ls hl => ?_)
  refine lv_iconst (v := 0) S.1 S.2.1 dL_track_6 (by decide) ?_
  refine W.eq (g2 := F0 m 7 ls [.int (nI (mk (fun q => pU (zM z) q && decide (q < 0)) (zn z)))]) (by rw [mk_lt0 (zM z) (zn z)]) ?_
  refine lv_istore_n (lv' := [(2, .int (nI (mk (fun q => pU (zM z) q && decide (q < 0)) (zn z)))), (1, .int (nI (R 0))), (0, .ref (xad g 0))]) S.1 S.2.1 dL_track_7 rfl hl (by decide) rfl (fun ls hl => ?_)
  refine lv_iconst (v := 0) S.1 S.2.1 dL_track_8 (by decide) ?_
  refine lv_istore_n (lv' := [(3, .int 0), (2, .int (nI (mk (fun q => pU (zM z) q && decide (q < 0)) (zn z)))), (1, .int (nI (R 0))), (0, .ref (xad g 0))]) S.1 S.2.1 dL_track_9 rfl hl (by decide) rfl (fun ls hl => ?_)
  refine lv_iconst (v := 0) S.1 S.2.1 dL_track_10 (by decide) ?_
  refine lv_istore (lv' := [(4, .int 0), (3, .int 0), (2, .int (nI (mk (fun q => pU (zM z) q && decide (q < 0)) (zn z)))), (1, .int (nI (R 0))), (0, .ref (xad g 0))]) S.1 S.2.1 dL_track_11 hl (by decide) rfl (fun ls hl => ?_)
  have loop13 : ∀ (d : Nat) (v : Nat) (N : Nat) (EL : Nat → va_E) (H : Heap) (locs : List Loc), (hv0 : v ≤ R 0) → (hN9 : N ≤ zn z) → (hN : ∀ q, q < zn z → pU (zM z) q = true → (q < N ↔ q < itr (zn z) T v 0)) → (R 0 + 1 - v) < d → (hX : sX g EL z) → (h00 : EL 0 = .inr (6, [.ref (xad g 1), .ref (xad g 10), .int (bI (zf z)), .ref (xad g 19), .ref (xad g 57), .ref (xad g 59), .ref (xad g 60), .ref (xad g 61), .ref (xad g 64)])) → xP g EL H → va_S (xA (xad g)) s.heap H locs → ∀ ls : Array Slot, lv_has ls 9 [(4, .int (nI v)), (3, .int (nI N)), (2, .int (nI (mk (fun q => pU (zM z) q && decide (q < N)) (zn z)))), (1, .int (nI (R 0))), (0, .ref (xad g 0))] → W pz l ez ({ frames := 8, cells := 0, slots := 0, locals := 188 }) s m ([.ref (xad g 0)] : List Value).toArray below meth cz H locs 0 0 (MQ below (xQi g (fun r E1 => r = 1 ∧ sX g E1 z)) ([.ref (xad g 0)] : List Value).toArray s 0 0 (xA (xad g))) (F0 m 13 ls []) := by
    intro d
    induction d with
    | zero => intro v N EL H locs hv0 hN9 hN hd; exact absurd hd (Nat.not_lt_zero _)
    | succ d ih13 =>
      intro v N EL H locs hv0 hN9 hN hd hX h00 hP hS ls hl
      refine lv_iload S.1 S.2.1 dL_track_13 (lv_at hl 0 rfl) ?_
      refine lv_iload_n S.1 S.2.1 dL_track_15 rfl (lv_at hl 3 rfl) ?_
      refine lv_icmp_ge (tgt := 220) S.1 S.2.1 dL_track_16 (by decide) (fun c16 => ?_) (fun c16 => ?_)
      · skip
        obtain rfl : v = R 0 := by have h9 := (nI_leI (a := R 0) (b := v) (by omega) (by omega)).mp c16; omega
        refine lv_iload_n S.1 S.2.1 dL_track_220 rfl (lv_at hl 2 rfl) ?_
        refine lv_aload_n S.1 S.2.1 dL_track_221 rfl (lv_at hl 4 rfl) ?_
        refine lv_iconst (v := 1) S.1 S.2.1 dL_track_222 (by decide) ?_
        refine x_qi (va_runV (As := [.int 1]) (rest := [.int (nI (mk (fun q => pU (zM z) q && decide (q < N)) (zn z)))]) S (c_X6_count l g hJ EL hX hv 1) (cwV 1 S.2.2.2.2 gL_track_X6_count rfl rfl rfl (by decide +kernel) ⟨Nat.le_of_ble_eq_true rfl, Nat.le_of_ble_eq_true rfl⟩) (x_preV hK hP h00 (by decide) rfl) rfl rfl hl.1 rfl (lv_room (Nat.le_of_ble_eq_true rfl)) dL_track_223 ⟨Nat.le_of_ble_eq_true rfl, Nat.le_of_ble_eq_true rfl⟩) hS (fun r223 E1_1 H locs q223 hP hS => ?_)
        obtain ⟨q223, hX, -⟩ := q223
        have h00 := hX.at0
        obtain rfl : r223 = nI (mk (pU (zM z)) (zn z)) := v_ct1 q223
        refine lv_icmp_ne (tgt := 267) S.1 S.2.1 dL_track_226 (by decide) (fun c226 => ?_) (fun c226 => ?_)
        · skip
          exact absurd (congrArg nI (mk_congr (all_mk hT hN))) c226
        · skip
          refine lv_aload_n S.1 S.2.1 dL_track_229 rfl (lv_at hl 4 rfl) ?_
          refine lv_iload_n S.1 S.2.1 dL_track_230 rfl (lv_at hl 3 rfl) ?_
          refine lv_iconst (v := 0) S.1 S.2.1 dL_track_231 (by decide) ?_
          refine x_qi (va_runV (As := [.int (nI (R 0)), .int 0]) (rest := []) S (c_X6_track l g hJ E1_1 hX hv (nI (R 0)) 0) (cwV 2 S.2.2.2.2 gL_track_X6_track rfl rfl rfl (by decide +kernel) ⟨Nat.le_of_ble_eq_true rfl, Nat.le_of_ble_eq_true rfl⟩) (x_preV hK hP h00 (by decide) rfl) rfl rfl hl.1 rfl (lv_room (Nat.le_of_ble_eq_true rfl)) dL_track_232 ⟨Nat.le_of_ble_eq_true rfl, Nat.le_of_ble_eq_true rfl⟩) hS (fun r232 E1_2 H locs q232 hP hS => ?_)
          obtain ⟨q232, hX, -⟩ := q232
          have h00 := hX.at0
          obtain rfl : r232 = -5 := v_trE hv hT q232
          refine lv_bipush (v := (-5)) S.1 S.2.1 dL_track_235 (by decide) ?_
          refine lv_icmp_ne (tgt := 267) S.1 S.2.1 dL_track_237 (by decide) (fun c237 => ?_) (fun c237 => ?_)
          · skip
            exact absurd c237 (by decide)
          · skip
            refine lv_aload_n S.1 S.2.1 dL_track_240 rfl (lv_at hl 4 rfl) ?_
            refine lv_iconst (v := (-1)) S.1 S.2.1 dL_track_241 (by decide) ?_
            refine lv_iconst (v := 0) S.1 S.2.1 dL_track_242 (by decide) ?_
            refine x_qi (va_runV (As := [.int (-1), .int 0]) (rest := []) S (c_X6_track l g hJ E1_2 hX hv (-1) 0) (cwV 2 S.2.2.2.2 gL_track_X6_track rfl rfl rfl (by decide +kernel) ⟨Nat.le_of_ble_eq_true rfl, Nat.le_of_ble_eq_true rfl⟩) (x_preV hK hP h00 (by decide) rfl) rfl rfl hl.1 rfl (lv_room (Nat.le_of_ble_eq_true rfl)) dL_track_243 ⟨Nat.le_of_ble_eq_true rfl, Nat.le_of_ble_eq_true rfl⟩) hS (fun r243 E1_3 H locs q243 hP hS => ?_)
            obtain ⟨q243, hX, -⟩ := q243
            have h00 := hX.at0
            obtain rfl : r243 = -2 := v_trM q243
            refine lv_bipush (v := (-2)) S.1 S.2.1 dL_track_246 (by decide) ?_
            refine lv_icmp_ne (tgt := 267) S.1 S.2.1 dL_track_248 (by decide) (fun c248 => ?_) (fun c248 => ?_)
            · skip
              exact absurd c248 (by decide)
            · skip
              refine lv_iload_n S.1 S.2.1 dL_track_251 rfl (lv_at hl 3 rfl) ?_
              refine lv_iload_n S.1 S.2.1 dL_track_252 rfl (lv_at hl 2 rfl) ?_
              refine x_si (va_runS (As := [.int (nI (mk (fun q => pU (zM z) q && decide (q < N)) (zn z)))]) (rest := [.int (nI (R 0))]) S (c_L_bits l g E1_3 (mk_lt10 (fun q => pU (zM z) q && decide (q < N)) hn)) (va_cwS 1 S.2.2.2.2 gL_track_L_bits rfl rfl rfl (by decide +kernel) ⟨Nat.le_of_ble_eq_true rfl, Nat.le_of_ble_eq_true rfl⟩) (x_preS hK hP) rfl rfl hl.1 rfl (lv_room (Nat.le_of_ble_eq_true rfl)) dL_track_253 ⟨Nat.le_of_ble_eq_true rfl, Nat.le_of_ble_eq_true rfl⟩) (fun r253 hr253 => ?_)
              obtain rfl : r253 = nI (cnt (fun q => pU (zM z) q && decide (q < N)) (zn z)) := hr253.trans (congrArg nI (pop_mk hn))
              refine lv_iconst (v := 1) S.1 S.2.1 dL_track_256 (by decide) ?_
              refine lv_iadd S.1 S.2.1 dL_track_257 ?_
              refine lv_iconst (v := 2) S.1 S.2.1 dL_track_258 (by decide) ?_
              refine lv_idiv S.1 S.2.1 dL_track_259 (by decide) ?_
              refine lv_icmp_gt (tgt := 267) S.1 S.2.1 dL_track_260 (by decide) (fun c260 => ?_) (fun c260 => ?_)
              · skip
                exact absurd c260 (half_I hn hT hN)
              · skip
                refine lv_iconst (v := 1) S.1 S.2.1 dL_track_263 (by decide) ?_
                refine lv_goto (tgt := 268) S.1 S.2.1 dL_track_264 (by decide) ?_
                exact x_zret S hr hlocks hP hS dL_track_268 rfl (⟨rfl, hX⟩)
      · skip
        have hvR : v < R 0 := Nat.not_le.mp (fun h => c16 ((nI_leI (by omega) (by omega)).mpr h))
        obtain ⟨A, B, hA, hB, hAn, hBn, hA1, hfit⟩ := row_facts hT hvR
        have hNA : ∀ q, q < zn z → pU (zM z) q = true → (q < N ↔ q < A) := by rw [← hA]; exact hN
        refine lv_aload_n S.1 S.2.1 dL_track_19 rfl (lv_at hl 4 rfl) ?_
        refine lv_iload S.1 S.2.1 dL_track_20 (lv_at hl 0 rfl) ?_
        refine lv_iconst (v := 2) S.1 S.2.1 dL_track_22 (by decide) ?_
        refine x_qi (va_runV (As := [.int (nI v), .int 2]) (rest := []) S (c_X6_track l g hJ EL hX hv (nI v) 2) (cwV 2 S.2.2.2.2 gL_track_X6_track rfl rfl rfl (by decide +kernel) ⟨Nat.le_of_ble_eq_true rfl, Nat.le_of_ble_eq_true rfl⟩) (x_preV hK hP h00 (by decide) rfl) rfl rfl hl.1 rfl (lv_room (Nat.le_of_ble_eq_true rfl)) dL_track_23 ⟨Nat.le_of_ble_eq_true rfl, Nat.le_of_ble_eq_true rfl⟩) hS (fun r23 E1_4 H locs q23 hP hS => ?_)
        obtain ⟨q23, hX, -⟩ := q23
        have h00 := hX.at0
        obtain rfl : r23 = nI (mk (pB (zM z) A B) (zn z)) := rw2 (v_trS hv hT hvR hA hB (by decide) q23)
        refine lv_istore (lv' := [(5, .int (nI (mk (pB (zM z) A B) (zn z)))), (4, .int (nI v)), (3, .int (nI N)), (2, .int (nI (mk (fun q => pU (zM z) q && decide (q < N)) (zn z)))), (1, .int (nI (R 0))), (0, .ref (xad g 0))]) S.1 S.2.1 dL_track_26 hl (by decide) rfl (fun ls hl => ?_)
        refine lv_aload_n S.1 S.2.1 dL_track_28 rfl (lv_at hl 5 rfl) ?_
        refine lv_iload S.1 S.2.1 dL_track_29 (lv_at hl 1 rfl) ?_
        refine lv_iconst (v := 0) S.1 S.2.1 dL_track_31 (by decide) ?_
        refine x_qi (va_runV (As := [.int (nI v), .int 0]) (rest := []) S (c_X6_track l g hJ E1_4 hX hv (nI v) 0) (cwV 2 S.2.2.2.2 gL_track_X6_track rfl rfl rfl (by decide +kernel) ⟨Nat.le_of_ble_eq_true rfl, Nat.le_of_ble_eq_true rfl⟩) (x_preV hK hP h00 (by decide) rfl) rfl rfl hl.1 rfl (lv_room (Nat.le_of_ble_eq_true rfl)) dL_track_32 ⟨Nat.le_of_ble_eq_true rfl, Nat.le_of_ble_eq_true rfl⟩) hS (fun r32 E1_5 H locs q32 hP hS => ?_)
        obtain ⟨q32, hX, -⟩ := q32
        have h00 := hX.at0
        obtain ⟨e, he1, he2, he3, rfl⟩ := rw0 (v_trS hv hT hvR hA hB (by decide) q32)
        refine lv_istore (lv' := [(6, .int (nI e)), (5, .int (nI (mk (pB (zM z) A B) (zn z)))), (4, .int (nI v)), (3, .int (nI N)), (2, .int (nI (mk (fun q => pU (zM z) q && decide (q < N)) (zn z)))), (1, .int (nI (R 0))), (0, .ref (xad g 0))]) S.1 S.2.1 dL_track_35 hl (by decide) rfl (fun ls hl => ?_)
        refine lv_aload_n S.1 S.2.1 dL_track_37 rfl (lv_at hl 6 rfl) ?_
        refine lv_iload S.1 S.2.1 dL_track_38 (lv_at hl 2 rfl) ?_
        refine lv_iconst (v := 1) S.1 S.2.1 dL_track_40 (by decide) ?_
        refine x_qi (va_runV (As := [.int (nI v), .int 1]) (rest := []) S (c_X6_track l g hJ E1_5 hX hv (nI v) 1) (cwV 2 S.2.2.2.2 gL_track_X6_track rfl rfl rfl (by decide +kernel) ⟨Nat.le_of_ble_eq_true rfl, Nat.le_of_ble_eq_true rfl⟩) (x_preV hK hP h00 (by decide) rfl) rfl rfl hl.1 rfl (lv_room (Nat.le_of_ble_eq_true rfl)) dL_track_41 ⟨Nat.le_of_ble_eq_true rfl, Nat.le_of_ble_eq_true rfl⟩) hS (fun r41 E1_6 H locs q41 hP hS => ?_)
        obtain ⟨q41, hX, -⟩ := q41
        have h00 := hX.at0
        obtain ⟨f, hf1, hf2, hf3, rfl⟩ := rw1 (v_trS hv hT hvR hA hB (by decide) q41)
        refine lv_istore (lv' := [(7, .int (nI f)), (6, .int (nI e)), (5, .int (nI (mk (pB (zM z) A B) (zn z)))), (4, .int (nI v)), (3, .int (nI N)), (2, .int (nI (mk (fun q => pU (zM z) q && decide (q < N)) (zn z)))), (1, .int (nI (R 0))), (0, .ref (xad g 0))]) S.1 S.2.1 dL_track_44 hl (by decide) rfl (fun ls hl => ?_)
        refine lv_aload_n S.1 S.2.1 dL_track_46 rfl (lv_at hl 7 rfl) ?_
        refine lv_iload S.1 S.2.1 dL_track_47 (lv_at hl 3 rfl) ?_
        refine lv_iconst (v := 3) S.1 S.2.1 dL_track_49 (by decide) ?_
        refine x_qi (va_runV (As := [.int (nI v), .int 3]) (rest := []) S (c_X6_track l g hJ E1_6 hX hv (nI v) 3) (cwV 2 S.2.2.2.2 gL_track_X6_track rfl rfl rfl (by decide +kernel) ⟨Nat.le_of_ble_eq_true rfl, Nat.le_of_ble_eq_true rfl⟩) (x_preV hK hP h00 (by decide) rfl) rfl rfl hl.1 rfl (lv_room (Nat.le_of_ble_eq_true rfl)) dL_track_50 ⟨Nat.le_of_ble_eq_true rfl, Nat.le_of_ble_eq_true rfl⟩) hS (fun r50 E1_7 H locs q50 hP hS => ?_)
        obtain ⟨q50, hX, -⟩ := q50
        have h00 := hX.at0
        have h50 := rw3 (v_trS hv hT hvR hA hB (by decide) q50)
        refine lv_istore (lv' := [(8, .int r50), (7, .int (nI f)), (6, .int (nI e)), (5, .int (nI (mk (pB (zM z) A B) (zn z)))), (4, .int (nI v)), (3, .int (nI N)), (2, .int (nI (mk (fun q => pU (zM z) q && decide (q < N)) (zn z)))), (1, .int (nI (R 0))), (0, .ref (xad g 0))]) S.1 S.2.1 dL_track_53 hl (by decide) rfl (fun ls hl => ?_)
        have loop55 : ∀ (d : Nat) (N1 : Nat) (EL : Nat → va_E) (H : Heap) (locs : List Loc), (hN0 : N ≤ N1) → (hNe : N1 ≤ e) → (e + 1 - N1) < d → (hX : sX g EL z) → (h00 : EL 0 = .inr (6, [.ref (xad g 1), .ref (xad g 10), .int (bI (zf z)), .ref (xad g 19), .ref (xad g 57), .ref (xad g 59), .ref (xad g 60), .ref (xad g 61), .ref (xad g 64)])) → xP g EL H → va_S (xA (xad g)) s.heap H locs → ∀ ls : Array Slot, lv_has ls 9 [(3, .int (nI N1)), (8, .int r50), (7, .int (nI f)), (6, .int (nI e)), (5, .int (nI (mk (pB (zM z) A B) (zn z)))), (4, .int (nI v)), (2, .int (nI (mk (fun q => pU (zM z) q && decide (q < N)) (zn z)))), (1, .int (nI (R 0))), (0, .ref (xad g 0))] → W pz l ez ({ frames := 8, cells := 0, slots := 0, locals := 188 }) s m ([.ref (xad g 0)] : List Value).toArray below meth cz H locs 0 0 (MQ below (xQi g (fun r E1 => r = 1 ∧ sX g E1 z)) ([.ref (xad g 0)] : List Value).toArray s 0 0 (xA (xad g))) (F0 m 55 ls []) := by
          intro d
          induction d with
          | zero => intro N1 EL H locs hN0 hNe hd; exact absurd hd (Nat.not_lt_zero _)
          | succ d ih55 =>
            intro N1 EL H locs hN0 hNe hd hX h00 hP hS ls hl
            refine lv_iload_n S.1 S.2.1 dL_track_55 rfl (lv_at hl 0 rfl) ?_
            refine lv_aload_n S.1 S.2.1 dL_track_56 rfl (lv_at hl 8 rfl) ?_
            refine lv_iconst (v := 0) S.1 S.2.1 dL_track_57 (by decide) ?_
            refine x_qi (va_runV (As := [.int 0]) (rest := [.int (nI N1)]) S (c_X6_count l g hJ EL hX hv 0) (cwV 1 S.2.2.2.2 gL_track_X6_count rfl rfl rfl (by decide +kernel) ⟨Nat.le_of_ble_eq_true rfl, Nat.le_of_ble_eq_true rfl⟩) (x_preV hK hP h00 (by decide) rfl) rfl rfl hl.1 rfl (lv_room (Nat.le_of_ble_eq_true rfl)) dL_track_58 ⟨Nat.le_of_ble_eq_true rfl, Nat.le_of_ble_eq_true rfl⟩) hS (fun r58 E1_8 H locs q58 hP hS => ?_)
            obtain ⟨q58, hX, -⟩ := q58
            have h00 := hX.at0
            obtain rfl : r58 = nI (zn z) := v_ct0 q58
            refine lv_icmp_ge (tgt := 81) S.1 S.2.1 dL_track_61 (by decide) (fun c61 => ?_) (fun c61 => ?_)
            · skip
              exact absurd c61 (nI_ge (show N1 < zn z by omega) (by omega))
            · skip
              refine lv_aload_n S.1 S.2.1 dL_track_64 rfl (lv_at hl 8 rfl) ?_
              refine lv_iload_n S.1 S.2.1 dL_track_65 rfl (lv_at hl 0 rfl) ?_
              refine lv_bipush (v := 6) S.1 S.2.1 dL_track_66 (by decide) ?_
              refine x_qi (va_runV (As := [.int (nI N1), .int 6]) (rest := []) S (c_X6_photo l g hJ E1_8 hX hv (nI N1) 6) (cwV 2 S.2.2.2.2 gL_track_X6_photo rfl rfl rfl (by decide +kernel) ⟨Nat.le_of_ble_eq_true rfl, Nat.le_of_ble_eq_true rfl⟩) (x_preV hK hP h00 (by decide) rfl) rfl rfl hl.1 rfl (lv_room (Nat.le_of_ble_eq_true rfl)) dL_track_68 ⟨Nat.le_of_ble_eq_true rfl, Nat.le_of_ble_eq_true rfl⟩) hS (fun r68 E1_9 H locs q68 hP hS => ?_)
              obtain ⟨q68, hX, -⟩ := q68
              have h00 := hX.at0
              obtain rfl : r68 = (zM z) 6 N1 := v_ph6 hv (show N1 < zn z by omega) q68
              refine lv_iconst (v := 1) S.1 S.2.1 dL_track_71 (by decide) ?_
              refine lv_icmp_ne (tgt := 81) S.1 S.2.1 dL_track_72 (by decide) (fun c72 => ?_) (fun c72 => ?_)
              · skip
                obtain rfl := nx_eq hNA he1 he2 he3 hN0 hNe (pU_0 hvM (show N1 < zn z by omega) c72)
                refine lv_iload S.1 S.2.1 dL_track_81 (lv_at hl 3 rfl) ?_
                refine lv_iload_n S.1 S.2.1 dL_track_83 rfl (lv_at hl 0 rfl) ?_
                refine lv_icmp_ne (tgt := 167) S.1 S.2.1 dL_track_84 (by decide) (fun c84 => ?_) (fun c84 => ?_)
                · skip
                  exact absurd rfl c84
                · skip
                  refine lv_iload S.1 S.2.1 dL_track_87 (lv_at hl 4 rfl) ?_
                  refine lv_iload S.1 S.2.1 dL_track_89 (lv_at hl 3 rfl) ?_
                  refine lv_ishr S.1 S.2.1 dL_track_91 ?_
                  refine lv_iconst (v := 1) S.1 S.2.1 dL_track_92 (by decide) ?_
                  refine lv_iand S.1 S.2.1 dL_track_93 ?_
                  refine W.eq (g2 := F0 m 94 ls [.int 1]) (by rw [bit1 hn he1 he2]) ?_
                  refine lv_iconst (v := 1) S.1 S.2.1 dL_track_94 (by decide) ?_
                  refine lv_icmp_ne (tgt := 167) S.1 S.2.1 dL_track_95 (by decide) (fun c95 => ?_) (fun c95 => ?_)
                  · skip
                    exact absurd c95 (by decide)
                  · skip
                    refine lv_iload S.1 S.2.1 dL_track_98 (lv_at hl 4 rfl) ?_
                    refine lv_iload S.1 S.2.1 dL_track_100 (lv_at hl 2 rfl) ?_
                    refine lv_ishr S.1 S.2.1 dL_track_102 ?_
                    refine lv_iconst (v := 1) S.1 S.2.1 dL_track_103 (by decide) ?_
                    refine lv_iand S.1 S.2.1 dL_track_104 ?_
                    refine W.eq (g2 := F0 m 105 ls [.int 1]) (by rw [bit1 hn hf1 hf2]) ?_
                    refine lv_iconst (v := 1) S.1 S.2.1 dL_track_105 (by decide) ?_
                    refine lv_icmp_ne (tgt := 167) S.1 S.2.1 dL_track_106 (by decide) (fun c106 => ?_) (fun c106 => ?_)
                    · skip
                      exact absurd c106 (by decide)
                    · skip
                      refine lv_iload S.1 S.2.1 dL_track_109 (lv_at hl 4 rfl) ?_
                      refine lv_iload S.1 S.2.1 dL_track_111 (lv_at hl 2 rfl) ?_
                      refine lv_iconst (v := 1) S.1 S.2.1 dL_track_113 (by decide) ?_
                      refine lv_iadd S.1 S.2.1 dL_track_114 ?_
                      refine lv_ishr S.1 S.2.1 dL_track_115 ?_
                      refine W.eq (g2 := F0 m 116 ls [.int 0]) (by rw [shr0 hn hf1 hf3]) ?_
                      refine lv_if_ne (tgt := 167) S.1 S.2.1 dL_track_116 (by decide) (fun c116 => ?_) (fun c116 => ?_)
                      · skip
                        exact absurd c116 (by decide)
                      · skip
                        refine lv_iload S.1 S.2.1 dL_track_119 (lv_at hl 4 rfl) ?_
                        refine lv_iload_n S.1 S.2.1 dL_track_121 rfl (lv_at hl 6 rfl) ?_
                        refine lv_iand S.1 S.2.1 dL_track_122 ?_
                        refine W.eq (g2 := F0 m 123 ls [.int 0]) (by rw [dj hNA]) ?_
                        refine lv_if_ne (tgt := 167) S.1 S.2.1 dL_track_123 (by decide) (fun c123 => ?_) (fun c123 => ?_)
                        · skip
                          exact absurd c123 (by decide)
                        · skip
                          refine lv_aload_n S.1 S.2.1 dL_track_126 rfl (lv_at hl 8 rfl) ?_
                          refine lv_iload S.1 S.2.1 dL_track_127 (lv_at hl 3 rfl) ?_
                          refine x_qi (va_runV (As := [.int (nI e)]) (rest := []) S (c_X6_fitsFrom l g hJ E1_9 hX hv (nI e)) (cwV 1 S.2.2.2.2 gL_track_X6_fitsFrom rfl rfl rfl (by decide +kernel) ⟨Nat.le_of_ble_eq_true rfl, Nat.le_of_ble_eq_true rfl⟩) (x_preV hK hP h00 (by decide) rfl) rfl rfl hl.1 rfl (lv_room (Nat.le_of_ble_eq_true rfl)) dL_track_129 ⟨Nat.le_of_ble_eq_true rfl, Nat.le_of_ble_eq_true rfl⟩) hS (fun r129 E1_10 H locs q129 hP hS => ?_)
                          obtain ⟨q129, hX, -⟩ := q129
                          have h00 := hX.at0
                          obtain ⟨e9, k1, k2, k4, rfl⟩ := v_ft hv he1 (row_u he2) q129
                          refine lv_iload S.1 S.2.1 dL_track_132 (lv_at hl 4 rfl) ?_
                          refine x_si (va_runS (As := [.int (nI (mk (pB (zM z) A B) (zn z)))]) (rest := [.int (nI (cnt (pB (zM z) e e9) (zn z)))]) S (c_L_bits l g E1_10 (mk_lt10 (pB (zM z) A B) hn)) (va_cwS 1 S.2.2.2.2 gL_track_L_bits rfl rfl rfl (by decide +kernel) ⟨Nat.le_of_ble_eq_true rfl, Nat.le_of_ble_eq_true rfl⟩) (x_preS hK hP) rfl rfl hl.1 rfl (lv_room (Nat.le_of_ble_eq_true rfl)) dL_track_134 ⟨Nat.le_of_ble_eq_true rfl, Nat.le_of_ble_eq_true rfl⟩) (fun r134 hr134 => ?_)
                          obtain rfl : r134 = nI (cnt (pB (zM z) A B) (zn z)) := hr134.trans (congrArg nI (pop_mk hn))
                          refine lv_icmp_lt (tgt := 167) S.1 S.2.1 dL_track_137 (by decide) (fun c137 => ?_) (fun c137 => ?_)
                          · skip
                            exact absurd c137 (ft_ge hn hBn hfit he2 he3 k4)
                          · skip
                            refine lv_iload S.1 S.2.1 dL_track_140 (lv_at hl 1 rfl) ?_
                            refine lv_if_ge (tgt := 149) S.1 S.2.1 dL_track_142 (by decide) (fun c142 => ?_) (fun c142 => ?_)
                            · skip
                              refine lv_iconst (v := 0) S.1 S.2.1 dL_track_149 (by decide) ?_
                              refine lv_iload S.1 S.2.1 dL_track_150 (lv_at hl 4 rfl) ?_
                              refine x_si (va_runS (As := [.int (nI (mk (pB (zM z) A B) (zn z)))]) (rest := [.int 0]) S (c_L_bits l g E1_10 (mk_lt10 (pB (zM z) A B) hn)) (va_cwS 1 S.2.2.2.2 gL_track_L_bits rfl rfl rfl (by decide +kernel) ⟨Nat.le_of_ble_eq_true rfl, Nat.le_of_ble_eq_true rfl⟩) (x_preS hK hP) rfl rfl hl.1 rfl (lv_room (Nat.le_of_ble_eq_true rfl)) dL_track_152 ⟨Nat.le_of_ble_eq_true rfl, Nat.le_of_ble_eq_true rfl⟩) (fun r152 hr152 => ?_)
                              obtain rfl : r152 = nI (cnt (pB (zM z) A B) (zn z)) := hr152.trans (congrArg nI (pop_mk hn))
                              refine lv_iconst (v := 3) S.1 S.2.1 dL_track_155 (by decide) ?_
                              refine lv_icmp_ge (tgt := 163) S.1 S.2.1 dL_track_156 (by decide) (fun c156 => ?_) (fun c156 => ?_)
                              · skip
                                refine lv_iconst (v := 0) S.1 S.2.1 dL_track_163 (by decide) ?_
                                refine lv_icmp_eq (tgt := 169) S.1 S.2.1 dL_track_164 (by decide) (fun c164 => ?_) (fun c164 => ?_)
                                · skip
                                  refine lv_iload S.1 S.2.1 dL_track_169 (lv_at hl 1 rfl) ?_
                                  refine lv_if_lt (tgt := 204) S.1 S.2.1 dL_track_171 (by decide) (fun c171 => ?_) (fun c171 => ?_)
                                  · skip
                                    exact absurd c142 (Int32.not_le.mpr c171)
                                  · skip
                                    obtain ⟨i, j, k, hb, rfl⟩ := rw3b hn h50 (Int32.not_lt.mp c171)
                                    obtain ⟨b1, b2, b3, b4, b5, b6⟩ := bst3 hb
                                    refine lv_iload S.1 S.2.1 dL_track_174 (lv_at hl 4 rfl) ?_
                                    refine lv_aload_n S.1 S.2.1 dL_track_176 rfl (lv_at hl 8 rfl) ?_
                                    refine lv_iload S.1 S.2.1 dL_track_177 (lv_at hl 1 rfl) ?_
                                    refine lv_aload_n S.1 S.2.1 dL_track_179 rfl (lv_at hl 8 rfl) ?_
                                    refine lv_iload S.1 S.2.1 dL_track_180 (lv_at hl 5 rfl) ?_
                                    refine lv_iconst (v := 4) S.1 S.2.1 dL_track_182 (by decide) ?_
                                    refine x_qi (va_runV (As := [.int (nI v), .int 4]) (rest := [.int (nI i), .ref (xad g 0), .int (nI (mk (pB (zM z) A B) (zn z)))]) S (c_X6_track l g hJ E1_10 hX hv (nI v) 4) (cwV 2 S.2.2.2.2 gL_track_X6_track rfl rfl rfl (by decide +kernel) ⟨Nat.le_of_ble_eq_true rfl, Nat.le_of_ble_eq_true rfl⟩) (x_preV hK hP h00 (by decide) rfl) rfl rfl hl.1 rfl (lv_room (Nat.le_of_ble_eq_true rfl)) dL_track_183 ⟨Nat.le_of_ble_eq_true rfl, Nat.le_of_ble_eq_true rfl⟩) hS (fun r183 E1_11 H locs q183 hP hS => ?_)
                                    obtain ⟨q183, hX, -⟩ := q183
                                    have h00 := hX.at0
                                    obtain rfl : r183 = nI j := rw4 hn hb (v_trS hv hT hvR hA hB (by decide) q183)
                                    refine lv_aload_n S.1 S.2.1 dL_track_186 rfl (lv_at hl 8 rfl) ?_
                                    refine lv_iload S.1 S.2.1 dL_track_187 (lv_at hl 5 rfl) ?_
                                    refine lv_iconst (v := 5) S.1 S.2.1 dL_track_189 (by decide) ?_
                                    refine x_qi (va_runV (As := [.int (nI v), .int 5]) (rest := [.int (nI j), .int (nI i), .ref (xad g 0), .int (nI (mk (pB (zM z) A B) (zn z)))]) S (c_X6_track l g hJ E1_11 hX hv (nI v) 5) (cwV 2 S.2.2.2.2 gL_track_X6_track rfl rfl rfl (by decide +kernel) ⟨Nat.le_of_ble_eq_true rfl, Nat.le_of_ble_eq_true rfl⟩) (x_preV hK hP h00 (by decide) rfl) rfl rfl hl.1 rfl (lv_room (Nat.le_of_ble_eq_true rfl)) dL_track_190 ⟨Nat.le_of_ble_eq_true rfl, Nat.le_of_ble_eq_true rfl⟩) hS (fun r190 E1_12 H locs q190 hP hS => ?_)
                                    obtain ⟨q190, hX, -⟩ := q190
                                    have h00 := hX.at0
                                    obtain rfl : r190 = nI k := rw5 hn hb (v_trS hv hT hvR hA hB (by decide) q190)
                                    refine x_qi (va_runV (As := [.int (nI i), .int (nI j), .int (nI k)]) (rest := [.int (nI (mk (pB (zM z) A B) (zn z)))]) S (c_X6_hits l g hJ E1_12 hX hv (nI i) (nI j) (nI k)) (cwV 3 S.2.2.2.2 gL_track_X6_hits rfl rfl rfl (by decide +kernel) ⟨Nat.le_of_ble_eq_true rfl, Nat.le_of_ble_eq_true rfl⟩) (x_preV hK hP h00 (by decide) rfl) rfl rfl hl.1 rfl (lv_room (Nat.le_of_ble_eq_true rfl)) dL_track_193 ⟨Nat.le_of_ble_eq_true rfl, Nat.le_of_ble_eq_true rfl⟩) hS (fun r193 E1_13 H locs q193 hP hS => ?_)
                                    obtain ⟨q193, hX, -⟩ := q193
                                    have h00 := hX.at0
                                    obtain rfl : r193 = nI (mk (fun u => pU (zM z) u && hitB (zM z) i j k u) (zn z)) := v_htU hv (show i < zn z by omega) (show j < zn z by omega) b3 (srt.same b1 b2) ⟨row_u b4, row_u b5, row_u b6⟩ q193
                                    refine lv_iconst (v := (-1)) S.1 S.2.1 dL_track_196 (by decide) ?_
                                    refine lv_ixor S.1 S.2.1 dL_track_197 ?_
                                    refine lv_iand S.1 S.2.1 dL_track_198 ?_
                                    refine lv_if_eq (tgt := 204) S.1 S.2.1 dL_track_199 (by decide) (fun c199 => ?_) (fun c199 => ?_)
                                    · skip
                                      refine lv_iload_n S.1 S.2.1 dL_track_204 rfl (lv_at hl 6 rfl) ?_
                                      refine lv_iload S.1 S.2.1 dL_track_205 (lv_at hl 4 rfl) ?_
                                      refine lv_ior S.1 S.2.1 dL_track_207 ?_
                                      refine W.eq (g2 := F0 m 208 ls [.int (nI (mk (fun q => pU (zM z) q && decide (q < f + 1)) (zn z)))]) (by rw [or_nx hNA he2 he3 hf2 hf3]) ?_
                                      refine lv_istore_n (lv' := [(2, .int (nI (mk (fun q => pU (zM z) q && decide (q < f + 1)) (zn z)))), (3, .int (nI e)), (8, .int (nI i)), (7, .int (nI f)), (6, .int (nI e)), (5, .int (nI (mk (pB (zM z) A B) (zn z)))), (4, .int (nI v)), (1, .int (nI (R 0))), (0, .ref (xad g 0))]) S.1 S.2.1 dL_track_208 rfl hl (by decide) rfl (fun ls hl => ?_)
                                      refine lv_iload S.1 S.2.1 dL_track_209 (lv_at hl 3 rfl) ?_
                                      refine lv_iconst (v := 1) S.1 S.2.1 dL_track_211 (by decide) ?_
                                      refine lv_iadd S.1 S.2.1 dL_track_212 ?_
                                      refine W.eq (g2 := F0 m 213 ls [.int (nI (f + 1))]) (by rw [nI_1]) ?_
                                      refine lv_istore_n (lv' := [(3, .int (nI (f + 1))), (2, .int (nI (mk (fun q => pU (zM z) q && decide (q < f + 1)) (zn z)))), (8, .int (nI i)), (7, .int (nI f)), (6, .int (nI e)), (5, .int (nI (mk (pB (zM z) A B) (zn z)))), (4, .int (nI v)), (1, .int (nI (R 0))), (0, .ref (xad g 0))]) S.1 S.2.1 dL_track_213 rfl hl (by decide) rfl (fun ls hl => ?_)
                                      refine lv_iinc (v := nI (v + 1)) (lv' := [(4, .int (nI (v + 1))), (3, .int (nI (f + 1))), (2, .int (nI (mk (fun q => pU (zM z) q && decide (q < f + 1)) (zn z)))), (8, .int (nI i)), (7, .int (nI f)), (6, .int (nI e)), (5, .int (nI (mk (pB (zM z) A B) (zn z)))), (1, .int (nI (R 0))), (0, .ref (xad g 0))]) S.1 S.2.1 dL_track_214 hl (k := 6) rfl (show nI v + Int32.ofInt 1 = _ from nI_1 _) (by decide) rfl (fun ls hl => ?_)
                                      refine lv_goto (tgt := 13) S.1 S.2.1 dL_track_217 (by decide) ?_
                                      exact ih13 (v + 1) (f + 1) _ _ _ (by omega) (by omega) (nx_new hf2 hf3 hA1) (by omega) hX h00 hP hS ls (lv_sub hl [0, 1, 2, 7, 8] rfl)
                                    · skip
                                      exact absurd (fit0 hn hfit hb) c199
                                · skip
                                  exact absurd c164 (by decide)
                              · skip
                                exact absurd ((rw3t hn h50).mp c142) c156
                            · skip
                              refine lv_iconst (v := 1) S.1 S.2.1 dL_track_145 (by decide) ?_
                              refine lv_goto (tgt := 150) S.1 S.2.1 dL_track_146 (by decide) ?_
                              refine lv_iload S.1 S.2.1 dL_track_150 (lv_at hl 4 rfl) ?_
                              refine x_si (va_runS (As := [.int (nI (mk (pB (zM z) A B) (zn z)))]) (rest := [.int 1]) S (c_L_bits l g E1_10 (mk_lt10 (pB (zM z) A B) hn)) (va_cwS 1 S.2.2.2.2 gL_track_L_bits rfl rfl rfl (by decide +kernel) ⟨Nat.le_of_ble_eq_true rfl, Nat.le_of_ble_eq_true rfl⟩) (x_preS hK hP) rfl rfl hl.1 rfl (lv_room (Nat.le_of_ble_eq_true rfl)) dL_track_152 ⟨Nat.le_of_ble_eq_true rfl, Nat.le_of_ble_eq_true rfl⟩) (fun r152 hr152 => ?_)
                              obtain rfl : r152 = nI (cnt (pB (zM z) A B) (zn z)) := hr152.trans (congrArg nI (pop_mk hn))
                              refine lv_iconst (v := 3) S.1 S.2.1 dL_track_155 (by decide) ?_
                              refine lv_icmp_ge (tgt := 163) S.1 S.2.1 dL_track_156 (by decide) (fun c156 => ?_) (fun c156 => ?_)
                              · skip
                                exact absurd ((rw3t hn h50).mpr c156) c142
                              · skip
                                refine lv_iconst (v := 1) S.1 S.2.1 dL_track_159 (by decide) ?_
                                refine lv_goto (tgt := 164) S.1 S.2.1 dL_track_160 (by decide) ?_
                                refine lv_icmp_eq (tgt := 169) S.1 S.2.1 dL_track_164 (by decide) (fun c164_1 => ?_) (fun c164_1 => ?_)
                                · skip
                                  refine lv_iload S.1 S.2.1 dL_track_169 (lv_at hl 1 rfl) ?_
                                  refine lv_if_lt (tgt := 204) S.1 S.2.1 dL_track_171 (by decide) (fun c171 => ?_) (fun c171 => ?_)
                                  · skip
                                    refine lv_iload_n S.1 S.2.1 dL_track_204 rfl (lv_at hl 6 rfl) ?_
                                    refine lv_iload S.1 S.2.1 dL_track_205 (lv_at hl 4 rfl) ?_
                                    refine lv_ior S.1 S.2.1 dL_track_207 ?_
                                    refine W.eq (g2 := F0 m 208 ls [.int (nI (mk (fun q => pU (zM z) q && decide (q < f + 1)) (zn z)))]) (by rw [or_nx hNA he2 he3 hf2 hf3]) ?_
                                    refine lv_istore_n (lv' := [(2, .int (nI (mk (fun q => pU (zM z) q && decide (q < f + 1)) (zn z)))), (3, .int (nI e)), (8, .int r50), (7, .int (nI f)), (6, .int (nI e)), (5, .int (nI (mk (pB (zM z) A B) (zn z)))), (4, .int (nI v)), (1, .int (nI (R 0))), (0, .ref (xad g 0))]) S.1 S.2.1 dL_track_208 rfl hl (by decide) rfl (fun ls hl => ?_)
                                    refine lv_iload S.1 S.2.1 dL_track_209 (lv_at hl 3 rfl) ?_
                                    refine lv_iconst (v := 1) S.1 S.2.1 dL_track_211 (by decide) ?_
                                    refine lv_iadd S.1 S.2.1 dL_track_212 ?_
                                    refine W.eq (g2 := F0 m 213 ls [.int (nI (f + 1))]) (by rw [nI_1]) ?_
                                    refine lv_istore_n (lv' := [(3, .int (nI (f + 1))), (2, .int (nI (mk (fun q => pU (zM z) q && decide (q < f + 1)) (zn z)))), (8, .int r50), (7, .int (nI f)), (6, .int (nI e)), (5, .int (nI (mk (pB (zM z) A B) (zn z)))), (4, .int (nI v)), (1, .int (nI (R 0))), (0, .ref (xad g 0))]) S.1 S.2.1 dL_track_213 rfl hl (by decide) rfl (fun ls hl => ?_)
                                    refine lv_iinc (v := nI (v + 1)) (lv' := [(4, .int (nI (v + 1))), (3, .int (nI (f + 1))), (2, .int (nI (mk (fun q => pU (zM z) q && decide (q < f + 1)) (zn z)))), (8, .int r50), (7, .int (nI f)), (6, .int (nI e)), (5, .int (nI (mk (pB (zM z) A B) (zn z)))), (1, .int (nI (R 0))), (0, .ref (xad g 0))]) S.1 S.2.1 dL_track_214 hl (k := 6) rfl (show nI v + Int32.ofInt 1 = _ from nI_1 _) (by decide) rfl (fun ls hl => ?_)
                                    refine lv_goto (tgt := 13) S.1 S.2.1 dL_track_217 (by decide) ?_
                                    exact ih13 (v + 1) (f + 1) _ _ _ (by omega) (by omega) (nx_new hf2 hf3 hA1) (by omega) hX h00 hP hS ls (lv_sub hl [0, 1, 2, 7, 8] rfl)
                                  · skip
                                    exact absurd (Int32.not_lt.mp c171) c142
                                · skip
                                  exact absurd c164_1 (by decide)
              · skip
                refine lv_iinc (v := nI (N1 + 1)) (lv' := [(3, .int (nI (N1 + 1))), (8, .int r50), (7, .int (nI f)), (6, .int (nI e)), (5, .int (nI (mk (pB (zM z) A B) (zn z)))), (4, .int (nI v)), (2, .int (nI (mk (fun q => pU (zM z) q && decide (q < N)) (zn z)))), (1, .int (nI (R 0))), (0, .ref (xad g 0))]) S.1 S.2.1 dL_track_75 hl (k := 0) rfl (show nI N1 + Int32.ofInt 1 = _ from nI_1 _) (by decide) rfl (fun ls hl => ?_)
                refine lv_goto (tgt := 55) S.1 S.2.1 dL_track_78 (by decide) ?_
                exact ih55 (N1 + 1) _ _ _ (by omega) (nx_ne he2 hNe (pU_1 c72)) (by omega) hX h00 hP hS ls (lv_sub hl [0, 1, 2, 3, 4, 5, 6, 7, 8] rfl)
        exact loop55 _ N _ _ _ (Nat.le_refl _) (nx_e hNA he1 he2) (Nat.lt_succ_self _) hX h00 hP hS ls (lv_sub hl [5, 0, 1, 2, 3, 4, 6, 7, 8] rfl)
  exact loop13 _ 0 0 _ _ _ (Nat.zero_le _) (Nat.zero_le _) (fun q _ _ => Iff.rfl) (Nat.lt_succ_self _) hX h00 hP hS ls (lv_sub hl [0, 1, 2, 3, 4] rfl)
