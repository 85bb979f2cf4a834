set_option maxHeartbeats 4000000 in
set_option maxRecDepth 100000 in
theorem c_L_best (l : Launch) (g : xG) (hJ : xJ (xad g)) (E : Nat → va_E) {z : xS} (hX : sX g E z) (hv : vS z)  : Met l yL_best wsL_best ({ frames := 8, cells := 0, slots := 0, locals := 186 }) (xPc g [.ref (xad g 0)] E) (xQi g (fun r E1 => r = 1 ∧ sX g E1 z)) 0 0 (xA (xad g)) := by
  refine x_met (ws' := _) (by decide) rfl (Nat.le_of_ble_eq_true rfl) ?_
  intro pz ez s m below meth cz ls S hr hlocks hP hK hl
  have hl : lv_has ls 11 [(0, .ref (xad g 0))] := hl
  have hS : va_S (xA (xad g)) s.heap s.heap [] := va_S.rf
  have h00 := hX.at0
  have hn := hv.1.1
  have hvM := hv.1.2
  refine lv_aload_n S.1 S.2.1 dL_best_0 rfl (lv_at hl 0 rfl) ?_
  refine lv_iconst (v := 1) S.1 S.2.1 dL_best_1 (by decide) ?_
  refine x_qi (va_runV (As := [.int 1]) (rest := []) S (c_X6_count l g hJ E hX hv 1) (cwV 1 S.2.2.2.2 gL_best_X6_count rfl rfl rfl (by decide +kernel) ⟨Nat.le_of_ble_eq_true rfl, Nat.le_of_ble_eq_true rfl⟩) (x_preV hK hP h00 (by decide) rfl) rfl rfl hl.1 rfl (lv_room (Nat.le_of_ble_eq_true rfl)) dL_best_2 ⟨Nat.le_of_ble_eq_true rfl, Nat.le_of_ble_eq_true rfl⟩) hS (fun r2 E1 H locs q2 hP hS => ?_)
  obtain ⟨q2, hX, -⟩ := q2
  have h00 := hX.at0
  obtain rfl : r2 = nI (mk (pU (zM z)) (zn z)) := v_ct1 q2
  refine lv_istore_n (lv' := [(1, .int (nI (mk (pU (zM z)) (zn z)))), (0, .ref (xad g 0))]) S.1 S.2.1 dL_best_5 rfl hl (by decide) rfl (fun ls hl => ?_)
  refine lv_iload_n S.1 S.2.1 dL_best_6 rfl (lv_at hl 0 rfl) ?_
  refine x_si (va_runS (As := [.int (nI (mk (pU (zM z)) (zn z)))]) (rest := []) S (c_L_bits l g E1 (mk_lt10 (pU (zM z)) hn)) (va_cwS 1 S.2.2.2.2 gL_best_L_bits rfl rfl rfl (by decide +kernel) ⟨Nat.le_of_ble_eq_true rfl, Nat.le_of_ble_eq_true rfl⟩) (x_preS hK hP) rfl rfl hl.1 rfl (lv_room (Nat.le_of_ble_eq_true rfl)) dL_best_7 ⟨Nat.le_of_ble_eq_true rfl, Nat.le_of_ble_eq_true rfl⟩) (fun r7 hr7 => ?_)
  obtain rfl : r7 = nI (cnt (pU (zM z)) (zn z)) := hr7.trans (congrArg nI (pop_mk hn))
  refine lv_iconst (v := 3) S.1 S.2.1 dL_best_10 (by decide) ?_
  refine lv_icmp_ge (tgt := 72) S.1 S.2.1 dL_best_11 (by decide) (fun c11 => ?_) (fun c11 => ?_)
  · skip
    refine lv_aload_n S.1 S.2.1 dL_best_72 rfl (lv_at hl 1 rfl) ?_
    refine lv_iconst (v := 0) S.1 S.2.1 dL_best_73 (by decide) ?_
    refine x_qi (va_runV (As := [.int 0]) (rest := []) S (c_X6_best l g hJ E1 hX hv 0) (cwV 1 S.2.2.2.2 gL_best_X6_best rfl rfl rfl (by decide +kernel) ⟨Nat.le_of_ble_eq_true rfl, Nat.le_of_ble_eq_true rfl⟩) (x_preV hK hP h00 (by decide) rfl) rfl rfl hl.1 rfl (lv_room (Nat.le_of_ble_eq_true rfl)) dL_best_74 ⟨Nat.le_of_ble_eq_true rfl, Nat.le_of_ble_eq_true rfl⟩) hS (fun r74 E1_1 H locs q74 hP hS => ?_)
    obtain ⟨q74, hX, -⟩ := q74
    have h00 := hX.at0
    obtain ⟨i, j, k, hb, rfl⟩ := v_bsX (trio_of ((cn3 hn).mp c11)) q74
    obtain ⟨b1, b2, b3, b4, b5, b6⟩ := bst3 hb
    refine lv_istore_n (lv' := [(2, .int (nI i)), (1, .int (nI (mk (pU (zM z)) (zn z)))), (0, .ref (xad g 0))]) S.1 S.2.1 dL_best_77 rfl hl (by decide) rfl (fun ls hl => ?_)
    refine lv_aload_n S.1 S.2.1 dL_best_78 rfl (lv_at hl 2 rfl) ?_
    refine lv_iconst (v := 1) S.1 S.2.1 dL_best_79 (by decide) ?_
    refine x_qi (va_runV (As := [.int 1]) (rest := []) S (c_X6_best l g hJ E1_1 hX hv 1) (cwV 1 S.2.2.2.2 gL_best_X6_best rfl rfl rfl (by decide +kernel) ⟨Nat.le_of_ble_eq_true rfl, Nat.le_of_ble_eq_true rfl⟩) (x_preV hK hP h00 (by decide) rfl) rfl rfl hl.1 rfl (lv_room (Nat.le_of_ble_eq_true rfl)) dL_best_80 ⟨Nat.le_of_ble_eq_true rfl, Nat.le_of_ble_eq_true rfl⟩) hS (fun r80 E1_2 H locs q80 hP hS => ?_)
    obtain ⟨q80, hX, -⟩ := q80
    have h00 := hX.at0
    obtain rfl : r80 = nI j := v_bs1 hv hb q80
    refine lv_istore_n (lv' := [(3, .int (nI j)), (2, .int (nI i)), (1, .int (nI (mk (pU (zM z)) (zn z)))), (0, .ref (xad g 0))]) S.1 S.2.1 dL_best_83 rfl hl (by decide) rfl (fun ls hl => ?_)
    refine lv_aload_n S.1 S.2.1 dL_best_84 rfl (lv_at hl 3 rfl) ?_
    refine lv_iconst (v := 2) S.1 S.2.1 dL_best_85 (by decide) ?_
    refine x_qi (va_runV (As := [.int 2]) (rest := []) S (c_X6_best l g hJ E1_2 hX hv 2) (cwV 1 S.2.2.2.2 gL_best_X6_best rfl rfl rfl (by decide +kernel) ⟨Nat.le_of_ble_eq_true rfl, Nat.le_of_ble_eq_true rfl⟩) (x_preV hK hP h00 (by decide) rfl) rfl rfl hl.1 rfl (lv_room (Nat.le_of_ble_eq_true rfl)) dL_best_86 ⟨Nat.le_of_ble_eq_true rfl, Nat.le_of_ble_eq_true rfl⟩) hS (fun r86 E1_3 H locs q86 hP hS => ?_)
    obtain ⟨q86, hX, -⟩ := q86
    have h00 := hX.at0
    obtain rfl : r86 = nI k := v_bs2 hv hb q86
    refine lv_istore (lv' := [(4, .int (nI k)), (3, .int (nI j)), (2, .int (nI i)), (1, .int (nI (mk (pU (zM z)) (zn z)))), (0, .ref (xad g 0))]) S.1 S.2.1 dL_best_89 hl (by decide) rfl (fun ls hl => ?_)
    refine lv_aload_n S.1 S.2.1 dL_best_91 rfl (lv_at hl 4 rfl) ?_
    refine lv_iconst (v := 4) S.1 S.2.1 dL_best_92 (by decide) ?_
    refine x_qi (va_runV (As := [.int 4]) (rest := []) S (c_X6_best l g hJ E1_3 hX hv 4) (cwV 1 S.2.2.2.2 gL_best_X6_best rfl rfl rfl (by decide +kernel) ⟨Nat.le_of_ble_eq_true rfl, Nat.le_of_ble_eq_true rfl⟩) (x_preV hK hP h00 (by decide) rfl) rfl rfl hl.1 rfl (lv_room (Nat.le_of_ble_eq_true rfl)) dL_best_93 ⟨Nat.le_of_ble_eq_true rfl, Nat.le_of_ble_eq_true rfl⟩) hS (fun r93 E1_4 H locs q93 hP hS => ?_)
    obtain ⟨q93, hX, -⟩ := q93
    have h00 := hX.at0
    obtain rfl : r93 = nI (mk (pM (zM z) (pU (zM z)) i j k) (zn z)) := v_bs4 hv hb q93
    refine lv_istore (lv' := [(5, .int (nI (mk (pM (zM z) (pU (zM z)) i j k) (zn z)))), (4, .int (nI k)), (3, .int (nI j)), (2, .int (nI i)), (1, .int (nI (mk (pU (zM z)) (zn z)))), (0, .ref (xad g 0))]) S.1 S.2.1 dL_best_96 hl (by decide) rfl (fun ls hl => ?_)
    refine lv_aload_n S.1 S.2.1 dL_best_98 rfl (lv_at hl 5 rfl) ?_
    refine x_qi (va_runV (As := []) (rest := []) S (c_X6_lands l g hJ E1_4 hX hv ) (cwV 0 S.2.2.2.2 gL_best_X6_lands rfl rfl rfl (by decide +kernel) ⟨Nat.le_of_ble_eq_true rfl, Nat.le_of_ble_eq_true rfl⟩) (x_preV hK hP h00 (by decide) rfl) rfl rfl hl.1 rfl (lv_room (Nat.le_of_ble_eq_true rfl)) dL_best_99 ⟨Nat.le_of_ble_eq_true rfl, Nat.le_of_ble_eq_true rfl⟩) hS (fun r99 E1_5 H locs q99 hP hS => ?_)
    obtain ⟨q99, hX, -⟩ := q99
    have h00 := hX.at0
    obtain ⟨a, ha, ha9, hld⟩ := v_ld hv hb q99
    refine lv_istore (lv' := [(6, .int r99), (5, .int (nI (mk (pM (zM z) (pU (zM z)) i j k) (zn z)))), (4, .int (nI k)), (3, .int (nI j)), (2, .int (nI i)), (1, .int (nI (mk (pU (zM z)) (zn z)))), (0, .ref (xad g 0))]) S.1 S.2.1 dL_best_102 hl (by decide) rfl (fun ls hl => ?_)
    refine lv_iconst (v := 0) S.1 S.2.1 dL_best_104 (by decide) ?_
    refine lv_istore (lv' := [(7, .int 0), (6, .int r99), (5, .int (nI (mk (pM (zM z) (pU (zM z)) i j k) (zn z)))), (4, .int (nI k)), (3, .int (nI j)), (2, .int (nI i)), (1, .int (nI (mk (pU (zM z)) (zn z)))), (0, .ref (xad g 0))]) S.1 S.2.1 dL_best_105 hl (by decide) rfl (fun ls hl => ?_)
    have loop107 : ∀ (d : Nat) (p : Nat) (EL : Nat → va_E) (H : Heap) (locs : List Loc), (hp : p ≤ zn z) → (zn z + 1 - p) < d → (hX : sX g EL z) → (h00 : EL 0 = .inr (6, [.ref (xad g 1), .ref (xad g 10), .int (bI (zf z)), .ref (xad g 19), .ref (xad g 57), .ref (xad g 59), .ref (xad g 60), .ref (xad g 61), .ref (xad g 64)])) → xP g EL H → va_S (xA (xad g)) s.heap H locs → ∀ ls : Array Slot, lv_has ls 11 [(7, .int (nI p)), (1, .int (nI (mk (pU (zM z)) (zn z)))), (2, .int (nI i)), (3, .int (nI j)), (4, .int (nI k)), (5, .int (nI (mk (pM (zM z) (pU (zM z)) i j k) (zn z)))), (6, .int r99), (0, .ref (xad g 0))] → W pz l ez ({ frames := 8, cells := 0, slots := 0, locals := 186 }) s m ([.ref (xad g 0)] : List Value).toArray below meth cz H locs 0 0 (MQ below (xQi g (fun r E1 => r = 1 ∧ sX g E1 z)) ([.ref (xad g 0)] : List Value).toArray s 0 0 (xA (xad g))) (F0 m 107 ls []) := by
      intro d
      induction d with
      | zero => intro p EL H locs hp hd; exact absurd hd (Nat.not_lt_zero _)
      | succ d ih107 =>
        intro p EL H locs hp hd hX h00 hP hS ls hl
        refine lv_iload S.1 S.2.1 dL_best_107 (lv_at hl 0 rfl) ?_
        refine lv_aload_n S.1 S.2.1 dL_best_109 rfl (lv_at hl 7 rfl) ?_
        refine lv_iconst (v := 0) S.1 S.2.1 dL_best_110 (by decide) ?_
        refine x_qi (va_runV (As := [.int 0]) (rest := [.int (nI p)]) S (c_X6_count l g hJ EL hX hv 0) (cwV 1 S.2.2.2.2 gL_best_X6_count rfl rfl rfl (by decide +kernel) ⟨Nat.le_of_ble_eq_true rfl, Nat.le_of_ble_eq_true rfl⟩) (x_preV hK hP h00 (by decide) rfl) rfl rfl hl.1 rfl (lv_room (Nat.le_of_ble_eq_true rfl)) dL_best_111 ⟨Nat.le_of_ble_eq_true rfl, Nat.le_of_ble_eq_true rfl⟩) hS (fun r111 E1_6 H locs q111 hP hS => ?_)
        obtain ⟨q111, hX, -⟩ := q111
        have h00 := hX.at0
        obtain rfl : r111 = nI (zn z) := v_ct0 q111
        refine lv_icmp_ge (tgt := 202) S.1 S.2.1 dL_best_114 (by decide) (fun c114 => ?_) (fun c114 => ?_)
        · skip
          refine lv_aload_n S.1 S.2.1 dL_best_202 rfl (lv_at hl 7 rfl) ?_
          refine lv_iload_n S.1 S.2.1 dL_best_203 rfl (lv_at hl 2 rfl) ?_
          refine lv_iconst (v := 0) S.1 S.2.1 dL_best_204 (by decide) ?_
          refine x_qi (va_runV (As := [.int (nI i), .int 0]) (rest := []) S (c_X6_photo l g hJ E1_6 hX hv (nI i) 0) (cwV 2 S.2.2.2.2 gL_best_X6_photo rfl rfl rfl (by decide +kernel) ⟨Nat.le_of_ble_eq_true rfl, Nat.le_of_ble_eq_true rfl⟩) (x_preV hK hP h00 (by decide) rfl) rfl rfl hl.1 rfl (lv_room (Nat.le_of_ble_eq_true rfl)) dL_best_205 ⟨Nat.le_of_ble_eq_true rfl, Nat.le_of_ble_eq_true rfl⟩) hS (fun r205 E1_7 H locs q205 hP hS => ?_)
          obtain ⟨q205, hX, -⟩ := q205
          have h00 := hX.at0
          obtain rfl : r205 = (zM z) 0 i := v_ph0 hv (show i < zn z by omega) q205
          refine W.eq (g2 := F0 m 208 ls [.int (nI a)]) (by rw [ha]) ?_
          refine lv_istore (lv' := [(7, .int (nI a)), (1, .int (nI (mk (pU (zM z)) (zn z)))), (2, .int (nI i)), (3, .int (nI j)), (4, .int (nI k)), (5, .int (nI (mk (pM (zM z) (pU (zM z)) i j k) (zn z)))), (6, .int r99), (0, .ref (xad g 0))]) S.1 S.2.1 dL_best_208 hl (by decide) rfl (fun ls hl => ?_)
          have loop210 : ∀ (d : Nat) (u : Nat) (EL : Nat → va_E) (H : Heap) (locs : List Loc), (hau : a ≤ u) → (hu : u ≤ 100) → (101 - u) < d → (hX : sX g EL z) → (h00 : EL 0 = .inr (6, [.ref (xad g 1), .ref (xad g 10), .int (bI (zf z)), .ref (xad g 19), .ref (xad g 57), .ref (xad g 59), .ref (xad g 60), .ref (xad g 61), .ref (xad g 64)])) → xP g EL H → va_S (xA (xad g)) s.heap H locs → ∀ ls : Array Slot, lv_has ls 11 [(7, .int (nI u)), (1, .int (nI (mk (pU (zM z)) (zn z)))), (2, .int (nI i)), (3, .int (nI j)), (4, .int (nI k)), (5, .int (nI (mk (pM (zM z) (pU (zM z)) i j k) (zn z)))), (6, .int r99), (0, .ref (xad g 0))] → W pz l ez ({ frames := 8, cells := 0, slots := 0, locals := 186 }) s m ([.ref (xad g 0)] : List Value).toArray below meth cz H locs 0 0 (MQ below (xQi g (fun r E1 => r = 1 ∧ sX g E1 z)) ([.ref (xad g 0)] : List Value).toArray s 0 0 (xA (xad g))) (F0 m 210 ls []) := by
            intro d
            induction d with
            | zero => intro u EL H locs hau hu hd; exact absurd hd (Nat.not_lt_zero _)
            | succ d ih210 =>
              intro u EL H locs hau hu hd hX h00 hP hS ls hl
              refine lv_iload S.1 S.2.1 dL_best_210 (lv_at hl 0 rfl) ?_
              refine lv_bipush (v := 100) S.1 S.2.1 dL_best_212 (by decide) ?_
              refine lv_icmp_ge (tgt := 277) S.1 S.2.1 dL_best_214 (by decide) (fun c214 => ?_) (fun c214 => ?_)
              · skip
                refine lv_iload_n S.1 S.2.1 dL_best_277 rfl (lv_at hl 2 rfl) ?_
                refine lv_iload_n S.1 S.2.1 dL_best_278 rfl (lv_at hl 3 rfl) ?_
                refine lv_icmp_ge (tgt := 370) S.1 S.2.1 dL_best_279 (by decide) (fun c279 => ?_) (fun c279 => ?_)
                · skip
                  exact absurd c279 (nI_ge b1 (by omega))
                · skip
                  refine lv_iload_n S.1 S.2.1 dL_best_282 rfl (lv_at hl 3 rfl) ?_
                  refine lv_iload S.1 S.2.1 dL_best_283 (lv_at hl 4 rfl) ?_
                  refine lv_icmp_ge (tgt := 370) S.1 S.2.1 dL_best_285 (by decide) (fun c285 => ?_) (fun c285 => ?_)
                  · skip
                    exact absurd c285 (nI_ge b2 (by omega))
                  · skip
                    refine lv_iload_n S.1 S.2.1 dL_best_288 rfl (lv_at hl 1 rfl) ?_
                    refine lv_aload_n S.1 S.2.1 dL_best_289 rfl (lv_at hl 7 rfl) ?_
                    refine lv_iload_n S.1 S.2.1 dL_best_290 rfl (lv_at hl 2 rfl) ?_
                    refine lv_iload_n S.1 S.2.1 dL_best_291 rfl (lv_at hl 3 rfl) ?_
                    refine lv_iload S.1 S.2.1 dL_best_292 (lv_at hl 4 rfl) ?_
                    refine x_qi (va_runV (As := [.int (nI i), .int (nI j), .int (nI k)]) (rest := [.int (nI (mk (pU (zM z)) (zn z)))]) S (c_X6_hits l g hJ EL hX hv (nI i) (nI j) (nI k)) (cwV 3 S.2.2.2.2 gL_best_X6_hits rfl rfl rfl (by decide +kernel) ⟨Nat.le_of_ble_eq_true rfl, Nat.le_of_ble_eq_true rfl⟩) (x_preV hK hP h00 (by decide) rfl) rfl rfl hl.1 rfl (lv_room (Nat.le_of_ble_eq_true rfl)) dL_best_294 ⟨Nat.le_of_ble_eq_true rfl, Nat.le_of_ble_eq_true rfl⟩) hS (fun r294 E1_8 H locs q294 hP hS => ?_)
                    obtain ⟨q294, hX, -⟩ := q294
                    have h00 := hX.at0
                    obtain rfl : r294 = nI (mk (fun u => pU (zM z) u && hitB (zM z) i j k u) (zn z)) := v_htU hv (show i < zn z by omega) (show j < zn z by omega) b3 (srt.same b1 b2) ⟨b4, b5, b6⟩ q294
                    refine lv_iconst (v := (-1)) S.1 S.2.1 dL_best_297 (by decide) ?_
                    refine lv_ixor S.1 S.2.1 dL_best_298 ?_
                    refine lv_iand S.1 S.2.1 dL_best_299 ?_
                    refine W.eq (g2 := F0 m 300 ls [.int (nI (mk (pM (zM z) (pU (zM z)) i j k) (zn z)))]) (by rw [anmM]) ?_
                    refine lv_iload S.1 S.2.1 dL_best_300 (lv_at hl 5 rfl) ?_
                    refine lv_icmp_ne (tgt := 370) S.1 S.2.1 dL_best_302 (by decide) (fun c302 => ?_) (fun c302 => ?_)
                    · skip
                      exact absurd rfl c302
                    · skip
                      refine lv_iload S.1 S.2.1 dL_best_305 (lv_at hl 5 rfl) ?_
                      refine x_si (va_runS (As := [.int (nI (mk (pM (zM z) (pU (zM z)) i j k) (zn z)))]) (rest := []) S (c_L_bits l g E1_8 (mk_lt10 (pM (zM z) (pU (zM z)) i j k) hn)) (va_cwS 1 S.2.2.2.2 gL_best_L_bits rfl rfl rfl (by decide +kernel) ⟨Nat.le_of_ble_eq_true rfl, Nat.le_of_ble_eq_true rfl⟩) (x_preS hK hP) rfl rfl hl.1 rfl (lv_room (Nat.le_of_ble_eq_true rfl)) dL_best_307 ⟨Nat.le_of_ble_eq_true rfl, Nat.le_of_ble_eq_true rfl⟩) (fun r307 hr307 => ?_)
                      obtain rfl : r307 = nI (cnt (pM (zM z) (pU (zM z)) i j k) (zn z)) := hr307.trans (congrArg nI (pop_mk hn))
                      refine lv_aload_n S.1 S.2.1 dL_best_310 rfl (lv_at hl 7 rfl) ?_
                      refine lv_iconst (v := 3) S.1 S.2.1 dL_best_311 (by decide) ?_
                      refine x_qi (va_runV (As := [.int 3]) (rest := [.int (nI (cnt (pM (zM z) (pU (zM z)) i j k) (zn z)))]) S (c_X6_best l g hJ E1_8 hX hv 3) (cwV 1 S.2.2.2.2 gL_best_X6_best rfl rfl rfl (by decide +kernel) ⟨Nat.le_of_ble_eq_true rfl, Nat.le_of_ble_eq_true rfl⟩) (x_preV hK hP h00 (by decide) rfl) rfl rfl hl.1 rfl (lv_room (Nat.le_of_ble_eq_true rfl)) dL_best_312 ⟨Nat.le_of_ble_eq_true rfl, Nat.le_of_ble_eq_true rfl⟩) hS (fun r312 E1_9 H locs q312 hP hS => ?_)
                      obtain ⟨q312, hX, -⟩ := q312
                      have h00 := hX.at0
                      obtain rfl : r312 = nI (cnt (pM (zM z) (pU (zM z)) i j k) (zn z)) := v_bs3 hv hb q312
                      refine lv_icmp_ne (tgt := 370) S.1 S.2.1 dL_best_315 (by decide) (fun c315 => ?_) (fun c315 => ?_)
                      · skip
                        exact absurd rfl c315
                      · skip
                        refine lv_aload_n S.1 S.2.1 dL_best_318 rfl (lv_at hl 7 rfl) ?_
                        refine lv_bipush (v := 7) S.1 S.2.1 dL_best_319 (by decide) ?_
                        refine lv_iconst (v := 0) S.1 S.2.1 dL_best_321 (by decide) ?_
                        refine lv_iconst (v := 0) S.1 S.2.1 dL_best_322 (by decide) ?_
                        refine x_ql (va_runV (As := [.int 7, .int 0, .int 0]) (rest := []) S (c_X6_bestAt l g hJ E1_9 hX hv 7 0 0) (cwV 3 S.2.2.2.2 gL_best_X6_bestAt rfl rfl rfl (by decide +kernel) ⟨Nat.le_of_ble_eq_true rfl, Nat.le_of_ble_eq_true rfl⟩) (x_preV hK hP h00 (by decide) rfl) rfl rfl hl.1 rfl (lv_room (Nat.le_of_ble_eq_true rfl)) dL_best_323 ⟨Nat.le_of_ble_eq_true rfl, Nat.le_of_ble_eq_true rfl⟩) hS (fun r323 E1_10 H locs q323 hP hS => ?_)
                        obtain ⟨q323, hX, -⟩ := q323
                        have h00 := hX.at0
                        obtain rfl : r323 = arN (zM z) 0 i j k 7 0 := v_ba (v := 0) hv hb (by decide) (by unfold isAsk; decide) q323
                        refine lv_aload_n S.1 S.2.1 dL_best_326 rfl (lv_at hl 7 rfl) ?_
                        refine lv_iload_n S.1 S.2.1 dL_best_327 rfl (lv_at hl 2 rfl) ?_
                        refine lv_iload_n S.1 S.2.1 dL_best_328 rfl (lv_at hl 3 rfl) ?_
                        refine lv_iload S.1 S.2.1 dL_best_329 (lv_at hl 4 rfl) ?_
                        refine lv_bipush (v := 7) S.1 S.2.1 dL_best_331 (by decide) ?_
                        refine lv_iconst (v := 0) S.1 S.2.1 dL_best_333 (by decide) ?_
                        refine lv_iconst (v := 0) S.1 S.2.1 dL_best_334 (by decide) ?_
                        refine x_ql (va_runV (As := [.int (nI i), .int (nI j), .int (nI k), .int 7, .int 0, .int 0]) (rest := [.long (arN (zM z) 0 i j k 7 0)]) S (c_X6_arc l g hJ E1_10 hX hv (nI i) (nI j) (nI k) 7 0 0) (cwV 6 S.2.2.2.2 gL_best_X6_arc rfl rfl rfl (by decide +kernel) ⟨Nat.le_of_ble_eq_true rfl, Nat.le_of_ble_eq_true rfl⟩) (x_preV hK hP h00 (by decide) rfl) rfl rfl hl.1 rfl (lv_room (Nat.le_of_ble_eq_true rfl)) dL_best_335 ⟨Nat.le_of_ble_eq_true rfl, Nat.le_of_ble_eq_true rfl⟩) hS (fun r335 E1_11 H locs q335 hP hS => ?_)
                        obtain ⟨q335, hX, -⟩ := q335
                        have h00 := hX.at0
                        obtain rfl : r335 = arN (zM z) 0 i j k 7 0 := v_arU (v := 0) hv (show i < zn z by omega) (show j < zn z by omega) b3 (srt.same b1 b2) (by decide) (by unfold isAsk; decide) ⟨b4, b5, b6⟩ q335
                        refine W.lcmp S.1 S.2.1 dL_best_338 ?_
                        refine lv_if_ne (tgt := 370) S.1 S.2.1 dL_best_339 (by decide) (fun c339 => ?_) (fun c339 => ?_)
                        · skip
                          exact absurd ((lg_cmp_eq _ _).mpr rfl) c339
                        · skip
                          refine lv_aload_n S.1 S.2.1 dL_best_342 rfl (lv_at hl 7 rfl) ?_
                          refine lv_bipush (v := 7) S.1 S.2.1 dL_best_343 (by decide) ?_
                          refine lv_iconst (v := 1) S.1 S.2.1 dL_best_345 (by decide) ?_
                          refine lv_iconst (v := 1) S.1 S.2.1 dL_best_346 (by decide) ?_
                          refine x_ql (va_runV (As := [.int 7, .int 1, .int 1]) (rest := []) S (c_X6_bestAt l g hJ E1_11 hX hv 7 1 1) (cwV 3 S.2.2.2.2 gL_best_X6_bestAt rfl rfl rfl (by decide +kernel) ⟨Nat.le_of_ble_eq_true rfl, Nat.le_of_ble_eq_true rfl⟩) (x_preV hK hP h00 (by decide) rfl) rfl rfl hl.1 rfl (lv_room (Nat.le_of_ble_eq_true rfl)) dL_best_347 ⟨Nat.le_of_ble_eq_true rfl, Nat.le_of_ble_eq_true rfl⟩) hS (fun r347 E1_12 H locs q347 hP hS => ?_)
                          obtain ⟨q347, hX, -⟩ := q347
                          have h00 := hX.at0
                          obtain rfl : r347 = arN (zM z) 1 i j k 7 1 := v_ba (v := 1) hv hb (by decide) (by unfold isAsk; decide) q347
                          refine lv_aload_n S.1 S.2.1 dL_best_350 rfl (lv_at hl 7 rfl) ?_
                          refine lv_iload_n S.1 S.2.1 dL_best_351 rfl (lv_at hl 2 rfl) ?_
                          refine lv_iload_n S.1 S.2.1 dL_best_352 rfl (lv_at hl 3 rfl) ?_
                          refine lv_iload S.1 S.2.1 dL_best_353 (lv_at hl 4 rfl) ?_
                          refine lv_bipush (v := 7) S.1 S.2.1 dL_best_355 (by decide) ?_
                          refine lv_iconst (v := 1) S.1 S.2.1 dL_best_357 (by decide) ?_
                          refine lv_iconst (v := 1) S.1 S.2.1 dL_best_358 (by decide) ?_
                          refine x_ql (va_runV (As := [.int (nI i), .int (nI j), .int (nI k), .int 7, .int 1, .int 1]) (rest := [.long (arN (zM z) 1 i j k 7 1)]) S (c_X6_arc l g hJ E1_12 hX hv (nI i) (nI j) (nI k) 7 1 1) (cwV 6 S.2.2.2.2 gL_best_X6_arc rfl rfl rfl (by decide +kernel) ⟨Nat.le_of_ble_eq_true rfl, Nat.le_of_ble_eq_true rfl⟩) (x_preV hK hP h00 (by decide) rfl) rfl rfl hl.1 rfl (lv_room (Nat.le_of_ble_eq_true rfl)) dL_best_359 ⟨Nat.le_of_ble_eq_true rfl, Nat.le_of_ble_eq_true rfl⟩) hS (fun r359 E1_13 H locs q359 hP hS => ?_)
                          obtain ⟨q359, hX, -⟩ := q359
                          have h00 := hX.at0
                          obtain rfl : r359 = arN (zM z) 1 i j k 7 1 := v_arU (v := 1) hv (show i < zn z by omega) (show j < zn z by omega) b3 (srt.same b1 b2) (by decide) (by unfold isAsk; decide) ⟨b4, b5, b6⟩ q359
                          refine W.lcmp S.1 S.2.1 dL_best_362 ?_
                          refine lv_if_ne (tgt := 370) S.1 S.2.1 dL_best_363 (by decide) (fun c363 => ?_) (fun c363 => ?_)
                          · skip
                            exact absurd ((lg_cmp_eq _ _).mpr rfl) c363
                          · skip
                            refine lv_iconst (v := 1) S.1 S.2.1 dL_best_366 (by decide) ?_
                            refine lv_goto (tgt := 371) S.1 S.2.1 dL_best_367 (by decide) ?_
                            exact x_zret S hr hlocks hP hS dL_best_371 rfl (⟨rfl, hX⟩)
              · skip
                refine lv_iload S.1 S.2.1 dL_best_217 (lv_at hl 6 rfl) ?_
                refine lv_if_lt (tgt := 229) S.1 S.2.1 dL_best_219 (by decide) (fun c219 => ?_) (fun c219 => ?_)
                · skip
                  have hu9 : u ≤ 99 := Nat.not_lt.mp (fun h => c214 ((nI_leI (a := 100) (by decide) (by omega)).mpr h))
                  refine lv_aload_n S.1 S.2.1 dL_best_229 rfl (lv_at hl 7 rfl) ?_
                  refine lv_iload S.1 S.2.1 dL_best_230 (lv_at hl 0 rfl) ?_
                  refine lv_iconst (v := 1) S.1 S.2.1 dL_best_232 (by decide) ?_
                  refine lv_iconst (v := 0) S.1 S.2.1 dL_best_233 (by decide) ?_
                  refine x_ql (va_runV (As := [.int (nI u), .int 1, .int 0]) (rest := []) S (c_X6_bestAt l g hJ EL hX hv (nI u) 1 0) (cwV 3 S.2.2.2.2 gL_best_X6_bestAt rfl rfl rfl (by decide +kernel) ⟨Nat.le_of_ble_eq_true rfl, Nat.le_of_ble_eq_true rfl⟩) (x_preV hK hP h00 (by decide) rfl) rfl rfl hl.1 rfl (lv_room (Nat.le_of_ble_eq_true rfl)) dL_best_234 ⟨Nat.le_of_ble_eq_true rfl, Nat.le_of_ble_eq_true rfl⟩) hS (fun r234 E1_14 H locs q234 hP hS => ?_)
                  obtain ⟨q234, hX, -⟩ := q234
                  have h00 := hX.at0
                  obtain rfl : r234 = arN (zM z) 1 i j k (nI u) 0 := v_ba (v := 1) hv hb (by decide) (ask_n hu9 (by decide) (by decide)) q234
                  refine x_sl (va_runS (As := [.long (arN (zM z) 1 i j k (nI u) 0)]) (rest := []) S (c_L_upper l g E1_14 (arN (zM z) 1 i j k (nI u) 0)) (va_cwS 1 S.2.2.2.2 gL_best_L_upper rfl rfl rfl (by decide +kernel) ⟨Nat.le_of_ble_eq_true rfl, Nat.le_of_ble_eq_true rfl⟩) (x_preS hK hP) rfl rfl hl.1 rfl (lv_room (Nat.le_of_ble_eq_true rfl)) dL_best_237 ⟨Nat.le_of_ble_eq_true rfl, Nat.le_of_ble_eq_true rfl⟩) (fun r237 hr237 => ?_)
                  obtain rfl : r237 = (arN (zM z) 1 i j k (nI u) 0) - 10000000000 := hr237
                  refine lv_lconst (v := 0) S.1 S.2.1 dL_best_240 rfl ?_
                  refine W.lcmp S.1 S.2.1 dL_best_241 ?_
                  refine lv_if_gt (tgt := 249) S.1 S.2.1 dL_best_242 (by decide) (fun c242 => ?_) (fun c242 => ?_)
                  · skip
                    refine lv_iconst (v := 0) S.1 S.2.1 dL_best_249 (by decide) ?_
                    refine lv_istore (lv' := [(8, .int 0), (7, .int (nI u)), (1, .int (nI (mk (pU (zM z)) (zn z)))), (2, .int (nI i)), (3, .int (nI j)), (4, .int (nI k)), (5, .int (nI (mk (pM (zM z) (pU (zM z)) i j k) (zn z)))), (6, .int r99), (0, .ref (xad g 0))]) S.1 S.2.1 dL_best_250 hl (by decide) rfl (fun ls hl => ?_)
                    refine lv_iload S.1 S.2.1 dL_best_252 (lv_at hl 0 rfl) ?_
                    refine lv_iload S.1 S.2.1 dL_best_254 (lv_at hl 1 rfl) ?_
                    refine lv_iload S.1 S.2.1 dL_best_256 (lv_at hl 7 rfl) ?_
                    refine lv_icmp_ne (tgt := 265) S.1 S.2.1 dL_best_258 (by decide) (fun c258 => ?_) (fun c258 => ?_)
                    · skip
                      refine lv_iconst (v := 0) S.1 S.2.1 dL_best_265 (by decide) ?_
                      refine lv_icmp_eq (tgt := 271) S.1 S.2.1 dL_best_266 (by decide) (fun c266 => ?_) (fun c266 => ?_)
                      · skip
                        refine lv_iinc (v := nI (u + 1)) (lv' := [(7, .int (nI (u + 1))), (8, .int 0), (1, .int (nI (mk (pU (zM z)) (zn z)))), (2, .int (nI i)), (3, .int (nI j)), (4, .int (nI k)), (5, .int (nI (mk (pM (zM z) (pU (zM z)) i j k) (zn z)))), (6, .int r99), (0, .ref (xad g 0))]) S.1 S.2.1 dL_best_271 hl (k := 1) rfl (show nI u + Int32.ofInt 1 = _ from nI_1 _) (by decide) rfl (fun ls hl => ?_)
                        refine lv_goto (tgt := 210) S.1 S.2.1 dL_best_274 (by decide) ?_
                        exact ih210 (u + 1) _ _ _ (by omega) (by omega) (by omega) hX h00 hP hS ls (lv_sub hl [0, 2, 3, 4, 5, 6, 7, 8] rfl)
                      · skip
                        exact absurd c266 (by decide)
                    · skip
                      exact absurd ((dn_at hvM b1 b2 b3 hu9).mpr ((ld_at hld hau hu9 (by first | exact Or.inl c219 | exact Or.inr (Int32.not_lt.mp c226))).mpr c258)) (Int64.not_le.mpr ((lg_cmp_gt _ _).mp c242))
                  · skip
                    refine lv_iconst (v := 1) S.1 S.2.1 dL_best_245 (by decide) ?_
                    refine lv_goto (tgt := 250) S.1 S.2.1 dL_best_246 (by decide) ?_
                    refine lv_istore (lv' := [(8, .int 1), (7, .int (nI u)), (1, .int (nI (mk (pU (zM z)) (zn z)))), (2, .int (nI i)), (3, .int (nI j)), (4, .int (nI k)), (5, .int (nI (mk (pM (zM z) (pU (zM z)) i j k) (zn z)))), (6, .int r99), (0, .ref (xad g 0))]) S.1 S.2.1 dL_best_250 hl (by decide) rfl (fun ls hl => ?_)
                    refine lv_iload S.1 S.2.1 dL_best_252 (lv_at hl 0 rfl) ?_
                    refine lv_iload S.1 S.2.1 dL_best_254 (lv_at hl 1 rfl) ?_
                    refine lv_iload S.1 S.2.1 dL_best_256 (lv_at hl 7 rfl) ?_
                    refine lv_icmp_ne (tgt := 265) S.1 S.2.1 dL_best_258 (by decide) (fun c258 => ?_) (fun c258 => ?_)
                    · skip
                      exact absurd ((ld_at hld hau hu9 (by first | exact Or.inl c219 | exact Or.inr (Int32.not_lt.mp c226))).mp ((dn_at hvM b1 b2 b3 hu9).mp (Int64.not_lt.mp (fun h => c242 ((lg_cmp_gt _ _).mpr h))))) c258
                    · skip
                      refine lv_iconst (v := 1) S.1 S.2.1 dL_best_261 (by decide) ?_
                      refine lv_goto (tgt := 266) S.1 S.2.1 dL_best_262 (by decide) ?_
                      refine lv_icmp_eq (tgt := 271) S.1 S.2.1 dL_best_266 (by decide) (fun c266_1 => ?_) (fun c266_1 => ?_)
                      · skip
                        refine lv_iinc (v := nI (u + 1)) (lv' := [(7, .int (nI (u + 1))), (8, .int 1), (1, .int (nI (mk (pU (zM z)) (zn z)))), (2, .int (nI i)), (3, .int (nI j)), (4, .int (nI k)), (5, .int (nI (mk (pM (zM z) (pU (zM z)) i j k) (zn z)))), (6, .int r99), (0, .ref (xad g 0))]) S.1 S.2.1 dL_best_271 hl (k := 1) rfl (show nI u + Int32.ofInt 1 = _ from nI_1 _) (by decide) rfl (fun ls hl => ?_)
                        refine lv_goto (tgt := 210) S.1 S.2.1 dL_best_274 (by decide) ?_
                        exact ih210 (u + 1) _ _ _ (by omega) (by omega) (by omega) hX h00 hP hS ls (lv_sub hl [0, 2, 3, 4, 5, 6, 7, 8] rfl)
                      · skip
                        exact absurd c266_1 (by decide)
                · skip
                  refine lv_iload S.1 S.2.1 dL_best_222 (lv_at hl 0 rfl) ?_
                  refine lv_iload S.1 S.2.1 dL_best_224 (lv_at hl 6 rfl) ?_
                  refine lv_icmp_gt (tgt := 277) S.1 S.2.1 dL_best_226 (by decide) (fun c226 => ?_) (fun c226 => ?_)
                  · skip
                    refine lv_iload_n S.1 S.2.1 dL_best_277 rfl (lv_at hl 2 rfl) ?_
                    refine lv_iload_n S.1 S.2.1 dL_best_278 rfl (lv_at hl 3 rfl) ?_
                    refine lv_icmp_ge (tgt := 370) S.1 S.2.1 dL_best_279 (by decide) (fun c279 => ?_) (fun c279 => ?_)
                    · skip
                      exact absurd c279 (nI_ge b1 (by omega))
                    · skip
                      refine lv_iload_n S.1 S.2.1 dL_best_282 rfl (lv_at hl 3 rfl) ?_
                      refine lv_iload S.1 S.2.1 dL_best_283 (lv_at hl 4 rfl) ?_
                      refine lv_icmp_ge (tgt := 370) S.1 S.2.1 dL_best_285 (by decide) (fun c285 => ?_) (fun c285 => ?_)
                      · skip
                        exact absurd c285 (nI_ge b2 (by omega))
                      · skip
                        refine lv_iload_n S.1 S.2.1 dL_best_288 rfl (lv_at hl 1 rfl) ?_
                        refine lv_aload_n S.1 S.2.1 dL_best_289 rfl (lv_at hl 7 rfl) ?_
                        refine lv_iload_n S.1 S.2.1 dL_best_290 rfl (lv_at hl 2 rfl) ?_
                        refine lv_iload_n S.1 S.2.1 dL_best_291 rfl (lv_at hl 3 rfl) ?_
                        refine lv_iload S.1 S.2.1 dL_best_292 (lv_at hl 4 rfl) ?_
                        refine x_qi (va_runV (As := [.int (nI i), .int (nI j), .int (nI k)]) (rest := [.int (nI (mk (pU (zM z)) (zn z)))]) S (c_X6_hits l g hJ EL hX hv (nI i) (nI j) (nI k)) (cwV 3 S.2.2.2.2 gL_best_X6_hits rfl rfl rfl (by decide +kernel) ⟨Nat.le_of_ble_eq_true rfl, Nat.le_of_ble_eq_true rfl⟩) (x_preV hK hP h00 (by decide) rfl) rfl rfl hl.1 rfl (lv_room (Nat.le_of_ble_eq_true rfl)) dL_best_294 ⟨Nat.le_of_ble_eq_true rfl, Nat.le_of_ble_eq_true rfl⟩) hS (fun r294 E1_15 H locs q294 hP hS => ?_)
                        obtain ⟨q294, hX, -⟩ := q294
                        have h00 := hX.at0
                        obtain rfl : r294 = nI (mk (fun u => pU (zM z) u && hitB (zM z) i j k u) (zn z)) := v_htU hv (show i < zn z by omega) (show j < zn z by omega) b3 (srt.same b1 b2) ⟨b4, b5, b6⟩ q294
                        refine lv_iconst (v := (-1)) S.1 S.2.1 dL_best_297 (by decide) ?_
                        refine lv_ixor S.1 S.2.1 dL_best_298 ?_
                        refine lv_iand S.1 S.2.1 dL_best_299 ?_
                        refine W.eq (g2 := F0 m 300 ls [.int (nI (mk (pM (zM z) (pU (zM z)) i j k) (zn z)))]) (by rw [anmM]) ?_
                        refine lv_iload S.1 S.2.1 dL_best_300 (lv_at hl 5 rfl) ?_
                        refine lv_icmp_ne (tgt := 370) S.1 S.2.1 dL_best_302 (by decide) (fun c302 => ?_) (fun c302 => ?_)
                        · skip
                          exact absurd rfl c302
                        · skip
                          refine lv_iload S.1 S.2.1 dL_best_305 (lv_at hl 5 rfl) ?_
                          refine x_si (va_runS (As := [.int (nI (mk (pM (zM z) (pU (zM z)) i j k) (zn z)))]) (rest := []) S (c_L_bits l g E1_15 (mk_lt10 (pM (zM z) (pU (zM z)) i j k) hn)) (va_cwS 1 S.2.2.2.2 gL_best_L_bits rfl rfl rfl (by decide +kernel) ⟨Nat.le_of_ble_eq_true rfl, Nat.le_of_ble_eq_true rfl⟩) (x_preS hK hP) rfl rfl hl.1 rfl (lv_room (Nat.le_of_ble_eq_true rfl)) dL_best_307 ⟨Nat.le_of_ble_eq_true rfl, Nat.le_of_ble_eq_true rfl⟩) (fun r307 hr307 => ?_)
                          obtain rfl : r307 = nI (cnt (pM (zM z) (pU (zM z)) i j k) (zn z)) := hr307.trans (congrArg nI (pop_mk hn))
                          refine lv_aload_n S.1 S.2.1 dL_best_310 rfl (lv_at hl 7 rfl) ?_
                          refine lv_iconst (v := 3) S.1 S.2.1 dL_best_311 (by decide) ?_
                          refine x_qi (va_runV (As := [.int 3]) (rest := [.int (nI (cnt (pM (zM z) (pU (zM z)) i j k) (zn z)))]) S (c_X6_best l g hJ E1_15 hX hv 3) (cwV 1 S.2.2.2.2 gL_best_X6_best rfl rfl rfl (by decide +kernel) ⟨Nat.le_of_ble_eq_true rfl, Nat.le_of_ble_eq_true rfl⟩) (x_preV hK hP h00 (by decide) rfl) rfl rfl hl.1 rfl (lv_room (Nat.le_of_ble_eq_true rfl)) dL_best_312 ⟨Nat.le_of_ble_eq_true rfl, Nat.le_of_ble_eq_true rfl⟩) hS (fun r312 E1_16 H locs q312 hP hS => ?_)
                          obtain ⟨q312, hX, -⟩ := q312
                          have h00 := hX.at0
                          obtain rfl : r312 = nI (cnt (pM (zM z) (pU (zM z)) i j k) (zn z)) := v_bs3 hv hb q312
                          refine lv_icmp_ne (tgt := 370) S.1 S.2.1 dL_best_315 (by decide) (fun c315 => ?_) (fun c315 => ?_)
                          · skip
                            exact absurd rfl c315
                          · skip
                            refine lv_aload_n S.1 S.2.1 dL_best_318 rfl (lv_at hl 7 rfl) ?_
                            refine lv_bipush (v := 7) S.1 S.2.1 dL_best_319 (by decide) ?_
                            refine lv_iconst (v := 0) S.1 S.2.1 dL_best_321 (by decide) ?_
                            refine lv_iconst (v := 0) S.1 S.2.1 dL_best_322 (by decide) ?_
                            refine x_ql (va_runV (As := [.int 7, .int 0, .int 0]) (rest := []) S (c_X6_bestAt l g hJ E1_16 hX hv 7 0 0) (cwV 3 S.2.2.2.2 gL_best_X6_bestAt rfl rfl rfl (by decide +kernel) ⟨Nat.le_of_ble_eq_true rfl, Nat.le_of_ble_eq_true rfl⟩) (x_preV hK hP h00 (by decide) rfl) rfl rfl hl.1 rfl (lv_room (Nat.le_of_ble_eq_true rfl)) dL_best_323 ⟨Nat.le_of_ble_eq_true rfl, Nat.le_of_ble_eq_true rfl⟩) hS (fun r323 E1_17 H locs q323 hP hS => ?_)
                            obtain ⟨q323, hX, -⟩ := q323
                            have h00 := hX.at0
                            obtain rfl : r323 = arN (zM z) 0 i j k 7 0 := v_ba (v := 0) hv hb (by decide) (by unfold isAsk; decide) q323
                            refine lv_aload_n S.1 S.2.1 dL_best_326 rfl (lv_at hl 7 rfl) ?_
                            refine lv_iload_n S.1 S.2.1 dL_best_327 rfl (lv_at hl 2 rfl) ?_
                            refine lv_iload_n S.1 S.2.1 dL_best_328 rfl (lv_at hl 3 rfl) ?_
                            refine lv_iload S.1 S.2.1 dL_best_329 (lv_at hl 4 rfl) ?_
                            refine lv_bipush (v := 7) S.1 S.2.1 dL_best_331 (by decide) ?_
                            refine lv_iconst (v := 0) S.1 S.2.1 dL_best_333 (by decide) ?_
                            refine lv_iconst (v := 0) S.1 S.2.1 dL_best_334 (by decide) ?_
                            refine x_ql (va_runV (As := [.int (nI i), .int (nI j), .int (nI k), .int 7, .int 0, .int 0]) (rest := [.long (arN (zM z) 0 i j k 7 0)]) S (c_X6_arc l g hJ E1_17 hX hv (nI i) (nI j) (nI k) 7 0 0) (cwV 6 S.2.2.2.2 gL_best_X6_arc rfl rfl rfl (by decide +kernel) ⟨Nat.le_of_ble_eq_true rfl, Nat.le_of_ble_eq_true rfl⟩) (x_preV hK hP h00 (by decide) rfl) rfl rfl hl.1 rfl (lv_room (Nat.le_of_ble_eq_true rfl)) dL_best_335 ⟨Nat.le_of_ble_eq_true rfl, Nat.le_of_ble_eq_true rfl⟩) hS (fun r335 E1_18 H locs q335 hP hS => ?_)
                            obtain ⟨q335, hX, -⟩ := q335
                            have h00 := hX.at0
                            obtain rfl : r335 = arN (zM z) 0 i j k 7 0 := v_arU (v := 0) hv (show i < zn z by omega) (show j < zn z by omega) b3 (srt.same b1 b2) (by decide) (by unfold isAsk; decide) ⟨b4, b5, b6⟩ q335
                            refine W.lcmp S.1 S.2.1 dL_best_338 ?_
                            refine lv_if_ne (tgt := 370) S.1 S.2.1 dL_best_339 (by decide) (fun c339 => ?_) (fun c339 => ?_)
                            · skip
                              exact absurd ((lg_cmp_eq _ _).mpr rfl) c339
                            · skip
                              refine lv_aload_n S.1 S.2.1 dL_best_342 rfl (lv_at hl 7 rfl) ?_
                              refine lv_bipush (v := 7) S.1 S.2.1 dL_best_343 (by decide) ?_
                              refine lv_iconst (v := 1) S.1 S.2.1 dL_best_345 (by decide) ?_
                              refine lv_iconst (v := 1) S.1 S.2.1 dL_best_346 (by decide) ?_
                              refine x_ql (va_runV (As := [.int 7, .int 1, .int 1]) (rest := []) S (c_X6_bestAt l g hJ E1_18 hX hv 7 1 1) (cwV 3 S.2.2.2.2 gL_best_X6_bestAt rfl rfl rfl (by decide +kernel) ⟨Nat.le_of_ble_eq_true rfl, Nat.le_of_ble_eq_true rfl⟩) (x_preV hK hP h00 (by decide) rfl) rfl rfl hl.1 rfl (lv_room (Nat.le_of_ble_eq_true rfl)) dL_best_347 ⟨Nat.le_of_ble_eq_true rfl, Nat.le_of_ble_eq_true rfl⟩) hS (fun r347 E1_19 H locs q347 hP hS => ?_)
                              obtain ⟨q347, hX, -⟩ := q347
                              have h00 := hX.at0
                              obtain rfl : r347 = arN (zM z) 1 i j k 7 1 := v_ba (v := 1) hv hb (by decide) (by unfold isAsk; decide) q347
                              refine lv_aload_n S.1 S.2.1 dL_best_350 rfl (lv_at hl 7 rfl) ?_
                              refine lv_iload_n S.1 S.2.1 dL_best_351 rfl (lv_at hl 2 rfl) ?_
                              refine lv_iload_n S.1 S.2.1 dL_best_352 rfl (lv_at hl 3 rfl) ?_
                              refine lv_iload S.1 S.2.1 dL_best_353 (lv_at hl 4 rfl) ?_
                              refine lv_bipush (v := 7) S.1 S.2.1 dL_best_355 (by decide) ?_
                              refine lv_iconst (v := 1) S.1 S.2.1 dL_best_357 (by decide) ?_
                              refine lv_iconst (v := 1) S.1 S.2.1 dL_best_358 (by decide) ?_
                              refine x_ql (va_runV (As := [.int (nI i), .int (nI j), .int (nI k), .int 7, .int 1, .int 1]) (rest := [.long (arN (zM z) 1 i j k 7 1)]) S (c_X6_arc l g hJ E1_19 hX hv (nI i) (nI j) (nI k) 7 1 1) (cwV 6 S.2.2.2.2 gL_best_X6_arc rfl rfl rfl (by decide +kernel) ⟨Nat.le_of_ble_eq_true rfl, Nat.le_of_ble_eq_true rfl⟩) (x_preV hK hP h00 (by decide) rfl) rfl rfl hl.1 rfl (lv_room (Nat.le_of_ble_eq_true rfl)) dL_best_359 ⟨Nat.le_of_ble_eq_true rfl, Nat.le_of_ble_eq_true rfl⟩) hS (fun r359 E1_20 H locs q359 hP hS => ?_)
                              obtain ⟨q359, hX, -⟩ := q359
                              have h00 := hX.at0
                              obtain rfl : r359 = arN (zM z) 1 i j k 7 1 := v_arU (v := 1) hv (show i < zn z by omega) (show j < zn z by omega) b3 (srt.same b1 b2) (by decide) (by unfold isAsk; decide) ⟨b4, b5, b6⟩ q359
                              refine W.lcmp S.1 S.2.1 dL_best_362 ?_
                              refine lv_if_ne (tgt := 370) S.1 S.2.1 dL_best_363 (by decide) (fun c363 => ?_) (fun c363 => ?_)
                              · skip
                                exact absurd ((lg_cmp_eq _ _).mpr rfl) c363
                              · skip
                                refine lv_iconst (v := 1) S.1 S.2.1 dL_best_366 (by decide) ?_
                                refine lv_goto (tgt := 371) S.1 S.2.1 dL_best_367 (by decide) ?_
                                exact x_zret S hr hlocks hP hS dL_best_371 rfl (⟨rfl, hX⟩)
                  · skip
                    have hu9 : u ≤ 99 := Nat.not_lt.mp (fun h => c214 ((nI_leI (a := 100) (by decide) (by omega)).mpr h))
                    refine lv_aload_n S.1 S.2.1 dL_best_229 rfl (lv_at hl 7 rfl) ?_
                    refine lv_iload S.1 S.2.1 dL_best_230 (lv_at hl 0 rfl) ?_
                    refine lv_iconst (v := 1) S.1 S.2.1 dL_best_232 (by decide) ?_
                    refine lv_iconst (v := 0) S.1 S.2.1 dL_best_233 (by decide) ?_
                    refine x_ql (va_runV (As := [.int (nI u), .int 1, .int 0]) (rest := []) S (c_X6_bestAt l g hJ EL hX hv (nI u) 1 0) (cwV 3 S.2.2.2.2 gL_best_X6_bestAt rfl rfl rfl (by decide +kernel) ⟨Nat.le_of_ble_eq_true rfl, Nat.le_of_ble_eq_true rfl⟩) (x_preV hK hP h00 (by decide) rfl) rfl rfl hl.1 rfl (lv_room (Nat.le_of_ble_eq_true rfl)) dL_best_234 ⟨Nat.le_of_ble_eq_true rfl, Nat.le_of_ble_eq_true rfl⟩) hS (fun r234 E1_21 H locs q234 hP hS => ?_)
                    obtain ⟨q234, hX, -⟩ := q234
                    have h00 := hX.at0
                    obtain rfl : r234 = arN (zM z) 1 i j k (nI u) 0 := v_ba (v := 1) hv hb (by decide) (ask_n hu9 (by decide) (by decide)) q234
                    refine x_sl (va_runS (As := [.long (arN (zM z) 1 i j k (nI u) 0)]) (rest := []) S (c_L_upper l g E1_21 (arN (zM z) 1 i j k (nI u) 0)) (va_cwS 1 S.2.2.2.2 gL_best_L_upper rfl rfl rfl (by decide +kernel) ⟨Nat.le_of_ble_eq_true rfl, Nat.le_of_ble_eq_true rfl⟩) (x_preS hK hP) rfl rfl hl.1 rfl (lv_room (Nat.le_of_ble_eq_true rfl)) dL_best_237 ⟨Nat.le_of_ble_eq_true rfl, Nat.le_of_ble_eq_true rfl⟩) (fun r237 hr237 => ?_)
                    obtain rfl : r237 = (arN (zM z) 1 i j k (nI u) 0) - 10000000000 := hr237
                    refine lv_lconst (v := 0) S.1 S.2.1 dL_best_240 rfl ?_
                    refine W.lcmp S.1 S.2.1 dL_best_241 ?_
                    refine lv_if_gt (tgt := 249) S.1 S.2.1 dL_best_242 (by decide) (fun c242 => ?_) (fun c242 => ?_)
                    · skip
                      refine lv_iconst (v := 0) S.1 S.2.1 dL_best_249 (by decide) ?_
                      refine lv_istore (lv' := [(8, .int 0), (7, .int (nI u)), (1, .int (nI (mk (pU (zM z)) (zn z)))), (2, .int (nI i)), (3, .int (nI j)), (4, .int (nI k)), (5, .int (nI (mk (pM (zM z) (pU (zM z)) i j k) (zn z)))), (6, .int r99), (0, .ref (xad g 0))]) S.1 S.2.1 dL_best_250 hl (by decide) rfl (fun ls hl => ?_)
                      refine lv_iload S.1 S.2.1 dL_best_252 (lv_at hl 0 rfl) ?_
                      refine lv_iload S.1 S.2.1 dL_best_254 (lv_at hl 1 rfl) ?_
                      refine lv_iload S.1 S.2.1 dL_best_256 (lv_at hl 7 rfl) ?_
                      refine lv_icmp_ne (tgt := 265) S.1 S.2.1 dL_best_258 (by decide) (fun c258 => ?_) (fun c258 => ?_)
                      · skip
                        refine lv_iconst (v := 0) S.1 S.2.1 dL_best_265 (by decide) ?_
                        refine lv_icmp_eq (tgt := 271) S.1 S.2.1 dL_best_266 (by decide) (fun c266_2 => ?_) (fun c266_2 => ?_)
                        · skip
                          refine lv_iinc (v := nI (u + 1)) (lv' := [(7, .int (nI (u + 1))), (8, .int 0), (1, .int (nI (mk (pU (zM z)) (zn z)))), (2, .int (nI i)), (3, .int (nI j)), (4, .int (nI k)), (5, .int (nI (mk (pM (zM z) (pU (zM z)) i j k) (zn z)))), (6, .int r99), (0, .ref (xad g 0))]) S.1 S.2.1 dL_best_271 hl (k := 1) rfl (show nI u + Int32.ofInt 1 = _ from nI_1 _) (by decide) rfl (fun ls hl => ?_)
                          refine lv_goto (tgt := 210) S.1 S.2.1 dL_best_274 (by decide) ?_
                          exact ih210 (u + 1) _ _ _ (by omega) (by omega) (by omega) hX h00 hP hS ls (lv_sub hl [0, 2, 3, 4, 5, 6, 7, 8] rfl)
                        · skip
                          exact absurd c266_2 (by decide)
                      · skip
                        exact absurd ((dn_at hvM b1 b2 b3 hu9).mpr ((ld_at hld hau hu9 (by first | exact Or.inl c219 | exact Or.inr (Int32.not_lt.mp c226))).mpr c258)) (Int64.not_le.mpr ((lg_cmp_gt _ _).mp c242))
                    · skip
                      refine lv_iconst (v := 1) S.1 S.2.1 dL_best_245 (by decide) ?_
                      refine lv_goto (tgt := 250) S.1 S.2.1 dL_best_246 (by decide) ?_
                      refine lv_istore (lv' := [(8, .int 1), (7, .int (nI u)), (1, .int (nI (mk (pU (zM z)) (zn z)))), (2, .int (nI i)), (3, .int (nI j)), (4, .int (nI k)), (5, .int (nI (mk (pM (zM z) (pU (zM z)) i j k) (zn z)))), (6, .int r99), (0, .ref (xad g 0))]) S.1 S.2.1 dL_best_250 hl (by decide) rfl (fun ls hl => ?_)
                      refine lv_iload S.1 S.2.1 dL_best_252 (lv_at hl 0 rfl) ?_
                      refine lv_iload S.1 S.2.1 dL_best_254 (lv_at hl 1 rfl) ?_
                      refine lv_iload S.1 S.2.1 dL_best_256 (lv_at hl 7 rfl) ?_
                      refine lv_icmp_ne (tgt := 265) S.1 S.2.1 dL_best_258 (by decide) (fun c258 => ?_) (fun c258 => ?_)
                      · skip
                        exact absurd ((ld_at hld hau hu9 (by first | exact Or.inl c219 | exact Or.inr (Int32.not_lt.mp c226))).mp ((dn_at hvM b1 b2 b3 hu9).mp (Int64.not_lt.mp (fun h => c242 ((lg_cmp_gt _ _).mpr h))))) c258
                      · skip
                        refine lv_iconst (v := 1) S.1 S.2.1 dL_best_261 (by decide) ?_
                        refine lv_goto (tgt := 266) S.1 S.2.1 dL_best_262 (by decide) ?_
                        refine lv_icmp_eq (tgt := 271) S.1 S.2.1 dL_best_266 (by decide) (fun c266_3 => ?_) (fun c266_3 => ?_)
                        · skip
                          refine lv_iinc (v := nI (u + 1)) (lv' := [(7, .int (nI (u + 1))), (8, .int 1), (1, .int (nI (mk (pU (zM z)) (zn z)))), (2, .int (nI i)), (3, .int (nI j)), (4, .int (nI k)), (5, .int (nI (mk (pM (zM z) (pU (zM z)) i j k) (zn z)))), (6, .int r99), (0, .ref (xad g 0))]) S.1 S.2.1 dL_best_271 hl (k := 1) rfl (show nI u + Int32.ofInt 1 = _ from nI_1 _) (by decide) rfl (fun ls hl => ?_)
                          refine lv_goto (tgt := 210) S.1 S.2.1 dL_best_274 (by decide) ?_
                          exact ih210 (u + 1) _ _ _ (by omega) (by omega) (by omega) hX h00 hP hS ls (lv_sub hl [0, 2, 3, 4, 5, 6, 7, 8] rfl)
                        · skip
                          exact absurd c266_3 (by decide)
          exact loop210 _ a _ _ _ (Nat.le_refl _) (by omega) (Nat.lt_succ_self _) hX h00 hP hS ls (lv_sub hl [0, 1, 2, 3, 4, 5, 6, 7] rfl)
        · skip
          have hpn := kn_lt hn hp c114
          refine lv_iload S.1 S.2.1 dL_best_117 (lv_at hl 0 rfl) ?_
          refine lv_iconst (v := 1) S.1 S.2.1 dL_best_119 (by decide) ?_
          refine lv_iadd S.1 S.2.1 dL_best_120 ?_
          refine W.eq (g2 := F0 m 121 ls [.int (nI (p + 1))]) (by rw [nI_1]) ?_
          refine lv_istore (lv' := [(8, .int (nI (p + 1))), (7, .int (nI p)), (1, .int (nI (mk (pU (zM z)) (zn z)))), (2, .int (nI i)), (3, .int (nI j)), (4, .int (nI k)), (5, .int (nI (mk (pM (zM z) (pU (zM z)) i j k) (zn z)))), (6, .int r99), (0, .ref (xad g 0))]) S.1 S.2.1 dL_best_121 hl (by decide) rfl (fun ls hl => ?_)
          have loop123 : ∀ (d : Nat) (q : Nat) (EL : Nat → va_E) (H : Heap) (locs : List Loc), (hpq : p < q) → (hq : q ≤ zn z) → (zn z + 1 - q) < d → (hX : sX g EL z) → (h00 : EL 0 = .inr (6, [.ref (xad g 1), .ref (xad g 10), .int (bI (zf z)), .ref (xad g 19), .ref (xad g 57), .ref (xad g 59), .ref (xad g 60), .ref (xad g 61), .ref (xad g 64)])) → xP g EL H → va_S (xA (xad g)) s.heap H locs → ∀ ls : Array Slot, lv_has ls 11 [(8, .int (nI q)), (7, .int (nI p)), (1, .int (nI (mk (pU (zM z)) (zn z)))), (2, .int (nI i)), (3, .int (nI j)), (4, .int (nI k)), (5, .int (nI (mk (pM (zM z) (pU (zM z)) i j k) (zn z)))), (6, .int r99), (0, .ref (xad g 0))] → W pz l ez ({ frames := 8, cells := 0, slots := 0, locals := 186 }) s m ([.ref (xad g 0)] : List Value).toArray below meth cz H locs 0 0 (MQ below (xQi g (fun r E1 => r = 1 ∧ sX g E1 z)) ([.ref (xad g 0)] : List Value).toArray s 0 0 (xA (xad g))) (F0 m 123 ls []) := by
            intro d
            induction d with
            | zero => intro q EL H locs hpq hq hd; exact absurd hd (Nat.not_lt_zero _)
            | succ d ih123 =>
              intro q EL H locs hpq hq hd hX h00 hP hS ls hl
              refine lv_iload S.1 S.2.1 dL_best_123 (lv_at hl 0 rfl) ?_
              refine lv_aload_n S.1 S.2.1 dL_best_125 rfl (lv_at hl 8 rfl) ?_
              refine lv_iconst (v := 0) S.1 S.2.1 dL_best_126 (by decide) ?_
              refine x_qi (va_runV (As := [.int 0]) (rest := [.int (nI q)]) S (c_X6_count l g hJ EL hX hv 0) (cwV 1 S.2.2.2.2 gL_best_X6_count rfl rfl rfl (by decide +kernel) ⟨Nat.le_of_ble_eq_true rfl, Nat.le_of_ble_eq_true rfl⟩) (x_preV hK hP h00 (by decide) rfl) rfl rfl hl.1 rfl (lv_room (Nat.le_of_ble_eq_true rfl)) dL_best_127 ⟨Nat.le_of_ble_eq_true rfl, Nat.le_of_ble_eq_true rfl⟩) hS (fun r127 E1_22 H locs q127 hP hS => ?_)
              obtain ⟨q127, hX, -⟩ := q127
              have h00 := hX.at0
              obtain rfl : r127 = nI (zn z) := v_ct0 q127
              refine lv_icmp_ge (tgt := 196) S.1 S.2.1 dL_best_130 (by decide) (fun c130 => ?_) (fun c130 => ?_)
              · skip
                refine lv_iinc (v := nI (p + 1)) (lv' := [(7, .int (nI (p + 1))), (8, .int (nI q)), (1, .int (nI (mk (pU (zM z)) (zn z)))), (2, .int (nI i)), (3, .int (nI j)), (4, .int (nI k)), (5, .int (nI (mk (pM (zM z) (pU (zM z)) i j k) (zn z)))), (6, .int r99), (0, .ref (xad g 0))]) S.1 S.2.1 dL_best_196 hl (k := 1) rfl (show nI p + Int32.ofInt 1 = _ from nI_1 _) (by decide) rfl (fun ls hl => ?_)
                refine lv_goto (tgt := 107) S.1 S.2.1 dL_best_199 (by decide) ?_
                exact ih107 (p + 1) _ _ _ (by omega) (by omega) hX h00 hP hS ls (lv_sub hl [0, 2, 3, 4, 5, 6, 7, 8] rfl)
              · skip
                have hqn := kn_lt hn hq c130
                refine lv_aload_n S.1 S.2.1 dL_best_133 rfl (lv_at hl 8 rfl) ?_
                refine lv_iconst (v := 0) S.1 S.2.1 dL_best_134 (by decide) ?_
                refine x_qi (va_runV (As := [.int 0]) (rest := []) S (c_X6_count l g hJ E1_22 hX hv 0) (cwV 1 S.2.2.2.2 gL_best_X6_count rfl rfl rfl (by decide +kernel) ⟨Nat.le_of_ble_eq_true rfl, Nat.le_of_ble_eq_true rfl⟩) (x_preV hK hP h00 (by decide) rfl) rfl rfl hl.1 rfl (lv_room (Nat.le_of_ble_eq_true rfl)) dL_best_135 ⟨Nat.le_of_ble_eq_true rfl, Nat.le_of_ble_eq_true rfl⟩) hS (fun r135 E1_23 H locs q135 hP hS => ?_)
                obtain ⟨q135, hX, -⟩ := q135
                have h00 := hX.at0
                obtain rfl : r135 = nI (zn z) := v_ct0 q135
                refine lv_iconst (v := 1) S.1 S.2.1 dL_best_138 (by decide) ?_
                refine lv_isub S.1 S.2.1 dL_best_139 ?_
                refine W.eq (g2 := F0 m 140 ls [.int (nI (zn z - 1))]) (by rw [n_m1 (show 0 < zn z by omega)]) ?_
                refine lv_istore (lv' := [(9, .int (nI (zn z - 1))), (8, .int (nI q)), (7, .int (nI p)), (1, .int (nI (mk (pU (zM z)) (zn z)))), (2, .int (nI i)), (3, .int (nI j)), (4, .int (nI k)), (5, .int (nI (mk (pM (zM z) (pU (zM z)) i j k) (zn z)))), (6, .int r99), (0, .ref (xad g 0))]) S.1 S.2.1 dL_best_140 hl (by decide) rfl (fun ls hl => ?_)
                refine lv_iload S.1 S.2.1 dL_best_142 (lv_at hl 1 rfl) ?_
                refine lv_iload S.1 S.2.1 dL_best_144 (lv_at hl 0 rfl) ?_
                refine lv_icmp_ge (tgt := 162) S.1 S.2.1 dL_best_146 (by decide) (fun c146 => ?_) (fun c146 => ?_)
                · skip
                  refine lv_bipush (v := (-4)) S.1 S.2.1 dL_best_162 (by decide) ?_
                  refine lv_istore (lv' := [(10, .int (-4)), (9, .int (nI (zn z - 1))), (8, .int (nI q)), (7, .int (nI p)), (1, .int (nI (mk (pU (zM z)) (zn z)))), (2, .int (nI i)), (3, .int (nI j)), (4, .int (nI k)), (5, .int (nI (mk (pM (zM z) (pU (zM z)) i j k) (zn z)))), (6, .int r99), (0, .ref (xad g 0))]) S.1 S.2.1 dL_best_164 hl (by decide) rfl (fun ls hl => ?_)
                  refine lv_iload S.1 S.2.1 dL_best_166 (lv_at hl 0 rfl) ?_
                  refine lv_if_lt (tgt := 190) S.1 S.2.1 dL_best_168 (by decide) (fun c168 => ?_) (fun c168 => ?_)
                  · skip
                    refine lv_iinc (v := nI (q + 1)) (lv' := [(8, .int (nI (q + 1))), (10, .int (-4)), (9, .int (nI (zn z - 1))), (7, .int (nI p)), (1, .int (nI (mk (pU (zM z)) (zn z)))), (2, .int (nI i)), (3, .int (nI j)), (4, .int (nI k)), (5, .int (nI (mk (pM (zM z) (pU (zM z)) i j k) (zn z)))), (6, .int r99), (0, .ref (xad g 0))]) S.1 S.2.1 dL_best_190 hl (k := 2) rfl (show nI q + Int32.ofInt 1 = _ from nI_1 _) (by decide) rfl (fun ls hl => ?_)
                    refine lv_goto (tgt := 123) S.1 S.2.1 dL_best_193 (by decide) ?_
                    exact ih123 (q + 1) _ _ _ (by omega) (by omega) (by omega) hX h00 hP hS ls (lv_sub hl [0, 3, 4, 5, 6, 7, 8, 9, 10] rfl)
                  · skip
                    exact absurd c168 (by decide)
                · skip
                  have hqr : q < zn z - 1 := Nat.not_le.mp (fun h => c146 ((nI_leI (by omega) (by omega)).mpr h))
                  refine lv_aload_n S.1 S.2.1 dL_best_149 rfl (lv_at hl 9 rfl) ?_
                  refine lv_iload S.1 S.2.1 dL_best_150 (lv_at hl 2 rfl) ?_
                  refine lv_iload S.1 S.2.1 dL_best_152 (lv_at hl 1 rfl) ?_
                  refine lv_iload S.1 S.2.1 dL_best_154 (lv_at hl 0 rfl) ?_
                  refine x_qi (va_runV (As := [.int (nI p), .int (nI q), .int (nI (zn z - 1))]) (rest := []) S (c_X6_hits l g hJ E1_23 hX hv (nI p) (nI q) (nI (zn z - 1))) (cwV 3 S.2.2.2.2 gL_best_X6_hits rfl rfl rfl (by decide +kernel) ⟨Nat.le_of_ble_eq_true rfl, Nat.le_of_ble_eq_true rfl⟩) (x_preV hK hP h00 (by decide) rfl) rfl rfl hl.1 rfl (lv_room (Nat.le_of_ble_eq_true rfl)) dL_best_156 ⟨Nat.le_of_ble_eq_true rfl, Nat.le_of_ble_eq_true rfl⟩) hS (fun r156 E1_24 H locs q156 hP hS => ?_)
                  obtain ⟨q156, hX, -⟩ := q156
                  have h00 := hX.at0
                  refine lv_goto (tgt := 164) S.1 S.2.1 dL_best_159 (by decide) ?_
                  refine lv_istore (lv' := [(10, .int r156), (9, .int (nI (zn z - 1))), (8, .int (nI q)), (7, .int (nI p)), (1, .int (nI (mk (pU (zM z)) (zn z)))), (2, .int (nI i)), (3, .int (nI j)), (4, .int (nI k)), (5, .int (nI (mk (pM (zM z) (pU (zM z)) i j k) (zn z)))), (6, .int r99), (0, .ref (xad g 0))]) S.1 S.2.1 dL_best_164 hl (by decide) rfl (fun ls hl => ?_)
                  refine lv_iload S.1 S.2.1 dL_best_166 (lv_at hl 0 rfl) ?_
                  refine lv_if_lt (tgt := 190) S.1 S.2.1 dL_best_168 (by decide) (fun c168 => ?_) (fun c168 => ?_)
                  · skip
                    refine lv_iinc (v := nI (q + 1)) (lv' := [(8, .int (nI (q + 1))), (10, .int r156), (9, .int (nI (zn z - 1))), (7, .int (nI p)), (1, .int (nI (mk (pU (zM z)) (zn z)))), (2, .int (nI i)), (3, .int (nI j)), (4, .int (nI k)), (5, .int (nI (mk (pM (zM z) (pU (zM z)) i j k) (zn z)))), (6, .int r99), (0, .ref (xad g 0))]) S.1 S.2.1 dL_best_190 hl (k := 2) rfl (show nI q + Int32.ofInt 1 = _ from nI_1 _) (by decide) rfl (fun ls hl => ?_)
                    refine lv_goto (tgt := 123) S.1 S.2.1 dL_best_193 (by decide) ?_
                    exact ih123 (q + 1) _ _ _ (by omega) (by omega) (by omega) hX h00 hP hS ls (lv_sub hl [0, 3, 4, 5, 6, 7, 8, 9, 10] rfl)
                  · skip
                    obtain ⟨htr, rfl⟩ := v_htC hv hpq hqr (by omega) q156 c168
                    refine lv_iload_n S.1 S.2.1 dL_best_171 rfl (lv_at hl 4 rfl) ?_
                    refine lv_iload S.1 S.2.1 dL_best_172 (lv_at hl 0 rfl) ?_
                    refine lv_iconst (v := (-1)) S.1 S.2.1 dL_best_174 (by decide) ?_
                    refine lv_ixor S.1 S.2.1 dL_best_175 ?_
                    refine lv_iand S.1 S.2.1 dL_best_176 ?_
                    refine W.eq (g2 := F0 m 177 ls [.int (nI (mk (pM (zM z) (pU (zM z)) p q (zn z - 1)) (zn z)))]) (by rw [anmM]) ?_
                    refine x_si (va_runS (As := [.int (nI (mk (pM (zM z) (pU (zM z)) p q (zn z - 1)) (zn z)))]) (rest := []) S (c_L_bits l g E1_24 (mk_lt10 (pM (zM z) (pU (zM z)) p q (zn z - 1)) hn)) (va_cwS 1 S.2.2.2.2 gL_best_L_bits rfl rfl rfl (by decide +kernel) ⟨Nat.le_of_ble_eq_true rfl, Nat.le_of_ble_eq_true rfl⟩) (x_preS hK hP) rfl rfl hl.1 rfl (lv_room (Nat.le_of_ble_eq_true rfl)) dL_best_177 ⟨Nat.le_of_ble_eq_true rfl, Nat.le_of_ble_eq_true rfl⟩) (fun r177 hr177 => ?_)
                    obtain rfl : r177 = nI (cnt (pM (zM z) (pU (zM z)) p q (zn z - 1)) (zn z)) := hr177.trans (congrArg nI (pop_mk hn))
                    refine lv_aload_n S.1 S.2.1 dL_best_180 rfl (lv_at hl 10 rfl) ?_
                    refine lv_iconst (v := 3) S.1 S.2.1 dL_best_181 (by decide) ?_
                    refine x_qi (va_runV (As := [.int 3]) (rest := [.int (nI (cnt (pM (zM z) (pU (zM z)) p q (zn z - 1)) (zn z)))]) S (c_X6_best l g hJ E1_24 hX hv 3) (cwV 1 S.2.2.2.2 gL_best_X6_best rfl rfl rfl (by decide +kernel) ⟨Nat.le_of_ble_eq_true rfl, Nat.le_of_ble_eq_true rfl⟩) (x_preV hK hP h00 (by decide) rfl) rfl rfl hl.1 rfl (lv_room (Nat.le_of_ble_eq_true rfl)) dL_best_182 ⟨Nat.le_of_ble_eq_true rfl, Nat.le_of_ble_eq_true rfl⟩) hS (fun r182 E1_25 H locs q182 hP hS => ?_)
                    obtain ⟨q182, hX, -⟩ := q182
                    have h00 := hX.at0
                    obtain rfl : r182 = nI (cnt (pM (zM z) (pU (zM z)) i j k) (zn z)) := v_bs3 hv hb q182
                    refine lv_icmp_ge (tgt := 190) S.1 S.2.1 dL_best_185 (by decide) (fun c185 => ?_) (fun c185 => ?_)
                    · skip
                      refine lv_iinc (v := nI (q + 1)) (lv' := [(8, .int (nI (q + 1))), (10, .int (nI (mk (fun u => pU (zM z) u && hitB (zM z) p q (zn z - 1) u) (zn z)))), (9, .int (nI (zn z - 1))), (7, .int (nI p)), (1, .int (nI (mk (pU (zM z)) (zn z)))), (2, .int (nI i)), (3, .int (nI j)), (4, .int (nI k)), (5, .int (nI (mk (pM (zM z) (pU (zM z)) i j k) (zn z)))), (6, .int r99), (0, .ref (xad g 0))]) S.1 S.2.1 dL_best_190 hl (k := 2) rfl (show nI q + Int32.ofInt 1 = _ from nI_1 _) (by decide) rfl (fun ls hl => ?_)
                      refine lv_goto (tgt := 123) S.1 S.2.1 dL_best_193 (by decide) ?_
                      exact ih123 (q + 1) _ _ _ (by omega) (by omega) (by omega) hX h00 hP hS ls (lv_sub hl [0, 3, 4, 5, 6, 7, 8, 9, 10] rfl)
                    · skip
                      exact absurd (best_min hv hb htr) c185
          exact loop123 _ (p + 1) _ _ _ (by omega) (by omega) (Nat.lt_succ_self _) hX h00 hP hS ls (lv_sub hl [0, 1, 2, 3, 4, 5, 6, 7, 8] rfl)
    exact loop107 _ 0 _ _ _ (Nat.zero_le _) (Nat.lt_succ_self _) hX h00 hP hS ls (lv_sub hl [0, 6, 5, 4, 3, 2, 1, 7] rfl)
  · skip
    have hno := no_trio (Nat.not_le.mp (fun h => c11 ((cn3 hn).mpr h)))
    refine lv_aload_n S.1 S.2.1 dL_best_14 rfl (lv_at hl 1 rfl) ?_
    refine lv_iconst (v := 0) S.1 S.2.1 dL_best_15 (by decide) ?_
    refine x_qi (va_runV (As := [.int 0]) (rest := []) S (c_X6_best l g hJ E1 hX hv 0) (cwV 1 S.2.2.2.2 gL_best_X6_best rfl rfl rfl (by decide +kernel) ⟨Nat.le_of_ble_eq_true rfl, Nat.le_of_ble_eq_true rfl⟩) (x_preV hK hP h00 (by decide) rfl) rfl rfl hl.1 rfl (lv_room (Nat.le_of_ble_eq_true rfl)) dL_best_16 ⟨Nat.le_of_ble_eq_true rfl, Nat.le_of_ble_eq_true rfl⟩) hS (fun r16 E1_26 H locs q16 hP hS => ?_)
    obtain ⟨q16, hX, -⟩ := q16
    have h00 := hX.at0
    obtain rfl : r16 = -4 := v_bsN hno (by decide) q16
    refine lv_bipush (v := (-4)) S.1 S.2.1 dL_best_19 (by decide) ?_
    refine lv_icmp_ne (tgt := 70) S.1 S.2.1 dL_best_21 (by decide) (fun c21 => ?_) (fun c21 => ?_)
    · skip
      exact absurd c21 (by decide)
    · skip
      refine lv_aload_n S.1 S.2.1 dL_best_24 rfl (lv_at hl 1 rfl) ?_
      refine x_qi (va_runV (As := []) (rest := []) S (c_X6_lands l g hJ E1_26 hX hv ) (cwV 0 S.2.2.2.2 gL_best_X6_lands rfl rfl rfl (by decide +kernel) ⟨Nat.le_of_ble_eq_true rfl, Nat.le_of_ble_eq_true rfl⟩) (x_preV hK hP h00 (by decide) rfl) rfl rfl hl.1 rfl (lv_room (Nat.le_of_ble_eq_true rfl)) dL_best_25 ⟨Nat.le_of_ble_eq_true rfl, Nat.le_of_ble_eq_true rfl⟩) hS (fun r25 E1_27 H locs q25 hP hS => ?_)
      obtain ⟨q25, hX, -⟩ := q25
      have h00 := hX.at0
      obtain rfl : r25 = -4 := v_ldN hno q25
      refine lv_bipush (v := (-4)) S.1 S.2.1 dL_best_28 (by decide) ?_
      refine lv_icmp_ne (tgt := 70) S.1 S.2.1 dL_best_30 (by decide) (fun c30 => ?_) (fun c30 => ?_)
      · skip
        exact absurd c30 (by decide)
      · skip
        refine lv_aload_n S.1 S.2.1 dL_best_33 rfl (lv_at hl 1 rfl) ?_
        refine lv_iconst (v := 0) S.1 S.2.1 dL_best_34 (by decide) ?_
        refine lv_iconst (v := 0) S.1 S.2.1 dL_best_35 (by decide) ?_
        refine lv_iconst (v := 0) S.1 S.2.1 dL_best_36 (by decide) ?_
        refine x_ql (va_runV (As := [.int 0, .int 0, .int 0]) (rest := []) S (c_X6_bestAt l g hJ E1_27 hX hv 0 0 0) (cwV 3 S.2.2.2.2 gL_best_X6_bestAt rfl rfl rfl (by decide +kernel) ⟨Nat.le_of_ble_eq_true rfl, Nat.le_of_ble_eq_true rfl⟩) (x_preV hK hP h00 (by decide) rfl) rfl rfl hl.1 rfl (lv_room (Nat.le_of_ble_eq_true rfl)) dL_best_37 ⟨Nat.le_of_ble_eq_true rfl, Nat.le_of_ble_eq_true rfl⟩) hS (fun r37 E1_28 H locs q37 hP hS => ?_)
        obtain ⟨q37, hX, -⟩ := q37
        have h00 := hX.at0
        obtain rfl : r37 = -4 := v_baN hno (by unfold isAsk; decide) q37
        refine lv_ldc2 S.1 S.2.1 S.2.2.2.1 (S.2.2.2.2 (.constantLong RL 38 (-4)) (by decide +kernel)) dL_best_40 ?_
        refine W.lcmp S.1 S.2.1 dL_best_43 ?_
        refine lv_if_ne (tgt := 70) S.1 S.2.1 dL_best_44 (by decide) (fun c44 => ?_) (fun c44 => ?_)
        · skip
          exact absurd ((lg_cmp_eq _ _).mpr rfl) c44
        · skip
          refine lv_aload_n S.1 S.2.1 dL_best_47 rfl (lv_at hl 1 rfl) ?_
          refine x_qi (va_runV (As := []) (rest := []) S (c_X6_dropMissed l g hJ E1_28 hX hv) (cwV 0 S.2.2.2.2 gL_best_X6_dropMissed rfl rfl rfl (by decide +kernel) ⟨Nat.le_of_ble_eq_true rfl, Nat.le_of_ble_eq_true rfl⟩) (x_preV hK hP h00 (by decide) rfl) rfl rfl hl.1 rfl (lv_room (Nat.le_of_ble_eq_true rfl)) dL_best_48 ⟨Nat.le_of_ble_eq_true rfl, Nat.le_of_ble_eq_true rfl⟩) hS (fun r48 E1_29 H locs q48 hP hS => ?_)
          obtain ⟨z1, q48, hX, -⟩ := q48
          obtain ⟨rfl, hz1⟩ := v_drN hno q48
          rw [hz1] at hX
          have h00 := hX.at0
          refine lv_bipush (v := (-4)) S.1 S.2.1 dL_best_51 (by decide) ?_
          refine lv_icmp_ne (tgt := 70) S.1 S.2.1 dL_best_53 (by decide) (fun c53 => ?_) (fun c53 => ?_)
          · skip
            exact absurd c53 (by decide)
          · skip
            refine lv_aload_n S.1 S.2.1 dL_best_56 rfl (lv_at hl 1 rfl) ?_
            refine lv_iconst (v := 5) S.1 S.2.1 dL_best_57 (by decide) ?_
            refine x_qi (va_runV (As := [.int 5]) (rest := []) S (c_X6_best l g hJ E1_29 hX hv 5) (cwV 1 S.2.2.2.2 gL_best_X6_best rfl rfl rfl (by decide +kernel) ⟨Nat.le_of_ble_eq_true rfl, Nat.le_of_ble_eq_true rfl⟩) (x_preV hK hP h00 (by decide) rfl) rfl rfl hl.1 rfl (lv_room (Nat.le_of_ble_eq_true rfl)) dL_best_58 ⟨Nat.le_of_ble_eq_true rfl, Nat.le_of_ble_eq_true rfl⟩) hS (fun r58 E1_30 H locs q58 hP hS => ?_)
            obtain ⟨q58, hX, -⟩ := q58
            have h00 := hX.at0
            obtain rfl : r58 = -2 := v_bs9 (by decide) q58
            refine lv_bipush (v := (-2)) S.1 S.2.1 dL_best_61 (by decide) ?_
            refine lv_icmp_ne (tgt := 70) S.1 S.2.1 dL_best_63 (by decide) (fun c63 => ?_) (fun c63 => ?_)
            · skip
              exact absurd c63 (by decide)
            · skip
              refine lv_iconst (v := 1) S.1 S.2.1 dL_best_66 (by decide) ?_
              refine lv_goto (tgt := 71) S.1 S.2.1 dL_best_67 (by decide) ?_
              exact x_zret S hr hlocks hP hS dL_best_71 rfl (⟨rfl, hX⟩)
