/-! THE LAW: its loop -/
set_option maxHeartbeats 4000000 in
set_option maxRecDepth 100000 in
/-- what the law asks of a state -/
theorem law_tail {p : Program} {e9 : Env} {s : State} {m : MethodId} {below : List Frame} {meth : Method} {c : Code} {Q : State → Prop} {b : Nat} (l : Launch) (g : xG) (S : CallFix p m c cL_law 12 s #[Value.ref b] wsL_law RL) (hJ : xJ (xad g)) (hK : xK g s) (hAd : ∀ k, k < 65 → zA s (xad g k)) {e : Nat} {gg hh : Int32} {z : xS} {E : Nat → va_E} {H : Heap} {locs : List Loc} (hX : sX g E z) (hv : vS z) (hQ : vQ z) (hP : xP g E H) (hS : va_S (zA s) s.heap H locs) (kk : ∀ (z : xS) (E : Nat → va_E) (H : Heap) (locs : List Loc), sX g E z → vS z → vQ z → xP g E H → va_S (zA s) s.heap H locs → ∀ ls : Array Slot, lv_has ls 12 [(0, .ref b), (1, .ref (xad g 0)), (2, .int (nI e))] → W p l e9 room_1 s m #[Value.ref b] below meth c H locs 600000 7302250 Q (F0 m 308 ls [])) {ls : Array Slot} (hl : lv_has ls 12 [(0, .ref b), (1, .ref (xad g 0)), (2, .int (nI e)), (9, .int 1), (3, .int gg), (4, .int hh)]) : W p l e9 room_1 s m #[Value.ref b] below meth c H locs 600000 7302250 Q (F0 m 218 ls []) := by
  have h00 := hX.at0
  have hn := hv.1.1
  have hvM := hv.1.2
  refine lv_aload_n S.1 S.2.1 dL_law_218 rfl (lv_at hl 1 rfl) ?_
  refine lv_iconst (v := 0) S.1 S.2.1 dL_law_219 (by decide) ?_
  refine z_qi (va_runV (As := [.int 0]) (rest := []) S (c_X6_count l g hJ E hX hv 0) (cwV 1 S.2.2.2.2 gL_law_X6_count rfl rfl rfl (by decide +kernel) ⟨Nat.le_of_ble_eq_true rfl, Nat.le_of_ble_eq_true rfl⟩) (x_preV hK hP h00 (by decide) rfl) rfl rfl hl.1 rfl (lv_room (Nat.le_of_ble_eq_true rfl)) dL_law_220 ⟨Nat.le_of_ble_eq_true rfl, Nat.le_of_ble_eq_true rfl⟩) hAd hS (fun r220 E1 H locs q220 hP hS => ?_)
  obtain ⟨q220, hX, -⟩ := q220
  have h00 := hX.at0
  obtain rfl : r220 = nI (zn z) := v_ct0 q220
  refine lv_istore (lv' := [(11, .int (nI (zn z))), (0, .ref b), (1, .ref (xad g 0)), (2, .int (nI e)), (9, .int 1), (3, .int gg), (4, .int hh)]) S.1 S.2.1 dL_law_223 hl (by decide) rfl (fun ls hl => ?_)
  refine lv_iload S.1 S.2.1 dL_law_225 (lv_at hl 4 rfl) ?_
  refine lv_if_eq (tgt := 306) S.1 S.2.1 dL_law_227 (by decide) (fun c227 => ?_) (fun c227 => ?_)
  · skip
    exact absurd c227 (by decide)
  · skip
    refine lv_aload_n S.1 S.2.1 dL_law_230 rfl (lv_at hl 2 rfl) ?_
    refine z_qi (va_runS (As := [.ref (xad g 0)]) (rest := []) S (c_L_photos l g hJ E1 hX hv ) (va_cwS 1 S.2.2.2.2 gL_law_L_photos rfl rfl rfl (by decide +kernel) ⟨Nat.le_of_ble_eq_true rfl, Nat.le_of_ble_eq_true rfl⟩) (x_preS hK hP) rfl rfl hl.1 rfl (lv_room (Nat.le_of_ble_eq_true rfl)) dL_law_231 ⟨Nat.le_of_ble_eq_true rfl, Nat.le_of_ble_eq_true rfl⟩) hAd hS (fun r231 E1_1 H locs q231 hP hS => ?_)
    obtain ⟨rfl, hX⟩ := q231
    have h00 := hX.at0
    refine lv_if_eq (tgt := 306) S.1 S.2.1 dL_law_234 (by decide) (fun c234 => ?_) (fun c234 => ?_)
    · skip
      exact absurd c234 (by decide)
    · skip
      refine lv_aload_n S.1 S.2.1 dL_law_237 rfl (lv_at hl 2 rfl) ?_
      refine z_qi (va_runS (As := [.ref (xad g 0)]) (rest := []) S (c_L_best l g hJ E1_1 hX hv ) (va_cwS 1 S.2.2.2.2 gL_law_L_best rfl rfl rfl (by decide +kernel) ⟨Nat.le_of_ble_eq_true rfl, Nat.le_of_ble_eq_true rfl⟩) (x_preS hK hP) rfl rfl hl.1 rfl (lv_room (Nat.le_of_ble_eq_true rfl)) dL_law_238 ⟨Nat.le_of_ble_eq_true rfl, Nat.le_of_ble_eq_true rfl⟩) hAd hS (fun r238 E1_2 H locs q238 hP hS => ?_)
      obtain ⟨rfl, hX⟩ := q238
      have h00 := hX.at0
      refine lv_if_eq (tgt := 306) S.1 S.2.1 dL_law_241 (by decide) (fun c241 => ?_) (fun c241 => ?_)
      · skip
        exact absurd c241 (by decide)
      · skip
        refine lv_aload_n S.1 S.2.1 dL_law_244 rfl (lv_at hl 2 rfl) ?_
        refine z_qi (va_runS (As := [.ref (xad g 0)]) (rest := []) S (c_L_track l g hJ E1_2 hX hv ) (va_cwS 1 S.2.2.2.2 gL_law_L_track rfl rfl rfl (by decide +kernel) ⟨Nat.le_of_ble_eq_true rfl, Nat.le_of_ble_eq_true rfl⟩) (x_preS hK hP) rfl rfl hl.1 rfl (lv_room (Nat.le_of_ble_eq_true rfl)) dL_law_245 ⟨Nat.le_of_ble_eq_true rfl, Nat.le_of_ble_eq_true rfl⟩) hAd hS (fun r245 E1_3 H locs q245 hP hS => ?_)
        obtain ⟨rfl, hX⟩ := q245
        have h00 := hX.at0
        refine lv_if_eq (tgt := 306) S.1 S.2.1 dL_law_248 (by decide) (fun c248 => ?_) (fun c248 => ?_)
        · skip
          exact absurd c248 (by decide)
        · skip
          refine lv_iload S.1 S.2.1 dL_law_251 (lv_at hl 0 rfl) ?_
          refine lv_iconst (v := 2) S.1 S.2.1 dL_law_253 (by decide) ?_
          refine lv_icmp_le (tgt := 290) S.1 S.2.1 dL_law_254 (by decide) (fun c254 => ?_) (fun c254 => ?_)
          · skip
            refine lv_iload_n S.1 S.2.1 dL_law_290 rfl (lv_at hl 3 rfl) ?_
            refine lv_iconst (v := 4) S.1 S.2.1 dL_law_291 (by decide) ?_
            refine lv_irem S.1 S.2.1 dL_law_292 (by decide) ?_
            refine lv_iconst (v := 3) S.1 S.2.1 dL_law_293 (by decide) ?_
            refine lv_icmp_ne (tgt := 308) S.1 S.2.1 dL_law_294 (by decide) (fun c294 => ?_) (fun c294 => ?_)
            · skip
              exact kk z E1_3 _ _ hX hv hQ hP hS ls (lv_sub hl [1, 2, 3] rfl)
            · skip
              refine lv_aload_n S.1 S.2.1 dL_law_297 rfl (lv_at hl 2 rfl) ?_
              refine lv_iload S.1 S.2.1 dL_law_298 (lv_at hl 6 rfl) ?_
              refine z_qi (va_runS (As := [.ref (xad g 0), .int hh]) (rest := []) S (c_L_spins l g hJ E1_3 hX hv hh) (va_cwS 2 S.2.2.2.2 gL_law_L_spins rfl rfl rfl (by decide +kernel) ⟨Nat.le_of_ble_eq_true rfl, Nat.le_of_ble_eq_true rfl⟩) (x_preS hK hP) rfl rfl hl.1 rfl (lv_room (Nat.le_of_ble_eq_true rfl)) dL_law_300 ⟨Nat.le_of_ble_eq_true rfl, Nat.le_of_ble_eq_true rfl⟩) hAd hS (fun r300 E1_4 H locs q300 hP hS => ?_)
              obtain ⟨rfl, hX⟩ := q300
              have h00 := hX.at0
              refine lv_if_ne (tgt := 308) S.1 S.2.1 dL_law_303 (by decide) (fun c303 => ?_) (fun c303 => ?_)
              · skip
                exact kk z E1_4 _ _ hX hv hQ hP hS ls (lv_sub hl [1, 2, 3] rfl)
              · skip
                exact absurd c303 (by decide)
          · skip
            have hn2 := n3 hn c254
            refine lv_aload_n S.1 S.2.1 dL_law_257 rfl (lv_at hl 2 rfl) ?_
            refine lv_iload_n S.1 S.2.1 dL_law_258 rfl (lv_at hl 5 rfl) ?_
            refine lv_iconst (v := 3) S.1 S.2.1 dL_law_259 (by decide) ?_
            refine lv_ishr S.1 S.2.1 dL_law_260 ?_
            refine lv_iload S.1 S.2.1 dL_law_261 (lv_at hl 0 rfl) ?_
            refine x_si (va_runS (As := [.int (gg >>> (3 &&& 31)), .int (nI (zn z))]) (rest := [.ref (xad g 0)]) S (c_L_low l g E1_3 (gg >>> (3 &&& 31)) (d := zn z) (show 0 < zn z by omega) (show zn z < 1000 by omega)) (va_cwS 2 S.2.2.2.2 gL_law_L_low rfl rfl rfl (by decide +kernel) ⟨Nat.le_of_ble_eq_true rfl, Nat.le_of_ble_eq_true rfl⟩) (x_preS hK hP) rfl rfl hl.1 rfl (lv_room (Nat.le_of_ble_eq_true rfl)) dL_law_263 ⟨Nat.le_of_ble_eq_true rfl, Nat.le_of_ble_eq_true rfl⟩) (fun r263 hr263 => ?_)
            obtain ⟨i, hi, rfl⟩ := hr263
            refine lv_iload S.1 S.2.1 dL_law_266 (lv_at hl 6 rfl) ?_
            refine lv_iconst (v := 3) S.1 S.2.1 dL_law_268 (by decide) ?_
            refine lv_ishr S.1 S.2.1 dL_law_269 ?_
            refine lv_iload S.1 S.2.1 dL_law_270 (lv_at hl 0 rfl) ?_
            refine x_si (va_runS (As := [.int (hh >>> (3 &&& 31)), .int (nI (zn z))]) (rest := [.int (nI i), .ref (xad g 0)]) S (c_L_low l g E1_3 (hh >>> (3 &&& 31)) (d := zn z) (show 0 < zn z by omega) (show zn z < 1000 by omega)) (va_cwS 2 S.2.2.2.2 gL_law_L_low rfl rfl rfl (by decide +kernel) ⟨Nat.le_of_ble_eq_true rfl, Nat.le_of_ble_eq_true rfl⟩) (x_preS hK hP) rfl rfl hl.1 rfl (lv_room (Nat.le_of_ble_eq_true rfl)) dL_law_272 ⟨Nat.le_of_ble_eq_true rfl, Nat.le_of_ble_eq_true rfl⟩) (fun r272 hr272 => ?_)
            obtain ⟨j, hj, rfl⟩ := hr272
            refine lv_iload_n S.1 S.2.1 dL_law_275 rfl (lv_at hl 5 rfl) ?_
            refine lv_bipush (v := 11) S.1 S.2.1 dL_law_276 (by decide) ?_
            refine lv_ishr S.1 S.2.1 dL_law_278 ?_
            refine lv_iload S.1 S.2.1 dL_law_279 (lv_at hl 0 rfl) ?_
            refine x_si (va_runS (As := [.int (gg >>> (11 &&& 31)), .int (nI (zn z))]) (rest := [.int (nI j), .int (nI i), .ref (xad g 0)]) S (c_L_low l g E1_3 (gg >>> (11 &&& 31)) (d := zn z) (show 0 < zn z by omega) (show zn z < 1000 by omega)) (va_cwS 2 S.2.2.2.2 gL_law_L_low rfl rfl rfl (by decide +kernel) ⟨Nat.le_of_ble_eq_true rfl, Nat.le_of_ble_eq_true rfl⟩) (x_preS hK hP) rfl rfl hl.1 rfl (lv_room (Nat.le_of_ble_eq_true rfl)) dL_law_281 ⟨Nat.le_of_ble_eq_true rfl, Nat.le_of_ble_eq_true rfl⟩) (fun r281 hr281 => ?_)
            obtain ⟨k, hk, rfl⟩ := hr281
            refine z_qi (va_runS (As := [.ref (xad g 0), .int (nI i), .int (nI j), .int (nI k)]) (rest := []) S (c_L_arcs l g hJ E1_3 hX hv hi hj hk) (va_cwS 4 S.2.2.2.2 gL_law_L_arcs rfl rfl rfl (by decide +kernel) ⟨Nat.le_of_ble_eq_true rfl, Nat.le_of_ble_eq_true rfl⟩) (x_preS hK hP) rfl rfl hl.1 rfl (lv_room (Nat.le_of_ble_eq_true rfl)) dL_law_284 ⟨Nat.le_of_ble_eq_true rfl, Nat.le_of_ble_eq_true rfl⟩) hAd hS (fun r284 E1_5 H locs q284 hP hS => ?_)
            obtain ⟨rfl, hX⟩ := q284
            have h00 := hX.at0
            refine lv_if_eq (tgt := 306) S.1 S.2.1 dL_law_287 (by decide) (fun c287 => ?_) (fun c287 => ?_)
            · skip
              exact absurd c287 (by decide)
            · skip
              refine lv_iload_n S.1 S.2.1 dL_law_290 rfl (lv_at hl 3 rfl) ?_
              refine lv_iconst (v := 4) S.1 S.2.1 dL_law_291 (by decide) ?_
              refine lv_irem S.1 S.2.1 dL_law_292 (by decide) ?_
              refine lv_iconst (v := 3) S.1 S.2.1 dL_law_293 (by decide) ?_
              refine lv_icmp_ne (tgt := 308) S.1 S.2.1 dL_law_294 (by decide) (fun c294 => ?_) (fun c294 => ?_)
              · skip
                exact kk z E1_5 _ _ hX hv hQ hP hS ls (lv_sub hl [1, 2, 3] rfl)
              · skip
                refine lv_aload_n S.1 S.2.1 dL_law_297 rfl (lv_at hl 2 rfl) ?_
                refine lv_iload S.1 S.2.1 dL_law_298 (lv_at hl 6 rfl) ?_
                refine z_qi (va_runS (As := [.ref (xad g 0), .int hh]) (rest := []) S (c_L_spins l g hJ E1_5 hX hv hh) (va_cwS 2 S.2.2.2.2 gL_law_L_spins rfl rfl rfl (by decide +kernel) ⟨Nat.le_of_ble_eq_true rfl, Nat.le_of_ble_eq_true rfl⟩) (x_preS hK hP) rfl rfl hl.1 rfl (lv_room (Nat.le_of_ble_eq_true rfl)) dL_law_300 ⟨Nat.le_of_ble_eq_true rfl, Nat.le_of_ble_eq_true rfl⟩) hAd hS (fun r300 E1_6 H locs q300 hP hS => ?_)
                obtain ⟨rfl, hX⟩ := q300
                have h00 := hX.at0
                refine lv_if_ne (tgt := 308) S.1 S.2.1 dL_law_303 (by decide) (fun c303 => ?_) (fun c303 => ?_)
                · skip
                  exact kk z E1_6 _ _ hX hv hQ hP hS ls (lv_sub hl [1, 2, 3] rfl)
                · skip
                  exact absurd c303 (by decide)
set_option maxHeartbeats 4000000 in
set_option maxRecDepth 100000 in
/-- an act, and that it is undone -/
theorem law_mid {p : Program} {e9 : Env} {s : State} {m : MethodId} {below : List Frame} {meth : Method} {c : Code} {Q : State → Prop} {b : Nat} (l : Launch) (g : xG) (S : CallFix p m c cL_law 12 s #[Value.ref b] wsL_law RL) (hJ : xJ (xad g)) (hK : xK g s) (hAd : ∀ k, k < 65 → zA s (xad g k)) {e : Nat} {so gg hh : Int32} {z : xS} {E : Nat → va_E} {H : Heap} {locs : List Loc} (hX : sX g E z) (hv : vS z) (hQ : vQ z) (hP : xP g E H) (hS : va_S (zA s) s.heap H locs) (kk : ∀ (z : xS) (E : Nat → va_E) (H : Heap) (locs : List Loc), sX g E z → vS z → vQ z → xP g E H → va_S (zA s) s.heap H locs → ∀ ls : Array Slot, lv_has ls 12 [(0, .ref b), (1, .ref (xad g 0)), (2, .int (nI e)), (9, .int 1), (3, .int gg), (4, .int hh)] → W p l e9 room_1 s m #[Value.ref b] below meth c H locs 600000 7302250 Q (F0 m 218 ls [])) {ls : Array Slot} (hl : lv_has ls 12 [(0, .ref b), (1, .ref (xad g 0)), (2, .int (nI e)), (3, .int gg), (4, .int hh)]) : W p l e9 room_1 s m #[Value.ref b] below meth c H locs 600000 7302250 Q (F0 m 112 ls [.int so]) := by
  have h00 := hX.at0
  have hn := hv.1.1
  have hvM := hv.1.2
  refine lv_istore (lv' := [(5, .int so), (0, .ref b), (1, .ref (xad g 0)), (2, .int (nI e)), (3, .int gg), (4, .int hh)]) S.1 S.2.1 dL_law_112 hl (by decide) rfl (fun ls hl => ?_)
  refine lv_aload_n S.1 S.2.1 dL_law_114 rfl (lv_at hl 2 rfl) ?_
  refine lv_iconst (v := 4) S.1 S.2.1 dL_law_115 (by decide) ?_
  refine z_qi (va_runV (As := [.int 4]) (rest := []) S (c_X6_count l g hJ E hX hv 4) (cwV 1 S.2.2.2.2 gL_law_X6_count rfl rfl rfl (by decide +kernel) ⟨Nat.le_of_ble_eq_true rfl, Nat.le_of_ble_eq_true rfl⟩) (x_preV hK hP h00 (by decide) rfl) rfl rfl hl.1 rfl (lv_room (Nat.le_of_ble_eq_true rfl)) dL_law_116 ⟨Nat.le_of_ble_eq_true rfl, Nat.le_of_ble_eq_true rfl⟩) hAd hS (fun r116 E1 H locs q116 hP hS => ?_)
  obtain ⟨q116, hX, -⟩ := q116
  have h00 := hX.at0
  obtain rfl : r116 = nI (zh z) := v_ct4 q116
  refine lv_istore (lv' := [(6, .int (nI (zh z))), (5, .int so), (0, .ref b), (1, .ref (xad g 0)), (2, .int (nI e)), (3, .int gg), (4, .int hh)]) S.1 S.2.1 dL_law_119 hl (by decide) rfl (fun ls hl => ?_)
  refine lv_aload_n S.1 S.2.1 dL_law_121 rfl (lv_at hl 3 rfl) ?_
  refine z_ql (va_runS (As := [.ref (xad g 0)]) (rest := []) S (c_L_digest l g hJ E1 hX hv) (va_cwS 1 S.2.2.2.2 gL_law_L_digest rfl rfl rfl (by decide +kernel) ⟨Nat.le_of_ble_eq_true rfl, Nat.le_of_ble_eq_true rfl⟩) (x_preS hK hP) rfl rfl hl.1 rfl (lv_room (Nat.le_of_ble_eq_true rfl)) dL_law_122 ⟨Nat.le_of_ble_eq_true rfl, Nat.le_of_ble_eq_true rfl⟩) hAd hS (fun r122 E1_1 H locs q122 hP hS => ?_)
  obtain ⟨rfl, hX⟩ := q122
  have h00 := hX.at0
  refine lv_lstore (lv' := [(7, .long (dgO (zn z) (zM z) (zn z))), (6, .int (nI (zh z))), (5, .int so), (0, .ref b), (1, .ref (xad g 0)), (2, .int (nI e)), (3, .int gg), (4, .int hh)]) S.1 S.2.1 dL_law_125 hl (by decide) rfl (fun ls hl => ?_)
  refine lv_aload_n S.1 S.2.1 dL_law_127 rfl (lv_at hl 4 rfl) ?_
  refine lv_iload S.1 S.2.1 dL_law_128 (lv_at hl 2 rfl) ?_
  refine lv_iload_n S.1 S.2.1 dL_law_130 rfl (lv_at hl 6 rfl) ?_
  refine lv_iload S.1 S.2.1 dL_law_131 (lv_at hl 7 rfl) ?_
  refine z_qi (va_runS (As := [.ref (xad g 0), .int so, .int gg, .int hh]) (rest := []) S (c_L_acts l g hJ E1_1 hX hv hQ so gg hh) (va_cwS 4 S.2.2.2.2 gL_law_L_acts rfl rfl rfl (by decide +kernel) ⟨Nat.le_of_ble_eq_true rfl, Nat.le_of_ble_eq_true rfl⟩) (x_preS hK hP) rfl rfl hl.1 rfl (lv_room (Nat.le_of_ble_eq_true rfl)) dL_law_133 ⟨Nat.le_of_ble_eq_true rfl, Nat.le_of_ble_eq_true rfl⟩) hAd hS (fun r133 E1_2 H locs q133 hP hS => ?_)
  obtain ⟨rfl, z1, hX, hv1, hQ1, hac⟩ := q133
  have h00 := hX.at0
  refine lv_istore (lv' := [(9, .int 1), (7, .long (dgO (zn z) (zM z) (zn z))), (6, .int (nI (zh z))), (5, .int so), (0, .ref b), (1, .ref (xad g 0)), (2, .int (nI e)), (3, .int gg), (4, .int hh)]) S.1 S.2.1 dL_law_136 hl (by decide) rfl (fun ls hl => ?_)
  refine lv_iload S.1 S.2.1 dL_law_138 (lv_at hl 2 rfl) ?_
  refine lv_iconst (v := 4) S.1 S.2.1 dL_law_140 (by decide) ?_
  refine lv_icmp_ne (tgt := 148) S.1 S.2.1 dL_law_141 (by decide) (fun c141 => ?_) (fun c141 => ?_)
  · skip
    refine lv_iload S.1 S.2.1 dL_law_148 (lv_at hl 2 rfl) ?_
    refine lv_istore (lv' := [(10, .int (nI (zh z))), (9, .int 1), (7, .long (dgO (zn z) (zM z) (zn z))), (6, .int (nI (zh z))), (5, .int so), (0, .ref b), (1, .ref (xad g 0)), (2, .int (nI e)), (3, .int gg), (4, .int hh)]) S.1 S.2.1 dL_law_150 hl (by decide) rfl (fun ls hl => ?_)
    refine lv_iload S.1 S.2.1 dL_law_152 (lv_at hl 1 rfl) ?_
    refine lv_if_eq (tgt := 218) S.1 S.2.1 dL_law_154 (by decide) (fun c154 => ?_) (fun c154 => ?_)
    · skip
      exact absurd c154 (by decide)
    · skip
      refine lv_iload S.1 S.2.1 dL_law_157 (lv_at hl 9 rfl) ?_
      refine lv_sipush (v := 3072) S.1 S.2.1 dL_law_159 (by decide) ?_
      refine lv_iand S.1 S.2.1 dL_law_162 ?_
      refine lv_if_ne (tgt := 218) S.1 S.2.1 dL_law_163 (by decide) (fun c163 => ?_) (fun c163 => ?_)
      · skip
        exact kk z1 E1_2 _ _ hX hv1 hQ1 hP hS ls (lv_sub hl [5, 6, 7, 1, 8, 9] rfl)
      · skip
        refine lv_aload_n S.1 S.2.1 dL_law_166 rfl (lv_at hl 6 rfl) ?_
        refine lv_iconst (v := 4) S.1 S.2.1 dL_law_167 (by decide) ?_
        refine z_qi (va_runV (As := [.int 4]) (rest := []) S (c_X6_count l g hJ E1_2 hX hv1 4) (cwV 1 S.2.2.2.2 gL_law_X6_count rfl rfl rfl (by decide +kernel) ⟨Nat.le_of_ble_eq_true rfl, Nat.le_of_ble_eq_true rfl⟩) (x_preV hK hP h00 (by decide) rfl) rfl rfl hl.1 rfl (lv_room (Nat.le_of_ble_eq_true rfl)) dL_law_168 ⟨Nat.le_of_ble_eq_true rfl, Nat.le_of_ble_eq_true rfl⟩) hAd hS (fun r168 E1_3 H locs q168 hP hS => ?_)
        obtain ⟨q168, hX, -⟩ := q168
        have h00 := hX.at0
        obtain rfl : r168 = nI (zh z1) := v_ct4 q168
        refine lv_iload S.1 S.2.1 dL_law_171 (lv_at hl 3 rfl) ?_
        refine lv_icmp_ne (tgt := 192) S.1 S.2.1 dL_law_173 (by decide) (fun c173 => ?_) (fun c173 => ?_)
        · skip
          obtain ⟨n9, M9, hz1⟩ := acR_rec hac (fun h => c173 (by rw [h]))
          refine lv_aload_n S.1 S.2.1 dL_law_192 rfl (lv_at hl 6 rfl) ?_
          refine z_qi (va_runV (As := []) (rest := []) S (c_X6_undo l g hJ E1_3 hX hv1) (cwV 0 S.2.2.2.2 gL_law_X6_undo rfl rfl rfl (by decide +kernel) ⟨Nat.le_of_ble_eq_true rfl, Nat.le_of_ble_eq_true rfl⟩) (x_preV hK hP h00 (by decide) rfl) rfl rfl hl.1 rfl (lv_room (Nat.le_of_ble_eq_true rfl)) dL_law_193 ⟨Nat.le_of_ble_eq_true rfl, Nat.le_of_ble_eq_true rfl⟩) hAd hS (fun r193 E1_4 H locs q193 hP hS => ?_)
          obtain ⟨z2, q193, hX, -⟩ := q193
          obtain ⟨e1, e2, rfl, hQ2⟩ := un_do hv hz1 q193
          have hv2 := sp_undo.vS hv1 q193
          have h00 := hX.at0
          refine lv_iload S.1 S.2.1 dL_law_196 (lv_at hl 0 rfl) ?_
          refine lv_icmp_ne (tgt := 215) S.1 S.2.1 dL_law_198 (by decide) (fun c198 => ?_) (fun c198 => ?_)
          · skip
            exact absurd (rcS_l hv.2.1.1 c141) c198
          · skip
            refine lv_aload_n S.1 S.2.1 dL_law_201 rfl (lv_at hl 6 rfl) ?_
            refine z_ql (va_runS (As := [.ref (xad g 0)]) (rest := []) S (c_L_digest l g hJ E1_4 hX hv2) (va_cwS 1 S.2.2.2.2 gL_law_L_digest rfl rfl rfl (by decide +kernel) ⟨Nat.le_of_ble_eq_true rfl, Nat.le_of_ble_eq_true rfl⟩) (x_preS hK hP) rfl rfl hl.1 rfl (lv_room (Nat.le_of_ble_eq_true rfl)) dL_law_202 ⟨Nat.le_of_ble_eq_true rfl, Nat.le_of_ble_eq_true rfl⟩) hAd hS (fun r202 E1_5 H locs q202 hP hS => ?_)
            obtain ⟨rfl, hX⟩ := q202
            have h00 := hX.at0
            refine lv_lload S.1 S.2.1 dL_law_205 (lv_at hl 2 rfl) ?_
            refine W.lcmp S.1 S.2.1 dL_law_207 ?_
            refine lv_if_ne (tgt := 215) S.1 S.2.1 dL_law_208 (by decide) (fun c208 => ?_) (fun c208 => ?_)
            · skip
              exact absurd ((lg_cmp_eq _ _).mpr (by rw [e1, e2])) c208
            · skip
              refine lv_iconst (v := 1) S.1 S.2.1 dL_law_211 (by decide) ?_
              refine lv_goto (tgt := 216) S.1 S.2.1 dL_law_212 (by decide) ?_
              refine lv_istore (lv' := [(9, .int 1), (10, .int (nI (zh z))), (7, .long (dgO (zn z) (zM z) (zn z))), (6, .int (nI (zh z))), (5, .int so), (0, .ref b), (1, .ref (xad g 0)), (2, .int (nI e)), (3, .int gg), (4, .int hh)]) S.1 S.2.1 dL_law_216 hl (by decide) rfl (fun ls hl => ?_)
              exact kk z2 E1_5 _ _ hX hv2 (hQ2 hQ) hP hS ls (lv_sub hl [5, 6, 7, 0, 8, 9] rfl)
        · skip
          refine lv_iload S.1 S.2.1 dL_law_176 (lv_at hl 3 rfl) ?_
          refine lv_iconst (v := 4) S.1 S.2.1 dL_law_178 (by decide) ?_
          refine lv_icmp_ne (tgt := 218) S.1 S.2.1 dL_law_179 (by decide) (fun c179 => ?_) (fun c179 => ?_)
          · skip
            exact kk z1 E1_3 _ _ hX hv1 hQ1 hP hS ls (lv_sub hl [5, 6, 7, 1, 8, 9] rfl)
          · skip
            refine lv_aload_n S.1 S.2.1 dL_law_182 rfl (lv_at hl 6 rfl) ?_
            refine z_ql (va_runS (As := [.ref (xad g 0)]) (rest := []) S (c_L_digest l g hJ E1_3 hX hv1) (va_cwS 1 S.2.2.2.2 gL_law_L_digest rfl rfl rfl (by decide +kernel) ⟨Nat.le_of_ble_eq_true rfl, Nat.le_of_ble_eq_true rfl⟩) (x_preS hK hP) rfl rfl hl.1 rfl (lv_room (Nat.le_of_ble_eq_true rfl)) dL_law_183 ⟨Nat.le_of_ble_eq_true rfl, Nat.le_of_ble_eq_true rfl⟩) hAd hS (fun r183 E1_6 H locs q183 hP hS => ?_)
            obtain ⟨rfl, hX⟩ := q183
            have h00 := hX.at0
            refine lv_lload S.1 S.2.1 dL_law_186 (lv_at hl 2 rfl) ?_
            refine W.lcmp S.1 S.2.1 dL_law_188 ?_
            refine lv_if_eq (tgt := 218) S.1 S.2.1 dL_law_189 (by decide) (fun c189 => ?_) (fun c189 => ?_)
            · skip
              exact kk z1 E1_6 _ _ hX hv1 hQ1 hP hS ls (lv_sub hl [5, 6, 7, 1, 8, 9] rfl)
            · skip
              obtain ⟨n9, M9, hz1⟩ := acR_rec hac (fun h => c189 ((lg_cmp_eq _ _).mpr (by rw [h])))
              refine lv_aload_n S.1 S.2.1 dL_law_192 rfl (lv_at hl 6 rfl) ?_
              refine z_qi (va_runV (As := []) (rest := []) S (c_X6_undo l g hJ E1_6 hX hv1) (cwV 0 S.2.2.2.2 gL_law_X6_undo rfl rfl rfl (by decide +kernel) ⟨Nat.le_of_ble_eq_true rfl, Nat.le_of_ble_eq_true rfl⟩) (x_preV hK hP h00 (by decide) rfl) rfl rfl hl.1 rfl (lv_room (Nat.le_of_ble_eq_true rfl)) dL_law_193 ⟨Nat.le_of_ble_eq_true rfl, Nat.le_of_ble_eq_true rfl⟩) hAd hS (fun r193 E1_7 H locs q193 hP hS => ?_)
              obtain ⟨z2, q193, hX, -⟩ := q193
              obtain ⟨e1, e2, rfl, hQ2⟩ := un_do hv hz1 q193
              have hv2 := sp_undo.vS hv1 q193
              have h00 := hX.at0
              refine lv_iload S.1 S.2.1 dL_law_196 (lv_at hl 0 rfl) ?_
              refine lv_icmp_ne (tgt := 215) S.1 S.2.1 dL_law_198 (by decide) (fun c198 => ?_) (fun c198 => ?_)
              · skip
                exact absurd (rcS_l hv.2.1.1 c141) c198
              · skip
                refine lv_aload_n S.1 S.2.1 dL_law_201 rfl (lv_at hl 6 rfl) ?_
                refine z_ql (va_runS (As := [.ref (xad g 0)]) (rest := []) S (c_L_digest l g hJ E1_7 hX hv2) (va_cwS 1 S.2.2.2.2 gL_law_L_digest rfl rfl rfl (by decide +kernel) ⟨Nat.le_of_ble_eq_true rfl, Nat.le_of_ble_eq_true rfl⟩) (x_preS hK hP) rfl rfl hl.1 rfl (lv_room (Nat.le_of_ble_eq_true rfl)) dL_law_202 ⟨Nat.le_of_ble_eq_true rfl, Nat.le_of_ble_eq_true rfl⟩) hAd hS (fun r202 E1_8 H locs q202 hP hS => ?_)
                obtain ⟨rfl, hX⟩ := q202
                have h00 := hX.at0
                refine lv_lload S.1 S.2.1 dL_law_205 (lv_at hl 2 rfl) ?_
                refine W.lcmp S.1 S.2.1 dL_law_207 ?_
                refine lv_if_ne (tgt := 215) S.1 S.2.1 dL_law_208 (by decide) (fun c208 => ?_) (fun c208 => ?_)
                · skip
                  exact absurd ((lg_cmp_eq _ _).mpr (by rw [e1, e2])) c208
                · skip
                  refine lv_iconst (v := 1) S.1 S.2.1 dL_law_211 (by decide) ?_
                  refine lv_goto (tgt := 216) S.1 S.2.1 dL_law_212 (by decide) ?_
                  refine lv_istore (lv' := [(9, .int 1), (10, .int (nI (zh z))), (7, .long (dgO (zn z) (zM z) (zn z))), (6, .int (nI (zh z))), (5, .int so), (0, .ref b), (1, .ref (xad g 0)), (2, .int (nI e)), (3, .int gg), (4, .int hh)]) S.1 S.2.1 dL_law_216 hl (by decide) rfl (fun ls hl => ?_)
                  exact kk z2 E1_8 _ _ hX hv2 (hQ2 hQ) hP hS ls (lv_sub hl [5, 6, 7, 0, 8, 9] rfl)
  · skip
    refine lv_iconst (v := 3) S.1 S.2.1 dL_law_144 (by decide) ?_
    refine lv_goto (tgt := 150) S.1 S.2.1 dL_law_145 (by decide) ?_
    refine lv_istore (lv' := [(10, .int 3), (9, .int 1), (7, .long (dgO (zn z) (zM z) (zn z))), (6, .int (nI (zh z))), (5, .int so), (0, .ref b), (1, .ref (xad g 0)), (2, .int (nI e)), (3, .int gg), (4, .int hh)]) S.1 S.2.1 dL_law_150 hl (by decide) rfl (fun ls hl => ?_)
    refine lv_iload S.1 S.2.1 dL_law_152 (lv_at hl 1 rfl) ?_
    refine lv_if_eq (tgt := 218) S.1 S.2.1 dL_law_154 (by decide) (fun c154 => ?_) (fun c154 => ?_)
    · skip
      exact absurd c154 (by decide)
    · skip
      refine lv_iload S.1 S.2.1 dL_law_157 (lv_at hl 9 rfl) ?_
      refine lv_sipush (v := 3072) S.1 S.2.1 dL_law_159 (by decide) ?_
      refine lv_iand S.1 S.2.1 dL_law_162 ?_
      refine lv_if_ne (tgt := 218) S.1 S.2.1 dL_law_163 (by decide) (fun c163 => ?_) (fun c163 => ?_)
      · skip
        exact kk z1 E1_2 _ _ hX hv1 hQ1 hP hS ls (lv_sub hl [5, 6, 7, 1, 8, 9] rfl)
      · skip
        refine lv_aload_n S.1 S.2.1 dL_law_166 rfl (lv_at hl 6 rfl) ?_
        refine lv_iconst (v := 4) S.1 S.2.1 dL_law_167 (by decide) ?_
        refine z_qi (va_runV (As := [.int 4]) (rest := []) S (c_X6_count l g hJ E1_2 hX hv1 4) (cwV 1 S.2.2.2.2 gL_law_X6_count rfl rfl rfl (by decide +kernel) ⟨Nat.le_of_ble_eq_true rfl, Nat.le_of_ble_eq_true rfl⟩) (x_preV hK hP h00 (by decide) rfl) rfl rfl hl.1 rfl (lv_room (Nat.le_of_ble_eq_true rfl)) dL_law_168 ⟨Nat.le_of_ble_eq_true rfl, Nat.le_of_ble_eq_true rfl⟩) hAd hS (fun r168 E1_9 H locs q168 hP hS => ?_)
        obtain ⟨q168, hX, -⟩ := q168
        have h00 := hX.at0
        obtain rfl : r168 = nI (zh z1) := v_ct4 q168
        refine lv_iload S.1 S.2.1 dL_law_171 (lv_at hl 3 rfl) ?_
        refine lv_icmp_ne (tgt := 192) S.1 S.2.1 dL_law_173 (by decide) (fun c173 => ?_) (fun c173 => ?_)
        · skip
          obtain ⟨n9, M9, hz1⟩ := acR_rec hac (fun h => c173 (by rw [h]))
          refine lv_aload_n S.1 S.2.1 dL_law_192 rfl (lv_at hl 6 rfl) ?_
          refine z_qi (va_runV (As := []) (rest := []) S (c_X6_undo l g hJ E1_9 hX hv1) (cwV 0 S.2.2.2.2 gL_law_X6_undo rfl rfl rfl (by decide +kernel) ⟨Nat.le_of_ble_eq_true rfl, Nat.le_of_ble_eq_true rfl⟩) (x_preV hK hP h00 (by decide) rfl) rfl rfl hl.1 rfl (lv_room (Nat.le_of_ble_eq_true rfl)) dL_law_193 ⟨Nat.le_of_ble_eq_true rfl, Nat.le_of_ble_eq_true rfl⟩) hAd hS (fun r193 E1_10 H locs q193 hP hS => ?_)
          obtain ⟨z2, q193, hX, -⟩ := q193
          obtain ⟨e1, e2, rfl, hQ2⟩ := un_do hv hz1 q193
          have hv2 := sp_undo.vS hv1 q193
          have h00 := hX.at0
          refine lv_iload S.1 S.2.1 dL_law_196 (lv_at hl 0 rfl) ?_
          refine lv_icmp_ne (tgt := 215) S.1 S.2.1 dL_law_198 (by decide) (fun c198 => ?_) (fun c198 => ?_)
          · skip
            exact absurd (rcS_4 hv.2.1.1 c141) c198
          · skip
            refine lv_aload_n S.1 S.2.1 dL_law_201 rfl (lv_at hl 6 rfl) ?_
            refine z_ql (va_runS (As := [.ref (xad g 0)]) (rest := []) S (c_L_digest l g hJ E1_10 hX hv2) (va_cwS 1 S.2.2.2.2 gL_law_L_digest rfl rfl rfl (by decide +kernel) ⟨Nat.le_of_ble_eq_true rfl, Nat.le_of_ble_eq_true rfl⟩) (x_preS hK hP) rfl rfl hl.1 rfl (lv_room (Nat.le_of_ble_eq_true rfl)) dL_law_202 ⟨Nat.le_of_ble_eq_true rfl, Nat.le_of_ble_eq_true rfl⟩) hAd hS (fun r202 E1_11 H locs q202 hP hS => ?_)
            obtain ⟨rfl, hX⟩ := q202
            have h00 := hX.at0
            refine lv_lload S.1 S.2.1 dL_law_205 (lv_at hl 2 rfl) ?_
            refine W.lcmp S.1 S.2.1 dL_law_207 ?_
            refine lv_if_ne (tgt := 215) S.1 S.2.1 dL_law_208 (by decide) (fun c208 => ?_) (fun c208 => ?_)
            · skip
              exact absurd ((lg_cmp_eq _ _).mpr (by rw [e1, e2])) c208
            · skip
              refine lv_iconst (v := 1) S.1 S.2.1 dL_law_211 (by decide) ?_
              refine lv_goto (tgt := 216) S.1 S.2.1 dL_law_212 (by decide) ?_
              refine lv_istore (lv' := [(9, .int 1), (10, .int 3), (7, .long (dgO (zn z) (zM z) (zn z))), (6, .int (nI (zh z))), (5, .int so), (0, .ref b), (1, .ref (xad g 0)), (2, .int (nI e)), (3, .int gg), (4, .int hh)]) S.1 S.2.1 dL_law_216 hl (by decide) rfl (fun ls hl => ?_)
              exact kk z2 E1_11 _ _ hX hv2 (hQ2 hQ) hP hS ls (lv_sub hl [5, 6, 7, 0, 8, 9] rfl)
        · skip
          refine lv_iload S.1 S.2.1 dL_law_176 (lv_at hl 3 rfl) ?_
          refine lv_iconst (v := 4) S.1 S.2.1 dL_law_178 (by decide) ?_
          refine lv_icmp_ne (tgt := 218) S.1 S.2.1 dL_law_179 (by decide) (fun c179 => ?_) (fun c179 => ?_)
          · skip
            exact kk z1 E1_9 _ _ hX hv1 hQ1 hP hS ls (lv_sub hl [5, 6, 7, 1, 8, 9] rfl)
          · skip
            refine lv_aload_n S.1 S.2.1 dL_law_182 rfl (lv_at hl 6 rfl) ?_
            refine z_ql (va_runS (As := [.ref (xad g 0)]) (rest := []) S (c_L_digest l g hJ E1_9 hX hv1) (va_cwS 1 S.2.2.2.2 gL_law_L_digest rfl rfl rfl (by decide +kernel) ⟨Nat.le_of_ble_eq_true rfl, Nat.le_of_ble_eq_true rfl⟩) (x_preS hK hP) rfl rfl hl.1 rfl (lv_room (Nat.le_of_ble_eq_true rfl)) dL_law_183 ⟨Nat.le_of_ble_eq_true rfl, Nat.le_of_ble_eq_true rfl⟩) hAd hS (fun r183 E1_12 H locs q183 hP hS => ?_)
            obtain ⟨rfl, hX⟩ := q183
            have h00 := hX.at0
            refine lv_lload S.1 S.2.1 dL_law_186 (lv_at hl 2 rfl) ?_
            refine W.lcmp S.1 S.2.1 dL_law_188 ?_
            refine lv_if_eq (tgt := 218) S.1 S.2.1 dL_law_189 (by decide) (fun c189 => ?_) (fun c189 => ?_)
            · skip
              exact kk z1 E1_12 _ _ hX hv1 hQ1 hP hS ls (lv_sub hl [5, 6, 7, 1, 8, 9] rfl)
            · skip
              obtain ⟨n9, M9, hz1⟩ := acR_rec hac (fun h => c189 ((lg_cmp_eq _ _).mpr (by rw [h])))
              refine lv_aload_n S.1 S.2.1 dL_law_192 rfl (lv_at hl 6 rfl) ?_
              refine z_qi (va_runV (As := []) (rest := []) S (c_X6_undo l g hJ E1_12 hX hv1) (cwV 0 S.2.2.2.2 gL_law_X6_undo rfl rfl rfl (by decide +kernel) ⟨Nat.le_of_ble_eq_true rfl, Nat.le_of_ble_eq_true rfl⟩) (x_preV hK hP h00 (by decide) rfl) rfl rfl hl.1 rfl (lv_room (Nat.le_of_ble_eq_true rfl)) dL_law_193 ⟨Nat.le_of_ble_eq_true rfl, Nat.le_of_ble_eq_true rfl⟩) hAd hS (fun r193 E1_13 H locs q193 hP hS => ?_)
              obtain ⟨z2, q193, hX, -⟩ := q193
              obtain ⟨e1, e2, rfl, hQ2⟩ := un_do hv hz1 q193
              have hv2 := sp_undo.vS hv1 q193
              have h00 := hX.at0
              refine lv_iload S.1 S.2.1 dL_law_196 (lv_at hl 0 rfl) ?_
              refine lv_icmp_ne (tgt := 215) S.1 S.2.1 dL_law_198 (by decide) (fun c198 => ?_) (fun c198 => ?_)
              · skip
                exact absurd (rcS_4 hv.2.1.1 c141) c198
              · skip
                refine lv_aload_n S.1 S.2.1 dL_law_201 rfl (lv_at hl 6 rfl) ?_
                refine z_ql (va_runS (As := [.ref (xad g 0)]) (rest := []) S (c_L_digest l g hJ E1_13 hX hv2) (va_cwS 1 S.2.2.2.2 gL_law_L_digest rfl rfl rfl (by decide +kernel) ⟨Nat.le_of_ble_eq_true rfl, Nat.le_of_ble_eq_true rfl⟩) (x_preS hK hP) rfl rfl hl.1 rfl (lv_room (Nat.le_of_ble_eq_true rfl)) dL_law_202 ⟨Nat.le_of_ble_eq_true rfl, Nat.le_of_ble_eq_true rfl⟩) hAd hS (fun r202 E1_14 H locs q202 hP hS => ?_)
                obtain ⟨rfl, hX⟩ := q202
                have h00 := hX.at0
                refine lv_lload S.1 S.2.1 dL_law_205 (lv_at hl 2 rfl) ?_
                refine W.lcmp S.1 S.2.1 dL_law_207 ?_
                refine lv_if_ne (tgt := 215) S.1 S.2.1 dL_law_208 (by decide) (fun c208 => ?_) (fun c208 => ?_)
                · skip
                  exact absurd ((lg_cmp_eq _ _).mpr (by rw [e1, e2])) c208
                · skip
                  refine lv_iconst (v := 1) S.1 S.2.1 dL_law_211 (by decide) ?_
                  refine lv_goto (tgt := 216) S.1 S.2.1 dL_law_212 (by decide) ?_
                  refine lv_istore (lv' := [(9, .int 1), (10, .int 3), (7, .long (dgO (zn z) (zM z) (zn z))), (6, .int (nI (zh z))), (5, .int so), (0, .ref b), (1, .ref (xad g 0)), (2, .int (nI e)), (3, .int gg), (4, .int hh)]) S.1 S.2.1 dL_law_216 hl (by decide) rfl (fun ls hl => ?_)
                  exact kk z2 E1_14 _ _ hX hv2 (hQ2 hQ) hP hS ls (lv_sub hl [5, 6, 7, 0, 8, 9] rfl)
set_option maxHeartbeats 4000000 in
set_option maxRecDepth 100000 in
/-- THE LAW'S LOOP -/
theorem law_loop {p : Program} {e9 : Env} {s : State} {m : MethodId} {below : List Frame} {meth : Method} {c : Code} {b L : Nat} {xs : Nat → Int32} (l : Launch) (g : xG) (S : CallFix p m c cL_law 12 s #[Value.ref b] wsL_law RL) (hJ : xJ (xad g)) (hK : xK g s) (hAd : ∀ k, k < 65 → zA s (xad g k)) (hXs : va_X b L xs s s.heap) (hbl : b < s.heap.size) (hL : L ≤ 260) (hr : meth.sig.returnType = ret) (hlocks : meth.locks = false) :
    ∀ (d e : Nat), e ≤ 16 → 16 < e + d → ∀ (z : xS) (E : Nat → va_E) (H : Heap) (locs : List Loc), sX g E z → vS z → vQ z → xP g E H → va_S (zA s) s.heap H locs → ∀ ls : Array Slot, lv_has ls 12 [(0, .ref b), (1, .ref (xad g 0)), (2, .int (nI e))] → W p l e9 room_1 s m #[Value.ref b] below meth c H locs 600000 7302250 (lw_Z below #[Value.ref b] s) (F0 m 69 ls []) := by
  intro d
  induction d with
  | zero => intro e h1 h2; exact absurd h2 (by omega)
  | succ d ih =>
    intro e he hd z E H locs hX hv hQ hP hS ls hl
    have h00 := hX.at0
    have hn := hv.1.1
    refine lv_iload_n S.1 S.2.1 dL_law_69 rfl (lv_at hl 2 rfl) ?_
    refine lv_bipush (v := 16) S.1 S.2.1 dL_law_70 (by decide) ?_
    refine lv_icmp_ge (tgt := 314) S.1 S.2.1 dL_law_72 (by decide) (fun c72 => ?_) (fun c72 => ?_)
    · skip
      refine lv_iconst (v := 1) S.1 S.2.1 dL_law_314 (by decide) ?_
      refine va_forget (fun q hq => hS.2.2 q hq) ?_
      exact lw_ret S.1 S.2.1 hr hlocks dL_law_315
    · skip
      have he16 := k16 he c72
      refine lv_aload_n S.1 S.2.1 dL_law_75 rfl (lv_at hl 0 rfl) ?_
      refine lv_iconst (v := 2) S.1 S.2.1 dL_law_76 (by decide) ?_
      refine lv_iload_n S.1 S.2.1 dL_law_77 rfl (lv_at hl 2 rfl) ?_
      refine lv_imul S.1 S.2.1 dL_law_78 ?_
      refine W.eq (g2 := F0 m 79 ls [.int (nI (2 * e)), .ref b]) (by rw [two_nI]) ?_
      refine x_si (va_runS (As := [.ref b, .int (nI (2 * e))]) (rest := []) S (c_L_cell l b L xs (2 * e) (by omega)) (va_cwS 2 S.2.2.2.2 gL_law_L_cell rfl rfl rfl (by decide +kernel) ⟨Nat.le_of_ble_eq_true rfl, Nat.le_of_ble_eq_true rfl⟩) (c_pre hXs hbl hL hS (nI (2 * e))) rfl rfl hl.1 rfl (lv_room (Nat.le_of_ble_eq_true rfl)) dL_law_79 ⟨Nat.le_of_ble_eq_true rfl, Nat.le_of_ble_eq_true rfl⟩) (fun gg _ => ?_)
      refine lv_istore_n (lv' := [(3, .int gg), (0, .ref b), (1, .ref (xad g 0)), (2, .int (nI e))]) S.1 S.2.1 dL_law_82 rfl hl (by decide) rfl (fun ls hl => ?_)
      refine lv_aload_n S.1 S.2.1 dL_law_83 rfl (lv_at hl 1 rfl) ?_
      refine lv_iconst (v := 2) S.1 S.2.1 dL_law_84 (by decide) ?_
      refine lv_iload_n S.1 S.2.1 dL_law_85 rfl (lv_at hl 3 rfl) ?_
      refine lv_imul S.1 S.2.1 dL_law_86 ?_
      refine W.eq (g2 := F0 m 87 ls [.int (nI (2 * e)), .ref b]) (by rw [two_nI]) ?_
      refine lv_iconst (v := 1) S.1 S.2.1 dL_law_87 (by decide) ?_
      refine lv_iadd S.1 S.2.1 dL_law_88 ?_
      refine W.eq (g2 := F0 m 89 ls [.int (nI (2 * e + 1)), .ref b]) (by rw [nI_1]) ?_
      refine x_si (va_runS (As := [.ref b, .int (nI (2 * e + 1))]) (rest := []) S (c_L_cell l b L xs (2 * e + 1) (by omega)) (va_cwS 2 S.2.2.2.2 gL_law_L_cell rfl rfl rfl (by decide +kernel) ⟨Nat.le_of_ble_eq_true rfl, Nat.le_of_ble_eq_true rfl⟩) (c_pre hXs hbl hL hS (nI (2 * e + 1))) rfl rfl hl.1 rfl (lv_room (Nat.le_of_ble_eq_true rfl)) dL_law_89 ⟨Nat.le_of_ble_eq_true rfl, Nat.le_of_ble_eq_true rfl⟩) (fun hh _ => ?_)
      refine lv_istore (lv' := [(4, .int hh), (3, .int gg), (0, .ref b), (1, .ref (xad g 0)), (2, .int (nI e))]) S.1 S.2.1 dL_law_92 hl (by decide) rfl (fun ls hl => ?_)
      refine lv_iload_n S.1 S.2.1 dL_law_94 rfl (lv_at hl 4 rfl) ?_
      refine lv_iconst (v := 4) S.1 S.2.1 dL_law_95 (by decide) ?_
      refine lv_icmp_ge (tgt := 103) S.1 S.2.1 dL_law_96 (by decide) (fun c96 => ?_) (fun c96 => ?_)
      · skip
        refine lv_iload_n S.1 S.2.1 dL_law_103 rfl (lv_at hl 1 rfl) ?_
        refine lv_bipush (v := 18) S.1 S.2.1 dL_law_104 (by decide) ?_
        refine lv_ishr S.1 S.2.1 dL_law_106 ?_
        refine lv_bipush (v := 13) S.1 S.2.1 dL_law_107 (by decide) ?_
        refine W.eq (g2 := F0 m 109 ls [.int (nI 13), .int (gg >>> (18 &&& 31))]) (by rw [show (13 : Int32) = nI 13 from rfl]) ?_
        refine x_si (va_runS (As := [.int (gg >>> (18 &&& 31)), .int (nI 13)]) (rest := []) S (c_L_low l g E (gg >>> (18 &&& 31)) (d := 13) (by decide) (by decide)) (va_cwS 2 S.2.2.2.2 gL_law_L_low rfl rfl rfl (by decide +kernel) ⟨Nat.le_of_ble_eq_true rfl, Nat.le_of_ble_eq_true rfl⟩) (x_preS hK hP) rfl rfl hl.1 rfl (lv_room (Nat.le_of_ble_eq_true rfl)) dL_law_109 ⟨Nat.le_of_ble_eq_true rfl, Nat.le_of_ble_eq_true rfl⟩) (fun r109 hr109 => ?_)
        obtain ⟨so, hso, rfl⟩ := hr109
        refine law_mid l g S hJ hK hAd (e := e) (so := (nI so)) (gg := gg) (hh := hh) hX hv hQ hP hS ?_ (lv_sub hl [2, 3, 4, 1, 0] rfl)
        intro z1 E1 H1 locs1 g1 g2 g3 g4 g5 ls hl
        refine law_tail l g S hJ hK hAd (e := e) (gg := gg) (hh := hh) g1 g2 g3 g4 g5 ?_ hl
        intro z1 E1 H1 locs1 g1 g2 g3 g4 g5 ls hl
        refine lv_iinc (v := nI (e + 1)) (lv' := [(2, .int (nI (e + 1))), (0, .ref b), (1, .ref (xad g 0))]) S.1 S.2.1 dL_law_308 hl (k := 2) rfl (show nI e + Int32.ofInt 1 = _ from nI_1 _) (by decide) rfl (fun ls hl => ?_)
        refine lv_goto (tgt := 69) S.1 S.2.1 dL_law_311 (by decide) ?_
        exact ih (e + 1) (by omega) (by omega) z1 E1 H1 locs1 g1 g2 g3 g4 g5 ls (lv_sub hl [1, 2, 0] rfl)
      · skip
        refine lv_iconst (v := 0) S.1 S.2.1 dL_law_99 (by decide) ?_
        refine lv_goto (tgt := 112) S.1 S.2.1 dL_law_100 (by decide) ?_
        refine law_mid l g S hJ hK hAd (e := e) (so := 0) (gg := gg) (hh := hh) hX hv hQ hP hS ?_ (lv_sub hl [2, 3, 4, 1, 0] rfl)
        intro z1 E1 H1 locs1 g1 g2 g3 g4 g5 ls hl
        refine law_tail l g S hJ hK hAd (e := e) (gg := gg) (hh := hh) g1 g2 g3 g4 g5 ?_ hl
        intro z1 E1 H1 locs1 g1 g2 g3 g4 g5 ls hl
        refine lv_iinc (v := nI (e + 1)) (lv' := [(2, .int (nI (e + 1))), (0, .ref b), (1, .ref (xad g 0))]) S.1 S.2.1 dL_law_308 hl (k := 2) rfl (show nI e + Int32.ofInt 1 = _ from nI_1 _) (by decide) rfl (fun ls hl => ?_)
        refine lv_goto (tgt := 69) S.1 S.2.1 dL_law_311 (by decide) ?_
        exact ih (e + 1) (by omega) (by omega) z1 E1 H1 locs1 g1 g2 g3 g4 g5 ls (lv_sub hl [1, 2, 0] rfl)
set_option maxHeartbeats 4000000 in
set_option maxRecDepth 100000 in
/-- THE LAW'S START, behind the constructor -/
theorem law_start {p : Program} {e9 : Env} {s : State} {m : MethodId} {below : List Frame} {meth : Method} {c : Code} {b L : Nat} {xs : Nat → Int32} (l : Launch) (g : xG) (S : CallFix p m c cL_law 12 s #[Value.ref b] wsL_law RL) (hJ : xJ (xad g)) (hK : xK g s) (hAd : ∀ k, k < 65 → zA s (xad g k)) (hXs : va_X b L xs s s.heap) (hbl : b < s.heap.size) (hL : L ≤ 260) (hr : meth.sig.returnType = ret) (hlocks : meth.locks = false) {E : Nat → va_E} {H : Heap} {locs : List Loc} (hX : sX g E z0) (hP : xP g E H) (hS : va_S (zA s) s.heap H locs) {ls : Array Slot} (hl : lv_has ls 12 [(0, .ref b), (1, .ref (xad g 0))]) : W p l e9 room_1 s m #[Value.ref b] below meth c H locs 600000 7302250 (lw_Z below #[Value.ref b] s) (F0 m 8 ls []) := by
  have h00 := hX.at0
  refine lv_aload_n S.1 S.2.1 dL_law_8 rfl (lv_at hl 1 rfl) ?_
  refine z_qi (va_runV (As := []) (rest := []) S (c_X6_undo l g hJ E hX z0_v) (cwV 0 S.2.2.2.2 gL_law_X6_undo rfl rfl rfl (by decide +kernel) ⟨Nat.le_of_ble_eq_true rfl, Nat.le_of_ble_eq_true rfl⟩) (x_preV hK hP h00 (by decide) rfl) rfl rfl hl.1 rfl (lv_room (Nat.le_of_ble_eq_true rfl)) dL_law_9 ⟨Nat.le_of_ble_eq_true rfl, Nat.le_of_ble_eq_true rfl⟩) hAd hS (fun r9 E1 H locs q9 hP hS => ?_)
  obtain ⟨z9, q9, hX, -⟩ := q9
  obtain ⟨rfl, hz9⟩ := st_un q9
  rw [hz9] at hX
  have h00 := hX.at0
  refine lv_bipush (v := (-5)) S.1 S.2.1 dL_law_12 (by decide) ?_
  refine lv_icmp_ne (tgt := 65) S.1 S.2.1 dL_law_14 (by decide) (fun c14 => ?_) (fun c14 => ?_)
  · skip
    exact absurd c14 (by decide)
  · skip
    refine lv_aload_n S.1 S.2.1 dL_law_17 rfl (lv_at hl 1 rfl) ?_
    refine z_qi (va_runV (As := []) (rest := []) S (c_X6_restore l g hJ E1 hX z0_v) (cwV 0 S.2.2.2.2 gL_law_X6_restore rfl rfl rfl (by decide +kernel) ⟨Nat.le_of_ble_eq_true rfl, Nat.le_of_ble_eq_true rfl⟩) (x_preV hK hP h00 (by decide) rfl) rfl rfl hl.1 rfl (lv_room (Nat.le_of_ble_eq_true rfl)) dL_law_18 ⟨Nat.le_of_ble_eq_true rfl, Nat.le_of_ble_eq_true rfl⟩) hAd hS (fun r18 E1_1 H locs q18 hP hS => ?_)
    obtain ⟨z9, q18, hX, -⟩ := q18
    obtain ⟨rfl, hz9⟩ := st_re q18
    rw [hz9] at hX
    have h00 := hX.at0
    refine lv_bipush (v := (-5)) S.1 S.2.1 dL_law_21 (by decide) ?_
    refine lv_icmp_ne (tgt := 65) S.1 S.2.1 dL_law_23 (by decide) (fun c23 => ?_) (fun c23 => ?_)
    · skip
      exact absurd c23 (by decide)
    · skip
      refine lv_aload_n S.1 S.2.1 dL_law_26 rfl (lv_at hl 1 rfl) ?_
      refine z_qi (va_runV (As := []) (rest := []) S (c_X6_readPhoto l g hJ E1_1 hX z0_v) (cwV 0 S.2.2.2.2 gL_law_X6_readPhoto rfl rfl rfl (by decide +kernel) ⟨Nat.le_of_ble_eq_true rfl, Nat.le_of_ble_eq_true rfl⟩) (x_preV hK hP h00 (by decide) rfl) rfl rfl hl.1 rfl (lv_room (Nat.le_of_ble_eq_true rfl)) dL_law_27 ⟨Nat.le_of_ble_eq_true rfl, Nat.le_of_ble_eq_true rfl⟩) hAd hS (fun r27 E1_2 H locs q27 hP hS => ?_)
      obtain ⟨z9, q27, hX, -⟩ := q27
      obtain ⟨rfl, hz9⟩ := st_rd q27
      rw [hz9] at hX
      have h00 := hX.at0
      refine lv_bipush (v := (-100)) S.1 S.2.1 dL_law_30 (by decide) ?_
      refine lv_icmp_ne (tgt := 65) S.1 S.2.1 dL_law_32 (by decide) (fun c32 => ?_) (fun c32 => ?_)
      · skip
        exact absurd c32 (by decide)
      · skip
        refine lv_aload_n S.1 S.2.1 dL_law_35 rfl (lv_at hl 1 rfl) ?_
        refine lv_iconst (v := 3) S.1 S.2.1 dL_law_36 (by decide) ?_
        refine z_qi (va_runV (As := [.int 3]) (rest := []) S (c_X6_count l g hJ E1_2 hX z0_v 3) (cwV 1 S.2.2.2.2 gL_law_X6_count rfl rfl rfl (by decide +kernel) ⟨Nat.le_of_ble_eq_true rfl, Nat.le_of_ble_eq_true rfl⟩) (x_preV hK hP h00 (by decide) rfl) rfl rfl hl.1 rfl (lv_room (Nat.le_of_ble_eq_true rfl)) dL_law_37 ⟨Nat.le_of_ble_eq_true rfl, Nat.le_of_ble_eq_true rfl⟩) hAd hS (fun r37 E1_3 H locs q37 hP hS => ?_)
        obtain ⟨q37, hX, -⟩ := q37
        have h00 := hX.at0
        obtain rfl : r37 = 0 := st_c3 q37
        refine lv_if_ne (tgt := 65) S.1 S.2.1 dL_law_40 (by decide) (fun c40 => ?_) (fun c40 => ?_)
        · skip
          exact absurd c40 (by decide)
        · skip
          refine lv_aload_n S.1 S.2.1 dL_law_43 rfl (lv_at hl 1 rfl) ?_
          refine lv_iconst (v := 0) S.1 S.2.1 dL_law_44 (by decide) ?_
          refine lv_iconst (v := 0) S.1 S.2.1 dL_law_45 (by decide) ?_
          refine z_qi (va_runV (As := [.int 0, .int 0]) (rest := []) S (c_X6_track l g hJ E1_3 hX z0_v 0 0) (cwV 2 S.2.2.2.2 gL_law_X6_track rfl rfl rfl (by decide +kernel) ⟨Nat.le_of_ble_eq_true rfl, Nat.le_of_ble_eq_true rfl⟩) (x_preV hK hP h00 (by decide) rfl) rfl rfl hl.1 rfl (lv_room (Nat.le_of_ble_eq_true rfl)) dL_law_46 ⟨Nat.le_of_ble_eq_true rfl, Nat.le_of_ble_eq_true rfl⟩) hAd hS (fun r46 E1_4 H locs q46 hP hS => ?_)
          obtain ⟨q46, hX, -⟩ := q46
          have h00 := hX.at0
          obtain rfl : r46 = -5 := st_tr q46
          refine lv_bipush (v := (-5)) S.1 S.2.1 dL_law_49 (by decide) ?_
          refine lv_icmp_ne (tgt := 65) S.1 S.2.1 dL_law_51 (by decide) (fun c51 => ?_) (fun c51 => ?_)
          · skip
            exact absurd c51 (by decide)
          · skip
            refine lv_aload_n S.1 S.2.1 dL_law_54 rfl (lv_at hl 1 rfl) ?_
            refine lv_bipush (v := 100) S.1 S.2.1 dL_law_55 (by decide) ?_
            refine z_qi (va_runV (As := [.int 100]) (rest := []) S (c_X6_angleAt l g hJ E1_4 hX z0_v 100) (cwV 1 S.2.2.2.2 gL_law_X6_angleAt rfl rfl rfl (by decide +kernel) ⟨Nat.le_of_ble_eq_true rfl, Nat.le_of_ble_eq_true rfl⟩) (x_preV hK hP h00 (by decide) rfl) rfl rfl hl.1 rfl (lv_room (Nat.le_of_ble_eq_true rfl)) dL_law_57 ⟨Nat.le_of_ble_eq_true rfl, Nat.le_of_ble_eq_true rfl⟩) hAd hS (fun r57 E1_5 H locs q57 hP hS => ?_)
            obtain ⟨q57, hX, -⟩ := q57
            have h00 := hX.at0
            obtain rfl : r57 = -2 := v_an9 (by decide) q57
            refine lv_bipush (v := (-2)) S.1 S.2.1 dL_law_60 (by decide) ?_
            refine lv_icmp_eq (tgt := 67) S.1 S.2.1 dL_law_62 (by decide) (fun c62 => ?_) (fun c62 => ?_)
            · skip
              refine lv_iconst (v := 0) S.1 S.2.1 dL_law_67 (by decide) ?_
              refine lv_istore_n (lv' := [(2, .int 0), (0, .ref b), (1, .ref (xad g 0))]) S.1 S.2.1 dL_law_68 rfl hl (by decide) rfl (fun ls hl => ?_)
              exact law_loop l g S hJ hK hAd hXs hbl hL hr hlocks 17 0 (Nat.zero_le _) (by omega) z0 E1_5 _ _ hX z0_v z0_Q hP hS ls (lv_sub hl [1, 2, 0] rfl)
            · skip
              exact absurd c62 (by decide)
