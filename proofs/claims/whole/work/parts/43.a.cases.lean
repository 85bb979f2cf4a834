/-! THE LAW, CASE BY CASE: a call of the class, the same of the reference, and their answers are the same -/
set_option maxHeartbeats 4000000 in
set_option maxRecDepth 100000 in
theorem zc_addPhoto {p : Program} {e : Env} {s : State} {m : MethodId} {below : List Frame} {meth : Method} {c : Code} {Q : State → Prop} {b L i : Nat} {xs : Nat → Int32} (l : Launch) (g : xG) (S : CallFix p m c cL_law 4 s #[Value.ref b] wsL_law RL) (hJ : xJ (xad g)) (hK : xK g s) (hAd : ∀ k, k < 75 → zA s (xad g k)) (hX : va_X b L xs s s.heap) (hbl : b < s.heap.size) (hL : L ≤ 3584) (hi : i + 7 ≤ L) {z : xS} {E : Nat → va_E} {H : Heap} {locs : List Loc} (hz : sX g E z) (hm : sM g E z) (hv : vS z) (hP : xP g E H) (hS : va_S (zA s) s.heap H locs) {ls : Array Slot} (hl : lv_has ls 4 [(0, .ref b), (1, .ref (xad g 0)), (2, .ref (xad g 65)), (3, .int (nI i))]) (kk : ∀ (z1 : xS) (E1 : Nat → va_E) (H1 : Heap) (locs1 : List Loc), sX g E1 z1 → sM g E1 z1 → vS z1 → xP g E1 H1 → va_S (zA s) s.heap H1 locs1 → W p l e room_1 s m #[Value.ref b] below meth c H1 locs1 600000 7302250 Q (F0 m 848 ls [])) : W p l e room_1 s m #[Value.ref b] below meth c H locs 600000 7302250 Q (F0 m 144 ls []) := by
  refine lv_aload_n S.1 S.2.1 dL_law_144 rfl (lv_at hl 1 rfl) ?_
  refine z_a1 (n := 1) S hX hbl hS hL hi hl (by decide) dL_law_145 dL_law_146 dL_law_147 (by decide) dL_law_148 dL_law_149 ?_
  refine z_a1 (n := 2) S hX hbl hS hL hi hl (by decide) dL_law_150 dL_law_151 dL_law_152 (by decide) dL_law_153 dL_law_154 ?_
  refine z_a1 (n := 3) S hX hbl hS hL hi hl (by decide) dL_law_155 dL_law_156 dL_law_157 (by decide) dL_law_158 dL_law_159 ?_
  refine z_a1 (n := 4) S hX hbl hS hL hi hl (by decide) dL_law_160 dL_law_161 dL_law_162 (by decide) dL_law_163 dL_law_164 ?_
  refine z_qi (va_runV (As := [.int (xs (i + 1)), .int (xs (i + 2)), .int (xs (i + 3)), .int (xs (i + 4))]) (rest := []) S (c_X6_addPhoto l g hJ E hz hv (xs (i + 1)) (xs (i + 2)) (xs (i + 3)) (xs (i + 4))) (cwV 4 S.2.2.2.2 gL_law_X6_addPhoto rfl rfl rfl (by decide +kernel) ⟨Nat.le_of_ble_eq_true rfl, Nat.le_of_ble_eq_true rfl⟩) (x_preV hK hP hz.at0 (by decide) rfl) rfl rfl hl.1 rfl (lv_room (Nat.le_of_ble_eq_true rfl)) dL_law_165 ⟨Nat.le_of_ble_eq_true rfl, Nat.le_of_ble_eq_true rfl⟩) hAd hS (fun r1 E1 H locs hq hP hS => ?_)
  obtain ⟨z1, hq1, hz1, hf1⟩ := hq
  have hm1 := hm.keep hf1
  obtain ⟨fs, hm0⟩ := hm1.at0
  refine lv_aload_n S.1 S.2.1 dL_law_168 rfl (lv_at hl 2 rfl) ?_
  refine z_a1 (n := 1) S hX hbl hS hL hi hl (by decide) dL_law_169 dL_law_170 dL_law_171 (by decide) dL_law_172 dL_law_173 ?_
  refine z_a1 (n := 2) S hX hbl hS hL hi hl (by decide) dL_law_174 dL_law_175 dL_law_176 (by decide) dL_law_177 dL_law_178 ?_
  refine z_a1 (n := 3) S hX hbl hS hL hi hl (by decide) dL_law_179 dL_law_180 dL_law_181 (by decide) dL_law_182 dL_law_183 ?_
  refine z_a1 (n := 4) S hX hbl hS hL hi hl (by decide) dL_law_184 dL_law_185 dL_law_186 (by decide) dL_law_187 dL_law_188 ?_
  refine z_qi (va_runV (As := [.int (xs (i + 1)), .int (xs (i + 2)), .int (xs (i + 3)), .int (xs (i + 4))]) (rest := [.int r1]) S (c_X7_addPhoto l g hJ E1 hm1 hv (xs (i + 1)) (xs (i + 2)) (xs (i + 3)) (xs (i + 4))) (cwV 4 S.2.2.2.2 gL_law_X7_addPhoto rfl rfl rfl (by decide +kernel) ⟨Nat.le_of_ble_eq_true rfl, Nat.le_of_ble_eq_true rfl⟩) (x_preV hK hP hm0 (by decide) rfl) rfl rfl hl.1 rfl (lv_room (Nat.le_of_ble_eq_true rfl)) dL_law_189 ⟨Nat.le_of_ble_eq_true rfl, Nat.le_of_ble_eq_true rfl⟩) hAd hS (fun r2 E2 H locs hq hP hS => ?_)
  obtain ⟨z2, hq2, hm2, hf2⟩ := hq
  have hz2 := hz1.keep hf2
  obtain ⟨er, ez⟩ := sp_addPhoto.det hq1 hq2
  rw [← ez] at hm2
  exact lv_icmp_eq (tgt := 848) S.1 S.2.1 dL_law_192 (by decide) (fun _ => kk z1 E2 H locs hz2 hm2 (sp_addPhoto.vS hv hq1) hP hS) (fun h => absurd er h)
set_option maxHeartbeats 4000000 in
set_option maxRecDepth 100000 in
theorem zc_readPhoto {p : Program} {e : Env} {s : State} {m : MethodId} {below : List Frame} {meth : Method} {c : Code} {Q : State → Prop} {b L i : Nat} {xs : Nat → Int32} (l : Launch) (g : xG) (S : CallFix p m c cL_law 4 s #[Value.ref b] wsL_law RL) (hJ : xJ (xad g)) (hK : xK g s) (hAd : ∀ k, k < 75 → zA s (xad g k)) (hX : va_X b L xs s s.heap) (hbl : b < s.heap.size) (hL : L ≤ 3584) (hi : i + 7 ≤ L) {z : xS} {E : Nat → va_E} {H : Heap} {locs : List Loc} (hz : sX g E z) (hm : sM g E z) (hv : vS z) (hP : xP g E H) (hS : va_S (zA s) s.heap H locs) {ls : Array Slot} (hl : lv_has ls 4 [(0, .ref b), (1, .ref (xad g 0)), (2, .ref (xad g 65)), (3, .int (nI i))]) (kk : ∀ (z1 : xS) (E1 : Nat → va_E) (H1 : Heap) (locs1 : List Loc), sX g E1 z1 → sM g E1 z1 → vS z1 → xP g E1 H1 → va_S (zA s) s.heap H1 locs1 → W p l e room_1 s m #[Value.ref b] below meth c H1 locs1 600000 7302250 Q (F0 m 848 ls [])) : W p l e room_1 s m #[Value.ref b] below meth c H locs 600000 7302250 Q (F0 m 197 ls []) := by
  refine lv_aload_n S.1 S.2.1 dL_law_197 rfl (lv_at hl 1 rfl) ?_
  refine z_qi (va_runV (As := []) (rest := []) S (c_X6_readPhoto l g hJ E hz hv ) (cwV 0 S.2.2.2.2 gL_law_X6_readPhoto rfl rfl rfl (by decide +kernel) ⟨Nat.le_of_ble_eq_true rfl, Nat.le_of_ble_eq_true rfl⟩) (x_preV hK hP hz.at0 (by decide) rfl) rfl rfl hl.1 rfl (lv_room (Nat.le_of_ble_eq_true rfl)) dL_law_198 ⟨Nat.le_of_ble_eq_true rfl, Nat.le_of_ble_eq_true rfl⟩) hAd hS (fun r1 E1 H locs hq hP hS => ?_)
  obtain ⟨z1, hq1, hz1, hf1⟩ := hq
  have hm1 := hm.keep hf1
  obtain ⟨fs, hm0⟩ := hm1.at0
  refine lv_aload_n S.1 S.2.1 dL_law_201 rfl (lv_at hl 2 rfl) ?_
  refine z_qi (va_runV (As := []) (rest := [.int r1]) S (c_X7_readPhoto l g hJ E1 hm1 hv ) (cwV 0 S.2.2.2.2 gL_law_X7_readPhoto rfl rfl rfl (by decide +kernel) ⟨Nat.le_of_ble_eq_true rfl, Nat.le_of_ble_eq_true rfl⟩) (x_preV hK hP hm0 (by decide) rfl) rfl rfl hl.1 rfl (lv_room (Nat.le_of_ble_eq_true rfl)) dL_law_202 ⟨Nat.le_of_ble_eq_true rfl, Nat.le_of_ble_eq_true rfl⟩) hAd hS (fun r2 E2 H locs hq hP hS => ?_)
  obtain ⟨z2, hq2, hm2, hf2⟩ := hq
  have hz2 := hz1.keep hf2
  obtain ⟨er, ez⟩ := sp_readPhoto.det hq1 hq2
  rw [← ez] at hm2
  exact lv_icmp_eq (tgt := 848) S.1 S.2.1 dL_law_205 (by decide) (fun _ => kk z1 E2 H locs hz2 hm2 (sp_readPhoto.vS hv hq1) hP hS) (fun h => absurd er h)
set_option maxHeartbeats 4000000 in
set_option maxRecDepth 100000 in
theorem zc_setAngle {p : Program} {e : Env} {s : State} {m : MethodId} {below : List Frame} {meth : Method} {c : Code} {Q : State → Prop} {b L i : Nat} {xs : Nat → Int32} (l : Launch) (g : xG) (S : CallFix p m c cL_law 4 s #[Value.ref b] wsL_law RL) (hJ : xJ (xad g)) (hK : xK g s) (hAd : ∀ k, k < 75 → zA s (xad g k)) (hX : va_X b L xs s s.heap) (hbl : b < s.heap.size) (hL : L ≤ 3584) (hi : i + 7 ≤ L) {z : xS} {E : Nat → va_E} {H : Heap} {locs : List Loc} (hz : sX g E z) (hm : sM g E z) (hv : vS z) (hP : xP g E H) (hS : va_S (zA s) s.heap H locs) {ls : Array Slot} (hl : lv_has ls 4 [(0, .ref b), (1, .ref (xad g 0)), (2, .ref (xad g 65)), (3, .int (nI i))]) (kk : ∀ (z1 : xS) (E1 : Nat → va_E) (H1 : Heap) (locs1 : List Loc), sX g E1 z1 → sM g E1 z1 → vS z1 → xP g E1 H1 → va_S (zA s) s.heap H1 locs1 → W p l e room_1 s m #[Value.ref b] below meth c H1 locs1 600000 7302250 Q (F0 m 848 ls [])) : W p l e room_1 s m #[Value.ref b] below meth c H locs 600000 7302250 Q (F0 m 210 ls []) := by
  refine lv_aload_n S.1 S.2.1 dL_law_210 rfl (lv_at hl 1 rfl) ?_
  refine z_a1 (n := 1) S hX hbl hS hL hi hl (by decide) dL_law_211 dL_law_212 dL_law_213 (by decide) dL_law_214 dL_law_215 ?_
  refine z_a1 (n := 2) S hX hbl hS hL hi hl (by decide) dL_law_216 dL_law_217 dL_law_218 (by decide) dL_law_219 dL_law_220 ?_
  refine z_a1 (n := 3) S hX hbl hS hL hi hl (by decide) dL_law_221 dL_law_222 dL_law_223 (by decide) dL_law_224 dL_law_225 ?_
  refine z_qi (va_runV (As := [.int (xs (i + 1)), .int (xs (i + 2)), .int (xs (i + 3))]) (rest := []) S (c_X6_setAngle l g hJ E hz hv (xs (i + 1)) (xs (i + 2)) (xs (i + 3))) (cwV 3 S.2.2.2.2 gL_law_X6_setAngle rfl rfl rfl (by decide +kernel) ⟨Nat.le_of_ble_eq_true rfl, Nat.le_of_ble_eq_true rfl⟩) (x_preV hK hP hz.at0 (by decide) rfl) rfl rfl hl.1 rfl (lv_room (Nat.le_of_ble_eq_true rfl)) dL_law_226 ⟨Nat.le_of_ble_eq_true rfl, Nat.le_of_ble_eq_true rfl⟩) hAd hS (fun r1 E1 H locs hq hP hS => ?_)
  obtain ⟨z1, hq1, hz1, hf1⟩ := hq
  have hm1 := hm.keep hf1
  obtain ⟨fs, hm0⟩ := hm1.at0
  refine lv_aload_n S.1 S.2.1 dL_law_229 rfl (lv_at hl 2 rfl) ?_
  refine z_a1 (n := 1) S hX hbl hS hL hi hl (by decide) dL_law_230 dL_law_231 dL_law_232 (by decide) dL_law_233 dL_law_234 ?_
  refine z_a1 (n := 2) S hX hbl hS hL hi hl (by decide) dL_law_235 dL_law_236 dL_law_237 (by decide) dL_law_238 dL_law_239 ?_
  refine z_a1 (n := 3) S hX hbl hS hL hi hl (by decide) dL_law_240 dL_law_241 dL_law_242 (by decide) dL_law_243 dL_law_244 ?_
  refine z_qi (va_runV (As := [.int (xs (i + 1)), .int (xs (i + 2)), .int (xs (i + 3))]) (rest := [.int r1]) S (c_X7_setAngle l g hJ E1 hm1 hv (xs (i + 1)) (xs (i + 2)) (xs (i + 3))) (cwV 3 S.2.2.2.2 gL_law_X7_setAngle rfl rfl rfl (by decide +kernel) ⟨Nat.le_of_ble_eq_true rfl, Nat.le_of_ble_eq_true rfl⟩) (x_preV hK hP hm0 (by decide) rfl) rfl rfl hl.1 rfl (lv_room (Nat.le_of_ble_eq_true rfl)) dL_law_245 ⟨Nat.le_of_ble_eq_true rfl, Nat.le_of_ble_eq_true rfl⟩) hAd hS (fun r2 E2 H locs hq hP hS => ?_)
  obtain ⟨z2, hq2, hm2, hf2⟩ := hq
  have hz2 := hz1.keep hf2
  obtain ⟨er, ez⟩ := sp_setAngle.det hv hq1 hq2
  rw [← ez] at hm2
  exact lv_icmp_eq (tgt := 848) S.1 S.2.1 dL_law_248 (by decide) (fun _ => kk z1 E2 H locs hz2 hm2 (sp_setAngle.vS hv hq1) hP hS) (fun h => absurd er h)
set_option maxHeartbeats 4000000 in
set_option maxRecDepth 100000 in
theorem zc_move {p : Program} {e : Env} {s : State} {m : MethodId} {below : List Frame} {meth : Method} {c : Code} {Q : State → Prop} {b L i : Nat} {xs : Nat → Int32} (l : Launch) (g : xG) (S : CallFix p m c cL_law 4 s #[Value.ref b] wsL_law RL) (hJ : xJ (xad g)) (hK : xK g s) (hAd : ∀ k, k < 75 → zA s (xad g k)) (hX : va_X b L xs s s.heap) (hbl : b < s.heap.size) (hL : L ≤ 3584) (hi : i + 7 ≤ L) {z : xS} {E : Nat → va_E} {H : Heap} {locs : List Loc} (hz : sX g E z) (hm : sM g E z) (hv : vS z) (hP : xP g E H) (hS : va_S (zA s) s.heap H locs) {ls : Array Slot} (hl : lv_has ls 4 [(0, .ref b), (1, .ref (xad g 0)), (2, .ref (xad g 65)), (3, .int (nI i))]) (kk : ∀ (z1 : xS) (E1 : Nat → va_E) (H1 : Heap) (locs1 : List Loc), sX g E1 z1 → sM g E1 z1 → vS z1 → xP g E1 H1 → va_S (zA s) s.heap H1 locs1 → W p l e room_1 s m #[Value.ref b] below meth c H1 locs1 600000 7302250 Q (F0 m 848 ls [])) : W p l e room_1 s m #[Value.ref b] below meth c H locs 600000 7302250 Q (F0 m 253 ls []) := by
  refine lv_aload_n S.1 S.2.1 dL_law_253 rfl (lv_at hl 1 rfl) ?_
  refine z_a1 (n := 1) S hX hbl hS hL hi hl (by decide) dL_law_254 dL_law_255 dL_law_256 (by decide) dL_law_257 dL_law_258 ?_
  refine z_a1 (n := 2) S hX hbl hS hL hi hl (by decide) dL_law_259 dL_law_260 dL_law_261 (by decide) dL_law_262 dL_law_263 ?_
  refine z_a1 (n := 3) S hX hbl hS hL hi hl (by decide) dL_law_264 dL_law_265 dL_law_266 (by decide) dL_law_267 dL_law_268 ?_
  refine z_qi (va_runV (As := [.int (xs (i + 1)), .int (xs (i + 2)), .int (xs (i + 3))]) (rest := []) S (c_X6_move l g hJ E hz hv (xs (i + 1)) (xs (i + 2)) (xs (i + 3))) (cwV 3 S.2.2.2.2 gL_law_X6_move rfl rfl rfl (by decide +kernel) ⟨Nat.le_of_ble_eq_true rfl, Nat.le_of_ble_eq_true rfl⟩) (x_preV hK hP hz.at0 (by decide) rfl) rfl rfl hl.1 rfl (lv_room (Nat.le_of_ble_eq_true rfl)) dL_law_269 ⟨Nat.le_of_ble_eq_true rfl, Nat.le_of_ble_eq_true rfl⟩) hAd hS (fun r1 E1 H locs hq hP hS => ?_)
  obtain ⟨z1, hq1, hz1, hf1⟩ := hq
  have hm1 := hm.keep hf1
  obtain ⟨fs, hm0⟩ := hm1.at0
  refine lv_aload_n S.1 S.2.1 dL_law_272 rfl (lv_at hl 2 rfl) ?_
  refine z_a1 (n := 1) S hX hbl hS hL hi hl (by decide) dL_law_273 dL_law_274 dL_law_275 (by decide) dL_law_276 dL_law_277 ?_
  refine z_a1 (n := 2) S hX hbl hS hL hi hl (by decide) dL_law_278 dL_law_279 dL_law_280 (by decide) dL_law_281 dL_law_282 ?_
  refine z_a1 (n := 3) S hX hbl hS hL hi hl (by decide) dL_law_283 dL_law_284 dL_law_285 (by decide) dL_law_286 dL_law_287 ?_
  refine z_qi (va_runV (As := [.int (xs (i + 1)), .int (xs (i + 2)), .int (xs (i + 3))]) (rest := [.int r1]) S (c_X7_move l g hJ E1 hm1 hv (xs (i + 1)) (xs (i + 2)) (xs (i + 3))) (cwV 3 S.2.2.2.2 gL_law_X7_move rfl rfl rfl (by decide +kernel) ⟨Nat.le_of_ble_eq_true rfl, Nat.le_of_ble_eq_true rfl⟩) (x_preV hK hP hm0 (by decide) rfl) rfl rfl hl.1 rfl (lv_room (Nat.le_of_ble_eq_true rfl)) dL_law_288 ⟨Nat.le_of_ble_eq_true rfl, Nat.le_of_ble_eq_true rfl⟩) hAd hS (fun r2 E2 H locs hq hP hS => ?_)
  obtain ⟨z2, hq2, hm2, hf2⟩ := hq
  have hz2 := hz1.keep hf2
  obtain ⟨er, ez⟩ := sp_move.det hv hq1 hq2
  rw [← ez] at hm2
  exact lv_icmp_eq (tgt := 848) S.1 S.2.1 dL_law_291 (by decide) (fun _ => kk z1 E2 H locs hz2 hm2 (sp_move.vS hv hq1) hP hS) (fun h => absurd er h)
set_option maxHeartbeats 4000000 in
set_option maxRecDepth 100000 in
theorem zc_setAside {p : Program} {e : Env} {s : State} {m : MethodId} {below : List Frame} {meth : Method} {c : Code} {Q : State → Prop} {b L i : Nat} {xs : Nat → Int32} (l : Launch) (g : xG) (S : CallFix p m c cL_law 4 s #[Value.ref b] wsL_law RL) (hJ : xJ (xad g)) (hK : xK g s) (hAd : ∀ k, k < 75 → zA s (xad g k)) (hX : va_X b L xs s s.heap) (hbl : b < s.heap.size) (hL : L ≤ 3584) (hi : i + 7 ≤ L) {z : xS} {E : Nat → va_E} {H : Heap} {locs : List Loc} (hz : sX g E z) (hm : sM g E z) (hv : vS z) (hP : xP g E H) (hS : va_S (zA s) s.heap H locs) {ls : Array Slot} (hl : lv_has ls 4 [(0, .ref b), (1, .ref (xad g 0)), (2, .ref (xad g 65)), (3, .int (nI i))]) (kk : ∀ (z1 : xS) (E1 : Nat → va_E) (H1 : Heap) (locs1 : List Loc), sX g E1 z1 → sM g E1 z1 → vS z1 → xP g E1 H1 → va_S (zA s) s.heap H1 locs1 → W p l e room_1 s m #[Value.ref b] below meth c H1 locs1 600000 7302250 Q (F0 m 848 ls [])) : W p l e room_1 s m #[Value.ref b] below meth c H locs 600000 7302250 Q (F0 m 296 ls []) := by
  refine lv_aload_n S.1 S.2.1 dL_law_296 rfl (lv_at hl 1 rfl) ?_
  refine z_a1 (n := 1) S hX hbl hS hL hi hl (by decide) dL_law_297 dL_law_298 dL_law_299 (by decide) dL_law_300 dL_law_301 ?_
  refine z_a1 (n := 2) S hX hbl hS hL hi hl (by decide) dL_law_302 dL_law_303 dL_law_304 (by decide) dL_law_305 dL_law_306 ?_
  refine z_nz S dL_law_307 dL_law_310 dL_law_311 dL_law_314 ?_
  refine z_qi (va_runV (As := [.int (xs (i + 1)), .int (bI (decide (xs (i + 2) ≠ 0)))]) (rest := []) S (c_X6_setAside l g hJ E hz hv (xs (i + 1)) (decide (xs (i + 2) ≠ 0))) (cwV 2 S.2.2.2.2 gL_law_X6_setAside rfl rfl rfl (by decide +kernel) ⟨Nat.le_of_ble_eq_true rfl, Nat.le_of_ble_eq_true rfl⟩) (x_preV hK hP hz.at0 (by decide) rfl) rfl rfl hl.1 rfl (lv_room (Nat.le_of_ble_eq_true rfl)) dL_law_315 ⟨Nat.le_of_ble_eq_true rfl, Nat.le_of_ble_eq_true rfl⟩) hAd hS (fun r1 E1 H locs hq hP hS => ?_)
  obtain ⟨z1, hq1, hz1, hf1⟩ := hq
  have hm1 := hm.keep hf1
  obtain ⟨fs, hm0⟩ := hm1.at0
  refine lv_aload_n S.1 S.2.1 dL_law_318 rfl (lv_at hl 2 rfl) ?_
  refine z_a1 (n := 1) S hX hbl hS hL hi hl (by decide) dL_law_319 dL_law_320 dL_law_321 (by decide) dL_law_322 dL_law_323 ?_
  refine z_a1 (n := 2) S hX hbl hS hL hi hl (by decide) dL_law_324 dL_law_325 dL_law_326 (by decide) dL_law_327 dL_law_328 ?_
  refine z_nz S dL_law_329 dL_law_332 dL_law_333 dL_law_336 ?_
  refine z_qi (va_runV (As := [.int (xs (i + 1)), .int (bI (decide (xs (i + 2) ≠ 0)))]) (rest := [.int r1]) S (c_X7_setAside l g hJ E1 hm1 hv (xs (i + 1)) (decide (xs (i + 2) ≠ 0))) (cwV 2 S.2.2.2.2 gL_law_X7_setAside rfl rfl rfl (by decide +kernel) ⟨Nat.le_of_ble_eq_true rfl, Nat.le_of_ble_eq_true rfl⟩) (x_preV hK hP hm0 (by decide) rfl) rfl rfl hl.1 rfl (lv_room (Nat.le_of_ble_eq_true rfl)) dL_law_337 ⟨Nat.le_of_ble_eq_true rfl, Nat.le_of_ble_eq_true rfl⟩) hAd hS (fun r2 E2 H locs hq hP hS => ?_)
  obtain ⟨z2, hq2, hm2, hf2⟩ := hq
  have hz2 := hz1.keep hf2
  obtain ⟨er, ez⟩ := sp_setAside.det hv hq1 hq2
  rw [← ez] at hm2
  exact lv_icmp_eq (tgt := 848) S.1 S.2.1 dL_law_340 (by decide) (fun _ => kk z1 E2 H locs hz2 hm2 (sp_setAside.vS hv hq1) hP hS) (fun h => absurd er h)
set_option maxHeartbeats 4000000 in
set_option maxRecDepth 100000 in
theorem zc_dropMissed {p : Program} {e : Env} {s : State} {m : MethodId} {below : List Frame} {meth : Method} {c : Code} {Q : State → Prop} {b L i : Nat} {xs : Nat → Int32} (l : Launch) (g : xG) (S : CallFix p m c cL_law 4 s #[Value.ref b] wsL_law RL) (hJ : xJ (xad g)) (hK : xK g s) (hAd : ∀ k, k < 75 → zA s (xad g k)) (hX : va_X b L xs s s.heap) (hbl : b < s.heap.size) (hL : L ≤ 3584) (hi : i + 7 ≤ L) {z : xS} {E : Nat → va_E} {H : Heap} {locs : List Loc} (hz : sX g E z) (hm : sM g E z) (hv : vS z) (hP : xP g E H) (hS : va_S (zA s) s.heap H locs) {ls : Array Slot} (hl : lv_has ls 4 [(0, .ref b), (1, .ref (xad g 0)), (2, .ref (xad g 65)), (3, .int (nI i))]) (kk : ∀ (z1 : xS) (E1 : Nat → va_E) (H1 : Heap) (locs1 : List Loc), sX g E1 z1 → sM g E1 z1 → vS z1 → xP g E1 H1 → va_S (zA s) s.heap H1 locs1 → W p l e room_1 s m #[Value.ref b] below meth c H1 locs1 600000 7302250 Q (F0 m 848 ls [])) : W p l e room_1 s m #[Value.ref b] below meth c H locs 600000 7302250 Q (F0 m 345 ls []) := by
  refine lv_aload_n S.1 S.2.1 dL_law_345 rfl (lv_at hl 1 rfl) ?_
  refine z_qi (va_runV (As := []) (rest := []) S (c_X6_dropMissed l g hJ E hz hv ) (cwV 0 S.2.2.2.2 gL_law_X6_dropMissed rfl rfl rfl (by decide +kernel) ⟨Nat.le_of_ble_eq_true rfl, Nat.le_of_ble_eq_true rfl⟩) (x_preV hK hP hz.at0 (by decide) rfl) rfl rfl hl.1 rfl (lv_room (Nat.le_of_ble_eq_true rfl)) dL_law_346 ⟨Nat.le_of_ble_eq_true rfl, Nat.le_of_ble_eq_true rfl⟩) hAd hS (fun r1 E1 H locs hq hP hS => ?_)
  obtain ⟨z1, hq1, hz1, hf1⟩ := hq
  have hm1 := hm.keep hf1
  obtain ⟨fs, hm0⟩ := hm1.at0
  refine lv_aload_n S.1 S.2.1 dL_law_349 rfl (lv_at hl 2 rfl) ?_
  refine z_qi (va_runV (As := []) (rest := [.int r1]) S (c_X7_dropMissed l g hJ E1 hm1 hv ) (cwV 0 S.2.2.2.2 gL_law_X7_dropMissed rfl rfl rfl (by decide +kernel) ⟨Nat.le_of_ble_eq_true rfl, Nat.le_of_ble_eq_true rfl⟩) (x_preV hK hP hm0 (by decide) rfl) rfl rfl hl.1 rfl (lv_room (Nat.le_of_ble_eq_true rfl)) dL_law_350 ⟨Nat.le_of_ble_eq_true rfl, Nat.le_of_ble_eq_true rfl⟩) hAd hS (fun r2 E2 H locs hq hP hS => ?_)
  obtain ⟨z2, hq2, hm2, hf2⟩ := hq
  have hz2 := hz1.keep hf2
  obtain ⟨er, ez⟩ := sp_dropMissed.det hv hq1 hq2
  rw [← ez] at hm2
  exact lv_icmp_eq (tgt := 848) S.1 S.2.1 dL_law_353 (by decide) (fun _ => kk z1 E2 H locs hz2 hm2 (sp_dropMissed.vS hv hq1) hP hS) (fun h => absurd er h)
set_option maxHeartbeats 4000000 in
set_option maxRecDepth 100000 in
theorem zc_remove {p : Program} {e : Env} {s : State} {m : MethodId} {below : List Frame} {meth : Method} {c : Code} {Q : State → Prop} {b L i : Nat} {xs : Nat → Int32} (l : Launch) (g : xG) (S : CallFix p m c cL_law 4 s #[Value.ref b] wsL_law RL) (hJ : xJ (xad g)) (hK : xK g s) (hAd : ∀ k, k < 75 → zA s (xad g k)) (hX : va_X b L xs s s.heap) (hbl : b < s.heap.size) (hL : L ≤ 3584) (hi : i + 7 ≤ L) {z : xS} {E : Nat → va_E} {H : Heap} {locs : List Loc} (hz : sX g E z) (hm : sM g E z) (hv : vS z) (hP : xP g E H) (hS : va_S (zA s) s.heap H locs) {ls : Array Slot} (hl : lv_has ls 4 [(0, .ref b), (1, .ref (xad g 0)), (2, .ref (xad g 65)), (3, .int (nI i))]) (kk : ∀ (z1 : xS) (E1 : Nat → va_E) (H1 : Heap) (locs1 : List Loc), sX g E1 z1 → sM g E1 z1 → vS z1 → xP g E1 H1 → va_S (zA s) s.heap H1 locs1 → W p l e room_1 s m #[Value.ref b] below meth c H1 locs1 600000 7302250 Q (F0 m 848 ls [])) : W p l e room_1 s m #[Value.ref b] below meth c H locs 600000 7302250 Q (F0 m 358 ls []) := by
  refine lv_aload_n S.1 S.2.1 dL_law_358 rfl (lv_at hl 1 rfl) ?_
  refine z_a1 (n := 1) S hX hbl hS hL hi hl (by decide) dL_law_359 dL_law_360 dL_law_361 (by decide) dL_law_362 dL_law_363 ?_
  refine z_qi (va_runV (As := [.int (xs (i + 1))]) (rest := []) S (c_X6_remove l g hJ E hz hv (xs (i + 1))) (cwV 1 S.2.2.2.2 gL_law_X6_remove rfl rfl rfl (by decide +kernel) ⟨Nat.le_of_ble_eq_true rfl, Nat.le_of_ble_eq_true rfl⟩) (x_preV hK hP hz.at0 (by decide) rfl) rfl rfl hl.1 rfl (lv_room (Nat.le_of_ble_eq_true rfl)) dL_law_364 ⟨Nat.le_of_ble_eq_true rfl, Nat.le_of_ble_eq_true rfl⟩) hAd hS (fun r1 E1 H locs hq hP hS => ?_)
  obtain ⟨z1, hq1, hz1, hf1⟩ := hq
  have hm1 := hm.keep hf1
  obtain ⟨fs, hm0⟩ := hm1.at0
  refine lv_aload_n S.1 S.2.1 dL_law_367 rfl (lv_at hl 2 rfl) ?_
  refine z_a1 (n := 1) S hX hbl hS hL hi hl (by decide) dL_law_368 dL_law_369 dL_law_370 (by decide) dL_law_371 dL_law_372 ?_
  refine z_qi (va_runV (As := [.int (xs (i + 1))]) (rest := [.int r1]) S (c_X7_remove l g hJ E1 hm1 hv (xs (i + 1))) (cwV 1 S.2.2.2.2 gL_law_X7_remove rfl rfl rfl (by decide +kernel) ⟨Nat.le_of_ble_eq_true rfl, Nat.le_of_ble_eq_true rfl⟩) (x_preV hK hP hm0 (by decide) rfl) rfl rfl hl.1 rfl (lv_room (Nat.le_of_ble_eq_true rfl)) dL_law_373 ⟨Nat.le_of_ble_eq_true rfl, Nat.le_of_ble_eq_true rfl⟩) hAd hS (fun r2 E2 H locs hq hP hS => ?_)
  obtain ⟨z2, hq2, hm2, hf2⟩ := hq
  have hz2 := hz1.keep hf2
  obtain ⟨er, ez⟩ := sp_remove.det hv hq1 hq2
  rw [← ez] at hm2
  exact lv_icmp_eq (tgt := 848) S.1 S.2.1 dL_law_376 (by decide) (fun _ => kk z1 E2 H locs hz2 hm2 (sp_remove.vS hv hq1) hP hS) (fun h => absurd er h)
set_option maxHeartbeats 4000000 in
set_option maxRecDepth 100000 in
theorem zc_type {p : Program} {e : Env} {s : State} {m : MethodId} {below : List Frame} {meth : Method} {c : Code} {Q : State → Prop} {b L i : Nat} {xs : Nat → Int32} (l : Launch) (g : xG) (S : CallFix p m c cL_law 4 s #[Value.ref b] wsL_law RL) (hJ : xJ (xad g)) (hK : xK g s) (hAd : ∀ k, k < 75 → zA s (xad g k)) (hX : va_X b L xs s s.heap) (hbl : b < s.heap.size) (hL : L ≤ 3584) (hi : i + 7 ≤ L) {z : xS} {E : Nat → va_E} {H : Heap} {locs : List Loc} (hz : sX g E z) (hm : sM g E z) (hv : vS z) (hP : xP g E H) (hS : va_S (zA s) s.heap H locs) {ls : Array Slot} (hl : lv_has ls 4 [(0, .ref b), (1, .ref (xad g 0)), (2, .ref (xad g 65)), (3, .int (nI i))]) (kk : ∀ (z1 : xS) (E1 : Nat → va_E) (H1 : Heap) (locs1 : List Loc), sX g E1 z1 → sM g E1 z1 → vS z1 → xP g E1 H1 → va_S (zA s) s.heap H1 locs1 → W p l e room_1 s m #[Value.ref b] below meth c H1 locs1 600000 7302250 Q (F0 m 848 ls [])) : W p l e room_1 s m #[Value.ref b] below meth c H locs 600000 7302250 Q (F0 m 381 ls []) := by
  refine lv_aload_n S.1 S.2.1 dL_law_381 rfl (lv_at hl 1 rfl) ?_
  refine z_a1 (n := 1) S hX hbl hS hL hi hl (by decide) dL_law_382 dL_law_383 dL_law_384 (by decide) dL_law_385 dL_law_386 ?_
  refine lv_i2c (v := ((xs (i + 1)).toUInt32 % 65536).toInt32) S.1 S.2.1 dL_law_387 rfl ?_
  refine z_qi (va_runV (As := [.int (((xs (i + 1)).toUInt32 % 65536).toInt32)]) (rest := []) S (c_X6_type l g hJ E hz hv (((xs (i + 1)).toUInt32 % 65536).toInt32)) (cwV 1 S.2.2.2.2 gL_law_X6_type rfl rfl rfl (by decide +kernel) ⟨Nat.le_of_ble_eq_true rfl, Nat.le_of_ble_eq_true rfl⟩) (x_preV hK hP hz.at0 (by decide) rfl) rfl rfl hl.1 rfl (lv_room (Nat.le_of_ble_eq_true rfl)) dL_law_388 ⟨Nat.le_of_ble_eq_true rfl, Nat.le_of_ble_eq_true rfl⟩) hAd hS (fun r1 E1 H locs hq hP hS => ?_)
  obtain ⟨z1, hq1, hz1, hf1⟩ := hq
  have hm1 := hm.keep hf1
  obtain ⟨fs, hm0⟩ := hm1.at0
  refine lv_aload_n S.1 S.2.1 dL_law_391 rfl (lv_at hl 2 rfl) ?_
  refine z_a1 (n := 1) S hX hbl hS hL hi hl (by decide) dL_law_392 dL_law_393 dL_law_394 (by decide) dL_law_395 dL_law_396 ?_
  refine lv_i2c (v := ((xs (i + 1)).toUInt32 % 65536).toInt32) S.1 S.2.1 dL_law_397 rfl ?_
  refine z_qi (va_runV (As := [.int (((xs (i + 1)).toUInt32 % 65536).toInt32)]) (rest := [.int r1]) S (c_X7_type l g hJ E1 hm1 hv (((xs (i + 1)).toUInt32 % 65536).toInt32)) (cwV 1 S.2.2.2.2 gL_law_X7_type rfl rfl rfl (by decide +kernel) ⟨Nat.le_of_ble_eq_true rfl, Nat.le_of_ble_eq_true rfl⟩) (x_preV hK hP hm0 (by decide) rfl) rfl rfl hl.1 rfl (lv_room (Nat.le_of_ble_eq_true rfl)) dL_law_398 ⟨Nat.le_of_ble_eq_true rfl, Nat.le_of_ble_eq_true rfl⟩) hAd hS (fun r2 E2 H locs hq hP hS => ?_)
  obtain ⟨z2, hq2, hm2, hf2⟩ := hq
  have hz2 := hz1.keep hf2
  obtain ⟨er, ez⟩ := sp_type.det hq1 hq2
  rw [← ez] at hm2
  exact lv_icmp_eq (tgt := 848) S.1 S.2.1 dL_law_401 (by decide) (fun _ => kk z1 E2 H locs hz2 hm2 (sp_type.vS hv hq1) hP hS) (fun h => absurd er h)
set_option maxHeartbeats 4000000 in
set_option maxRecDepth 100000 in
theorem zc_clearText {p : Program} {e : Env} {s : State} {m : MethodId} {below : List Frame} {meth : Method} {c : Code} {Q : State → Prop} {b L i : Nat} {xs : Nat → Int32} (l : Launch) (g : xG) (S : CallFix p m c cL_law 4 s #[Value.ref b] wsL_law RL) (hJ : xJ (xad g)) (hK : xK g s) (hAd : ∀ k, k < 75 → zA s (xad g k)) (hX : va_X b L xs s s.heap) (hbl : b < s.heap.size) (hL : L ≤ 3584) (hi : i + 7 ≤ L) {z : xS} {E : Nat → va_E} {H : Heap} {locs : List Loc} (hz : sX g E z) (hm : sM g E z) (hv : vS z) (hP : xP g E H) (hS : va_S (zA s) s.heap H locs) {ls : Array Slot} (hl : lv_has ls 4 [(0, .ref b), (1, .ref (xad g 0)), (2, .ref (xad g 65)), (3, .int (nI i))]) (kk : ∀ (z1 : xS) (E1 : Nat → va_E) (H1 : Heap) (locs1 : List Loc), sX g E1 z1 → sM g E1 z1 → vS z1 → xP g E1 H1 → va_S (zA s) s.heap H1 locs1 → W p l e room_1 s m #[Value.ref b] below meth c H1 locs1 600000 7302250 Q (F0 m 848 ls [])) : W p l e room_1 s m #[Value.ref b] below meth c H locs 600000 7302250 Q (F0 m 406 ls []) := by
  refine lv_aload_n S.1 S.2.1 dL_law_406 rfl (lv_at hl 1 rfl) ?_
  refine z_qi (va_runV (As := []) (rest := []) S (c_X6_clearText l g hJ E hz hv ) (cwV 0 S.2.2.2.2 gL_law_X6_clearText rfl rfl rfl (by decide +kernel) ⟨Nat.le_of_ble_eq_true rfl, Nat.le_of_ble_eq_true rfl⟩) (x_preV hK hP hz.at0 (by decide) rfl) rfl rfl hl.1 rfl (lv_room (Nat.le_of_ble_eq_true rfl)) dL_law_407 ⟨Nat.le_of_ble_eq_true rfl, Nat.le_of_ble_eq_true rfl⟩) hAd hS (fun r1 E1 H locs hq hP hS => ?_)
  obtain ⟨z1, hq1, hz1, hf1⟩ := hq
  have hm1 := hm.keep hf1
  obtain ⟨fs, hm0⟩ := hm1.at0
  refine lv_aload_n S.1 S.2.1 dL_law_410 rfl (lv_at hl 2 rfl) ?_
  refine z_qi (va_runV (As := []) (rest := [.int r1]) S (c_X7_clearText l g hJ E1 hm1 hv ) (cwV 0 S.2.2.2.2 gL_law_X7_clearText rfl rfl rfl (by decide +kernel) ⟨Nat.le_of_ble_eq_true rfl, Nat.le_of_ble_eq_true rfl⟩) (x_preV hK hP hm0 (by decide) rfl) rfl rfl hl.1 rfl (lv_room (Nat.le_of_ble_eq_true rfl)) dL_law_411 ⟨Nat.le_of_ble_eq_true rfl, Nat.le_of_ble_eq_true rfl⟩) hAd hS (fun r2 E2 H locs hq hP hS => ?_)
  obtain ⟨z2, hq2, hm2, hf2⟩ := hq
  have hz2 := hz1.keep hf2
  obtain ⟨er, ez⟩ := sp_clearText.det hq1 hq2
  rw [← ez] at hm2
  exact lv_icmp_eq (tgt := 848) S.1 S.2.1 dL_law_414 (by decide) (fun _ => kk z1 E2 H locs hz2 hm2 (sp_clearText.vS hv hq1) hP hS) (fun h => absurd er h)
set_option maxHeartbeats 4000000 in
set_option maxRecDepth 100000 in
theorem zc_undo {p : Program} {e : Env} {s : State} {m : MethodId} {below : List Frame} {meth : Method} {c : Code} {Q : State → Prop} {b L i : Nat} {xs : Nat → Int32} (l : Launch) (g : xG) (S : CallFix p m c cL_law 4 s #[Value.ref b] wsL_law RL) (hJ : xJ (xad g)) (hK : xK g s) (hAd : ∀ k, k < 75 → zA s (xad g k)) (hX : va_X b L xs s s.heap) (hbl : b < s.heap.size) (hL : L ≤ 3584) (hi : i + 7 ≤ L) {z : xS} {E : Nat → va_E} {H : Heap} {locs : List Loc} (hz : sX g E z) (hm : sM g E z) (hv : vS z) (hP : xP g E H) (hS : va_S (zA s) s.heap H locs) {ls : Array Slot} (hl : lv_has ls 4 [(0, .ref b), (1, .ref (xad g 0)), (2, .ref (xad g 65)), (3, .int (nI i))]) (kk : ∀ (z1 : xS) (E1 : Nat → va_E) (H1 : Heap) (locs1 : List Loc), sX g E1 z1 → sM g E1 z1 → vS z1 → xP g E1 H1 → va_S (zA s) s.heap H1 locs1 → W p l e room_1 s m #[Value.ref b] below meth c H1 locs1 600000 7302250 Q (F0 m 848 ls [])) : W p l e room_1 s m #[Value.ref b] below meth c H locs 600000 7302250 Q (F0 m 419 ls []) := by
  refine lv_aload_n S.1 S.2.1 dL_law_419 rfl (lv_at hl 1 rfl) ?_
  refine z_qi (va_runV (As := []) (rest := []) S (c_X6_undo l g hJ E hz hv ) (cwV 0 S.2.2.2.2 gL_law_X6_undo rfl rfl rfl (by decide +kernel) ⟨Nat.le_of_ble_eq_true rfl, Nat.le_of_ble_eq_true rfl⟩) (x_preV hK hP hz.at0 (by decide) rfl) rfl rfl hl.1 rfl (lv_room (Nat.le_of_ble_eq_true rfl)) dL_law_420 ⟨Nat.le_of_ble_eq_true rfl, Nat.le_of_ble_eq_true rfl⟩) hAd hS (fun r1 E1 H locs hq hP hS => ?_)
  obtain ⟨z1, hq1, hz1, hf1⟩ := hq
  have hm1 := hm.keep hf1
  obtain ⟨fs, hm0⟩ := hm1.at0
  refine lv_aload_n S.1 S.2.1 dL_law_423 rfl (lv_at hl 2 rfl) ?_
  refine z_qi (va_runV (As := []) (rest := [.int r1]) S (c_X7_undo l g hJ E1 hm1 hv ) (cwV 0 S.2.2.2.2 gL_law_X7_undo rfl rfl rfl (by decide +kernel) ⟨Nat.le_of_ble_eq_true rfl, Nat.le_of_ble_eq_true rfl⟩) (x_preV hK hP hm0 (by decide) rfl) rfl rfl hl.1 rfl (lv_room (Nat.le_of_ble_eq_true rfl)) dL_law_424 ⟨Nat.le_of_ble_eq_true rfl, Nat.le_of_ble_eq_true rfl⟩) hAd hS (fun r2 E2 H locs hq hP hS => ?_)
  obtain ⟨z2, hq2, hm2, hf2⟩ := hq
  have hz2 := hz1.keep hf2
  obtain ⟨er, ez⟩ := sp_undo.det hq1 hq2
  rw [← ez] at hm2
  exact lv_icmp_eq (tgt := 848) S.1 S.2.1 dL_law_427 (by decide) (fun _ => kk z1 E2 H locs hz2 hm2 (sp_undo.vS hv hq1) hP hS) (fun h => absurd er h)
set_option maxHeartbeats 4000000 in
set_option maxRecDepth 100000 in
theorem zc_keep {p : Program} {e : Env} {s : State} {m : MethodId} {below : List Frame} {meth : Method} {c : Code} {Q : State → Prop} {b L i : Nat} {xs : Nat → Int32} (l : Launch) (g : xG) (S : CallFix p m c cL_law 4 s #[Value.ref b] wsL_law RL) (hJ : xJ (xad g)) (hK : xK g s) (hAd : ∀ k, k < 75 → zA s (xad g k)) (hX : va_X b L xs s s.heap) (hbl : b < s.heap.size) (hL : L ≤ 3584) (hi : i + 7 ≤ L) {z : xS} {E : Nat → va_E} {H : Heap} {locs : List Loc} (hz : sX g E z) (hm : sM g E z) (hv : vS z) (hP : xP g E H) (hS : va_S (zA s) s.heap H locs) {ls : Array Slot} (hl : lv_has ls 4 [(0, .ref b), (1, .ref (xad g 0)), (2, .ref (xad g 65)), (3, .int (nI i))]) (kk : ∀ (z1 : xS) (E1 : Nat → va_E) (H1 : Heap) (locs1 : List Loc), sX g E1 z1 → sM g E1 z1 → vS z1 → xP g E1 H1 → va_S (zA s) s.heap H1 locs1 → W p l e room_1 s m #[Value.ref b] below meth c H1 locs1 600000 7302250 Q (F0 m 848 ls [])) : W p l e room_1 s m #[Value.ref b] below meth c H locs 600000 7302250 Q (F0 m 432 ls []) := by
  refine lv_aload_n S.1 S.2.1 dL_law_432 rfl (lv_at hl 1 rfl) ?_
  refine z_qi (va_runV (As := []) (rest := []) S (c_X6_keep l g hJ E hz hv ) (cwV 0 S.2.2.2.2 gL_law_X6_keep rfl rfl rfl (by decide +kernel) ⟨Nat.le_of_ble_eq_true rfl, Nat.le_of_ble_eq_true rfl⟩) (x_preV hK hP hz.at0 (by decide) rfl) rfl rfl hl.1 rfl (lv_room (Nat.le_of_ble_eq_true rfl)) dL_law_433 ⟨Nat.le_of_ble_eq_true rfl, Nat.le_of_ble_eq_true rfl⟩) hAd hS (fun r1 E1 H locs hq hP hS => ?_)
  obtain ⟨z1, hq1, hz1, hf1⟩ := hq
  have hm1 := hm.keep hf1
  obtain ⟨fs, hm0⟩ := hm1.at0
  refine lv_aload_n S.1 S.2.1 dL_law_436 rfl (lv_at hl 2 rfl) ?_
  refine z_qi (va_runV (As := []) (rest := [.int r1]) S (c_X7_keep l g hJ E1 hm1 hv ) (cwV 0 S.2.2.2.2 gL_law_X7_keep rfl rfl rfl (by decide +kernel) ⟨Nat.le_of_ble_eq_true rfl, Nat.le_of_ble_eq_true rfl⟩) (x_preV hK hP hm0 (by decide) rfl) rfl rfl hl.1 rfl (lv_room (Nat.le_of_ble_eq_true rfl)) dL_law_437 ⟨Nat.le_of_ble_eq_true rfl, Nat.le_of_ble_eq_true rfl⟩) hAd hS (fun r2 E2 H locs hq hP hS => ?_)
  obtain ⟨z2, hq2, hm2, hf2⟩ := hq
  have hz2 := hz1.keep hf2
  obtain ⟨er, ez⟩ := sp_keep.det hq1 hq2
  rw [← ez] at hm2
  exact lv_icmp_eq (tgt := 848) S.1 S.2.1 dL_law_440 (by decide) (fun _ => kk z1 E2 H locs hz2 hm2 (sp_keep.vS hv hq1) hP hS) (fun h => absurd er h)
set_option maxHeartbeats 4000000 in
set_option maxRecDepth 100000 in
theorem zc_restore {p : Program} {e : Env} {s : State} {m : MethodId} {below : List Frame} {meth : Method} {c : Code} {Q : State → Prop} {b L i : Nat} {xs : Nat → Int32} (l : Launch) (g : xG) (S : CallFix p m c cL_law 4 s #[Value.ref b] wsL_law RL) (hJ : xJ (xad g)) (hK : xK g s) (hAd : ∀ k, k < 75 → zA s (xad g k)) (hX : va_X b L xs s s.heap) (hbl : b < s.heap.size) (hL : L ≤ 3584) (hi : i + 7 ≤ L) {z : xS} {E : Nat → va_E} {H : Heap} {locs : List Loc} (hz : sX g E z) (hm : sM g E z) (hv : vS z) (hP : xP g E H) (hS : va_S (zA s) s.heap H locs) {ls : Array Slot} (hl : lv_has ls 4 [(0, .ref b), (1, .ref (xad g 0)), (2, .ref (xad g 65)), (3, .int (nI i))]) (kk : ∀ (z1 : xS) (E1 : Nat → va_E) (H1 : Heap) (locs1 : List Loc), sX g E1 z1 → sM g E1 z1 → vS z1 → xP g E1 H1 → va_S (zA s) s.heap H1 locs1 → W p l e room_1 s m #[Value.ref b] below meth c H1 locs1 600000 7302250 Q (F0 m 848 ls [])) : W p l e room_1 s m #[Value.ref b] below meth c H locs 600000 7302250 Q (F0 m 445 ls []) := by
  refine lv_aload_n S.1 S.2.1 dL_law_445 rfl (lv_at hl 1 rfl) ?_
  refine z_qi (va_runV (As := []) (rest := []) S (c_X6_restore l g hJ E hz hv ) (cwV 0 S.2.2.2.2 gL_law_X6_restore rfl rfl rfl (by decide +kernel) ⟨Nat.le_of_ble_eq_true rfl, Nat.le_of_ble_eq_true rfl⟩) (x_preV hK hP hz.at0 (by decide) rfl) rfl rfl hl.1 rfl (lv_room (Nat.le_of_ble_eq_true rfl)) dL_law_446 ⟨Nat.le_of_ble_eq_true rfl, Nat.le_of_ble_eq_true rfl⟩) hAd hS (fun r1 E1 H locs hq hP hS => ?_)
  obtain ⟨z1, hq1, hz1, hf1⟩ := hq
  have hm1 := hm.keep hf1
  obtain ⟨fs, hm0⟩ := hm1.at0
  refine lv_aload_n S.1 S.2.1 dL_law_449 rfl (lv_at hl 2 rfl) ?_
  refine z_qi (va_runV (As := []) (rest := [.int r1]) S (c_X7_restore l g hJ E1 hm1 hv ) (cwV 0 S.2.2.2.2 gL_law_X7_restore rfl rfl rfl (by decide +kernel) ⟨Nat.le_of_ble_eq_true rfl, Nat.le_of_ble_eq_true rfl⟩) (x_preV hK hP hm0 (by decide) rfl) rfl rfl hl.1 rfl (lv_room (Nat.le_of_ble_eq_true rfl)) dL_law_450 ⟨Nat.le_of_ble_eq_true rfl, Nat.le_of_ble_eq_true rfl⟩) hAd hS (fun r2 E2 H locs hq hP hS => ?_)
  obtain ⟨z2, hq2, hm2, hf2⟩ := hq
  have hz2 := hz1.keep hf2
  obtain ⟨er, ez⟩ := sp_restore.det hq1 hq2
  rw [← ez] at hm2
  exact lv_icmp_eq (tgt := 848) S.1 S.2.1 dL_law_453 (by decide) (fun _ => kk z1 E2 H locs hz2 hm2 (sp_restore.vS hv hq1) hP hS) (fun h => absurd er h)
