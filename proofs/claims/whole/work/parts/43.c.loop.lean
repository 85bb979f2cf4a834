theorem z_31 (x : Int32) : ∃ w : Nat, w < 32 ∧ x &&& 31 = nI w := by
  refine ⟨(x &&& 31).toBitVec.toNat, ?_, ?_⟩
  · have h : (x &&& 31).toBitVec = x.toBitVec &&& 31#32 := rfl
    rw [h, BitVec.toNat_and]
    exact Nat.lt_of_le_of_lt Nat.and_le_right (by decide)
  · apply Int32.toBitVec_inj.mp
    show (x &&& 31).toBitVec = BitVec.ofNat 32 (x &&& 31).toBitVec.toNat
    rw [BitVec.ofNat_toNat, BitVec.setWidth_eq]
set_option maxHeartbeats 4000000 in
set_option maxRecDepth 100000 in
/-- THE LAW'S LOOP: at its head both objects hold one state -/
theorem law_loop {p : Program} {e : Env} {s : State} {m : MethodId} {below : List Frame} {meth : Method} {c : Code} {b L : Nat} {xs : Nat → Int32} (l : Launch) (g : xG) (S : CallFix p m c cL_law 4 s #[Value.ref b] wsL_law RL) (hJ : xJ (xad g)) (hK : xK g s) (hAd : ∀ k, k < 75 → zA s (xad g k)) (hX : va_X b L xs s s.heap) (hbl : b < s.heap.size) (hL : L ≤ 3584) (hr : meth.sig.returnType = ret) (hlocks : meth.locks = false) :
    ∀ (n i : Nat), i ≤ L → L + 7 ≤ i + 7 * n → ∀ (z : xS) (E : Nat → va_E) (H : Heap) (locs : List Loc), sX g E z → sM g E z → vS z → xP g E H → va_S (zA s) s.heap H locs → ∀ (ls : Array Slot), lv_has ls 4 [(0, .ref b), (1, .ref (xad g 0)), (2, .ref (xad g 65)), (3, .int (nI i))] → W p l e room_1 s m #[Value.ref b] below meth c H locs 600000 7302250 (lw_Z below #[Value.ref b] s) (F0 m 18 ls []) := by
  intro n
  induction n with
  | zero =>
    intro i h1 h2
    exact absurd h2 (by omega)
  | succ n ih =>
    intro i hi hn z E H locs hz hm hv hP hS ls hl
    refine lv_iload_n S.1 S.2.1 dL_law_18 rfl (lv_at hl 3 rfl) ?_
    refine lv_aload_n S.1 S.2.1 dL_law_19 rfl (lv_at hl 0 rfl) ?_
    refine va_slen S.1 S.2.1 hX hbl (Nat.not_le.mpr hbl) hS dL_law_20 ?_
    refine lv_bipush (v := 7) S.1 S.2.1 dL_law_21 (by decide) ?_
    refine lv_isub S.1 S.2.1 dL_law_23 ?_
    refine lv_icmp_gt (tgt := 854) S.1 S.2.1 dL_law_24 (by decide) (fun c24 => ?_) (fun c24 => ?_)
    · refine lv_iconst (v := 1) S.1 S.2.1 dL_law_854 (by decide) ?_
      refine va_forget (fun q hq => hS.2.2 q hq) ?_
      exact lw_ret S.1 S.2.1 hr hlocks dL_law_855
    · have h7 : i + 7 ≤ L := z_more hL hi c24
      have kk : ∀ (z1 : xS) (E1 : Nat → va_E) (H1 : Heap) (locs1 : List Loc), sX g E1 z1 → sM g E1 z1 → vS z1 → xP g E1 H1 → va_S (zA s) s.heap H1 locs1 → W p l e room_1 s m #[Value.ref b] below meth c H1 locs1 600000 7302250 (lw_Z below #[Value.ref b] s) (F0 m 848 ls []) := by
        intro z1 E1 H1 locs1 g1 g2 g3 g4 g5
        refine lv_iinc (v := nI (i + 7)) (lv' := [(3, .int (nI (i + 7))), (0, .ref b), (1, .ref (xad g 0)), (2, .ref (xad g 65))]) S.1 S.2.1 dL_law_848 hl (k := 3) rfl (nI_add i 7) (by decide) rfl (fun ls hl => ?_)
        refine lv_goto (tgt := 18) S.1 S.2.1 dL_law_851 (by decide) ?_
        exact ih (i + 7) h7 (by omega) z1 E1 H1 locs1 g1 g2 g3 g4 g5 ls (lv_sub hl [1, 2, 3, 0] rfl)
      refine lv_aload_n S.1 S.2.1 dL_law_27 rfl (lv_at hl 0 rfl) ?_
      refine lv_iload_n S.1 S.2.1 dL_law_28 rfl (lv_at hl 3 rfl) ?_
      refine va_sld S.1 S.2.1 hX hbl (Nat.not_le.mpr hbl) hS (vp_in_nI (by omega) (by omega)) dL_law_29 ?_
      refine lv_bipush (v := 31) S.1 S.2.1 dL_law_30 (by decide) ?_
      refine lv_iand S.1 S.2.1 dL_law_32 ?_
      obtain ⟨w, hw, ew⟩ := z_31 (xs (nI i).toNatClampNeg)
      rw [ew]
      rcases (show w = 0 ∨ w = 1 ∨ w = 2 ∨ w = 3 ∨ w = 4 ∨ w = 5 ∨ w = 6 ∨ w = 7 ∨ w = 8 ∨ w = 9 ∨ w = 10 ∨ w = 11 ∨ w = 12 ∨ w = 13 ∨ w = 14 ∨ w = 15 ∨ w = 16 ∨ w = 17 ∨ w = 18 ∨ w = 19 ∨ w = 20 ∨ w = 21 ∨ w = 22 ∨ w = 23 ∨ 24 ≤ w by omega) with rfl | rfl | rfl | rfl | rfl | rfl | rfl | rfl | rfl | rfl | rfl | rfl | rfl | rfl | rfl | rfl | rfl | rfl | rfl | rfl | rfl | rfl | rfl | rfl | hw4
      · exact lv_tableIn (off := 111) (tgt := 144) S.1 S.2.1 dL_law_33 (by decide) (by decide) rfl (by decide) (zc_addPhoto l g S hJ hK hAd hX hbl hL h7 hz hm hv hP hS hl kk)
      · exact lv_tableIn (off := 164) (tgt := 197) S.1 S.2.1 dL_law_33 (by decide) (by decide) rfl (by decide) (zc_readPhoto l g S hJ hK hAd hX hbl hL h7 hz hm hv hP hS hl kk)
      · exact lv_tableIn (off := 177) (tgt := 210) S.1 S.2.1 dL_law_33 (by decide) (by decide) rfl (by decide) (zc_setAngle l g S hJ hK hAd hX hbl hL h7 hz hm hv hP hS hl kk)
      · exact lv_tableIn (off := 220) (tgt := 253) S.1 S.2.1 dL_law_33 (by decide) (by decide) rfl (by decide) (zc_move l g S hJ hK hAd hX hbl hL h7 hz hm hv hP hS hl kk)
      · exact lv_tableIn (off := 263) (tgt := 296) S.1 S.2.1 dL_law_33 (by decide) (by decide) rfl (by decide) (zc_setAside l g S hJ hK hAd hX hbl hL h7 hz hm hv hP hS hl kk)
      · exact lv_tableIn (off := 312) (tgt := 345) S.1 S.2.1 dL_law_33 (by decide) (by decide) rfl (by decide) (zc_dropMissed l g S hJ hK hAd hX hbl hL h7 hz hm hv hP hS hl kk)
      · exact lv_tableIn (off := 325) (tgt := 358) S.1 S.2.1 dL_law_33 (by decide) (by decide) rfl (by decide) (zc_remove l g S hJ hK hAd hX hbl hL h7 hz hm hv hP hS hl kk)
      · exact lv_tableIn (off := 348) (tgt := 381) S.1 S.2.1 dL_law_33 (by decide) (by decide) rfl (by decide) (zc_type l g S hJ hK hAd hX hbl hL h7 hz hm hv hP hS hl kk)
      · exact lv_tableIn (off := 373) (tgt := 406) S.1 S.2.1 dL_law_33 (by decide) (by decide) rfl (by decide) (zc_clearText l g S hJ hK hAd hX hbl hL h7 hz hm hv hP hS hl kk)
      · exact lv_tableIn (off := 386) (tgt := 419) S.1 S.2.1 dL_law_33 (by decide) (by decide) rfl (by decide) (zc_undo l g S hJ hK hAd hX hbl hL h7 hz hm hv hP hS hl kk)
      · exact lv_tableIn (off := 399) (tgt := 432) S.1 S.2.1 dL_law_33 (by decide) (by decide) rfl (by decide) (zc_keep l g S hJ hK hAd hX hbl hL h7 hz hm hv hP hS hl kk)
      · exact lv_tableIn (off := 412) (tgt := 445) S.1 S.2.1 dL_law_33 (by decide) (by decide) rfl (by decide) (zc_restore l g S hJ hK hAd hX hbl hL h7 hz hm hv hP hS hl kk)
      · exact lv_tableIn (off := 425) (tgt := 458) S.1 S.2.1 dL_law_33 (by decide) (by decide) rfl (by decide) (zc_photo l g S hJ hK hAd hX hbl hL h7 hz hm hv hP hS hl kk)
      · exact lv_tableIn (off := 458) (tgt := 491) S.1 S.2.1 dL_law_33 (by decide) (by decide) rfl (by decide) (zc_arc l g S hJ hK hAd hX hbl hL h7 hz hm hv hP hS hl kk)
      · exact lv_tableIn (off := 534) (tgt := 567) S.1 S.2.1 dL_law_33 (by decide) (by decide) rfl (by decide) (zc_hits l g S hJ hK hAd hX hbl hL h7 hz hm hv hP hS hl kk)
      · exact lv_tableIn (off := 577) (tgt := 610) S.1 S.2.1 dL_law_33 (by decide) (by decide) rfl (by decide) (zc_best l g S hJ hK hAd hX hbl hL h7 hz hm hv hP hS hl kk)
      · exact lv_tableIn (off := 600) (tgt := 633) S.1 S.2.1 dL_law_33 (by decide) (by decide) rfl (by decide) (zc_bestAt l g S hJ hK hAd hX hbl hL h7 hz hm hv hP hS hl kk)
      · exact lv_tableIn (off := 644) (tgt := 677) S.1 S.2.1 dL_law_33 (by decide) (by decide) rfl (by decide) (zc_lands l g S hJ hK hAd hX hbl hL h7 hz hm hv hP hS hl kk)
      · exact lv_tableIn (off := 657) (tgt := 690) S.1 S.2.1 dL_law_33 (by decide) (by decide) rfl (by decide) (zc_track l g S hJ hK hAd hX hbl hL h7 hz hm hv hP hS hl kk)
      · exact lv_tableIn (off := 690) (tgt := 723) S.1 S.2.1 dL_law_33 (by decide) (by decide) rfl (by decide) (zc_fitsFrom l g S hJ hK hAd hX hbl hL h7 hz hm hv hP hS hl kk)
      · exact lv_tableIn (off := 713) (tgt := 746) S.1 S.2.1 dL_law_33 (by decide) (by decide) rfl (by decide) (zc_spin l g S hJ hK hAd hX hbl hL h7 hz hm hv hP hS hl kk)
      · exact lv_tableIn (off := 736) (tgt := 769) S.1 S.2.1 dL_law_33 (by decide) (by decide) rfl (by decide) (zc_fits l g S hJ hK hAd hX hbl hL h7 hz hm hv hP hS hl kk)
      · exact lv_tableIn (off := 769) (tgt := 802) S.1 S.2.1 dL_law_33 (by decide) (by decide) rfl (by decide) (zc_angleAt l g S hJ hK hAd hX hbl hL h7 hz hm hv hP hS hl kk)
      · exact lv_tableIn (off := 792) (tgt := 825) S.1 S.2.1 dL_law_33 (by decide) (by decide) rfl (by decide) (zc_count l g S hJ hK hAd hX hbl hL h7 hz hm hv hP hS hl kk)
      · exact lv_tableOut (tgt := 848) S.1 S.2.1 dL_law_33 (Or.inr (by rw [nI_toInt (by omega)]; omega)) (by decide) (kk z E H locs hz hm hv hP hS)
