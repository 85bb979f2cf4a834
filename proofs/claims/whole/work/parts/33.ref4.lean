/-! THE REFERENCE: its state, its acts -/
/-- the reference's cells hold a state -/
def sM (g : xG) (E : Nat → va_E) (z : xS) : Prop := ∃ (hi od bs bb bf at9 nu : Int32) (f fh fs fa fr fl fo fd : Nat → Int32), E 65 = mO g (nI (zh z)) (bI (zf z)) hi od bs bb bf (nI (ztl z)) at9 nu ∧ E 66 = .inl (xI g, 71, .inl f) ∧ E 67 = .inl (xI g, 284, .inl fh) ∧ E 68 = .inl (xI g, 71, .inl fs) ∧ E 69 = .inl (xI g, 3, .inl fa) ∧ E 70 = .inl (xI g, 11, .inl fr) ∧ E 71 = .inl (xI g, 10, .inl fl) ∧ E 72 = .inl (xI g, 10, .inl fo) ∧ E 73 = .inl (xC g, 60, .inl (ztf z)) ∧ E 74 = .inl (xI g, 6, .inl fd) ∧ nH f 0 (zn z) (zM z) ∧ (∀ i, i < zh z → nH fh (71 * i) (zN z i) (zMM z i)) ∧ (zf z = true → nH fs 0 (zsn z) (zsM z))
theorem sM.mk {g : xG} {E : Nat → va_E} {z : xS} {kp fi hi od bs bb bf ty at9 nu : Int32} {f fh fs fa fr fl fo fd : Nat → Int32} (h65 : E 65 = mO g kp fi hi od bs bb bf ty at9 nu) (hk : kp = nI (zh z)) (hf : fi = bI (zf z)) (ht : ty = nI (ztl z)) (h66 : E 66 = .inl (xI g, 71, .inl f)) (h67 : E 67 = .inl (xI g, 284, .inl fh)) (h68 : E 68 = .inl (xI g, 71, .inl fs)) (h69 : E 69 = .inl (xI g, 3, .inl fa)) (h70 : E 70 = .inl (xI g, 11, .inl fr)) (h71 : E 71 = .inl (xI g, 10, .inl fl)) (h72 : E 72 = .inl (xI g, 10, .inl fo)) (h73 : E 73 = .inl (xC g, 60, .inl (ztf z))) (h74 : E 74 = .inl (xI g, 6, .inl fd)) (hN : nH f 0 (zn z) (zM z)) (hHi : ∀ i, i < zh z → nH fh (71 * i) (zN z i) (zMM z i)) (hSl : zf z = true → nH fs 0 (zsn z) (zsM z)) : sM g E z := by
  subst hk hf ht
  exact ⟨_, _, _, _, _, _, _, _, _, _, _, _, _, _, _, h65, h66, h67, h68, h69, h70, h71, h72, h73, h74, hN, hHi, hSl⟩
theorem nH.set {f : Nat → Int32} {n k w : Nat} {M : Nat → Nat → Int32} {x : Int32} (h : nH f 0 n M) (hw : w < 7) (hk : k < n) : nH (upd f (7 * k + w) x) 0 n (setM M w k x) := by
  obtain ⟨h1, h2, h3⟩ := h
  refine ⟨h1, by rw [pk_un (by omega)]; exact h2, fun j v hj hv => ?_⟩
  unfold setM
  by_cases e : v = w ∧ j = k
  · obtain ⟨rfl, rfl⟩ := e
    rw [if_pos ⟨rfl, rfl⟩, show 0 + 7 * j + v = 7 * j + v by omega, pk_us]
  · rw [if_neg e, pk_un (by omega)]
    exact h3 j v hj hv
set_option maxHeartbeats 4000000 in
set_option maxRecDepth 100000 in
theorem c_X7_setAngle (l : Launch) (g : xG) (hJ : xJ (xad g)) (E : Nat → va_E) {z : xS} (hz : sM g E z) (hv : vS z) (x a e5 : Int32) : Met l yX7_setAngle wsX7_setAngle ({ frames := 2, cells := 0, slots := 0, locals := 43 }) (xPc g [.ref (xad g 65), .int x, .int a, .int e5] E) (xQi g (fun r E1 => ∃ z1, sp_setAngle z x a e5 r z1 ∧ sM g E1 z1 ∧ ∀ j, j < 65 → E1 j = E j)) 0 0 (xA (xad g)) := by
  refine x_met (ws' := _) (by decide) rfl (Nat.le_of_ble_eq_true rfl) ?_
  intro pz ez s m below meth cz ls S hr hlocks hP hK hl
  have hl : lv_has ls 5 [(0, .ref (xad g 65)), (1, .int x), (2, .int a), (3, .int e5)] := hl
  have hS : va_S (xA (xad g)) s.heap s.heap [] := va_S.rf
  have hin7 : ∀ w ∈ u_ws RX7 TX7 19, w ∈ wsX7_setAngle := by decide +kernel
  have fl7 : Cond.fieldLink RX7 7 "DiscArcsModel" "now" "[I" ∈ wsX7_setAngle := by decide +kernel
  obtain ⟨hi, od, bs, bb, bf, at9, nu, f, fh, fs, fa, fr, fl, fo, fd, h65, h66, h67, h68, h69, h70, h71, h72, h73, h74, hN, hHi, hSl⟩ := id hz
  have hn := hN.1
  have hn0 := hN.n0
  have hv1 := hv.1.2
  have hfm : ∀ j, j < 65 → E j = E j := fun _ _ => rfl
  have hs4 := hv.2.1.1
  have htl := hv.2.2.2
  refine lv_aload_n S.1 S.2.1 dX7_setAngle_0 rfl (lv_at hl 0 rfl) ?_
  refine lv_iload_n S.1 S.2.1 dX7_setAngle_1 rfl (lv_at hl 1 rfl) ?_
  refine x_si (va_runV (As := [.int x]) (rest := []) S (c_X7_no l g E h65 h66 hN x) (cwV 1 S.2.2.2.2 gX7_setAngle_X7_no rfl rfl rfl (by decide +kernel) ⟨Nat.le_of_ble_eq_true rfl, Nat.le_of_ble_eq_true rfl⟩) (x_preV hK hP h65 (by decide) rfl) rfl rfl hl.1 rfl (lv_room (Nat.le_of_ble_eq_true rfl)) dX7_setAngle_2 ⟨Nat.le_of_ble_eq_true rfl, Nat.le_of_ble_eq_true rfl⟩) (fun r2 hr2 => ?_)
  refine lv_if_eq (tgt := 10) S.1 S.2.1 dX7_setAngle_5 (by decide) (fun c5 => ?_) (fun c5 => ?_)
  · skip
    obtain ⟨k, hk, rfl⟩ := Classical.not_not.mp (hr2.f c5)
    refine lv_iload_n S.1 S.2.1 dX7_setAngle_10 rfl (lv_at hl 2 rfl) ?_
    refine lv_iconst (v := 0) S.1 S.2.1 dX7_setAngle_11 (by decide) ?_
    refine lv_sipush (v := 360) S.1 S.2.1 dX7_setAngle_12 (by decide) ?_
    refine x_si (va_runS (As := [.int a, .int 0, .int 360]) (rest := []) S (c_X7_in l g E a 0 360) (va_cwS 3 S.2.2.2.2 gX7_setAngle_X7_in rfl rfl rfl (by decide +kernel) ⟨Nat.le_of_ble_eq_true rfl, Nat.le_of_ble_eq_true rfl⟩) (x_preS hK hP) rfl rfl hl.1 rfl (lv_room (Nat.le_of_ble_eq_true rfl)) dX7_setAngle_15 ⟨Nat.le_of_ble_eq_true rfl, Nat.le_of_ble_eq_true rfl⟩) (fun r15 hr15 => ?_)
    refine lv_if_eq (tgt := 42) S.1 S.2.1 dX7_setAngle_18 (by decide) (fun c18 => ?_) (fun c18 => ?_)
    · skip
      refine lv_bipush (v := (-2)) S.1 S.2.1 dX7_setAngle_42 (by decide) ?_
      exact x_iret S hr hlocks hP hS dX7_setAngle_44 (⟨z, Or.inr ⟨k, hk, rfl, Or.inl ⟨fun h => hr15.f c18 h.1, rfl, rfl⟩⟩, sM.mk h65 rfl rfl rfl h66 h67 h68 h69 h70 h71 h72 h73 h74 hN hHi hSl, hfm⟩)
    · skip
      refine lv_iload_n S.1 S.2.1 dX7_setAngle_21 rfl (lv_at hl 3 rfl) ?_
      refine lv_iconst (v := 0) S.1 S.2.1 dX7_setAngle_22 (by decide) ?_
      refine lv_iload_n S.1 S.2.1 dX7_setAngle_23 rfl (lv_at hl 2 rfl) ?_
      refine lv_sipush (v := 360) S.1 S.2.1 dX7_setAngle_24 (by decide) ?_
      refine lv_icmp_ne (tgt := 34) S.1 S.2.1 dX7_setAngle_27 (by decide) (fun c27 => ?_) (fun c27 => ?_)
      · skip
        refine lv_bipush (v := 60) S.1 S.2.1 dX7_setAngle_34 (by decide) ?_
        refine x_si (va_runS (As := [.int e5, .int 0, .int 60]) (rest := []) S (c_X7_in l g E e5 0 60) (va_cwS 3 S.2.2.2.2 gX7_setAngle_X7_in rfl rfl rfl (by decide +kernel) ⟨Nat.le_of_ble_eq_true rfl, Nat.le_of_ble_eq_true rfl⟩) (x_preS hK hP) rfl rfl hl.1 rfl (lv_room (Nat.le_of_ble_eq_true rfl)) dX7_setAngle_36 ⟨Nat.le_of_ble_eq_true rfl, Nat.le_of_ble_eq_true rfl⟩) (fun r36 hr36 => ?_)
        refine lv_if_ne (tgt := 45) S.1 S.2.1 dX7_setAngle_39 (by decide) (fun c39 => ?_) (fun c39 => ?_)
        · skip
          have hok : angOk a e5 := ⟨hr15.t c18, hr36.t c39, fun h => absurd h c27⟩
          refine lv_aload_n S.1 S.2.1 dX7_setAngle_45 rfl (lv_at hl 0 rfl) ?_
          refine lv_iload_n S.1 S.2.1 dX7_setAngle_46 rfl (lv_at hl 1 rfl) ?_
          refine lv_iconst (v := 4) S.1 S.2.1 dX7_setAngle_47 (by decide) ?_
          refine x_si (va_runV (As := [.int (nI k), .int 4]) (rest := []) S (c_X7_of l g E h65 h66 (k := k) (w := 4) (by omega)) (cwV 2 S.2.2.2.2 gX7_setAngle_X7_of rfl rfl rfl (by decide +kernel) ⟨Nat.le_of_ble_eq_true rfl, Nat.le_of_ble_eq_true rfl⟩) (x_preV hK hP h65 (by decide) rfl) rfl rfl hl.1 rfl (lv_room (Nat.le_of_ble_eq_true rfl)) dX7_setAngle_48 ⟨Nat.le_of_ble_eq_true rfl, Nat.le_of_ble_eq_true rfl⟩) (fun r48 hr48 => ?_)
          rw [hN.at0 (k := k) (w := 4) hk (by omega)] at hr48
          subst hr48
          refine lv_istore (lv' := [(4, .int ((zM z) 4 k)), (0, .ref (xad g 65)), (1, .int (nI k)), (2, .int a), (3, .int e5)]) S.1 S.2.1 dX7_setAngle_51 hl (by decide) rfl (fun ls hl => ?_)
          refine lv_iload S.1 S.2.1 dX7_setAngle_53 (lv_at hl 0 rfl) ?_
          refine lv_iload_n S.1 S.2.1 dX7_setAngle_55 rfl (lv_at hl 3 rfl) ?_
          refine lv_icmp_ne (tgt := 72) S.1 S.2.1 dX7_setAngle_56 (by decide) (fun c56 => ?_) (fun c56 => ?_)
          · skip
            refine lv_aload_n S.1 S.2.1 dX7_setAngle_72 rfl (lv_at hl 1 rfl) ?_
            refine x_qv (va_runV (As := []) (rest := []) S (c_X7_record l g hJ E h65 h66 hN h67 hs4 hHi) (cwV 0 S.2.2.2.2 gX7_setAngle_X7_record rfl rfl rfl (by decide +kernel) ⟨Nat.le_of_ble_eq_true rfl, Nat.le_of_ble_eq_true rfl⟩) (x_preV hK hP h65 (by decide) rfl) rfl rfl hl.1 rfl (lv_room (Nat.le_of_ble_eq_true rfl)) dX7_setAngle_73 ⟨Nat.le_of_ble_eq_true rfl, Nat.le_of_ble_eq_true rfl⟩) hS (fun E1 H locs hq73 hP hS => ?_)
            obtain ⟨hfr73, h65, fh2, h67, hHi2⟩ := hq73
            have h66 := (hfr73 66 (by decide) (by decide)).trans h66
            have h68 := (hfr73 68 (by decide) (by decide)).trans h68
            have h69 := (hfr73 69 (by decide) (by decide)).trans h69
            have h70 := (hfr73 70 (by decide) (by decide)).trans h70
            have h71 := (hfr73 71 (by decide) (by decide)).trans h71
            have h72 := (hfr73 72 (by decide) (by decide)).trans h72
            have h73 := (hfr73 73 (by decide) (by decide)).trans h73
            have h74 := (hfr73 74 (by decide) (by decide)).trans h74
            have hfm : ∀ j, j < 65 → E1 j = E j := fun j hj => (hfr73 j (by omega) (by omega)).trans (hfm j hj)
            refine lv_aload_n S.1 S.2.1 dX7_setAngle_76 rfl (lv_at hl 1 rfl) ?_
            refine x_get S hK hP dX7_setAngle_77 h65 (by decide) (RX7, TX7, 19) rfl hin7 0 (by decide) fl7 rfl ?_
            refine lv_bipush (v := 7) S.1 S.2.1 dX7_setAngle_80 (by decide) ?_
            refine lv_iload_n S.1 S.2.1 dX7_setAngle_82 rfl (lv_at hl 2 rfl) ?_
            refine lv_imul S.1 S.2.1 dX7_setAngle_83 ?_
            refine lv_iconst (v := 4) S.1 S.2.1 dX7_setAngle_84 (by decide) ?_
            refine lv_iadd S.1 S.2.1 dX7_setAngle_85 ?_
            refine lv_iload_n S.1 S.2.1 dX7_setAngle_86 rfl (lv_at hl 3 rfl) ?_
            refine x_iast S hK hJ hP hS dX7_setAngle_87 h66 (by decide) (j := (7 * k + 4)) (mul7 k 4) (by omega) (by decide) (fun H locs E1_1 hu hP hS => ?_)
            have h66 : E1_1 66 = .inl (xI g, 71, .inl (upd f (7 * k + 4) a)) := hu.1
            have h68 : E1_1 68 = .inl (xI g, 71, .inl fs) := (hu.2 _ (by omega)).trans h68
            have h69 : E1_1 69 = .inl (xI g, 3, .inl fa) := (hu.2 _ (by omega)).trans h69
            have h70 : E1_1 70 = .inl (xI g, 11, .inl fr) := (hu.2 _ (by omega)).trans h70
            have h71 : E1_1 71 = .inl (xI g, 10, .inl fl) := (hu.2 _ (by omega)).trans h71
            have h72 : E1_1 72 = .inl (xI g, 10, .inl fo) := (hu.2 _ (by omega)).trans h72
            have h73 : E1_1 73 = .inl (xC g, 60, .inl (ztf z)) := (hu.2 _ (by omega)).trans h73
            have h74 : E1_1 74 = .inl (xI g, 6, .inl fd) := (hu.2 _ (by omega)).trans h74
            have hfm : ∀ j, j < 65 → E1_1 j = E j := fun j hj => (hu.2 j (by omega)).trans (hfm j hj)
            have h65 : E1_1 65 = mO g (nI (rcS (zh z))) (bI (zf z)) hi od bs bb bf (nI (ztl z)) at9 nu := (hu.2 _ (by omega)).trans h65
            have h67 : E1_1 67 = .inl (xI g, 284, .inl fh2) := (hu.2 _ (by omega)).trans h67
            refine lv_aload_n S.1 S.2.1 dX7_setAngle_88 rfl (lv_at hl 1 rfl) ?_
            refine x_get S hK hP dX7_setAngle_89 h65 (by decide) (RX7, TX7, 19) rfl hin7 0 (by decide) fl7 rfl ?_
            refine lv_bipush (v := 7) S.1 S.2.1 dX7_setAngle_92 (by decide) ?_
            refine lv_iload_n S.1 S.2.1 dX7_setAngle_94 rfl (lv_at hl 2 rfl) ?_
            refine lv_imul S.1 S.2.1 dX7_setAngle_95 ?_
            refine lv_iconst (v := 5) S.1 S.2.1 dX7_setAngle_96 (by decide) ?_
            refine lv_iadd S.1 S.2.1 dX7_setAngle_97 ?_
            refine lv_iload_n S.1 S.2.1 dX7_setAngle_98 rfl (lv_at hl 4 rfl) ?_
            refine x_iast S hK hJ hP hS dX7_setAngle_99 h66 (by decide) (j := (7 * k + 5)) (mul7 k 5) (by omega) (by decide) (fun H locs E1_2 hu hP hS => ?_)
            have h66 : E1_2 66 = .inl (xI g, 71, .inl (upd (upd f (7 * k + 4) a) (7 * k + 5) e5)) := hu.1
            have h68 : E1_2 68 = .inl (xI g, 71, .inl fs) := (hu.2 _ (by omega)).trans h68
            have h69 : E1_2 69 = .inl (xI g, 3, .inl fa) := (hu.2 _ (by omega)).trans h69
            have h70 : E1_2 70 = .inl (xI g, 11, .inl fr) := (hu.2 _ (by omega)).trans h70
            have h71 : E1_2 71 = .inl (xI g, 10, .inl fl) := (hu.2 _ (by omega)).trans h71
            have h72 : E1_2 72 = .inl (xI g, 10, .inl fo) := (hu.2 _ (by omega)).trans h72
            have h73 : E1_2 73 = .inl (xC g, 60, .inl (ztf z)) := (hu.2 _ (by omega)).trans h73
            have h74 : E1_2 74 = .inl (xI g, 6, .inl fd) := (hu.2 _ (by omega)).trans h74
            have hfm : ∀ j, j < 65 → E1_2 j = E j := fun j hj => (hu.2 j (by omega)).trans (hfm j hj)
            have h65 : E1_2 65 = mO g (nI (rcS (zh z))) (bI (zf z)) hi od bs bb bf (nI (ztl z)) at9 nu := (hu.2 _ (by omega)).trans h65
            have h67 : E1_2 67 = .inl (xI g, 284, .inl fh2) := (hu.2 _ (by omega)).trans h67
            refine lv_iload S.1 S.2.1 dX7_setAngle_100 (lv_at hl 0 rfl) ?_
            exact x_iret S hr hlocks hP hS dX7_setAngle_102 (⟨_, Or.inr ⟨k, hk, rfl, Or.inr ⟨hok, Or.inr ⟨fun h => by first | exact c66 h.2 | exact c56 h.1, rfl, rfl⟩⟩⟩, sM.mk (z := wP (wR z) (zn z) (setM (setM (zM z) 4 k a) 5 k e5)) h65 rfl rfl rfl h66 h67 h68 h69 h70 h71 h72 h73 h74 ((hN.set (w := 4) (by decide) hk).set (w := 5) (by decide) hk) hHi2 hSl, hfm⟩)
          · skip
            refine lv_aload_n S.1 S.2.1 dX7_setAngle_59 rfl (lv_at hl 1 rfl) ?_
            refine lv_iload_n S.1 S.2.1 dX7_setAngle_60 rfl (lv_at hl 2 rfl) ?_
            refine lv_iconst (v := 5) S.1 S.2.1 dX7_setAngle_61 (by decide) ?_
            refine x_si (va_runV (As := [.int (nI k), .int 5]) (rest := []) S (c_X7_of l g E h65 h66 (k := k) (w := 5) (by omega)) (cwV 2 S.2.2.2.2 gX7_setAngle_X7_of rfl rfl rfl (by decide +kernel) ⟨Nat.le_of_ble_eq_true rfl, Nat.le_of_ble_eq_true rfl⟩) (x_preV hK hP h65 (by decide) rfl) rfl rfl hl.1 rfl (lv_room (Nat.le_of_ble_eq_true rfl)) dX7_setAngle_62 ⟨Nat.le_of_ble_eq_true rfl, Nat.le_of_ble_eq_true rfl⟩) (fun r62 hr62 => ?_)
            rw [hN.at0 (k := k) (w := 5) hk (by omega)] at hr62
            subst hr62
            refine lv_iload_n S.1 S.2.1 dX7_setAngle_65 rfl (lv_at hl 4 rfl) ?_
            refine lv_icmp_ne (tgt := 72) S.1 S.2.1 dX7_setAngle_66 (by decide) (fun c66 => ?_) (fun c66 => ?_)
            · skip
              refine lv_aload_n S.1 S.2.1 dX7_setAngle_72 rfl (lv_at hl 1 rfl) ?_
              refine x_qv (va_runV (As := []) (rest := []) S (c_X7_record l g hJ E h65 h66 hN h67 hs4 hHi) (cwV 0 S.2.2.2.2 gX7_setAngle_X7_record rfl rfl rfl (by decide +kernel) ⟨Nat.le_of_ble_eq_true rfl, Nat.le_of_ble_eq_true rfl⟩) (x_preV hK hP h65 (by decide) rfl) rfl rfl hl.1 rfl (lv_room (Nat.le_of_ble_eq_true rfl)) dX7_setAngle_73 ⟨Nat.le_of_ble_eq_true rfl, Nat.le_of_ble_eq_true rfl⟩) hS (fun E1_3 H locs hq73 hP hS => ?_)
              obtain ⟨hfr73, h65, fh2, h67, hHi2⟩ := hq73
              have h66 := (hfr73 66 (by decide) (by decide)).trans h66
              have h68 := (hfr73 68 (by decide) (by decide)).trans h68
              have h69 := (hfr73 69 (by decide) (by decide)).trans h69
              have h70 := (hfr73 70 (by decide) (by decide)).trans h70
              have h71 := (hfr73 71 (by decide) (by decide)).trans h71
              have h72 := (hfr73 72 (by decide) (by decide)).trans h72
              have h73 := (hfr73 73 (by decide) (by decide)).trans h73
              have h74 := (hfr73 74 (by decide) (by decide)).trans h74
              have hfm : ∀ j, j < 65 → E1_3 j = E j := fun j hj => (hfr73 j (by omega) (by omega)).trans (hfm j hj)
              refine lv_aload_n S.1 S.2.1 dX7_setAngle_76 rfl (lv_at hl 1 rfl) ?_
              refine x_get S hK hP dX7_setAngle_77 h65 (by decide) (RX7, TX7, 19) rfl hin7 0 (by decide) fl7 rfl ?_
              refine lv_bipush (v := 7) S.1 S.2.1 dX7_setAngle_80 (by decide) ?_
              refine lv_iload_n S.1 S.2.1 dX7_setAngle_82 rfl (lv_at hl 2 rfl) ?_
              refine lv_imul S.1 S.2.1 dX7_setAngle_83 ?_
              refine lv_iconst (v := 4) S.1 S.2.1 dX7_setAngle_84 (by decide) ?_
              refine lv_iadd S.1 S.2.1 dX7_setAngle_85 ?_
              refine lv_iload_n S.1 S.2.1 dX7_setAngle_86 rfl (lv_at hl 3 rfl) ?_
              refine x_iast S hK hJ hP hS dX7_setAngle_87 h66 (by decide) (j := (7 * k + 4)) (mul7 k 4) (by omega) (by decide) (fun H locs E1_4 hu hP hS => ?_)
              have h66 : E1_4 66 = .inl (xI g, 71, .inl (upd f (7 * k + 4) a)) := hu.1
              have h68 : E1_4 68 = .inl (xI g, 71, .inl fs) := (hu.2 _ (by omega)).trans h68
              have h69 : E1_4 69 = .inl (xI g, 3, .inl fa) := (hu.2 _ (by omega)).trans h69
              have h70 : E1_4 70 = .inl (xI g, 11, .inl fr) := (hu.2 _ (by omega)).trans h70
              have h71 : E1_4 71 = .inl (xI g, 10, .inl fl) := (hu.2 _ (by omega)).trans h71
              have h72 : E1_4 72 = .inl (xI g, 10, .inl fo) := (hu.2 _ (by omega)).trans h72
              have h73 : E1_4 73 = .inl (xC g, 60, .inl (ztf z)) := (hu.2 _ (by omega)).trans h73
              have h74 : E1_4 74 = .inl (xI g, 6, .inl fd) := (hu.2 _ (by omega)).trans h74
              have hfm : ∀ j, j < 65 → E1_4 j = E j := fun j hj => (hu.2 j (by omega)).trans (hfm j hj)
              have h65 : E1_4 65 = mO g (nI (rcS (zh z))) (bI (zf z)) hi od bs bb bf (nI (ztl z)) at9 nu := (hu.2 _ (by omega)).trans h65
              have h67 : E1_4 67 = .inl (xI g, 284, .inl fh2) := (hu.2 _ (by omega)).trans h67
              refine lv_aload_n S.1 S.2.1 dX7_setAngle_88 rfl (lv_at hl 1 rfl) ?_
              refine x_get S hK hP dX7_setAngle_89 h65 (by decide) (RX7, TX7, 19) rfl hin7 0 (by decide) fl7 rfl ?_
              refine lv_bipush (v := 7) S.1 S.2.1 dX7_setAngle_92 (by decide) ?_
              refine lv_iload_n S.1 S.2.1 dX7_setAngle_94 rfl (lv_at hl 2 rfl) ?_
              refine lv_imul S.1 S.2.1 dX7_setAngle_95 ?_
              refine lv_iconst (v := 5) S.1 S.2.1 dX7_setAngle_96 (by decide) ?_
              refine lv_iadd S.1 S.2.1 dX7_setAngle_97 ?_
              refine lv_iload_n S.1 S.2.1 dX7_setAngle_98 rfl (lv_at hl 4 rfl) ?_
              refine x_iast S hK hJ hP hS dX7_setAngle_99 h66 (by decide) (j := (7 * k + 5)) (mul7 k 5) (by omega) (by decide) (fun H locs E1_5 hu hP hS => ?_)
              have h66 : E1_5 66 = .inl (xI g, 71, .inl (upd (upd f (7 * k + 4) a) (7 * k + 5) e5)) := hu.1
              have h68 : E1_5 68 = .inl (xI g, 71, .inl fs) := (hu.2 _ (by omega)).trans h68
              have h69 : E1_5 69 = .inl (xI g, 3, .inl fa) := (hu.2 _ (by omega)).trans h69
              have h70 : E1_5 70 = .inl (xI g, 11, .inl fr) := (hu.2 _ (by omega)).trans h70
              have h71 : E1_5 71 = .inl (xI g, 10, .inl fl) := (hu.2 _ (by omega)).trans h71
              have h72 : E1_5 72 = .inl (xI g, 10, .inl fo) := (hu.2 _ (by omega)).trans h72
              have h73 : E1_5 73 = .inl (xC g, 60, .inl (ztf z)) := (hu.2 _ (by omega)).trans h73
              have h74 : E1_5 74 = .inl (xI g, 6, .inl fd) := (hu.2 _ (by omega)).trans h74
              have hfm : ∀ j, j < 65 → E1_5 j = E j := fun j hj => (hu.2 j (by omega)).trans (hfm j hj)
              have h65 : E1_5 65 = mO g (nI (rcS (zh z))) (bI (zf z)) hi od bs bb bf (nI (ztl z)) at9 nu := (hu.2 _ (by omega)).trans h65
              have h67 : E1_5 67 = .inl (xI g, 284, .inl fh2) := (hu.2 _ (by omega)).trans h67
              refine lv_iload S.1 S.2.1 dX7_setAngle_100 (lv_at hl 0 rfl) ?_
              exact x_iret S hr hlocks hP hS dX7_setAngle_102 (⟨_, Or.inr ⟨k, hk, rfl, Or.inr ⟨hok, Or.inr ⟨fun h => by first | exact c66 h.2 | exact c56 h.1, rfl, rfl⟩⟩⟩, sM.mk (z := wP (wR z) (zn z) (setM (setM (zM z) 4 k a) 5 k e5)) h65 rfl rfl rfl h66 h67 h68 h69 h70 h71 h72 h73 h74 ((hN.set (w := 4) (by decide) hk).set (w := 5) (by decide) hk) hHi2 hSl, hfm⟩)
            · skip
              refine lv_bipush (v := (-5)) S.1 S.2.1 dX7_setAngle_69 (by decide) ?_
              exact x_iret S hr hlocks hP hS dX7_setAngle_71 (⟨z, Or.inr ⟨k, hk, rfl, Or.inr ⟨hok, Or.inl ⟨⟨c56, c66⟩, rfl, rfl⟩⟩⟩, sM.mk h65 rfl rfl rfl h66 h67 h68 h69 h70 h71 h72 h73 h74 hN hHi hSl, hfm⟩)
        · skip
          refine lv_bipush (v := (-2)) S.1 S.2.1 dX7_setAngle_42 (by decide) ?_
          exact x_iret S hr hlocks hP hS dX7_setAngle_44 (⟨z, Or.inr ⟨k, hk, rfl, Or.inl ⟨fun h => hr36.f c39 h.2.1, rfl, rfl⟩⟩, sM.mk h65 rfl rfl rfl h66 h67 h68 h69 h70 h71 h72 h73 h74 hN hHi hSl, hfm⟩)
      · skip
        refine lv_iconst (v := 0) S.1 S.2.1 dX7_setAngle_30 (by decide) ?_
        refine lv_goto (tgt := 36) S.1 S.2.1 dX7_setAngle_31 (by decide) ?_
        refine x_si (va_runS (As := [.int e5, .int 0, .int 0]) (rest := []) S (c_X7_in l g E e5 0 0) (va_cwS 3 S.2.2.2.2 gX7_setAngle_X7_in rfl rfl rfl (by decide +kernel) ⟨Nat.le_of_ble_eq_true rfl, Nat.le_of_ble_eq_true rfl⟩) (x_preS hK hP) rfl rfl hl.1 rfl (lv_room (Nat.le_of_ble_eq_true rfl)) dX7_setAngle_36 ⟨Nat.le_of_ble_eq_true rfl, Nat.le_of_ble_eq_true rfl⟩) (fun r36 hr36 => ?_)
        refine lv_if_ne (tgt := 45) S.1 S.2.1 dX7_setAngle_39 (by decide) (fun c39 => ?_) (fun c39 => ?_)
        · skip
          have hok : angOk a e5 := ⟨hr15.t c18, ⟨(hr36.t c39).1, Int32.le_trans (hr36.t c39).2 (by decide)⟩, fun _ => Int32.le_antisymm (hr36.t c39).2 (hr36.t c39).1⟩
          refine lv_aload_n S.1 S.2.1 dX7_setAngle_45 rfl (lv_at hl 0 rfl) ?_
          refine lv_iload_n S.1 S.2.1 dX7_setAngle_46 rfl (lv_at hl 1 rfl) ?_
          refine lv_iconst (v := 4) S.1 S.2.1 dX7_setAngle_47 (by decide) ?_
          refine x_si (va_runV (As := [.int (nI k), .int 4]) (rest := []) S (c_X7_of l g E h65 h66 (k := k) (w := 4) (by omega)) (cwV 2 S.2.2.2.2 gX7_setAngle_X7_of rfl rfl rfl (by decide +kernel) ⟨Nat.le_of_ble_eq_true rfl, Nat.le_of_ble_eq_true rfl⟩) (x_preV hK hP h65 (by decide) rfl) rfl rfl hl.1 rfl (lv_room (Nat.le_of_ble_eq_true rfl)) dX7_setAngle_48 ⟨Nat.le_of_ble_eq_true rfl, Nat.le_of_ble_eq_true rfl⟩) (fun r48 hr48 => ?_)
          rw [hN.at0 (k := k) (w := 4) hk (by omega)] at hr48
          subst hr48
          refine lv_istore (lv' := [(4, .int ((zM z) 4 k)), (0, .ref (xad g 65)), (1, .int (nI k)), (2, .int a), (3, .int e5)]) S.1 S.2.1 dX7_setAngle_51 hl (by decide) rfl (fun ls hl => ?_)
          refine lv_iload S.1 S.2.1 dX7_setAngle_53 (lv_at hl 0 rfl) ?_
          refine lv_iload_n S.1 S.2.1 dX7_setAngle_55 rfl (lv_at hl 3 rfl) ?_
          refine lv_icmp_ne (tgt := 72) S.1 S.2.1 dX7_setAngle_56 (by decide) (fun c56 => ?_) (fun c56 => ?_)
          · skip
            refine lv_aload_n S.1 S.2.1 dX7_setAngle_72 rfl (lv_at hl 1 rfl) ?_
            refine x_qv (va_runV (As := []) (rest := []) S (c_X7_record l g hJ E h65 h66 hN h67 hs4 hHi) (cwV 0 S.2.2.2.2 gX7_setAngle_X7_record rfl rfl rfl (by decide +kernel) ⟨Nat.le_of_ble_eq_true rfl, Nat.le_of_ble_eq_true rfl⟩) (x_preV hK hP h65 (by decide) rfl) rfl rfl hl.1 rfl (lv_room (Nat.le_of_ble_eq_true rfl)) dX7_setAngle_73 ⟨Nat.le_of_ble_eq_true rfl, Nat.le_of_ble_eq_true rfl⟩) hS (fun E1_6 H locs hq73 hP hS => ?_)
            obtain ⟨hfr73, h65, fh2, h67, hHi2⟩ := hq73
            have h66 := (hfr73 66 (by decide) (by decide)).trans h66
            have h68 := (hfr73 68 (by decide) (by decide)).trans h68
            have h69 := (hfr73 69 (by decide) (by decide)).trans h69
            have h70 := (hfr73 70 (by decide) (by decide)).trans h70
            have h71 := (hfr73 71 (by decide) (by decide)).trans h71
            have h72 := (hfr73 72 (by decide) (by decide)).trans h72
            have h73 := (hfr73 73 (by decide) (by decide)).trans h73
            have h74 := (hfr73 74 (by decide) (by decide)).trans h74
            have hfm : ∀ j, j < 65 → E1_6 j = E j := fun j hj => (hfr73 j (by omega) (by omega)).trans (hfm j hj)
            refine lv_aload_n S.1 S.2.1 dX7_setAngle_76 rfl (lv_at hl 1 rfl) ?_
            refine x_get S hK hP dX7_setAngle_77 h65 (by decide) (RX7, TX7, 19) rfl hin7 0 (by decide) fl7 rfl ?_
            refine lv_bipush (v := 7) S.1 S.2.1 dX7_setAngle_80 (by decide) ?_
            refine lv_iload_n S.1 S.2.1 dX7_setAngle_82 rfl (lv_at hl 2 rfl) ?_
            refine lv_imul S.1 S.2.1 dX7_setAngle_83 ?_
            refine lv_iconst (v := 4) S.1 S.2.1 dX7_setAngle_84 (by decide) ?_
            refine lv_iadd S.1 S.2.1 dX7_setAngle_85 ?_
            refine lv_iload_n S.1 S.2.1 dX7_setAngle_86 rfl (lv_at hl 3 rfl) ?_
            refine x_iast S hK hJ hP hS dX7_setAngle_87 h66 (by decide) (j := (7 * k + 4)) (mul7 k 4) (by omega) (by decide) (fun H locs E1_7 hu hP hS => ?_)
            have h66 : E1_7 66 = .inl (xI g, 71, .inl (upd f (7 * k + 4) a)) := hu.1
            have h68 : E1_7 68 = .inl (xI g, 71, .inl fs) := (hu.2 _ (by omega)).trans h68
            have h69 : E1_7 69 = .inl (xI g, 3, .inl fa) := (hu.2 _ (by omega)).trans h69
            have h70 : E1_7 70 = .inl (xI g, 11, .inl fr) := (hu.2 _ (by omega)).trans h70
            have h71 : E1_7 71 = .inl (xI g, 10, .inl fl) := (hu.2 _ (by omega)).trans h71
            have h72 : E1_7 72 = .inl (xI g, 10, .inl fo) := (hu.2 _ (by omega)).trans h72
            have h73 : E1_7 73 = .inl (xC g, 60, .inl (ztf z)) := (hu.2 _ (by omega)).trans h73
            have h74 : E1_7 74 = .inl (xI g, 6, .inl fd) := (hu.2 _ (by omega)).trans h74
            have hfm : ∀ j, j < 65 → E1_7 j = E j := fun j hj => (hu.2 j (by omega)).trans (hfm j hj)
            have h65 : E1_7 65 = mO g (nI (rcS (zh z))) (bI (zf z)) hi od bs bb bf (nI (ztl z)) at9 nu := (hu.2 _ (by omega)).trans h65
            have h67 : E1_7 67 = .inl (xI g, 284, .inl fh2) := (hu.2 _ (by omega)).trans h67
            refine lv_aload_n S.1 S.2.1 dX7_setAngle_88 rfl (lv_at hl 1 rfl) ?_
            refine x_get S hK hP dX7_setAngle_89 h65 (by decide) (RX7, TX7, 19) rfl hin7 0 (by decide) fl7 rfl ?_
            refine lv_bipush (v := 7) S.1 S.2.1 dX7_setAngle_92 (by decide) ?_
            refine lv_iload_n S.1 S.2.1 dX7_setAngle_94 rfl (lv_at hl 2 rfl) ?_
            refine lv_imul S.1 S.2.1 dX7_setAngle_95 ?_
            refine lv_iconst (v := 5) S.1 S.2.1 dX7_setAngle_96 (by decide) ?_
            refine lv_iadd S.1 S.2.1 dX7_setAngle_97 ?_
            refine lv_iload_n S.1 S.2.1 dX7_setAngle_98 rfl (lv_at hl 4 rfl) ?_
            refine x_iast S hK hJ hP hS dX7_setAngle_99 h66 (by decide) (j := (7 * k + 5)) (mul7 k 5) (by omega) (by decide) (fun H locs E1_8 hu hP hS => ?_)
            have h66 : E1_8 66 = .inl (xI g, 71, .inl (upd (upd f (7 * k + 4) a) (7 * k + 5) e5)) := hu.1
            have h68 : E1_8 68 = .inl (xI g, 71, .inl fs) := (hu.2 _ (by omega)).trans h68
            have h69 : E1_8 69 = .inl (xI g, 3, .inl fa) := (hu.2 _ (by omega)).trans h69
            have h70 : E1_8 70 = .inl (xI g, 11, .inl fr) := (hu.2 _ (by omega)).trans h70
            have h71 : E1_8 71 = .inl (xI g, 10, .inl fl) := (hu.2 _ (by omega)).trans h71
            have h72 : E1_8 72 = .inl (xI g, 10, .inl fo) := (hu.2 _ (by omega)).trans h72
            have h73 : E1_8 73 = .inl (xC g, 60, .inl (ztf z)) := (hu.2 _ (by omega)).trans h73
            have h74 : E1_8 74 = .inl (xI g, 6, .inl fd) := (hu.2 _ (by omega)).trans h74
            have hfm : ∀ j, j < 65 → E1_8 j = E j := fun j hj => (hu.2 j (by omega)).trans (hfm j hj)
            have h65 : E1_8 65 = mO g (nI (rcS (zh z))) (bI (zf z)) hi od bs bb bf (nI (ztl z)) at9 nu := (hu.2 _ (by omega)).trans h65
            have h67 : E1_8 67 = .inl (xI g, 284, .inl fh2) := (hu.2 _ (by omega)).trans h67
            refine lv_iload S.1 S.2.1 dX7_setAngle_100 (lv_at hl 0 rfl) ?_
            exact x_iret S hr hlocks hP hS dX7_setAngle_102 (⟨_, Or.inr ⟨k, hk, rfl, Or.inr ⟨hok, Or.inr ⟨fun h => by first | exact c66 h.2 | exact c56 h.1, rfl, rfl⟩⟩⟩, sM.mk (z := wP (wR z) (zn z) (setM (setM (zM z) 4 k a) 5 k e5)) h65 rfl rfl rfl h66 h67 h68 h69 h70 h71 h72 h73 h74 ((hN.set (w := 4) (by decide) hk).set (w := 5) (by decide) hk) hHi2 hSl, hfm⟩)
          · skip
            refine lv_aload_n S.1 S.2.1 dX7_setAngle_59 rfl (lv_at hl 1 rfl) ?_
            refine lv_iload_n S.1 S.2.1 dX7_setAngle_60 rfl (lv_at hl 2 rfl) ?_
            refine lv_iconst (v := 5) S.1 S.2.1 dX7_setAngle_61 (by decide) ?_
            refine x_si (va_runV (As := [.int (nI k), .int 5]) (rest := []) S (c_X7_of l g E h65 h66 (k := k) (w := 5) (by omega)) (cwV 2 S.2.2.2.2 gX7_setAngle_X7_of rfl rfl rfl (by decide +kernel) ⟨Nat.le_of_ble_eq_true rfl, Nat.le_of_ble_eq_true rfl⟩) (x_preV hK hP h65 (by decide) rfl) rfl rfl hl.1 rfl (lv_room (Nat.le_of_ble_eq_true rfl)) dX7_setAngle_62 ⟨Nat.le_of_ble_eq_true rfl, Nat.le_of_ble_eq_true rfl⟩) (fun r62 hr62 => ?_)
            rw [hN.at0 (k := k) (w := 5) hk (by omega)] at hr62
            subst hr62
            refine lv_iload_n S.1 S.2.1 dX7_setAngle_65 rfl (lv_at hl 4 rfl) ?_
            refine lv_icmp_ne (tgt := 72) S.1 S.2.1 dX7_setAngle_66 (by decide) (fun c66 => ?_) (fun c66 => ?_)
            · skip
              refine lv_aload_n S.1 S.2.1 dX7_setAngle_72 rfl (lv_at hl 1 rfl) ?_
              refine x_qv (va_runV (As := []) (rest := []) S (c_X7_record l g hJ E h65 h66 hN h67 hs4 hHi) (cwV 0 S.2.2.2.2 gX7_setAngle_X7_record rfl rfl rfl (by decide +kernel) ⟨Nat.le_of_ble_eq_true rfl, Nat.le_of_ble_eq_true rfl⟩) (x_preV hK hP h65 (by decide) rfl) rfl rfl hl.1 rfl (lv_room (Nat.le_of_ble_eq_true rfl)) dX7_setAngle_73 ⟨Nat.le_of_ble_eq_true rfl, Nat.le_of_ble_eq_true rfl⟩) hS (fun E1_9 H locs hq73 hP hS => ?_)
              obtain ⟨hfr73, h65, fh2, h67, hHi2⟩ := hq73
              have h66 := (hfr73 66 (by decide) (by decide)).trans h66
              have h68 := (hfr73 68 (by decide) (by decide)).trans h68
              have h69 := (hfr73 69 (by decide) (by decide)).trans h69
              have h70 := (hfr73 70 (by decide) (by decide)).trans h70
              have h71 := (hfr73 71 (by decide) (by decide)).trans h71
              have h72 := (hfr73 72 (by decide) (by decide)).trans h72
              have h73 := (hfr73 73 (by decide) (by decide)).trans h73
              have h74 := (hfr73 74 (by decide) (by decide)).trans h74
              have hfm : ∀ j, j < 65 → E1_9 j = E j := fun j hj => (hfr73 j (by omega) (by omega)).trans (hfm j hj)
              refine lv_aload_n S.1 S.2.1 dX7_setAngle_76 rfl (lv_at hl 1 rfl) ?_
              refine x_get S hK hP dX7_setAngle_77 h65 (by decide) (RX7, TX7, 19) rfl hin7 0 (by decide) fl7 rfl ?_
              refine lv_bipush (v := 7) S.1 S.2.1 dX7_setAngle_80 (by decide) ?_
              refine lv_iload_n S.1 S.2.1 dX7_setAngle_82 rfl (lv_at hl 2 rfl) ?_
              refine lv_imul S.1 S.2.1 dX7_setAngle_83 ?_
              refine lv_iconst (v := 4) S.1 S.2.1 dX7_setAngle_84 (by decide) ?_
              refine lv_iadd S.1 S.2.1 dX7_setAngle_85 ?_
              refine lv_iload_n S.1 S.2.1 dX7_setAngle_86 rfl (lv_at hl 3 rfl) ?_
              refine x_iast S hK hJ hP hS dX7_setAngle_87 h66 (by decide) (j := (7 * k + 4)) (mul7 k 4) (by omega) (by decide) (fun H locs E1_10 hu hP hS => ?_)
              have h66 : E1_10 66 = .inl (xI g, 71, .inl (upd f (7 * k + 4) a)) := hu.1
              have h68 : E1_10 68 = .inl (xI g, 71, .inl fs) := (hu.2 _ (by omega)).trans h68
              have h69 : E1_10 69 = .inl (xI g, 3, .inl fa) := (hu.2 _ (by omega)).trans h69
              have h70 : E1_10 70 = .inl (xI g, 11, .inl fr) := (hu.2 _ (by omega)).trans h70
              have h71 : E1_10 71 = .inl (xI g, 10, .inl fl) := (hu.2 _ (by omega)).trans h71
              have h72 : E1_10 72 = .inl (xI g, 10, .inl fo) := (hu.2 _ (by omega)).trans h72
              have h73 : E1_10 73 = .inl (xC g, 60, .inl (ztf z)) := (hu.2 _ (by omega)).trans h73
              have h74 : E1_10 74 = .inl (xI g, 6, .inl fd) := (hu.2 _ (by omega)).trans h74
              have hfm : ∀ j, j < 65 → E1_10 j = E j := fun j hj => (hu.2 j (by omega)).trans (hfm j hj)
              have h65 : E1_10 65 = mO g (nI (rcS (zh z))) (bI (zf z)) hi od bs bb bf (nI (ztl z)) at9 nu := (hu.2 _ (by omega)).trans h65
              have h67 : E1_10 67 = .inl (xI g, 284, .inl fh2) := (hu.2 _ (by omega)).trans h67
              refine lv_aload_n S.1 S.2.1 dX7_setAngle_88 rfl (lv_at hl 1 rfl) ?_
              refine x_get S hK hP dX7_setAngle_89 h65 (by decide) (RX7, TX7, 19) rfl hin7 0 (by decide) fl7 rfl ?_
              refine lv_bipush (v := 7) S.1 S.2.1 dX7_setAngle_92 (by decide) ?_
              refine lv_iload_n S.1 S.2.1 dX7_setAngle_94 rfl (lv_at hl 2 rfl) ?_
              refine lv_imul S.1 S.2.1 dX7_setAngle_95 ?_
              refine lv_iconst (v := 5) S.1 S.2.1 dX7_setAngle_96 (by decide) ?_
              refine lv_iadd S.1 S.2.1 dX7_setAngle_97 ?_
              refine lv_iload_n S.1 S.2.1 dX7_setAngle_98 rfl (lv_at hl 4 rfl) ?_
              refine x_iast S hK hJ hP hS dX7_setAngle_99 h66 (by decide) (j := (7 * k + 5)) (mul7 k 5) (by omega) (by decide) (fun H locs E1_11 hu hP hS => ?_)
              have h66 : E1_11 66 = .inl (xI g, 71, .inl (upd (upd f (7 * k + 4) a) (7 * k + 5) e5)) := hu.1
              have h68 : E1_11 68 = .inl (xI g, 71, .inl fs) := (hu.2 _ (by omega)).trans h68
              have h69 : E1_11 69 = .inl (xI g, 3, .inl fa) := (hu.2 _ (by omega)).trans h69
              have h70 : E1_11 70 = .inl (xI g, 11, .inl fr) := (hu.2 _ (by omega)).trans h70
              have h71 : E1_11 71 = .inl (xI g, 10, .inl fl) := (hu.2 _ (by omega)).trans h71
              have h72 : E1_11 72 = .inl (xI g, 10, .inl fo) := (hu.2 _ (by omega)).trans h72
              have h73 : E1_11 73 = .inl (xC g, 60, .inl (ztf z)) := (hu.2 _ (by omega)).trans h73
              have h74 : E1_11 74 = .inl (xI g, 6, .inl fd) := (hu.2 _ (by omega)).trans h74
              have hfm : ∀ j, j < 65 → E1_11 j = E j := fun j hj => (hu.2 j (by omega)).trans (hfm j hj)
              have h65 : E1_11 65 = mO g (nI (rcS (zh z))) (bI (zf z)) hi od bs bb bf (nI (ztl z)) at9 nu := (hu.2 _ (by omega)).trans h65
              have h67 : E1_11 67 = .inl (xI g, 284, .inl fh2) := (hu.2 _ (by omega)).trans h67
              refine lv_iload S.1 S.2.1 dX7_setAngle_100 (lv_at hl 0 rfl) ?_
              exact x_iret S hr hlocks hP hS dX7_setAngle_102 (⟨_, Or.inr ⟨k, hk, rfl, Or.inr ⟨hok, Or.inr ⟨fun h => by first | exact c66 h.2 | exact c56 h.1, rfl, rfl⟩⟩⟩, sM.mk (z := wP (wR z) (zn z) (setM (setM (zM z) 4 k a) 5 k e5)) h65 rfl rfl rfl h66 h67 h68 h69 h70 h71 h72 h73 h74 ((hN.set (w := 4) (by decide) hk).set (w := 5) (by decide) hk) hHi2 hSl, hfm⟩)
            · skip
              refine lv_bipush (v := (-5)) S.1 S.2.1 dX7_setAngle_69 (by decide) ?_
              exact x_iret S hr hlocks hP hS dX7_setAngle_71 (⟨z, Or.inr ⟨k, hk, rfl, Or.inr ⟨hok, Or.inl ⟨⟨c56, c66⟩, rfl, rfl⟩⟩⟩, sM.mk h65 rfl rfl rfl h66 h67 h68 h69 h70 h71 h72 h73 h74 hN hHi hSl, hfm⟩)
        · skip
          refine lv_bipush (v := (-2)) S.1 S.2.1 dX7_setAngle_42 (by decide) ?_
          exact x_iret S hr hlocks hP hS dX7_setAngle_44 (⟨z, Or.inr ⟨k, hk, rfl, Or.inl ⟨fun h => hr36.f c39 ⟨h.2.1.1, by rw [h.2.2 c27]; decide⟩, rfl, rfl⟩⟩, sM.mk h65 rfl rfl rfl h66 h67 h68 h69 h70 h71 h72 h73 h74 hN hHi hSl, hfm⟩)
  · skip
    refine lv_iconst (v := (-1)) S.1 S.2.1 dX7_setAngle_8 (by decide) ?_
    exact x_iret S hr hlocks hP hS dX7_setAngle_9 (⟨z, Or.inl ⟨hr2.t c5, rfl, rfl⟩, sM.mk h65 rfl rfl rfl h66 h67 h68 h69 h70 h71 h72 h73 h74 hN hHi hSl, hfm⟩)
set_option maxHeartbeats 4000000 in
set_option maxRecDepth 100000 in
theorem c_X7_move (l : Launch) (g : xG) (hJ : xJ (xad g)) (E : Nat → va_E) {z : xS} (hz : sM g E z) (hv : vS z) (x a b : Int32) : Met l yX7_move wsX7_move ({ frames := 7, cells := 0, slots := 0, locals := 176 }) (xPc g [.ref (xad g 65), .int x, .int a, .int b] E) (xQi g (fun r E1 => ∃ z1, sp_move z x a b r z1 ∧ sM g E1 z1 ∧ ∀ j, j < 65 → E1 j = E j)) 0 0 (xA (xad g)) := by
  refine x_met (ws' := _) (by decide) rfl (Nat.le_of_ble_eq_true rfl) ?_
  intro pz ez s m below meth cz ls S hr hlocks hP hK hl
  have hl : lv_has ls 4 [(0, .ref (xad g 65)), (1, .int x), (2, .int a), (3, .int b)] := hl
  have hS : va_S (xA (xad g)) s.heap s.heap [] := va_S.rf
  have hin7 : ∀ w ∈ u_ws RX7 TX7 19, w ∈ wsX7_move := by decide +kernel
  have fl7 : Cond.fieldLink RX7 7 "DiscArcsModel" "now" "[I" ∈ wsX7_move := by decide +kernel
  obtain ⟨hi, od, bs, bb, bf, at9, nu, f, fh, fs, fa, fr, fl, fo, fd, h65, h66, h67, h68, h69, h70, h71, h72, h73, h74, hN, hHi, hSl⟩ := id hz
  have hn := hN.1
  have hn0 := hN.n0
  have hv1 := hv.1.2
  have hfm : ∀ j, j < 65 → E j = E j := fun _ _ => rfl
  have hs4 := hv.2.1.1
  have htl := hv.2.2.2
  refine lv_aload_n S.1 S.2.1 dX7_move_0 rfl (lv_at hl 0 rfl) ?_
  refine lv_iload_n S.1 S.2.1 dX7_move_1 rfl (lv_at hl 1 rfl) ?_
  refine x_si (va_runV (As := [.int x]) (rest := []) S (c_X7_no l g E h65 h66 hN x) (cwV 1 S.2.2.2.2 gX7_move_X7_no rfl rfl rfl (by decide +kernel) ⟨Nat.le_of_ble_eq_true rfl, Nat.le_of_ble_eq_true rfl⟩) (x_preV hK hP h65 (by decide) rfl) rfl rfl hl.1 rfl (lv_room (Nat.le_of_ble_eq_true rfl)) dX7_move_2 ⟨Nat.le_of_ble_eq_true rfl, Nat.le_of_ble_eq_true rfl⟩) (fun r2 hr2 => ?_)
  refine lv_if_eq (tgt := 10) S.1 S.2.1 dX7_move_5 (by decide) (fun c5 => ?_) (fun c5 => ?_)
  · skip
    obtain ⟨k, hk, rfl⟩ := Classical.not_not.mp (hr2.f c5)
    refine lv_iload_n S.1 S.2.1 dX7_move_10 rfl (lv_at hl 2 rfl) ?_
    refine lv_sipush (v := (-400)) S.1 S.2.1 dX7_move_11 (by decide) ?_
    refine lv_sipush (v := 400) S.1 S.2.1 dX7_move_14 (by decide) ?_
    refine x_si (va_runS (As := [.int a, .int (-400), .int 400]) (rest := []) S (c_X7_in l g E a (-400) 400) (va_cwS 3 S.2.2.2.2 gX7_move_X7_in rfl rfl rfl (by decide +kernel) ⟨Nat.le_of_ble_eq_true rfl, Nat.le_of_ble_eq_true rfl⟩) (x_preS hK hP) rfl rfl hl.1 rfl (lv_room (Nat.le_of_ble_eq_true rfl)) dX7_move_17 ⟨Nat.le_of_ble_eq_true rfl, Nat.le_of_ble_eq_true rfl⟩) (fun r17 hr17 => ?_)
    refine lv_if_eq (tgt := 36) S.1 S.2.1 dX7_move_20 (by decide) (fun c20 => ?_) (fun c20 => ?_)
    · skip
      refine lv_bipush (v := (-2)) S.1 S.2.1 dX7_move_36 (by decide) ?_
      exact x_iret S hr hlocks hP hS dX7_move_38 (⟨z, Or.inr ⟨k, hk, rfl, Or.inl ⟨fun h => by first | exact hr30.f c33 h.2 | exact hr17.f c20 h.1, rfl, rfl⟩⟩, sM.mk h65 rfl rfl rfl h66 h67 h68 h69 h70 h71 h72 h73 h74 hN hHi hSl, hfm⟩)
    · skip
      refine lv_iload_n S.1 S.2.1 dX7_move_23 rfl (lv_at hl 3 rfl) ?_
      refine lv_sipush (v := (-400)) S.1 S.2.1 dX7_move_24 (by decide) ?_
      refine lv_sipush (v := 400) S.1 S.2.1 dX7_move_27 (by decide) ?_
      refine x_si (va_runS (As := [.int b, .int (-400), .int 400]) (rest := []) S (c_X7_in l g E b (-400) 400) (va_cwS 3 S.2.2.2.2 gX7_move_X7_in rfl rfl rfl (by decide +kernel) ⟨Nat.le_of_ble_eq_true rfl, Nat.le_of_ble_eq_true rfl⟩) (x_preS hK hP) rfl rfl hl.1 rfl (lv_room (Nat.le_of_ble_eq_true rfl)) dX7_move_30 ⟨Nat.le_of_ble_eq_true rfl, Nat.le_of_ble_eq_true rfl⟩) (fun r30 hr30 => ?_)
      refine lv_if_ne (tgt := 39) S.1 S.2.1 dX7_move_33 (by decide) (fun c33 => ?_) (fun c33 => ?_)
      · skip
        have hoa := hr17.t c20
        have hob := hr30.t c33
        refine lv_aload_n S.1 S.2.1 dX7_move_39 rfl (lv_at hl 0 rfl) ?_
        refine lv_iload_n S.1 S.2.1 dX7_move_40 rfl (lv_at hl 1 rfl) ?_
        refine lv_iconst (v := 1) S.1 S.2.1 dX7_move_41 (by decide) ?_
        refine x_si (va_runV (As := [.int (nI k), .int 1]) (rest := []) S (c_X7_of l g E h65 h66 (k := k) (w := 1) (by omega)) (cwV 2 S.2.2.2.2 gX7_move_X7_of rfl rfl rfl (by decide +kernel) ⟨Nat.le_of_ble_eq_true rfl, Nat.le_of_ble_eq_true rfl⟩) (x_preV hK hP h65 (by decide) rfl) rfl rfl hl.1 rfl (lv_room (Nat.le_of_ble_eq_true rfl)) dX7_move_42 ⟨Nat.le_of_ble_eq_true rfl, Nat.le_of_ble_eq_true rfl⟩) (fun r42 hr42 => ?_)
        rw [hN.at0 (k := k) (w := 1) hk (by omega)] at hr42
        subst hr42
        refine lv_iload_n S.1 S.2.1 dX7_move_45 rfl (lv_at hl 2 rfl) ?_
        refine lv_icmp_ne (tgt := 62) S.1 S.2.1 dX7_move_46 (by decide) (fun c46 => ?_) (fun c46 => ?_)
        · skip
          refine lv_aload_n S.1 S.2.1 dX7_move_62 rfl (lv_at hl 0 rfl) ?_
          refine x_qv (va_runV (As := []) (rest := []) S (c_X7_record l g hJ E h65 h66 hN h67 hs4 hHi) (cwV 0 S.2.2.2.2 gX7_move_X7_record rfl rfl rfl (by decide +kernel) ⟨Nat.le_of_ble_eq_true rfl, Nat.le_of_ble_eq_true rfl⟩) (x_preV hK hP h65 (by decide) rfl) rfl rfl hl.1 rfl (lv_room (Nat.le_of_ble_eq_true rfl)) dX7_move_63 ⟨Nat.le_of_ble_eq_true rfl, Nat.le_of_ble_eq_true rfl⟩) hS (fun E1 H locs hq63 hP hS => ?_)
          obtain ⟨hfr63, h65, fh2, h67, hHi2⟩ := hq63
          have h66 := (hfr63 66 (by decide) (by decide)).trans h66
          have h68 := (hfr63 68 (by decide) (by decide)).trans h68
          have h69 := (hfr63 69 (by decide) (by decide)).trans h69
          have h70 := (hfr63 70 (by decide) (by decide)).trans h70
          have h71 := (hfr63 71 (by decide) (by decide)).trans h71
          have h72 := (hfr63 72 (by decide) (by decide)).trans h72
          have h73 := (hfr63 73 (by decide) (by decide)).trans h73
          have h74 := (hfr63 74 (by decide) (by decide)).trans h74
          have hfm : ∀ j, j < 65 → E1 j = E j := fun j hj => (hfr63 j (by omega) (by omega)).trans (hfm j hj)
          refine lv_aload_n S.1 S.2.1 dX7_move_66 rfl (lv_at hl 0 rfl) ?_
          refine x_get S hK hP dX7_move_67 h65 (by decide) (RX7, TX7, 19) rfl hin7 0 (by decide) fl7 rfl ?_
          refine lv_bipush (v := 7) S.1 S.2.1 dX7_move_70 (by decide) ?_
          refine lv_iload_n S.1 S.2.1 dX7_move_72 rfl (lv_at hl 1 rfl) ?_
          refine lv_imul S.1 S.2.1 dX7_move_73 ?_
          refine lv_iconst (v := 1) S.1 S.2.1 dX7_move_74 (by decide) ?_
          refine lv_iadd S.1 S.2.1 dX7_move_75 ?_
          refine lv_iload_n S.1 S.2.1 dX7_move_76 rfl (lv_at hl 2 rfl) ?_
          refine x_iast S hK hJ hP hS dX7_move_77 h66 (by decide) (j := (7 * k + 1)) (mul7 k 1) (by omega) (by decide) (fun H locs E1_1 hu hP hS => ?_)
          have h66 : E1_1 66 = .inl (xI g, 71, .inl (upd f (7 * k + 1) a)) := hu.1
          have h68 : E1_1 68 = .inl (xI g, 71, .inl fs) := (hu.2 _ (by omega)).trans h68
          have h69 : E1_1 69 = .inl (xI g, 3, .inl fa) := (hu.2 _ (by omega)).trans h69
          have h70 : E1_1 70 = .inl (xI g, 11, .inl fr) := (hu.2 _ (by omega)).trans h70
          have h71 : E1_1 71 = .inl (xI g, 10, .inl fl) := (hu.2 _ (by omega)).trans h71
          have h72 : E1_1 72 = .inl (xI g, 10, .inl fo) := (hu.2 _ (by omega)).trans h72
          have h73 : E1_1 73 = .inl (xC g, 60, .inl (ztf z)) := (hu.2 _ (by omega)).trans h73
          have h74 : E1_1 74 = .inl (xI g, 6, .inl fd) := (hu.2 _ (by omega)).trans h74
          have hfm : ∀ j, j < 65 → E1_1 j = E j := fun j hj => (hu.2 j (by omega)).trans (hfm j hj)
          have h65 : E1_1 65 = mO g (nI (rcS (zh z))) (bI (zf z)) hi od bs bb bf (nI (ztl z)) at9 nu := (hu.2 _ (by omega)).trans h65
          have h67 : E1_1 67 = .inl (xI g, 284, .inl fh2) := (hu.2 _ (by omega)).trans h67
          refine lv_aload_n S.1 S.2.1 dX7_move_78 rfl (lv_at hl 0 rfl) ?_
          refine x_get S hK hP dX7_move_79 h65 (by decide) (RX7, TX7, 19) rfl hin7 0 (by decide) fl7 rfl ?_
          refine lv_bipush (v := 7) S.1 S.2.1 dX7_move_82 (by decide) ?_
          refine lv_iload_n S.1 S.2.1 dX7_move_84 rfl (lv_at hl 1 rfl) ?_
          refine lv_imul S.1 S.2.1 dX7_move_85 ?_
          refine lv_iconst (v := 1) S.1 S.2.1 dX7_move_86 (by decide) ?_
          refine lv_iadd S.1 S.2.1 dX7_move_87 ?_
          refine lv_iconst (v := 1) S.1 S.2.1 dX7_move_88 (by decide) ?_
          refine lv_iadd S.1 S.2.1 dX7_move_89 ?_
          refine lv_iload_n S.1 S.2.1 dX7_move_90 rfl (lv_at hl 3 rfl) ?_
          refine x_iast S hK hJ hP hS dX7_move_91 h66 (by decide) (j := (7 * k + 2)) (by rw [show (7 : Int32) * nI k + 1 = nI (7 * k + 1) from mul7 k 1]; exact nI_1 _) (by omega) (by decide) (fun H locs E1_2 hu hP hS => ?_)
          have h66 : E1_2 66 = .inl (xI g, 71, .inl (upd (upd f (7 * k + 1) a) (7 * k + 2) b)) := hu.1
          have h68 : E1_2 68 = .inl (xI g, 71, .inl fs) := (hu.2 _ (by omega)).trans h68
          have h69 : E1_2 69 = .inl (xI g, 3, .inl fa) := (hu.2 _ (by omega)).trans h69
          have h70 : E1_2 70 = .inl (xI g, 11, .inl fr) := (hu.2 _ (by omega)).trans h70
          have h71 : E1_2 71 = .inl (xI g, 10, .inl fl) := (hu.2 _ (by omega)).trans h71
          have h72 : E1_2 72 = .inl (xI g, 10, .inl fo) := (hu.2 _ (by omega)).trans h72
          have h73 : E1_2 73 = .inl (xC g, 60, .inl (ztf z)) := (hu.2 _ (by omega)).trans h73
          have h74 : E1_2 74 = .inl (xI g, 6, .inl fd) := (hu.2 _ (by omega)).trans h74
          have hfm : ∀ j, j < 65 → E1_2 j = E j := fun j hj => (hu.2 j (by omega)).trans (hfm j hj)
          have h65 : E1_2 65 = mO g (nI (rcS (zh z))) (bI (zf z)) hi od bs bb bf (nI (ztl z)) at9 nu := (hu.2 _ (by omega)).trans h65
          have h67 : E1_2 67 = .inl (xI g, 284, .inl fh2) := (hu.2 _ (by omega)).trans h67
          have hN2 := (hN.set (w := 1) (x := a) (by decide) hk).set (w := 2) (x := b) (by decide) hk
          refine lv_aload_n S.1 S.2.1 dX7_move_92 rfl (lv_at hl 0 rfl) ?_
          refine x_qi (va_runV (As := []) (rest := []) S (c_X7_missed l g hJ E1_2 h65 h66 hN2 h69) (cwV 0 S.2.2.2.2 gX7_move_X7_missed rfl rfl rfl (by decide +kernel) ⟨Nat.le_of_ble_eq_true rfl, Nat.le_of_ble_eq_true rfl⟩) (x_preV hK hP h65 (by decide) rfl) rfl rfl hl.1 rfl (lv_room (Nat.le_of_ble_eq_true rfl)) dX7_move_93 ⟨Nat.le_of_ble_eq_true rfl, Nat.le_of_ble_eq_true rfl⟩) hS (fun r93 E1_3 H locs hq93 hP hS => ?_)
          obtain ⟨hfr93, ⟨h9, fa9, h65, h69⟩, v, hmv, hr93⟩ := hq93
          have h66 := (hfr93 66 (by decide) (by decide)).trans h66
          have h68 := (hfr93 68 (by decide) (by decide)).trans h68
          have h70 := (hfr93 70 (by decide) (by decide)).trans h70
          have h71 := (hfr93 71 (by decide) (by decide)).trans h71
          have h72 := (hfr93 72 (by decide) (by decide)).trans h72
          have h73 := (hfr93 73 (by decide) (by decide)).trans h73
          have h74 := (hfr93 74 (by decide) (by decide)).trans h74
          have hfm : ∀ j, j < 65 → E1_3 j = E j := fun j hj => (hfr93 j (by omega) (by omega)).trans (hfm j hj)
          have h67 := (hfr93 67 (by decide) (by decide)).trans h67
          subst hr93
          refine x_si (va_runS (As := [.int (nI v)]) (rest := []) S (c_X7_bits l g E1_3 (hmv.lt hn)) (va_cwS 1 S.2.2.2.2 gX7_move_X7_bits rfl rfl rfl (by decide +kernel) ⟨Nat.le_of_ble_eq_true rfl, Nat.le_of_ble_eq_true rfl⟩) (x_preS hK hP) rfl rfl hl.1 rfl (lv_room (Nat.le_of_ble_eq_true rfl)) dX7_move_96 ⟨Nat.le_of_ble_eq_true rfl, Nat.le_of_ble_eq_true rfl⟩) (fun r96 hr96 => ?_)
          exact x_iret S hr hlocks hP hS dX7_move_99 (⟨_, Or.inr ⟨k, hk, rfl, Or.inr ⟨⟨hoa, hob⟩, Or.inr ⟨fun h => by first | exact c56 h.2 | exact c46 h.1, ⟨v, hmv, hr96⟩, rfl⟩⟩⟩, sM.mk (z := wP (wR z) (zn z) (setM (setM (zM z) 1 k a) 2 k b)) h65 rfl rfl rfl h66 h67 h68 h69 h70 h71 h72 h73 h74 hN2 hHi2 hSl, hfm⟩)
        · skip
          refine lv_aload_n S.1 S.2.1 dX7_move_49 rfl (lv_at hl 0 rfl) ?_
          refine lv_iload_n S.1 S.2.1 dX7_move_50 rfl (lv_at hl 1 rfl) ?_
          refine lv_iconst (v := 2) S.1 S.2.1 dX7_move_51 (by decide) ?_
          refine x_si (va_runV (As := [.int (nI k), .int 2]) (rest := []) S (c_X7_of l g E h65 h66 (k := k) (w := 2) (by omega)) (cwV 2 S.2.2.2.2 gX7_move_X7_of rfl rfl rfl (by decide +kernel) ⟨Nat.le_of_ble_eq_true rfl, Nat.le_of_ble_eq_true rfl⟩) (x_preV hK hP h65 (by decide) rfl) rfl rfl hl.1 rfl (lv_room (Nat.le_of_ble_eq_true rfl)) dX7_move_52 ⟨Nat.le_of_ble_eq_true rfl, Nat.le_of_ble_eq_true rfl⟩) (fun r52 hr52 => ?_)
          rw [hN.at0 (k := k) (w := 2) hk (by omega)] at hr52
          subst hr52
          refine lv_iload_n S.1 S.2.1 dX7_move_55 rfl (lv_at hl 3 rfl) ?_
          refine lv_icmp_ne (tgt := 62) S.1 S.2.1 dX7_move_56 (by decide) (fun c56 => ?_) (fun c56 => ?_)
          · skip
            refine lv_aload_n S.1 S.2.1 dX7_move_62 rfl (lv_at hl 0 rfl) ?_
            refine x_qv (va_runV (As := []) (rest := []) S (c_X7_record l g hJ E h65 h66 hN h67 hs4 hHi) (cwV 0 S.2.2.2.2 gX7_move_X7_record rfl rfl rfl (by decide +kernel) ⟨Nat.le_of_ble_eq_true rfl, Nat.le_of_ble_eq_true rfl⟩) (x_preV hK hP h65 (by decide) rfl) rfl rfl hl.1 rfl (lv_room (Nat.le_of_ble_eq_true rfl)) dX7_move_63 ⟨Nat.le_of_ble_eq_true rfl, Nat.le_of_ble_eq_true rfl⟩) hS (fun E1_4 H locs hq63 hP hS => ?_)
            obtain ⟨hfr63, h65, fh2, h67, hHi2⟩ := hq63
            have h66 := (hfr63 66 (by decide) (by decide)).trans h66
            have h68 := (hfr63 68 (by decide) (by decide)).trans h68
            have h69 := (hfr63 69 (by decide) (by decide)).trans h69
            have h70 := (hfr63 70 (by decide) (by decide)).trans h70
            have h71 := (hfr63 71 (by decide) (by decide)).trans h71
            have h72 := (hfr63 72 (by decide) (by decide)).trans h72
            have h73 := (hfr63 73 (by decide) (by decide)).trans h73
            have h74 := (hfr63 74 (by decide) (by decide)).trans h74
            have hfm : ∀ j, j < 65 → E1_4 j = E j := fun j hj => (hfr63 j (by omega) (by omega)).trans (hfm j hj)
            refine lv_aload_n S.1 S.2.1 dX7_move_66 rfl (lv_at hl 0 rfl) ?_
            refine x_get S hK hP dX7_move_67 h65 (by decide) (RX7, TX7, 19) rfl hin7 0 (by decide) fl7 rfl ?_
            refine lv_bipush (v := 7) S.1 S.2.1 dX7_move_70 (by decide) ?_
            refine lv_iload_n S.1 S.2.1 dX7_move_72 rfl (lv_at hl 1 rfl) ?_
            refine lv_imul S.1 S.2.1 dX7_move_73 ?_
            refine lv_iconst (v := 1) S.1 S.2.1 dX7_move_74 (by decide) ?_
            refine lv_iadd S.1 S.2.1 dX7_move_75 ?_
            refine lv_iload_n S.1 S.2.1 dX7_move_76 rfl (lv_at hl 2 rfl) ?_
            refine x_iast S hK hJ hP hS dX7_move_77 h66 (by decide) (j := (7 * k + 1)) (mul7 k 1) (by omega) (by decide) (fun H locs E1_5 hu hP hS => ?_)
            have h66 : E1_5 66 = .inl (xI g, 71, .inl (upd f (7 * k + 1) a)) := hu.1
            have h68 : E1_5 68 = .inl (xI g, 71, .inl fs) := (hu.2 _ (by omega)).trans h68
            have h69 : E1_5 69 = .inl (xI g, 3, .inl fa) := (hu.2 _ (by omega)).trans h69
            have h70 : E1_5 70 = .inl (xI g, 11, .inl fr) := (hu.2 _ (by omega)).trans h70
            have h71 : E1_5 71 = .inl (xI g, 10, .inl fl) := (hu.2 _ (by omega)).trans h71
            have h72 : E1_5 72 = .inl (xI g, 10, .inl fo) := (hu.2 _ (by omega)).trans h72
            have h73 : E1_5 73 = .inl (xC g, 60, .inl (ztf z)) := (hu.2 _ (by omega)).trans h73
            have h74 : E1_5 74 = .inl (xI g, 6, .inl fd) := (hu.2 _ (by omega)).trans h74
            have hfm : ∀ j, j < 65 → E1_5 j = E j := fun j hj => (hu.2 j (by omega)).trans (hfm j hj)
            have h65 : E1_5 65 = mO g (nI (rcS (zh z))) (bI (zf z)) hi od bs bb bf (nI (ztl z)) at9 nu := (hu.2 _ (by omega)).trans h65
            have h67 : E1_5 67 = .inl (xI g, 284, .inl fh2) := (hu.2 _ (by omega)).trans h67
            refine lv_aload_n S.1 S.2.1 dX7_move_78 rfl (lv_at hl 0 rfl) ?_
            refine x_get S hK hP dX7_move_79 h65 (by decide) (RX7, TX7, 19) rfl hin7 0 (by decide) fl7 rfl ?_
            refine lv_bipush (v := 7) S.1 S.2.1 dX7_move_82 (by decide) ?_
            refine lv_iload_n S.1 S.2.1 dX7_move_84 rfl (lv_at hl 1 rfl) ?_
            refine lv_imul S.1 S.2.1 dX7_move_85 ?_
            refine lv_iconst (v := 1) S.1 S.2.1 dX7_move_86 (by decide) ?_
            refine lv_iadd S.1 S.2.1 dX7_move_87 ?_
            refine lv_iconst (v := 1) S.1 S.2.1 dX7_move_88 (by decide) ?_
            refine lv_iadd S.1 S.2.1 dX7_move_89 ?_
            refine lv_iload_n S.1 S.2.1 dX7_move_90 rfl (lv_at hl 3 rfl) ?_
            refine x_iast S hK hJ hP hS dX7_move_91 h66 (by decide) (j := (7 * k + 2)) (by rw [show (7 : Int32) * nI k + 1 = nI (7 * k + 1) from mul7 k 1]; exact nI_1 _) (by omega) (by decide) (fun H locs E1_6 hu hP hS => ?_)
            have h66 : E1_6 66 = .inl (xI g, 71, .inl (upd (upd f (7 * k + 1) a) (7 * k + 2) b)) := hu.1
            have h68 : E1_6 68 = .inl (xI g, 71, .inl fs) := (hu.2 _ (by omega)).trans h68
            have h69 : E1_6 69 = .inl (xI g, 3, .inl fa) := (hu.2 _ (by omega)).trans h69
            have h70 : E1_6 70 = .inl (xI g, 11, .inl fr) := (hu.2 _ (by omega)).trans h70
            have h71 : E1_6 71 = .inl (xI g, 10, .inl fl) := (hu.2 _ (by omega)).trans h71
            have h72 : E1_6 72 = .inl (xI g, 10, .inl fo) := (hu.2 _ (by omega)).trans h72
            have h73 : E1_6 73 = .inl (xC g, 60, .inl (ztf z)) := (hu.2 _ (by omega)).trans h73
            have h74 : E1_6 74 = .inl (xI g, 6, .inl fd) := (hu.2 _ (by omega)).trans h74
            have hfm : ∀ j, j < 65 → E1_6 j = E j := fun j hj => (hu.2 j (by omega)).trans (hfm j hj)
            have h65 : E1_6 65 = mO g (nI (rcS (zh z))) (bI (zf z)) hi od bs bb bf (nI (ztl z)) at9 nu := (hu.2 _ (by omega)).trans h65
            have h67 : E1_6 67 = .inl (xI g, 284, .inl fh2) := (hu.2 _ (by omega)).trans h67
            have hN2 := (hN.set (w := 1) (x := a) (by decide) hk).set (w := 2) (x := b) (by decide) hk
            refine lv_aload_n S.1 S.2.1 dX7_move_92 rfl (lv_at hl 0 rfl) ?_
            refine x_qi (va_runV (As := []) (rest := []) S (c_X7_missed l g hJ E1_6 h65 h66 hN2 h69) (cwV 0 S.2.2.2.2 gX7_move_X7_missed rfl rfl rfl (by decide +kernel) ⟨Nat.le_of_ble_eq_true rfl, Nat.le_of_ble_eq_true rfl⟩) (x_preV hK hP h65 (by decide) rfl) rfl rfl hl.1 rfl (lv_room (Nat.le_of_ble_eq_true rfl)) dX7_move_93 ⟨Nat.le_of_ble_eq_true rfl, Nat.le_of_ble_eq_true rfl⟩) hS (fun r93 E1_7 H locs hq93 hP hS => ?_)
            obtain ⟨hfr93, ⟨h9, fa9, h65, h69⟩, v, hmv, hr93⟩ := hq93
            have h66 := (hfr93 66 (by decide) (by decide)).trans h66
            have h68 := (hfr93 68 (by decide) (by decide)).trans h68
            have h70 := (hfr93 70 (by decide) (by decide)).trans h70
            have h71 := (hfr93 71 (by decide) (by decide)).trans h71
            have h72 := (hfr93 72 (by decide) (by decide)).trans h72
            have h73 := (hfr93 73 (by decide) (by decide)).trans h73
            have h74 := (hfr93 74 (by decide) (by decide)).trans h74
            have hfm : ∀ j, j < 65 → E1_7 j = E j := fun j hj => (hfr93 j (by omega) (by omega)).trans (hfm j hj)
            have h67 := (hfr93 67 (by decide) (by decide)).trans h67
            subst hr93
            refine x_si (va_runS (As := [.int (nI v)]) (rest := []) S (c_X7_bits l g E1_7 (hmv.lt hn)) (va_cwS 1 S.2.2.2.2 gX7_move_X7_bits rfl rfl rfl (by decide +kernel) ⟨Nat.le_of_ble_eq_true rfl, Nat.le_of_ble_eq_true rfl⟩) (x_preS hK hP) rfl rfl hl.1 rfl (lv_room (Nat.le_of_ble_eq_true rfl)) dX7_move_96 ⟨Nat.le_of_ble_eq_true rfl, Nat.le_of_ble_eq_true rfl⟩) (fun r96 hr96 => ?_)
            exact x_iret S hr hlocks hP hS dX7_move_99 (⟨_, Or.inr ⟨k, hk, rfl, Or.inr ⟨⟨hoa, hob⟩, Or.inr ⟨fun h => by first | exact c56 h.2 | exact c46 h.1, ⟨v, hmv, hr96⟩, rfl⟩⟩⟩, sM.mk (z := wP (wR z) (zn z) (setM (setM (zM z) 1 k a) 2 k b)) h65 rfl rfl rfl h66 h67 h68 h69 h70 h71 h72 h73 h74 hN2 hHi2 hSl, hfm⟩)
          · skip
            refine lv_bipush (v := (-5)) S.1 S.2.1 dX7_move_59 (by decide) ?_
            exact x_iret S hr hlocks hP hS dX7_move_61 (⟨z, Or.inr ⟨k, hk, rfl, Or.inr ⟨⟨hoa, hob⟩, Or.inl ⟨⟨c46, c56⟩, rfl, rfl⟩⟩⟩, sM.mk h65 rfl rfl rfl h66 h67 h68 h69 h70 h71 h72 h73 h74 hN hHi hSl, hfm⟩)
      · skip
        refine lv_bipush (v := (-2)) S.1 S.2.1 dX7_move_36 (by decide) ?_
        exact x_iret S hr hlocks hP hS dX7_move_38 (⟨z, Or.inr ⟨k, hk, rfl, Or.inl ⟨fun h => by first | exact hr30.f c33 h.2 | exact hr17.f c20 h.1, rfl, rfl⟩⟩, sM.mk h65 rfl rfl rfl h66 h67 h68 h69 h70 h71 h72 h73 h74 hN hHi hSl, hfm⟩)
  · skip
    refine lv_iconst (v := (-1)) S.1 S.2.1 dX7_move_8 (by decide) ?_
    exact x_iret S hr hlocks hP hS dX7_move_9 (⟨z, Or.inl ⟨hr2.t c5, rfl, rfl⟩, sM.mk h65 rfl rfl rfl h66 h67 h68 h69 h70 h71 h72 h73 h74 hN hHi hSl, hfm⟩)
set_option maxHeartbeats 4000000 in
set_option maxRecDepth 100000 in
theorem c_X7_setAside (l : Launch) (g : xG) (hJ : xJ (xad g)) (E : Nat → va_E) {z : xS} (hz : sM g E z) (hv : vS z) (x : Int32) (b : Bool) : Met l yX7_setAside wsX7_setAside ({ frames := 3, cells := 0, slots := 0, locals := 65 }) (xPc g [.ref (xad g 65), .int x, .int (bI b)] E) (xQi g (fun r E1 => ∃ z1, sp_setAside z x b r z1 ∧ sM g E1 z1 ∧ ∀ j, j < 65 → E1 j = E j)) 0 0 (xA (xad g)) := by
  refine x_met (ws' := _) (by decide) rfl (Nat.le_of_ble_eq_true rfl) ?_
  intro pz ez s m below meth cz ls S hr hlocks hP hK hl
  have hl : lv_has ls 3 [(0, .ref (xad g 65)), (1, .int x), (2, .int (bI b))] := hl
  have hS : va_S (xA (xad g)) s.heap s.heap [] := va_S.rf
  have hin7 : ∀ w ∈ u_ws RX7 TX7 19, w ∈ wsX7_setAside := by decide +kernel
  have fl7 : Cond.fieldLink RX7 7 "DiscArcsModel" "now" "[I" ∈ wsX7_setAside := by decide +kernel
  obtain ⟨hi, od, bs, bb, bf, at9, nu, f, fh, fs, fa, fr, fl, fo, fd, h65, h66, h67, h68, h69, h70, h71, h72, h73, h74, hN, hHi, hSl⟩ := id hz
  have hn := hN.1
  have hn0 := hN.n0
  have hv1 := hv.1.2
  have hfm : ∀ j, j < 65 → E j = E j := fun _ _ => rfl
  have hs4 := hv.2.1.1
  have htl := hv.2.2.2
  refine lv_aload_n S.1 S.2.1 dX7_setAside_0 rfl (lv_at hl 0 rfl) ?_
  refine lv_iload_n S.1 S.2.1 dX7_setAside_1 rfl (lv_at hl 1 rfl) ?_
  refine x_si (va_runV (As := [.int x]) (rest := []) S (c_X7_no l g E h65 h66 hN x) (cwV 1 S.2.2.2.2 gX7_setAside_X7_no rfl rfl rfl (by decide +kernel) ⟨Nat.le_of_ble_eq_true rfl, Nat.le_of_ble_eq_true rfl⟩) (x_preV hK hP h65 (by decide) rfl) rfl rfl hl.1 rfl (lv_room (Nat.le_of_ble_eq_true rfl)) dX7_setAside_2 ⟨Nat.le_of_ble_eq_true rfl, Nat.le_of_ble_eq_true rfl⟩) (fun r2 hr2 => ?_)
  refine lv_if_eq (tgt := 10) S.1 S.2.1 dX7_setAside_5 (by decide) (fun c5 => ?_) (fun c5 => ?_)
  · skip
    obtain ⟨k, hk, rfl⟩ := Classical.not_not.mp (hr2.f c5)
    refine lv_aload_n S.1 S.2.1 dX7_setAside_10 rfl (lv_at hl 0 rfl) ?_
    refine lv_iload_n S.1 S.2.1 dX7_setAside_11 rfl (lv_at hl 1 rfl) ?_
    refine x_si (va_runV (As := [.int (nI k)]) (rest := []) S (c_X7_isUsable l g E h65 h66 hN hk) (cwV 1 S.2.2.2.2 gX7_setAside_X7_isUsable rfl rfl rfl (by decide +kernel) ⟨Nat.le_of_ble_eq_true rfl, Nat.le_of_ble_eq_true rfl⟩) (x_preV hK hP h65 (by decide) rfl) rfl rfl hl.1 rfl (lv_room (Nat.le_of_ble_eq_true rfl)) dX7_setAside_12 ⟨Nat.le_of_ble_eq_true rfl, Nat.le_of_ble_eq_true rfl⟩) (fun r12 hr12 => ?_)
    refine lv_iload_n S.1 S.2.1 dX7_setAside_15 rfl (lv_at hl 2 rfl) ?_
    refine lv_icmp_eq (tgt := 22) S.1 S.2.1 dX7_setAside_16 (by decide) (fun c16 => ?_) (fun c16 => ?_)
    · skip
      refine lv_aload_n S.1 S.2.1 dX7_setAside_22 rfl (lv_at hl 0 rfl) ?_
      refine x_qv (va_runV (As := []) (rest := []) S (c_X7_record l g hJ E h65 h66 hN h67 hs4 hHi) (cwV 0 S.2.2.2.2 gX7_setAside_X7_record rfl rfl rfl (by decide +kernel) ⟨Nat.le_of_ble_eq_true rfl, Nat.le_of_ble_eq_true rfl⟩) (x_preV hK hP h65 (by decide) rfl) rfl rfl hl.1 rfl (lv_room (Nat.le_of_ble_eq_true rfl)) dX7_setAside_23 ⟨Nat.le_of_ble_eq_true rfl, Nat.le_of_ble_eq_true rfl⟩) hS (fun E1 H locs hq23 hP hS => ?_)
      obtain ⟨hfr23, h65, fh2, h67, hHi2⟩ := hq23
      have h66 := (hfr23 66 (by decide) (by decide)).trans h66
      have h68 := (hfr23 68 (by decide) (by decide)).trans h68
      have h69 := (hfr23 69 (by decide) (by decide)).trans h69
      have h70 := (hfr23 70 (by decide) (by decide)).trans h70
      have h71 := (hfr23 71 (by decide) (by decide)).trans h71
      have h72 := (hfr23 72 (by decide) (by decide)).trans h72
      have h73 := (hfr23 73 (by decide) (by decide)).trans h73
      have h74 := (hfr23 74 (by decide) (by decide)).trans h74
      have hfm : ∀ j, j < 65 → E1 j = E j := fun j hj => (hfr23 j (by omega) (by omega)).trans (hfm j hj)
      refine lv_aload_n S.1 S.2.1 dX7_setAside_26 rfl (lv_at hl 0 rfl) ?_
      refine x_get S hK hP dX7_setAside_27 h65 (by decide) (RX7, TX7, 19) rfl hin7 0 (by decide) fl7 rfl ?_
      refine lv_bipush (v := 7) S.1 S.2.1 dX7_setAside_30 (by decide) ?_
      refine lv_iload_n S.1 S.2.1 dX7_setAside_32 rfl (lv_at hl 1 rfl) ?_
      refine lv_imul S.1 S.2.1 dX7_setAside_33 ?_
      refine lv_bipush (v := 6) S.1 S.2.1 dX7_setAside_34 (by decide) ?_
      refine lv_iadd S.1 S.2.1 dX7_setAside_36 ?_
      refine lv_iload_n S.1 S.2.1 dX7_setAside_37 rfl (lv_at hl 2 rfl) ?_
      refine lv_if_eq (tgt := 45) S.1 S.2.1 dX7_setAside_38 (by decide) (fun c38 => ?_) (fun c38 => ?_)
      · skip
        refine lv_iconst (v := 0) S.1 S.2.1 dX7_setAside_45 (by decide) ?_
        refine W.eq (g2 := F0 m 46 ls [.int (bI b), .int ((7 * (nI k)) + 6), .ref (xad g 66)]) (by rw [show bI b = 0 by exact c38]) ?_
        refine x_iast S hK hJ hP hS dX7_setAside_46 h66 (by decide) (j := (7 * k + 6)) (mul7 k 6) (by omega) (by decide) (fun H locs E1_1 hu hP hS => ?_)
        have h66 : E1_1 66 = .inl (xI g, 71, .inl (upd f (7 * k + 6) (bI b))) := hu.1
        have h68 : E1_1 68 = .inl (xI g, 71, .inl fs) := (hu.2 _ (by omega)).trans h68
        have h69 : E1_1 69 = .inl (xI g, 3, .inl fa) := (hu.2 _ (by omega)).trans h69
        have h70 : E1_1 70 = .inl (xI g, 11, .inl fr) := (hu.2 _ (by omega)).trans h70
        have h71 : E1_1 71 = .inl (xI g, 10, .inl fl) := (hu.2 _ (by omega)).trans h71
        have h72 : E1_1 72 = .inl (xI g, 10, .inl fo) := (hu.2 _ (by omega)).trans h72
        have h73 : E1_1 73 = .inl (xC g, 60, .inl (ztf z)) := (hu.2 _ (by omega)).trans h73
        have h74 : E1_1 74 = .inl (xI g, 6, .inl fd) := (hu.2 _ (by omega)).trans h74
        have hfm : ∀ j, j < 65 → E1_1 j = E j := fun j hj => (hu.2 j (by omega)).trans (hfm j hj)
        have h65 : E1_1 65 = mO g (nI (rcS (zh z))) (bI (zf z)) hi od bs bb bf (nI (ztl z)) at9 nu := (hu.2 _ (by omega)).trans h65
        have h67 : E1_1 67 = .inl (xI g, 284, .inl fh2) := (hu.2 _ (by omega)).trans h67
        have hN2 := hN.set (w := 6) (x := bI b) (by decide) hk
        refine lv_aload_n S.1 S.2.1 dX7_setAside_47 rfl (lv_at hl 0 rfl) ?_
        refine x_si (va_runV (As := []) (rest := []) S (c_X7_usable l g E1_1 h65 h66 hN2) (cwV 0 S.2.2.2.2 gX7_setAside_X7_usable rfl rfl rfl (by decide +kernel) ⟨Nat.le_of_ble_eq_true rfl, Nat.le_of_ble_eq_true rfl⟩) (x_preV hK hP h65 (by decide) rfl) rfl rfl hl.1 rfl (lv_room (Nat.le_of_ble_eq_true rfl)) dX7_setAside_48 ⟨Nat.le_of_ble_eq_true rfl, Nat.le_of_ble_eq_true rfl⟩) (fun r48 hr48 => ?_)
        subst hr48
        refine x_si (va_runS (As := [.int (nI (mk (pU (setM (zM z) 6 k (bI b))) (zn z)))]) (rest := []) S (c_X7_bits l g E1_1 (mk_lt10 (pU (setM (zM z) 6 k (bI b))) hn)) (va_cwS 1 S.2.2.2.2 gX7_setAside_X7_bits rfl rfl rfl (by decide +kernel) ⟨Nat.le_of_ble_eq_true rfl, Nat.le_of_ble_eq_true rfl⟩) (x_preS hK hP) rfl rfl hl.1 rfl (lv_room (Nat.le_of_ble_eq_true rfl)) dX7_setAside_51 ⟨Nat.le_of_ble_eq_true rfl, Nat.le_of_ble_eq_true rfl⟩) (fun r51 hr51 => ?_)
        rw [pop_mk hn] at hr51
        exact x_iret S hr hlocks hP hS dX7_setAside_54 (⟨_, Or.inr ⟨k, hk, rfl, Or.inr ⟨(xb_bI hr12).mp c16, hr51, rfl⟩⟩, sM.mk (z := wP (wR z) (zn z) (setM (zM z) 6 k (bI b))) h65 rfl rfl rfl h66 h67 h68 h69 h70 h71 h72 h73 h74 hN2 hHi2 hSl, hfm⟩)
      · skip
        refine lv_iconst (v := 1) S.1 S.2.1 dX7_setAside_41 (by decide) ?_
        refine lv_goto (tgt := 46) S.1 S.2.1 dX7_setAside_42 (by decide) ?_
        refine W.eq (g2 := F0 m 46 ls [.int (bI b), .int ((7 * (nI k)) + 6), .ref (xad g 66)]) (by rw [show bI b = 1 by rcases h9 : b with _ | _; exact absurd (by rw [h9]; rfl) c38; rfl]) ?_
        refine x_iast S hK hJ hP hS dX7_setAside_46 h66 (by decide) (j := (7 * k + 6)) (mul7 k 6) (by omega) (by decide) (fun H locs E1_2 hu hP hS => ?_)
        have h66 : E1_2 66 = .inl (xI g, 71, .inl (upd f (7 * k + 6) (bI b))) := hu.1
        have h68 : E1_2 68 = .inl (xI g, 71, .inl fs) := (hu.2 _ (by omega)).trans h68
        have h69 : E1_2 69 = .inl (xI g, 3, .inl fa) := (hu.2 _ (by omega)).trans h69
        have h70 : E1_2 70 = .inl (xI g, 11, .inl fr) := (hu.2 _ (by omega)).trans h70
        have h71 : E1_2 71 = .inl (xI g, 10, .inl fl) := (hu.2 _ (by omega)).trans h71
        have h72 : E1_2 72 = .inl (xI g, 10, .inl fo) := (hu.2 _ (by omega)).trans h72
        have h73 : E1_2 73 = .inl (xC g, 60, .inl (ztf z)) := (hu.2 _ (by omega)).trans h73
        have h74 : E1_2 74 = .inl (xI g, 6, .inl fd) := (hu.2 _ (by omega)).trans h74
        have hfm : ∀ j, j < 65 → E1_2 j = E j := fun j hj => (hu.2 j (by omega)).trans (hfm j hj)
        have h65 : E1_2 65 = mO g (nI (rcS (zh z))) (bI (zf z)) hi od bs bb bf (nI (ztl z)) at9 nu := (hu.2 _ (by omega)).trans h65
        have h67 : E1_2 67 = .inl (xI g, 284, .inl fh2) := (hu.2 _ (by omega)).trans h67
        have hN2 := hN.set (w := 6) (x := bI b) (by decide) hk
        refine lv_aload_n S.1 S.2.1 dX7_setAside_47 rfl (lv_at hl 0 rfl) ?_
        refine x_si (va_runV (As := []) (rest := []) S (c_X7_usable l g E1_2 h65 h66 hN2) (cwV 0 S.2.2.2.2 gX7_setAside_X7_usable rfl rfl rfl (by decide +kernel) ⟨Nat.le_of_ble_eq_true rfl, Nat.le_of_ble_eq_true rfl⟩) (x_preV hK hP h65 (by decide) rfl) rfl rfl hl.1 rfl (lv_room (Nat.le_of_ble_eq_true rfl)) dX7_setAside_48 ⟨Nat.le_of_ble_eq_true rfl, Nat.le_of_ble_eq_true rfl⟩) (fun r48 hr48 => ?_)
        subst hr48
        refine x_si (va_runS (As := [.int (nI (mk (pU (setM (zM z) 6 k (bI b))) (zn z)))]) (rest := []) S (c_X7_bits l g E1_2 (mk_lt10 (pU (setM (zM z) 6 k (bI b))) hn)) (va_cwS 1 S.2.2.2.2 gX7_setAside_X7_bits rfl rfl rfl (by decide +kernel) ⟨Nat.le_of_ble_eq_true rfl, Nat.le_of_ble_eq_true rfl⟩) (x_preS hK hP) rfl rfl hl.1 rfl (lv_room (Nat.le_of_ble_eq_true rfl)) dX7_setAside_51 ⟨Nat.le_of_ble_eq_true rfl, Nat.le_of_ble_eq_true rfl⟩) (fun r51 hr51 => ?_)
        rw [pop_mk hn] at hr51
        exact x_iret S hr hlocks hP hS dX7_setAside_54 (⟨_, Or.inr ⟨k, hk, rfl, Or.inr ⟨(xb_bI hr12).mp c16, hr51, rfl⟩⟩, sM.mk (z := wP (wR z) (zn z) (setM (zM z) 6 k (bI b))) h65 rfl rfl rfl h66 h67 h68 h69 h70 h71 h72 h73 h74 hN2 hHi2 hSl, hfm⟩)
    · skip
      refine lv_bipush (v := (-5)) S.1 S.2.1 dX7_setAside_19 (by decide) ?_
      exact x_iret S hr hlocks hP hS dX7_setAside_21 (⟨z, Or.inr ⟨k, hk, rfl, Or.inl ⟨fun h => c16 ((xb_bI hr12).mpr h), rfl, rfl⟩⟩, sM.mk h65 rfl rfl rfl h66 h67 h68 h69 h70 h71 h72 h73 h74 hN hHi hSl, hfm⟩)
  · skip
    refine lv_iconst (v := (-1)) S.1 S.2.1 dX7_setAside_8 (by decide) ?_
    exact x_iret S hr hlocks hP hS dX7_setAside_9 (⟨z, Or.inl ⟨hr2.t c5, rfl, rfl⟩, sM.mk h65 rfl rfl rfl h66 h67 h68 h69 h70 h71 h72 h73 h74 hN hHi hSl, hfm⟩)
theorem drop_v {M : Nat → Nat → Int32} {n i j k q : Nat} (hn : n ≤ 10) (hq : q < n) : drM M (pM M (pU M) i j k) q 6 q ||| ((nI (mk (pM M (pU M) i j k) n) >>> (nI q &&& 31)) &&& 1) = drM M (pM M (pU M) i j k) (q + 1) 6 q := by
  rw [bit_at (mk_lt10 _ hn) (by omega), mk_in hq]
  have e0 : drM M (pM M (pU M) i j k) q 6 q = M 6 q := if_neg (fun h => absurd h.2.1 (Nat.lt_irrefl _))
  rw [e0]
  unfold drM
  by_cases h : pM M (pU M) i j k q = true
  · rw [if_pos h, if_pos ⟨rfl, Nat.lt_succ_self _, h⟩]
    have hu : pU M q = true := by
      unfold pM at h
      rw [Bool.and_eq_true] at h
      exact h.1
    rw [show M 6 q = 0 from of_decide_eq_true hu]
    decide
  · rw [if_neg h, if_neg (fun g => h g.2.2), Int32.or_zero]
theorem nH.drop {f : Nat → Int32} {M : Nat → Nat → Int32} {n q : Nat} {Q : Nat → Bool} (h : nH f 0 n (drM M Q q)) (hq : q < n) {x : Int32} (hx : x = drM M Q (q + 1) 6 q) : nH (upd f (7 * q + 6) x) 0 n (drM M Q (q + 1)) := by
  obtain ⟨h1, h2, h3⟩ := h
  refine ⟨h1, by rw [pk_un (by omega)]; exact h2, fun j v hj hv => ?_⟩
  by_cases e : v = 6 ∧ j = q
  · obtain ⟨rfl, rfl⟩ := e
    rw [show 0 + 7 * j + 6 = 7 * j + 6 by omega, pk_us, hx]
  · rw [pk_un (by omega), h3 j v hj hv]
    unfold drM
    by_cases c : v = 6 ∧ j < q ∧ Q j = true
    · rw [if_pos c, if_pos ⟨c.1, by omega, c.2.2⟩]
    · rw [if_neg c, if_neg (fun g => c ⟨g.1, by have : ¬ j = q := fun h9 => e ⟨g.1, h9⟩; omega, g.2.2⟩)]
set_option maxHeartbeats 4000000 in
set_option maxRecDepth 100000 in
theorem c_X7_dropMissed (l : Launch) (g : xG) (hJ : xJ (xad g)) (E : Nat → va_E) {z : xS} (hz : sM g E z) (hv : vS z)  : Met l yX7_dropMissed wsX7_dropMissed ({ frames := 7, cells := 0, slots := 0, locals := 176 }) (xPc g [.ref (xad g 65)] E) (xQi g (fun r E1 => ∃ z1, sp_dropMissed z r z1 ∧ sM g E1 z1 ∧ ∀ j, j < 65 → E1 j = E j)) 0 0 (xA (xad g)) := by
  refine x_met (ws' := _) (by decide) rfl (Nat.le_of_ble_eq_true rfl) ?_
  intro pz ez s m below meth cz ls S hr hlocks hP hK hl
  have hl : lv_has ls 3 [(0, .ref (xad g 65))] := hl
  have hS : va_S (xA (xad g)) s.heap s.heap [] := va_S.rf
  have hin7 : ∀ w ∈ u_ws RX7 TX7 19, w ∈ wsX7_dropMissed := by decide +kernel
  have fl7 : Cond.fieldLink RX7 7 "DiscArcsModel" "now" "[I" ∈ wsX7_dropMissed := by decide +kernel
  obtain ⟨hi, od, bs, bb, bf, at9, nu, f, fh, fs, fa, fr, fl, fo, fd, h65, h66, h67, h68, h69, h70, h71, h72, h73, h74, hN, hHi, hSl⟩ := id hz
  have hn := hN.1
  have hn0 := hN.n0
  have hv1 := hv.1.2
  have hfm : ∀ j, j < 65 → E j = E j := fun _ _ => rfl
  have hs4 := hv.2.1.1
  have htl := hv.2.2.2
  refine lv_aload_n S.1 S.2.1 dX7_dropMissed_0 rfl (lv_at hl 0 rfl) ?_
  refine x_qi (va_runV (As := []) (rest := []) S (c_X7_hasBest l g hJ E h65 h66 hN h69) (cwV 0 S.2.2.2.2 gX7_dropMissed_X7_hasBest rfl rfl rfl (by decide +kernel) ⟨Nat.le_of_ble_eq_true rfl, Nat.le_of_ble_eq_true rfl⟩) (x_preV hK hP h65 (by decide) rfl) rfl rfl hl.1 rfl (lv_room (Nat.le_of_ble_eq_true rfl)) dX7_dropMissed_1 ⟨Nat.le_of_ble_eq_true rfl, Nat.le_of_ble_eq_true rfl⟩) hS (fun r1 E1 H locs hq1 hP hS => ?_)
  obtain ⟨hfr1, h9, fa9, h65, h69, hor⟩ := hq1
  have h66 := (hfr1 66 (by decide) (by decide)).trans h66
  have h67 := (hfr1 67 (by decide) (by decide)).trans h67
  have h68 := (hfr1 68 (by decide) (by decide)).trans h68
  have h70 := (hfr1 70 (by decide) (by decide)).trans h70
  have h71 := (hfr1 71 (by decide) (by decide)).trans h71
  have h72 := (hfr1 72 (by decide) (by decide)).trans h72
  have h73 := (hfr1 73 (by decide) (by decide)).trans h73
  have h74 := (hfr1 74 (by decide) (by decide)).trans h74
  have hfm : ∀ j, j < 65 → E1 j = E j := fun j hj => (hfr1 j (by omega) (by omega)).trans (hfm j hj)
  refine lv_if_ne (tgt := 10) S.1 S.2.1 dX7_dropMissed_4 (by decide) (fun c4 => ?_) (fun c4 => ?_)
  · skip
    obtain ⟨i, j, k, hb, ⟨ha0, ha1, ha2⟩, hh9⟩ : ∃ i j k, isBest (zM z) (pU (zM z)) (zn z) i j k ∧ (fa9 0 = nI i ∧ fa9 1 = nI j ∧ fa9 2 = nI k) ∧ h9 = nI (mk (fun q => pU (zM z) q && hitB (zM z) i j k q) (zn z)) := by rcases hor with ⟨-, h⟩ | ⟨h0, -⟩; exact h; exact absurd h0 c4
    obtain ⟨g1, g2, g3, -⟩ := id hb.1
    refine lv_aload_n S.1 S.2.1 dX7_dropMissed_10 rfl (lv_at hl 0 rfl) ?_
    refine x_qi (va_runV (As := []) (rest := []) S (c_X7_missed l g hJ E1 h65 h66 hN h69) (cwV 0 S.2.2.2.2 gX7_dropMissed_X7_missed rfl rfl rfl (by decide +kernel) ⟨Nat.le_of_ble_eq_true rfl, Nat.le_of_ble_eq_true rfl⟩) (x_preV hK hP h65 (by decide) rfl) rfl rfl hl.1 rfl (lv_room (Nat.le_of_ble_eq_true rfl)) dX7_dropMissed_11 ⟨Nat.le_of_ble_eq_true rfl, Nat.le_of_ble_eq_true rfl⟩) hS (fun r11 E1_1 H locs hq11 hP hS => ?_)
    obtain ⟨hfr11, ⟨h9b, fa9b, h65, h69⟩, v, hmv, hr11⟩ := hq11
    have h66 := (hfr11 66 (by decide) (by decide)).trans h66
    have h67 := (hfr11 67 (by decide) (by decide)).trans h67
    have h68 := (hfr11 68 (by decide) (by decide)).trans h68
    have h70 := (hfr11 70 (by decide) (by decide)).trans h70
    have h71 := (hfr11 71 (by decide) (by decide)).trans h71
    have h72 := (hfr11 72 (by decide) (by decide)).trans h72
    have h73 := (hfr11 73 (by decide) (by decide)).trans h73
    have h74 := (hfr11 74 (by decide) (by decide)).trans h74
    have hfm : ∀ j, j < 65 → E1_1 j = E j := fun j hj => (hfr11 j (by omega) (by omega)).trans (hfm j hj)
    obtain rfl : v = mk (pM (zM z) (pU (zM z)) i j k) (zn z) := hmv.uniq hn (Or.inr ⟨i, j, k, hb, rfl⟩)
    subst hr11
    refine lv_istore_n (lv' := [(1, .int (nI (mk (pM (zM z) (pU (zM z)) i j k) (zn z)))), (0, .ref (xad g 65))]) S.1 S.2.1 dX7_dropMissed_14 rfl hl (by decide) rfl (fun ls hl => ?_)
    refine lv_iload_n S.1 S.2.1 dX7_dropMissed_15 rfl (lv_at hl 0 rfl) ?_
    refine lv_if_ne (tgt := 22) S.1 S.2.1 dX7_dropMissed_16 (by decide) (fun c16 => ?_) (fun c16 => ?_)
    · skip
      refine lv_aload_n S.1 S.2.1 dX7_dropMissed_22 rfl (lv_at hl 1 rfl) ?_
      refine x_qv (va_runV (As := []) (rest := []) S (c_X7_record l g hJ E1_1 h65 h66 hN h67 hs4 hHi) (cwV 0 S.2.2.2.2 gX7_dropMissed_X7_record rfl rfl rfl (by decide +kernel) ⟨Nat.le_of_ble_eq_true rfl, Nat.le_of_ble_eq_true rfl⟩) (x_preV hK hP h65 (by decide) rfl) rfl rfl hl.1 rfl (lv_room (Nat.le_of_ble_eq_true rfl)) dX7_dropMissed_23 ⟨Nat.le_of_ble_eq_true rfl, Nat.le_of_ble_eq_true rfl⟩) hS (fun E1_2 H locs hq23 hP hS => ?_)
      obtain ⟨hfr23, h65, fh2, h67, hHi2⟩ := hq23
      have h66 := (hfr23 66 (by decide) (by decide)).trans h66
      have h68 := (hfr23 68 (by decide) (by decide)).trans h68
      have h70 := (hfr23 70 (by decide) (by decide)).trans h70
      have h71 := (hfr23 71 (by decide) (by decide)).trans h71
      have h72 := (hfr23 72 (by decide) (by decide)).trans h72
      have h73 := (hfr23 73 (by decide) (by decide)).trans h73
      have h74 := (hfr23 74 (by decide) (by decide)).trans h74
      have hfm : ∀ j, j < 65 → E1_2 j = E j := fun j hj => (hfr23 j (by omega) (by omega)).trans (hfm j hj)
      have h69 := (hfr23 69 (by decide) (by decide)).trans h69
      refine lv_iconst (v := 0) S.1 S.2.1 dX7_dropMissed_26 (by decide) ?_
      refine lv_istore_n (lv' := [(2, .int 0), (1, .int (nI (mk (pM (zM z) (pU (zM z)) i j k) (zn z)))), (0, .ref (xad g 65))]) S.1 S.2.1 dX7_dropMissed_27 rfl hl (by decide) rfl (fun ls hl => ?_)
      have loop28 : ∀ (d : Nat) (q : Nat) (f9 : Nat → Int32) (EL : Nat → va_E) (H : Heap) (locs : List Loc), (hq : q ≤ zn z) → (hN9 : nH f9 0 (zn z) (drM (zM z) (pM (zM z) (pU (zM z)) i j k) q)) → (zn z - q) < d → (h65 : EL 65 = mO g (nI (rcS (zh z))) (bI (zf z)) h9b od bs bb bf (nI (ztl z)) at9 nu) → (h66 : EL 66 = .inl (xI g, 71, .inl f9)) → (h67 : EL 67 = .inl (xI g, 284, .inl fh2)) → (h68 : EL 68 = .inl (xI g, 71, .inl fs)) → (h69 : EL 69 = .inl (xI g, 3, .inl fa9b)) → (h70 : EL 70 = .inl (xI g, 11, .inl fr)) → (h71 : EL 71 = .inl (xI g, 10, .inl fl)) → (h72 : EL 72 = .inl (xI g, 10, .inl fo)) → (h73 : EL 73 = .inl (xC g, 60, .inl (ztf z))) → (h74 : EL 74 = .inl (xI g, 6, .inl fd)) → (hfm : ∀ j, j < 65 → EL j = E j) → xP g EL H → va_S (xA (xad g)) s.heap H locs → ∀ ls : Array Slot, lv_has ls 3 [(2, .int (nI q)), (1, .int (nI (mk (pM (zM z) (pU (zM z)) i j k) (zn z)))), (0, .ref (xad g 65))] → W pz l ez ({ frames := 7, cells := 0, slots := 0, locals := 176 }) s m ([.ref (xad g 65)] : List Value).toArray below meth cz H locs 0 0 (MQ below (xQi g (fun r E1 => ∃ z1, sp_dropMissed z r z1 ∧ sM g E1 z1 ∧ ∀ j, j < 65 → E1 j = E j)) ([.ref (xad g 65)] : List Value).toArray s 0 0 (xA (xad g))) (F0 m 28 ls []) := by
        intro d
        induction d with
        | zero => intro q f9 EL H locs hq hN9 hd; exact absurd hd (Nat.not_lt_zero _)
        | succ d ih28 =>
          intro q f9 EL H locs hq hN9 hd h65 h66 h67 h68 h69 h70 h71 h72 h73 h74 hfm hP hS ls hl
          refine lv_iload_n S.1 S.2.1 dX7_dropMissed_28 rfl (lv_at hl 0 rfl) ?_
          refine lv_aload_n S.1 S.2.1 dX7_dropMissed_29 rfl (lv_at hl 2 rfl) ?_
          refine x_get S hK hP dX7_dropMissed_30 h65 (by decide) (RX7, TX7, 19) rfl hin7 0 (by decide) fl7 rfl ?_
          refine lv_bipush (v := 70) S.1 S.2.1 dX7_dropMissed_33 (by decide) ?_
          refine x_iald S hK hP dX7_dropMissed_35 h66 (by decide) (j := 70) rfl (by omega) (by decide) ?_
          refine lv_icmp_ge (tgt := 65) S.1 S.2.1 dX7_dropMissed_36 (by decide) (fun c36 => ?_) (fun c36 => ?_)
          · skip
            have hqe : q = zn z := Nat.le_antisymm hq ((nI_leI (by omega) (by omega)).mp (by rw [← hN9.n0]; exact c36))
            subst hqe
            refine lv_iload_n S.1 S.2.1 dX7_dropMissed_65 rfl (lv_at hl 1 rfl) ?_
            refine x_si (va_runS (As := [.int (nI (mk (pM (zM z) (pU (zM z)) i j k) (zn z)))]) (rest := []) S (c_X7_bits l g EL (mk_lt10 (pM (zM z) (pU (zM z)) i j k) hn)) (va_cwS 1 S.2.2.2.2 gX7_dropMissed_X7_bits rfl rfl rfl (by decide +kernel) ⟨Nat.le_of_ble_eq_true rfl, Nat.le_of_ble_eq_true rfl⟩) (x_preS hK hP) rfl rfl hl.1 rfl (lv_room (Nat.le_of_ble_eq_true rfl)) dX7_dropMissed_66 ⟨Nat.le_of_ble_eq_true rfl, Nat.le_of_ble_eq_true rfl⟩) (fun r66 hr66 => ?_)
            rw [pop_mk hn] at hr66
            exact x_iret S hr hlocks hP hS dX7_dropMissed_69 (⟨_, Or.inr ⟨i, j, k, hb, Or.inr ⟨fun h => c16 (by rw [h]; rfl), hr66, rfl⟩⟩, sM.mk (z := wP (wR z) (zn z) (drM (zM z) (pM (zM z) (pU (zM z)) i j k) (zn z))) h65 rfl rfl rfl h66 h67 h68 h69 h70 h71 h72 h73 h74 hN9 hHi2 hSl, hfm⟩)
          · skip
            have hqn : q < zn z := Nat.not_le.mp (fun h => c36 (by rw [hN9.n0]; exact (nI_leI (by omega) (by omega)).mpr h))
            have hfq := hN9.at0 hqn (w := 6) (by decide)
            refine lv_aload_n S.1 S.2.1 dX7_dropMissed_39 rfl (lv_at hl 2 rfl) ?_
            refine x_get S hK hP dX7_dropMissed_40 h65 (by decide) (RX7, TX7, 19) rfl hin7 0 (by decide) fl7 rfl ?_
            refine lv_bipush (v := 7) S.1 S.2.1 dX7_dropMissed_43 (by decide) ?_
            refine lv_iload_n S.1 S.2.1 dX7_dropMissed_45 rfl (lv_at hl 0 rfl) ?_
            refine lv_imul S.1 S.2.1 dX7_dropMissed_46 ?_
            refine lv_bipush (v := 6) S.1 S.2.1 dX7_dropMissed_47 (by decide) ?_
            refine lv_iadd S.1 S.2.1 dX7_dropMissed_49 ?_
            refine lv_dup2_11 S.1 S.2.1 dX7_dropMissed_50 rfl rfl ?_
            refine x_iald S hK hP dX7_dropMissed_51 h66 (by decide) (j := (7 * q + 6)) (mul7 q 6) (by omega) (by decide) ?_
            refine lv_iload_n S.1 S.2.1 dX7_dropMissed_52 rfl (lv_at hl 1 rfl) ?_
            refine lv_iload_n S.1 S.2.1 dX7_dropMissed_53 rfl (lv_at hl 0 rfl) ?_
            refine lv_ishr S.1 S.2.1 dX7_dropMissed_54 ?_
            refine lv_iconst (v := 1) S.1 S.2.1 dX7_dropMissed_55 (by decide) ?_
            refine lv_iand S.1 S.2.1 dX7_dropMissed_56 ?_
            refine lv_ior S.1 S.2.1 dX7_dropMissed_57 ?_
            refine x_iast S hK hJ hP hS dX7_dropMissed_58 h66 (by decide) (j := (7 * q + 6)) (mul7 q 6) (by omega) (by decide) (fun H locs E1_3 hu hP hS => ?_)
            have h65 : E1_3 65 = mO g (nI (rcS (zh z))) (bI (zf z)) h9b od bs bb bf (nI (ztl z)) at9 nu := (hu.2 _ (by omega)).trans h65
            have h66 : E1_3 66 = .inl (xI g, 71, .inl (upd f9 (7 * q + 6) ((f9 (7 * q + 6)) ||| (((nI (mk (pM (zM z) (pU (zM z)) i j k) (zn z))) >>> ((nI q) &&& 31)) &&& 1)))) := hu.1
            have h67 : E1_3 67 = .inl (xI g, 284, .inl fh2) := (hu.2 _ (by omega)).trans h67
            have h68 : E1_3 68 = .inl (xI g, 71, .inl fs) := (hu.2 _ (by omega)).trans h68
            have h69 : E1_3 69 = .inl (xI g, 3, .inl fa9b) := (hu.2 _ (by omega)).trans h69
            have h70 : E1_3 70 = .inl (xI g, 11, .inl fr) := (hu.2 _ (by omega)).trans h70
            have h71 : E1_3 71 = .inl (xI g, 10, .inl fl) := (hu.2 _ (by omega)).trans h71
            have h72 : E1_3 72 = .inl (xI g, 10, .inl fo) := (hu.2 _ (by omega)).trans h72
            have h73 : E1_3 73 = .inl (xC g, 60, .inl (ztf z)) := (hu.2 _ (by omega)).trans h73
            have h74 : E1_3 74 = .inl (xI g, 6, .inl fd) := (hu.2 _ (by omega)).trans h74
            have hfm : ∀ j, j < 65 → E1_3 j = E j := fun j hj => (hu.2 j (by omega)).trans (hfm j hj)
            refine lv_iinc (v := nI (q + 1)) (lv' := [(2, .int (nI (q + 1))), (1, .int (nI (mk (pM (zM z) (pU (zM z)) i j k) (zn z)))), (0, .ref (xad g 65))]) S.1 S.2.1 dX7_dropMissed_59 hl (k := 0) rfl (show nI q + Int32.ofInt 1 = _ from nI_1 _) (by decide) rfl (fun ls hl => ?_)
            refine lv_goto (tgt := 28) S.1 S.2.1 dX7_dropMissed_62 (by decide) ?_
            exact ih28 (q + 1) _ _ _ _ (by omega) (hN9.drop hqn (by rw [hfq]; exact drop_v hn hqn)) (by omega) h65 h66 h67 h68 h69 h70 h71 h72 h73 h74 hfm hP hS ls (lv_sub hl [0, 1, 2] rfl)
      exact loop28 _ 0 f _ _ _ (Nat.zero_le _) (by rw [drM_0]; exact hN) (Nat.lt_succ_self _) h65 h66 h67 h68 h69 h70 h71 h72 h73 h74 hfm hP hS ls (lv_sub hl [0, 1, 2] rfl)
    · skip
      refine lv_bipush (v := (-5)) S.1 S.2.1 dX7_dropMissed_19 (by decide) ?_
      exact x_iret S hr hlocks hP hS dX7_dropMissed_21 (⟨z, Or.inr ⟨i, j, k, hb, Or.inl ⟨(nI_mk0 hn).mp c16, rfl, rfl⟩⟩, sM.mk h65 rfl rfl rfl h66 h67 h68 h69 h70 h71 h72 h73 h74 hN hHi hSl, hfm⟩)
  · skip
    refine lv_bipush (v := (-4)) S.1 S.2.1 dX7_dropMissed_7 (by decide) ?_
    exact x_iret S hr hlocks hP hS dX7_dropMissed_9 (by rcases hor with ⟨h1, -⟩ | ⟨-, hno⟩; rw [h1] at c4; exact absurd c4 (by decide); exact ⟨z, Or.inl ⟨hno, rfl, rfl⟩, sM.mk h65 rfl rfl rfl h66 h67 h68 h69 h70 h71 h72 h73 h74 hN hHi hSl, hfm⟩)
theorem nH.del {f f9 : Nat → Int32} {M : Nat → Nat → Int32} {n k : Nat} (h : nH f 0 n M) (hk : k < n) (h0 : f9 70 = nI (n - 1)) (h9 : ∀ i, i < 70 → f9 i = if 7 * k ≤ i ∧ i < 7 * (n - 1) then f (i + 7) else f i) : nH f9 0 (n - 1) (delM M k) := by
  obtain ⟨h1, h2, h3⟩ := h
  refine ⟨by omega, h0, fun j w hj hw => ?_⟩
  unfold delM
  rw [show 0 + 7 * j + w = 7 * j + w by omega, h9 _ (by omega)]
  by_cases e : j < k
  · rw [if_pos e, if_neg (by omega)]
    have := h3 j w (by omega) hw
    rw [show 0 + 7 * j + w = 7 * j + w by omega] at this
    exact this
  · rw [if_neg e, if_pos (by omega)]
    have := h3 (j + 1) w (by omega) hw
    rw [show 0 + 7 * (j + 1) + w = 7 * j + w + 7 by omega] at this
    exact this
set_option maxHeartbeats 4000000 in
set_option maxRecDepth 100000 in
theorem c_X7_remove (l : Launch) (g : xG) (hJ : xJ (xad g)) (E : Nat → va_E) {z : xS} (hz : sM g E z) (hv : vS z) (x : Int32) : Met l yX7_remove wsX7_remove ({ frames := 2, cells := 0, slots := 0, locals := 43 }) (xPc g [.ref (xad g 65), .int x] E) (xQi g (fun r E1 => ∃ z1, sp_remove z x r z1 ∧ sM g E1 z1 ∧ ∀ j, j < 65 → E1 j = E j)) 0 0 (xA (xad g)) := by
  refine x_met (ws' := _) (by decide) rfl (Nat.le_of_ble_eq_true rfl) ?_
  intro pz ez s m below meth cz ls S hr hlocks hP hK hl
  have hl : lv_has ls 3 [(0, .ref (xad g 65)), (1, .int x)] := hl
  have hS : va_S (xA (xad g)) s.heap s.heap [] := va_S.rf
  have hin7 : ∀ w ∈ u_ws RX7 TX7 19, w ∈ wsX7_remove := by decide +kernel
  have fl7 : Cond.fieldLink RX7 7 "DiscArcsModel" "now" "[I" ∈ wsX7_remove := by decide +kernel
  obtain ⟨hi, od, bs, bb, bf, at9, nu, f, fh, fs, fa, fr, fl, fo, fd, h65, h66, h67, h68, h69, h70, h71, h72, h73, h74, hN, hHi, hSl⟩ := id hz
  have hn := hN.1
  have hn0 := hN.n0
  have hv1 := hv.1.2
  have hfm : ∀ j, j < 65 → E j = E j := fun _ _ => rfl
  have hs4 := hv.2.1.1
  have htl := hv.2.2.2
  refine lv_aload_n S.1 S.2.1 dX7_remove_0 rfl (lv_at hl 0 rfl) ?_
  refine lv_iload_n S.1 S.2.1 dX7_remove_1 rfl (lv_at hl 1 rfl) ?_
  refine x_si (va_runV (As := [.int x]) (rest := []) S (c_X7_no l g E h65 h66 hN x) (cwV 1 S.2.2.2.2 gX7_remove_X7_no rfl rfl rfl (by decide +kernel) ⟨Nat.le_of_ble_eq_true rfl, Nat.le_of_ble_eq_true rfl⟩) (x_preV hK hP h65 (by decide) rfl) rfl rfl hl.1 rfl (lv_room (Nat.le_of_ble_eq_true rfl)) dX7_remove_2 ⟨Nat.le_of_ble_eq_true rfl, Nat.le_of_ble_eq_true rfl⟩) (fun r2 hr2 => ?_)
  refine lv_if_eq (tgt := 10) S.1 S.2.1 dX7_remove_5 (by decide) (fun c5 => ?_) (fun c5 => ?_)
  · skip
    obtain ⟨k, hk, hxk⟩ := Classical.not_not.mp (hr2.f c5)
    rw [hxk] at hl
    refine lv_aload_n S.1 S.2.1 dX7_remove_10 rfl (lv_at hl 0 rfl) ?_
    refine x_qv (va_runV (As := []) (rest := []) S (c_X7_record l g hJ E h65 h66 hN h67 hs4 hHi) (cwV 0 S.2.2.2.2 gX7_remove_X7_record rfl rfl rfl (by decide +kernel) ⟨Nat.le_of_ble_eq_true rfl, Nat.le_of_ble_eq_true rfl⟩) (x_preV hK hP h65 (by decide) rfl) rfl rfl hl.1 rfl (lv_room (Nat.le_of_ble_eq_true rfl)) dX7_remove_11 ⟨Nat.le_of_ble_eq_true rfl, Nat.le_of_ble_eq_true rfl⟩) hS (fun E1 H locs hq11 hP hS => ?_)
    obtain ⟨hfr11, h65, fh2, h67, hHi2⟩ := hq11
    have h66 := (hfr11 66 (by decide) (by decide)).trans h66
    have h68 := (hfr11 68 (by decide) (by decide)).trans h68
    have h69 := (hfr11 69 (by decide) (by decide)).trans h69
    have h70 := (hfr11 70 (by decide) (by decide)).trans h70
    have h71 := (hfr11 71 (by decide) (by decide)).trans h71
    have h72 := (hfr11 72 (by decide) (by decide)).trans h72
    have h73 := (hfr11 73 (by decide) (by decide)).trans h73
    have h74 := (hfr11 74 (by decide) (by decide)).trans h74
    have hfm : ∀ j, j < 65 → E1 j = E j := fun j hj => (hfr11 j (by omega) (by omega)).trans (hfm j hj)
    refine lv_aload_n S.1 S.2.1 dX7_remove_14 rfl (lv_at hl 0 rfl) ?_
    refine x_get S hK hP dX7_remove_15 h65 (by decide) (RX7, TX7, 19) rfl hin7 0 (by decide) fl7 rfl ?_
    refine lv_bipush (v := 70) S.1 S.2.1 dX7_remove_18 (by decide) ?_
    refine lv_dup2_11 S.1 S.2.1 dX7_remove_20 rfl rfl ?_
    refine x_iald S hK hP dX7_remove_21 h66 (by decide) (j := 70) rfl (by omega) (by decide) ?_
    refine lv_iconst (v := 1) S.1 S.2.1 dX7_remove_22 (by decide) ?_
    refine lv_isub S.1 S.2.1 dX7_remove_23 ?_
    refine W.eq (g2 := F0 m 24 ls [.int (nI (zn z - 1)), .int 70, .ref (xad g 66)]) (by rw [hn0, show (1 : Int32) = nI 1 from rfl, pk_sub (by omega)]) ?_
    refine x_iast S hK hJ hP hS dX7_remove_24 h66 (by decide) (j := 70) rfl (by omega) (by decide) (fun H locs E1_1 hu hP hS => ?_)
    have h66 : E1_1 66 = .inl (xI g, 71, .inl (upd f 70 (nI (zn z - 1)))) := hu.1
    have h68 : E1_1 68 = .inl (xI g, 71, .inl fs) := (hu.2 _ (by omega)).trans h68
    have h69 : E1_1 69 = .inl (xI g, 3, .inl fa) := (hu.2 _ (by omega)).trans h69
    have h70 : E1_1 70 = .inl (xI g, 11, .inl fr) := (hu.2 _ (by omega)).trans h70
    have h71 : E1_1 71 = .inl (xI g, 10, .inl fl) := (hu.2 _ (by omega)).trans h71
    have h72 : E1_1 72 = .inl (xI g, 10, .inl fo) := (hu.2 _ (by omega)).trans h72
    have h73 : E1_1 73 = .inl (xC g, 60, .inl (ztf z)) := (hu.2 _ (by omega)).trans h73
    have h74 : E1_1 74 = .inl (xI g, 6, .inl fd) := (hu.2 _ (by omega)).trans h74
    have hfm : ∀ j, j < 65 → E1_1 j = E j := fun j hj => (hu.2 j (by omega)).trans (hfm j hj)
    have h65 : E1_1 65 = mO g (nI (rcS (zh z))) (bI (zf z)) hi od bs bb bf (nI (ztl z)) at9 nu := (hu.2 _ (by omega)).trans h65
    have h67 : E1_1 67 = .inl (xI g, 284, .inl fh2) := (hu.2 _ (by omega)).trans h67
    refine lv_bipush (v := 7) S.1 S.2.1 dX7_remove_25 (by decide) ?_
    refine lv_iload_n S.1 S.2.1 dX7_remove_27 rfl (lv_at hl 1 rfl) ?_
    refine lv_imul S.1 S.2.1 dX7_remove_28 ?_
    refine W.eq (g2 := F0 m 29 ls [.int (nI (7 * k))]) (by rw [show (7 : Int32) = nI 7 from rfl, pk_mul]) ?_
    refine lv_istore_n (lv' := [(2, .int (nI (7 * k))), (0, .ref (xad g 65)), (1, .int (nI k))]) S.1 S.2.1 dX7_remove_29 rfl hl (by decide) rfl (fun ls hl => ?_)
    have loop30 : ∀ (d : Nat) (x9 : Nat) (f9 : Nat → Int32) (EL : Nat → va_E) (H : Heap) (locs : List Loc), (hkx : 7 * k ≤ x9) → (hx9 : x9 ≤ 7 * (zn z - 1)) → (h970 : f9 70 = nI (zn z - 1)) → (h99 : ∀ i, i < 70 → f9 i = if 7 * k ≤ i ∧ i < x9 then f (i + 7) else f i) → (7 * (zn z - 1) - x9) < d → (h65 : EL 65 = mO g (nI (rcS (zh z))) (bI (zf z)) hi od bs bb bf (nI (ztl z)) at9 nu) → (h66 : EL 66 = .inl (xI g, 71, .inl f9)) → (h67 : EL 67 = .inl (xI g, 284, .inl fh2)) → (h68 : EL 68 = .inl (xI g, 71, .inl fs)) → (h69 : EL 69 = .inl (xI g, 3, .inl fa)) → (h70 : EL 70 = .inl (xI g, 11, .inl fr)) → (h71 : EL 71 = .inl (xI g, 10, .inl fl)) → (h72 : EL 72 = .inl (xI g, 10, .inl fo)) → (h73 : EL 73 = .inl (xC g, 60, .inl (ztf z))) → (h74 : EL 74 = .inl (xI g, 6, .inl fd)) → (hfm : ∀ j, j < 65 → EL j = E j) → xP g EL H → va_S (xA (xad g)) s.heap H locs → ∀ ls : Array Slot, lv_has ls 3 [(2, .int (nI x9)), (0, .ref (xad g 65)), (1, .int (nI k))] → W pz l ez ({ frames := 2, cells := 0, slots := 0, locals := 43 }) s m ([.ref (xad g 65), .int x] : List Value).toArray below meth cz H locs 0 0 (MQ below (xQi g (fun r E1 => ∃ z1, sp_remove z x r z1 ∧ sM g E1 z1 ∧ ∀ j, j < 65 → E1 j = E j)) ([.ref (xad g 65), .int x] : List Value).toArray s 0 0 (xA (xad g))) (F0 m 30 ls []) := by
      intro d
      induction d with
      | zero => intro x9 f9 EL H locs hkx hx9 h970 h99 hd; exact absurd hd (Nat.not_lt_zero _)
      | succ d ih30 =>
        intro x9 f9 EL H locs hkx hx9 h970 h99 hd h65 h66 h67 h68 h69 h70 h71 h72 h73 h74 hfm hP hS ls hl
        refine lv_iload_n S.1 S.2.1 dX7_remove_30 rfl (lv_at hl 0 rfl) ?_
        refine lv_bipush (v := 7) S.1 S.2.1 dX7_remove_31 (by decide) ?_
        refine lv_aload_n S.1 S.2.1 dX7_remove_33 rfl (lv_at hl 1 rfl) ?_
        refine x_get S hK hP dX7_remove_34 h65 (by decide) (RX7, TX7, 19) rfl hin7 0 (by decide) fl7 rfl ?_
        refine lv_bipush (v := 70) S.1 S.2.1 dX7_remove_37 (by decide) ?_
        refine x_iald S hK hP dX7_remove_39 h66 (by decide) (j := 70) rfl (by omega) (by decide) ?_
        refine lv_imul S.1 S.2.1 dX7_remove_40 ?_
        refine lv_icmp_ge (tgt := 65) S.1 S.2.1 dX7_remove_41 (by decide) (fun c41 => ?_) (fun c41 => ?_)
        · skip
          have hxe : x9 = 7 * (zn z - 1) := Nat.le_antisymm hx9 ((nI_leI (by omega) (by omega)).mp (by rw [← pk_mul, ← h970]; exact c41))
          refine lv_aload_n S.1 S.2.1 dX7_remove_65 rfl (lv_at hl 1 rfl) ?_
          refine x_get S hK hP dX7_remove_66 h65 (by decide) (RX7, TX7, 19) rfl hin7 0 (by decide) fl7 rfl ?_
          refine lv_bipush (v := 70) S.1 S.2.1 dX7_remove_69 (by decide) ?_
          refine x_iald S hK hP dX7_remove_71 h66 (by decide) (j := 70) rfl (by omega) (by decide) ?_
          exact x_iret S hr hlocks hP hS dX7_remove_72 (⟨_, Or.inr ⟨k, hk, hxk, h970, rfl⟩, sM.mk (z := wP (wR z) (zn z - 1) (delM (zM z) k)) h65 rfl rfl rfl h66 h67 h68 h69 h70 h71 h72 h73 h74 (hN.del hk h970 (fun i hi => by rw [h99 i hi, hxe])) hHi2 hSl, hfm⟩)
        · skip
          have hx6 : x9 < 7 * (zn z - 1) := Nat.not_le.mp (fun h => c41 (by rw [h970, show (7 : Int32) = nI 7 from rfl, pk_mul]; exact (nI_leI (by omega) (by omega)).mpr h))
          refine lv_aload_n S.1 S.2.1 dX7_remove_44 rfl (lv_at hl 1 rfl) ?_
          refine x_get S hK hP dX7_remove_45 h65 (by decide) (RX7, TX7, 19) rfl hin7 0 (by decide) fl7 rfl ?_
          refine lv_iload_n S.1 S.2.1 dX7_remove_48 rfl (lv_at hl 0 rfl) ?_
          refine lv_aload_n S.1 S.2.1 dX7_remove_49 rfl (lv_at hl 1 rfl) ?_
          refine x_get S hK hP dX7_remove_50 h65 (by decide) (RX7, TX7, 19) rfl hin7 0 (by decide) fl7 rfl ?_
          refine lv_iload_n S.1 S.2.1 dX7_remove_53 rfl (lv_at hl 0 rfl) ?_
          refine lv_bipush (v := 7) S.1 S.2.1 dX7_remove_54 (by decide) ?_
          refine lv_iadd S.1 S.2.1 dX7_remove_56 ?_
          refine x_iald S hK hP dX7_remove_57 h66 (by decide) (j := (x9 + 7)) (nI_add x9 7) (by omega) (by decide) ?_
          refine x_iast S hK hJ hP hS dX7_remove_58 h66 (by decide) (j := x9) rfl (by omega) (by decide) (fun H locs E1_2 hu hP hS => ?_)
          have h65 : E1_2 65 = mO g (nI (rcS (zh z))) (bI (zf z)) hi od bs bb bf (nI (ztl z)) at9 nu := (hu.2 _ (by omega)).trans h65
          have h66 : E1_2 66 = .inl (xI g, 71, .inl (upd f9 x9 (f9 (x9 + 7)))) := hu.1
          have h67 : E1_2 67 = .inl (xI g, 284, .inl fh2) := (hu.2 _ (by omega)).trans h67
          have h68 : E1_2 68 = .inl (xI g, 71, .inl fs) := (hu.2 _ (by omega)).trans h68
          have h69 : E1_2 69 = .inl (xI g, 3, .inl fa) := (hu.2 _ (by omega)).trans h69
          have h70 : E1_2 70 = .inl (xI g, 11, .inl fr) := (hu.2 _ (by omega)).trans h70
          have h71 : E1_2 71 = .inl (xI g, 10, .inl fl) := (hu.2 _ (by omega)).trans h71
          have h72 : E1_2 72 = .inl (xI g, 10, .inl fo) := (hu.2 _ (by omega)).trans h72
          have h73 : E1_2 73 = .inl (xC g, 60, .inl (ztf z)) := (hu.2 _ (by omega)).trans h73
          have h74 : E1_2 74 = .inl (xI g, 6, .inl fd) := (hu.2 _ (by omega)).trans h74
          have hfm : ∀ j, j < 65 → E1_2 j = E j := fun j hj => (hu.2 j (by omega)).trans (hfm j hj)
          refine lv_iinc (v := nI (x9 + 1)) (lv' := [(2, .int (nI (x9 + 1))), (0, .ref (xad g 65)), (1, .int (nI k))]) S.1 S.2.1 dX7_remove_59 hl (k := 0) rfl (show nI x9 + Int32.ofInt 1 = _ from nI_1 _) (by decide) rfl (fun ls hl => ?_)
          refine lv_goto (tgt := 30) S.1 S.2.1 dX7_remove_62 (by decide) ?_
          exact ih30 (x9 + 1) _ _ _ _ (by omega) (by omega) (by rw [pk_un (by omega)]; exact h970) (fun i hi => by rcases Classical.em (i = x9) with e | e; rw [e, pk_us, if_pos (by omega), h99 (x9 + 7) (by omega), if_neg (by omega)]; rw [pk_un e, h99 i hi]; rcases Classical.em (7 * k ≤ i ∧ i < x9) with c | c; rw [if_pos c, if_pos (by omega)]; rw [if_neg c, if_neg (by omega)]) (by omega) h65 h66 h67 h68 h69 h70 h71 h72 h73 h74 hfm hP hS ls (lv_sub hl [0, 1, 2] rfl)
    exact loop30 _ (7 * k) _ _ _ _ (Nat.le_refl _) (by omega) pk_us (fun i hi => by rw [pk_un (by omega), if_neg (by omega)]) (Nat.lt_succ_self _) h65 h66 h67 h68 h69 h70 h71 h72 h73 h74 hfm hP hS ls (lv_sub hl [0, 1, 2] rfl)
  · skip
    refine lv_iconst (v := (-1)) S.1 S.2.1 dX7_remove_8 (by decide) ?_
    exact x_iret S hr hlocks hP hS dX7_remove_9 (⟨z, Or.inl ⟨hr2.t c5, rfl, rfl⟩, sM.mk h65 rfl rfl rfl h66 h67 h68 h69 h70 h71 h72 h73 h74 hN hHi hSl, hfm⟩)
set_option maxHeartbeats 4000000 in
set_option maxRecDepth 100000 in
theorem c_X7_type (l : Launch) (g : xG) (hJ : xJ (xad g)) (E : Nat → va_E) {z : xS} (hz : sM g E z) (hv : vS z) (x : Int32) : Met l yX7_type wsX7_type ({ frames := 0, cells := 0, slots := 0, locals := 0 }) (xPc g [.ref (xad g 65), .int x] E) (xQi g (fun r E1 => ∃ z1, sp_type z x r z1 ∧ sM g E1 z1 ∧ ∀ j, j < 65 → E1 j = E j)) 0 0 (xA (xad g)) := by
  refine x_met (ws' := _) (by decide) rfl (Nat.le_of_ble_eq_true rfl) ?_
  intro pz ez s m below meth cz ls S hr hlocks hP hK hl
  have hl : lv_has ls 2 [(0, .ref (xad g 65)), (1, .int x)] := hl
  have hS : va_S (xA (xad g)) s.heap s.heap [] := va_S.rf
  have hin7 : ∀ w ∈ u_ws RX7 TX7 19, w ∈ wsX7_type := by decide +kernel
  have fl31 : Cond.fieldLink RX7 31 "DiscArcsModel" "text" "[C" ∈ wsX7_type := by decide +kernel
  have fl149 : Cond.fieldLink RX7 149 "DiscArcsModel" "typed" "I" ∈ wsX7_type := by decide +kernel
  obtain ⟨hi, od, bs, bb, bf, at9, nu, f, fh, fs, fa, fr, fl, fo, fd, h65, h66, h67, h68, h69, h70, h71, h72, h73, h74, hN, hHi, hSl⟩ := id hz
  have hn := hN.1
  have hn0 := hN.n0
  have hv1 := hv.1.2
  have hfm : ∀ j, j < 65 → E j = E j := fun _ _ => rfl
  have hs4 := hv.2.1.1
  have htl := hv.2.2.2
  refine lv_aload_n S.1 S.2.1 dX7_type_0 rfl (lv_at hl 0 rfl) ?_
  refine x_get S hK hP dX7_type_1 h65 (by decide) (RX7, TX7, 19) rfl hin7 14 (by decide) fl149 rfl ?_
  refine lv_bipush (v := 60) S.1 S.2.1 dX7_type_4 (by decide) ?_
  refine lv_icmp_ne (tgt := 12) S.1 S.2.1 dX7_type_6 (by decide) (fun c6 => ?_) (fun c6 => ?_)
  · skip
    have ht6 : ztl z < 60 := by have : ¬ ztl z = 60 := fun h => c6 (by rw [h]; rfl); omega
    refine lv_aload_n S.1 S.2.1 dX7_type_12 rfl (lv_at hl 0 rfl) ?_
    refine x_get S hK hP dX7_type_13 h65 (by decide) (RX7, TX7, 19) rfl hin7 15 (by decide) fl31 rfl ?_
    refine lv_aload_n S.1 S.2.1 dX7_type_16 rfl (lv_at hl 0 rfl) ?_
    refine x_get S hK hP dX7_type_17 h65 (by decide) (RX7, TX7, 19) rfl hin7 14 (by decide) fl149 rfl ?_
    refine lv_iload_n S.1 S.2.1 dX7_type_20 rfl (lv_at hl 1 rfl) ?_
    refine x_cast S hK hJ hP hS dX7_type_21 h73 (by decide) (j := (ztl z)) rfl ht6 (by decide) (fun H locs E1 hu hP hS => ?_)
    have h65 : E1 65 = mO g (nI (zh z)) (bI (zf z)) hi od bs bb bf (nI (ztl z)) at9 nu := (hu.2 _ (by omega)).trans h65
    have h66 : E1 66 = .inl (xI g, 71, .inl f) := (hu.2 _ (by omega)).trans h66
    have h67 : E1 67 = .inl (xI g, 284, .inl fh) := (hu.2 _ (by omega)).trans h67
    have h68 : E1 68 = .inl (xI g, 71, .inl fs) := (hu.2 _ (by omega)).trans h68
    have h69 : E1 69 = .inl (xI g, 3, .inl fa) := (hu.2 _ (by omega)).trans h69
    have h70 : E1 70 = .inl (xI g, 11, .inl fr) := (hu.2 _ (by omega)).trans h70
    have h71 : E1 71 = .inl (xI g, 10, .inl fl) := (hu.2 _ (by omega)).trans h71
    have h72 : E1 72 = .inl (xI g, 10, .inl fo) := (hu.2 _ (by omega)).trans h72
    have h73 : E1 73 = .inl (xC g, 60, .inl (upd (ztf z) (ztl z) (vp_nar .char x))) := hu.1
    have h74 : E1 74 = .inl (xI g, 6, .inl fd) := (hu.2 _ (by omega)).trans h74
    have hfm : ∀ j, j < 65 → E1 j = E j := fun j hj => (hu.2 j (by omega)).trans (hfm j hj)
    refine lv_aload_n S.1 S.2.1 dX7_type_22 rfl (lv_at hl 0 rfl) ?_
    refine lv_dup S.1 S.2.1 dX7_type_23 rfl ?_
    refine x_get S hK hP dX7_type_24 h65 (by decide) (RX7, TX7, 19) rfl hin7 14 (by decide) fl149 rfl ?_
    refine lv_iconst (v := 1) S.1 S.2.1 dX7_type_27 (by decide) ?_
    refine lv_iadd S.1 S.2.1 dX7_type_28 ?_
    refine x_put S hK hJ hP hS dX7_type_29 h65 (by decide) (RX7, TX7, 19) rfl hin7 tyX7 tyX7_ok nmX7 14 (by decide) fl149 rfl rfl rfl (Nat.le_of_ble_eq_true rfl) (fun H locs E1_1 hu hP hS => ?_)
    have h65 : E1_1 65 = mO g (nI (zh z)) (bI (zf z)) hi od bs bb bf ((nI (ztl z)) + 1) at9 nu := hu.1
    have h66 : E1_1 66 = .inl (xI g, 71, .inl f) := (hu.2 _ (by omega)).trans h66
    have h67 : E1_1 67 = .inl (xI g, 284, .inl fh) := (hu.2 _ (by omega)).trans h67
    have h68 : E1_1 68 = .inl (xI g, 71, .inl fs) := (hu.2 _ (by omega)).trans h68
    have h69 : E1_1 69 = .inl (xI g, 3, .inl fa) := (hu.2 _ (by omega)).trans h69
    have h70 : E1_1 70 = .inl (xI g, 11, .inl fr) := (hu.2 _ (by omega)).trans h70
    have h71 : E1_1 71 = .inl (xI g, 10, .inl fl) := (hu.2 _ (by omega)).trans h71
    have h72 : E1_1 72 = .inl (xI g, 10, .inl fo) := (hu.2 _ (by omega)).trans h72
    have h73 : E1_1 73 = .inl (xC g, 60, .inl (upd (ztf z) (ztl z) (vp_nar .char x))) := (hu.2 _ (by omega)).trans h73
    have h74 : E1_1 74 = .inl (xI g, 6, .inl fd) := (hu.2 _ (by omega)).trans h74
    have hfm : ∀ j, j < 65 → E1_1 j = E j := fun j hj => (hu.2 j (by omega)).trans (hfm j hj)
    refine lv_aload_n S.1 S.2.1 dX7_type_32 rfl (lv_at hl 0 rfl) ?_
    refine x_get S hK hP dX7_type_33 h65 (by decide) (RX7, TX7, 19) rfl hin7 14 (by decide) fl149 rfl ?_
    exact x_iret S hr hlocks hP hS dX7_type_36 (⟨_, Or.inr ⟨ht6, nI_1 _, rfl⟩, sM.mk (z := wT z (ztl z + 1) (upd (ztf z) (ztl z) (vp_nar .char x))) h65 rfl rfl (nI_1 _) h66 h67 h68 h69 h70 h71 h72 h73 h74 hN hHi hSl, hfm⟩)
  · skip
    refine lv_bipush (v := (-3)) S.1 S.2.1 dX7_type_9 (by decide) ?_
    exact x_iret S hr hlocks hP hS dX7_type_11 (⟨z, Or.inl ⟨(nI_eq (b := 60) (by omega) (by decide)).mp c6, rfl, rfl⟩, sM.mk h65 rfl rfl rfl h66 h67 h68 h69 h70 h71 h72 h73 h74 hN hHi hSl, hfm⟩)
set_option maxHeartbeats 4000000 in
set_option maxRecDepth 100000 in
theorem c_X7_clearText (l : Launch) (g : xG) (hJ : xJ (xad g)) (E : Nat → va_E) {z : xS} (hz : sM g E z) (hv : vS z)  : Met l yX7_clearText wsX7_clearText ({ frames := 0, cells := 0, slots := 0, locals := 0 }) (xPc g [.ref (xad g 65)] E) (xQi g (fun r E1 => ∃ z1, sp_clearText z r z1 ∧ sM g E1 z1 ∧ ∀ j, j < 65 → E1 j = E j)) 0 0 (xA (xad g)) := by
  refine x_met (ws' := _) (by decide) rfl (Nat.le_of_ble_eq_true rfl) ?_
  intro pz ez s m below meth cz ls S hr hlocks hP hK hl
  have hl : lv_has ls 2 [(0, .ref (xad g 65))] := hl
  have hS : va_S (xA (xad g)) s.heap s.heap [] := va_S.rf
  have hin7 : ∀ w ∈ u_ws RX7 TX7 19, w ∈ wsX7_clearText := by decide +kernel
  have fl149 : Cond.fieldLink RX7 149 "DiscArcsModel" "typed" "I" ∈ wsX7_clearText := by decide +kernel
  obtain ⟨hi, od, bs, bb, bf, at9, nu, f, fh, fs, fa, fr, fl, fo, fd, h65, h66, h67, h68, h69, h70, h71, h72, h73, h74, hN, hHi, hSl⟩ := id hz
  have hn := hN.1
  have hn0 := hN.n0
  have hv1 := hv.1.2
  have hfm : ∀ j, j < 65 → E j = E j := fun _ _ => rfl
  have hs4 := hv.2.1.1
  have htl := hv.2.2.2
  refine lv_aload_n S.1 S.2.1 dX7_clearText_0 rfl (lv_at hl 0 rfl) ?_
  refine x_get S hK hP dX7_clearText_1 h65 (by decide) (RX7, TX7, 19) rfl hin7 14 (by decide) fl149 rfl ?_
  refine lv_istore_n (lv' := [(1, .int (nI (ztl z))), (0, .ref (xad g 65))]) S.1 S.2.1 dX7_clearText_4 rfl hl (by decide) rfl (fun ls hl => ?_)
  refine lv_aload_n S.1 S.2.1 dX7_clearText_5 rfl (lv_at hl 1 rfl) ?_
  refine lv_iconst (v := 0) S.1 S.2.1 dX7_clearText_6 (by decide) ?_
  refine x_put S hK hJ hP hS dX7_clearText_7 h65 (by decide) (RX7, TX7, 19) rfl hin7 tyX7 tyX7_ok nmX7 14 (by decide) fl149 rfl rfl rfl (Nat.le_of_ble_eq_true rfl) (fun H locs E1 hu hP hS => ?_)
  have h65 : E1 65 = mO g (nI (zh z)) (bI (zf z)) hi od bs bb bf 0 at9 nu := hu.1
  have h66 : E1 66 = .inl (xI g, 71, .inl f) := (hu.2 _ (by omega)).trans h66
  have h67 : E1 67 = .inl (xI g, 284, .inl fh) := (hu.2 _ (by omega)).trans h67
  have h68 : E1 68 = .inl (xI g, 71, .inl fs) := (hu.2 _ (by omega)).trans h68
  have h69 : E1 69 = .inl (xI g, 3, .inl fa) := (hu.2 _ (by omega)).trans h69
  have h70 : E1 70 = .inl (xI g, 11, .inl fr) := (hu.2 _ (by omega)).trans h70
  have h71 : E1 71 = .inl (xI g, 10, .inl fl) := (hu.2 _ (by omega)).trans h71
  have h72 : E1 72 = .inl (xI g, 10, .inl fo) := (hu.2 _ (by omega)).trans h72
  have h73 : E1 73 = .inl (xC g, 60, .inl (ztf z)) := (hu.2 _ (by omega)).trans h73
  have h74 : E1 74 = .inl (xI g, 6, .inl fd) := (hu.2 _ (by omega)).trans h74
  have hfm : ∀ j, j < 65 → E1 j = E j := fun j hj => (hu.2 j (by omega)).trans (hfm j hj)
  refine lv_iload_n S.1 S.2.1 dX7_clearText_10 rfl (lv_at hl 0 rfl) ?_
  exact x_iret S hr hlocks hP hS dX7_clearText_11 (⟨_, ⟨rfl, rfl⟩, sM.mk (z := wT z 0 (ztf z)) h65 rfl rfl rfl h66 h67 h68 h69 h70 h71 h72 h73 h74 hN hHi hSl, hfm⟩)
set_option maxHeartbeats 4000000 in
set_option maxRecDepth 100000 in
theorem c_X7_undo (l : Launch) (g : xG) (hJ : xJ (xad g)) (E : Nat → va_E) {z : xS} (hz : sM g E z) (hv : vS z)  : Met l yX7_undo wsX7_undo ({ frames := 0, cells := 0, slots := 0, locals := 0 }) (xPc g [.ref (xad g 65)] E) (xQi g (fun r E1 => ∃ z1, sp_undo z r z1 ∧ sM g E1 z1 ∧ ∀ j, j < 65 → E1 j = E j)) 0 0 (xA (xad g)) := by
  refine x_met (ws' := _) (by decide) rfl (Nat.le_of_ble_eq_true rfl) ?_
  intro pz ez s m below meth cz ls S hr hlocks hP hK hl
  have hl : lv_has ls 2 [(0, .ref (xad g 65))] := hl
  have hS : va_S (xA (xad g)) s.heap s.heap [] := va_S.rf
  have hin7 : ∀ w ∈ u_ws RX7 TX7 19, w ∈ wsX7_undo := by decide +kernel
  have fl7 : Cond.fieldLink RX7 7 "DiscArcsModel" "now" "[I" ∈ wsX7_undo := by decide +kernel
  have fl13 : Cond.fieldLink RX7 13 "DiscArcsModel" "history" "[I" ∈ wsX7_undo := by decide +kernel
  have fl50 : Cond.fieldLink RX7 50 "DiscArcsModel" "kept" "I" ∈ wsX7_undo := by decide +kernel
  obtain ⟨hi, od, bs, bb, bf, at9, nu, f, fh, fs, fa, fr, fl, fo, fd, h65, h66, h67, h68, h69, h70, h71, h72, h73, h74, hN, hHi, hSl⟩ := id hz
  have hn := hN.1
  have hn0 := hN.n0
  have hv1 := hv.1.2
  have hfm : ∀ j, j < 65 → E j = E j := fun _ _ => rfl
  have hs4 := hv.2.1.1
  have htl := hv.2.2.2
  refine lv_aload_n S.1 S.2.1 dX7_undo_0 rfl (lv_at hl 0 rfl) ?_
  refine x_get S hK hP dX7_undo_1 h65 (by decide) (RX7, TX7, 19) rfl hin7 2 (by decide) fl50 rfl ?_
  refine lv_if_ne (tgt := 10) S.1 S.2.1 dX7_undo_4 (by decide) (fun c4 => ?_) (fun c4 => ?_)
  · skip
    have hs0 : 0 < zh z := Nat.pos_of_ne_zero (fun h => c4 (by rw [h]; rfl))
    refine lv_aload_n S.1 S.2.1 dX7_undo_10 rfl (lv_at hl 0 rfl) ?_
    refine lv_dup S.1 S.2.1 dX7_undo_11 rfl ?_
    refine x_get S hK hP dX7_undo_12 h65 (by decide) (RX7, TX7, 19) rfl hin7 2 (by decide) fl50 rfl ?_
    refine lv_iconst (v := 1) S.1 S.2.1 dX7_undo_15 (by decide) ?_
    refine lv_isub S.1 S.2.1 dX7_undo_16 ?_
    refine W.eq (g2 := F0 m 17 ls [.int (nI (zh z - 1)), .ref (xad g 65)]) (by rw [show (1 : Int32) = nI 1 from rfl, pk_sub (by omega)]) ?_
    refine x_put S hK hJ hP hS dX7_undo_17 h65 (by decide) (RX7, TX7, 19) rfl hin7 tyX7 tyX7_ok nmX7 2 (by decide) fl50 rfl rfl rfl (Nat.le_of_ble_eq_true rfl) (fun H locs E1 hu hP hS => ?_)
    have h65 : E1 65 = mO g (nI (zh z - 1)) (bI (zf z)) hi od bs bb bf (nI (ztl z)) at9 nu := hu.1
    have h66 : E1 66 = .inl (xI g, 71, .inl f) := (hu.2 _ (by omega)).trans h66
    have h67 : E1 67 = .inl (xI g, 284, .inl fh) := (hu.2 _ (by omega)).trans h67
    have h68 : E1 68 = .inl (xI g, 71, .inl fs) := (hu.2 _ (by omega)).trans h68
    have h69 : E1 69 = .inl (xI g, 3, .inl fa) := (hu.2 _ (by omega)).trans h69
    have h70 : E1 70 = .inl (xI g, 11, .inl fr) := (hu.2 _ (by omega)).trans h70
    have h71 : E1 71 = .inl (xI g, 10, .inl fl) := (hu.2 _ (by omega)).trans h71
    have h72 : E1 72 = .inl (xI g, 10, .inl fo) := (hu.2 _ (by omega)).trans h72
    have h73 : E1 73 = .inl (xC g, 60, .inl (ztf z)) := (hu.2 _ (by omega)).trans h73
    have h74 : E1 74 = .inl (xI g, 6, .inl fd) := (hu.2 _ (by omega)).trans h74
    have hfm : ∀ j, j < 65 → E1 j = E j := fun j hj => (hu.2 j (by omega)).trans (hfm j hj)
    refine lv_iconst (v := 0) S.1 S.2.1 dX7_undo_20 (by decide) ?_
    refine lv_istore_n (lv' := [(1, .int 0), (0, .ref (xad g 65))]) S.1 S.2.1 dX7_undo_21 rfl hl (by decide) rfl (fun ls hl => ?_)
    have loop22 : ∀ (d : Nat) (q : Nat) (f9 : Nat → Int32) (EL : Nat → va_E) (H : Heap) (locs : List Loc), (hq : q ≤ 71) → (hC : ∀ x, x < q → f9 x = fh (71 * (zh z - 1) + x)) → (71 - q) < d → (h65 : EL 65 = mO g (nI (zh z - 1)) (bI (zf z)) hi od bs bb bf (nI (ztl z)) at9 nu) → (h66 : EL 66 = .inl (xI g, 71, .inl f9)) → (h67 : EL 67 = .inl (xI g, 284, .inl fh)) → (h68 : EL 68 = .inl (xI g, 71, .inl fs)) → (h69 : EL 69 = .inl (xI g, 3, .inl fa)) → (h70 : EL 70 = .inl (xI g, 11, .inl fr)) → (h71 : EL 71 = .inl (xI g, 10, .inl fl)) → (h72 : EL 72 = .inl (xI g, 10, .inl fo)) → (h73 : EL 73 = .inl (xC g, 60, .inl (ztf z))) → (h74 : EL 74 = .inl (xI g, 6, .inl fd)) → (hfm : ∀ j, j < 65 → EL j = E j) → xP g EL H → va_S (xA (xad g)) s.heap H locs → ∀ ls : Array Slot, lv_has ls 2 [(1, .int (nI q)), (0, .ref (xad g 65))] → W pz l ez ({ frames := 0, cells := 0, slots := 0, locals := 0 }) s m ([.ref (xad g 65)] : List Value).toArray below meth cz H locs 0 0 (MQ below (xQi g (fun r E1 => ∃ z1, sp_undo z r z1 ∧ sM g E1 z1 ∧ ∀ j, j < 65 → E1 j = E j)) ([.ref (xad g 65)] : List Value).toArray s 0 0 (xA (xad g))) (F0 m 22 ls []) := by
      intro d
      induction d with
      | zero => intro q f9 EL H locs hq hC hd; exact absurd hd (Nat.not_lt_zero _)
      | succ d ih22 =>
        intro q f9 EL H locs hq hC hd h65 h66 h67 h68 h69 h70 h71 h72 h73 h74 hfm hP hS ls hl
        refine lv_iload_n S.1 S.2.1 dX7_undo_22 rfl (lv_at hl 0 rfl) ?_
        refine lv_bipush (v := 71) S.1 S.2.1 dX7_undo_23 (by decide) ?_
        refine lv_icmp_ge (tgt := 54) S.1 S.2.1 dX7_undo_25 (by decide) (fun c25 => ?_) (fun c25 => ?_)
        · skip
          refine lv_aload_n S.1 S.2.1 dX7_undo_54 rfl (lv_at hl 1 rfl) ?_
          refine x_get S hK hP dX7_undo_55 h65 (by decide) (RX7, TX7, 19) rfl hin7 2 (by decide) fl50 rfl ?_
          exact x_iret S hr hlocks hP hS dX7_undo_58 (⟨_, Or.inr ⟨hs0, rfl, rfl⟩, sM.mk (z := wP (wH z (zh z - 1)) (zN z (zh z - 1)) (zMM z (zh z - 1))) h65 rfl rfl rfl h66 h67 h68 h69 h70 h71 h72 h73 h74 ((hHi (zh z - 1) (by omega)).move (fun x hx => by rw [Nat.zero_add]; exact hC x (by have := (nI_leI (a := 71) (b := q) (by omega) (by omega)).mp c25; omega))) (fun i hi => hHi i (Nat.lt_of_lt_of_le hi (Nat.sub_le _ _))) hSl, hfm⟩)
        · skip
          have hq71 : q < 71 := Nat.not_le.mp (fun h => c25 ((nI_leI (a := 71) (by omega) (by omega)).mpr h))
          refine lv_aload_n S.1 S.2.1 dX7_undo_28 rfl (lv_at hl 1 rfl) ?_
          refine x_get S hK hP dX7_undo_29 h65 (by decide) (RX7, TX7, 19) rfl hin7 0 (by decide) fl7 rfl ?_
          refine lv_iload_n S.1 S.2.1 dX7_undo_32 rfl (lv_at hl 0 rfl) ?_
          refine lv_aload_n S.1 S.2.1 dX7_undo_33 rfl (lv_at hl 1 rfl) ?_
          refine x_get S hK hP dX7_undo_34 h65 (by decide) (RX7, TX7, 19) rfl hin7 1 (by decide) fl13 rfl ?_
          refine lv_bipush (v := 71) S.1 S.2.1 dX7_undo_37 (by decide) ?_
          refine lv_aload_n S.1 S.2.1 dX7_undo_39 rfl (lv_at hl 1 rfl) ?_
          refine x_get S hK hP dX7_undo_40 h65 (by decide) (RX7, TX7, 19) rfl hin7 2 (by decide) fl50 rfl ?_
          refine lv_imul S.1 S.2.1 dX7_undo_43 ?_
          refine lv_iload_n S.1 S.2.1 dX7_undo_44 rfl (lv_at hl 0 rfl) ?_
          refine lv_iadd S.1 S.2.1 dX7_undo_45 ?_
          refine x_iald S hK hP dX7_undo_46 h67 (by decide) (j := (71 * (zh z - 1) + q)) (mul71 (zh z - 1) q) (by omega) (by decide) ?_
          refine x_iast S hK hJ hP hS dX7_undo_47 h66 (by decide) (j := q) rfl (by omega) (by decide) (fun H locs E1_1 hu hP hS => ?_)
          have h65 : E1_1 65 = mO g (nI (zh z - 1)) (bI (zf z)) hi od bs bb bf (nI (ztl z)) at9 nu := (hu.2 _ (by omega)).trans h65
          have h66 : E1_1 66 = .inl (xI g, 71, .inl (upd f9 q (fh (71 * (zh z - 1) + q)))) := hu.1
          have h67 : E1_1 67 = .inl (xI g, 284, .inl fh) := (hu.2 _ (by omega)).trans h67
          have h68 : E1_1 68 = .inl (xI g, 71, .inl fs) := (hu.2 _ (by omega)).trans h68
          have h69 : E1_1 69 = .inl (xI g, 3, .inl fa) := (hu.2 _ (by omega)).trans h69
          have h70 : E1_1 70 = .inl (xI g, 11, .inl fr) := (hu.2 _ (by omega)).trans h70
          have h71 : E1_1 71 = .inl (xI g, 10, .inl fl) := (hu.2 _ (by omega)).trans h71
          have h72 : E1_1 72 = .inl (xI g, 10, .inl fo) := (hu.2 _ (by omega)).trans h72
          have h73 : E1_1 73 = .inl (xC g, 60, .inl (ztf z)) := (hu.2 _ (by omega)).trans h73
          have h74 : E1_1 74 = .inl (xI g, 6, .inl fd) := (hu.2 _ (by omega)).trans h74
          have hfm : ∀ j, j < 65 → E1_1 j = E j := fun j hj => (hu.2 j (by omega)).trans (hfm j hj)
          refine lv_iinc (v := nI (q + 1)) (lv' := [(1, .int (nI (q + 1))), (0, .ref (xad g 65))]) S.1 S.2.1 dX7_undo_48 hl (k := 0) rfl (show nI q + Int32.ofInt 1 = _ from nI_1 _) (by decide) rfl (fun ls hl => ?_)
          refine lv_goto (tgt := 22) S.1 S.2.1 dX7_undo_51 (by decide) ?_
          exact ih22 (q + 1) _ _ _ _ (by omega) (fun x hx => by rcases Nat.lt_or_ge x q with e | e; rw [pk_un (by omega)]; exact hC x e; rw [show x = q by omega, pk_us]) (by omega) h65 h66 h67 h68 h69 h70 h71 h72 h73 h74 hfm hP hS ls (lv_sub hl [0, 1] rfl)
    exact loop22 _ 0 f _ _ _ (Nat.zero_le _) (fun x hx => absurd hx (Nat.not_lt_zero _)) (Nat.lt_succ_self _) h65 h66 h67 h68 h69 h70 h71 h72 h73 h74 hfm hP hS ls (lv_sub hl [0, 1] rfl)
  · skip
    refine lv_bipush (v := (-5)) S.1 S.2.1 dX7_undo_7 (by decide) ?_
    exact x_iret S hr hlocks hP hS dX7_undo_9 (⟨z, Or.inl ⟨(nI_eq (b := 0) (by omega) (by decide)).mp c4, rfl, rfl⟩, sM.mk h65 rfl rfl rfl h66 h67 h68 h69 h70 h71 h72 h73 h74 hN hHi hSl, hfm⟩)
set_option maxHeartbeats 4000000 in
set_option maxRecDepth 100000 in
theorem c_X7_keep (l : Launch) (g : xG) (hJ : xJ (xad g)) (E : Nat → va_E) {z : xS} (hz : sM g E z) (hv : vS z)  : Met l yX7_keep wsX7_keep ({ frames := 0, cells := 0, slots := 0, locals := 0 }) (xPc g [.ref (xad g 65)] E) (xQi g (fun r E1 => ∃ z1, sp_keep z r z1 ∧ sM g E1 z1 ∧ ∀ j, j < 65 → E1 j = E j)) 0 0 (xA (xad g)) := by
  refine x_met (ws' := _) (by decide) rfl (Nat.le_of_ble_eq_true rfl) ?_
  intro pz ez s m below meth cz ls S hr hlocks hP hK hl
  have hl : lv_has ls 2 [(0, .ref (xad g 65))] := hl
  have hS : va_S (xA (xad g)) s.heap s.heap [] := va_S.rf
  have hin7 : ∀ w ∈ u_ws RX7 TX7 19, w ∈ wsX7_keep := by decide +kernel
  have fl7 : Cond.fieldLink RX7 7 "DiscArcsModel" "now" "[I" ∈ wsX7_keep := by decide +kernel
  have fl16 : Cond.fieldLink RX7 16 "DiscArcsModel" "slot" "[I" ∈ wsX7_keep := by decide +kernel
  have fl174 : Cond.fieldLink RX7 174 "DiscArcsModel" "isFilled" "Z" ∈ wsX7_keep := by decide +kernel
  obtain ⟨hi, od, bs, bb, bf, at9, nu, f, fh, fs, fa, fr, fl, fo, fd, h65, h66, h67, h68, h69, h70, h71, h72, h73, h74, hN, hHi, hSl⟩ := id hz
  have hn := hN.1
  have hn0 := hN.n0
  have hv1 := hv.1.2
  have hfm : ∀ j, j < 65 → E j = E j := fun _ _ => rfl
  have hs4 := hv.2.1.1
  have htl := hv.2.2.2
  refine lv_iconst (v := 0) S.1 S.2.1 dX7_keep_0 (by decide) ?_
  refine lv_istore_n (lv' := [(1, .int 0), (0, .ref (xad g 65))]) S.1 S.2.1 dX7_keep_1 rfl hl (by decide) rfl (fun ls hl => ?_)
  have loop2 : ∀ (d : Nat) (q : Nat) (f9 : Nat → Int32) (EL : Nat → va_E) (H : Heap) (locs : List Loc), (hq : q ≤ 71) → (hC : ∀ x, x < q → f9 x = f x) → (71 - q) < d → (h65 : EL 65 = mO g (nI (zh z)) (bI (zf z)) hi od bs bb bf (nI (ztl z)) at9 nu) → (h66 : EL 66 = .inl (xI g, 71, .inl f)) → (h67 : EL 67 = .inl (xI g, 284, .inl fh)) → (h68 : EL 68 = .inl (xI g, 71, .inl f9)) → (h69 : EL 69 = .inl (xI g, 3, .inl fa)) → (h70 : EL 70 = .inl (xI g, 11, .inl fr)) → (h71 : EL 71 = .inl (xI g, 10, .inl fl)) → (h72 : EL 72 = .inl (xI g, 10, .inl fo)) → (h73 : EL 73 = .inl (xC g, 60, .inl (ztf z))) → (h74 : EL 74 = .inl (xI g, 6, .inl fd)) → (hfm : ∀ j, j < 65 → EL j = E j) → xP g EL H → va_S (xA (xad g)) s.heap H locs → ∀ ls : Array Slot, lv_has ls 2 [(1, .int (nI q)), (0, .ref (xad g 65))] → W pz l ez ({ frames := 0, cells := 0, slots := 0, locals := 0 }) s m ([.ref (xad g 65)] : List Value).toArray below meth cz H locs 0 0 (MQ below (xQi g (fun r E1 => ∃ z1, sp_keep z r z1 ∧ sM g E1 z1 ∧ ∀ j, j < 65 → E1 j = E j)) ([.ref (xad g 65)] : List Value).toArray s 0 0 (xA (xad g))) (F0 m 2 ls []) := by
    intro d
    induction d with
    | zero => intro q f9 EL H locs hq hC hd; exact absurd hd (Nat.not_lt_zero _)
    | succ d ih2 =>
      intro q f9 EL H locs hq hC hd h65 h66 h67 h68 h69 h70 h71 h72 h73 h74 hfm hP hS ls hl
      refine lv_iload_n S.1 S.2.1 dX7_keep_2 rfl (lv_at hl 0 rfl) ?_
      refine lv_bipush (v := 71) S.1 S.2.1 dX7_keep_3 (by decide) ?_
      refine lv_icmp_ge (tgt := 26) S.1 S.2.1 dX7_keep_5 (by decide) (fun c5 => ?_) (fun c5 => ?_)
      · skip
        refine lv_aload_n S.1 S.2.1 dX7_keep_26 rfl (lv_at hl 1 rfl) ?_
        refine lv_iconst (v := 1) S.1 S.2.1 dX7_keep_27 (by decide) ?_
        refine x_put S hK hJ hP hS dX7_keep_28 h65 (by decide) (RX7, TX7, 19) rfl hin7 tyX7 tyX7_ok nmX7 4 (by decide) fl174 rfl rfl rfl (Nat.le_of_ble_eq_true rfl) (fun H locs E1 hu hP hS => ?_)
        have h65 : E1 65 = mO g (nI (zh z)) 1 hi od bs bb bf (nI (ztl z)) at9 nu := hu.1
        have h66 : E1 66 = .inl (xI g, 71, .inl f) := (hu.2 _ (by omega)).trans h66
        have h67 : E1 67 = .inl (xI g, 284, .inl fh) := (hu.2 _ (by omega)).trans h67
        have h68 : E1 68 = .inl (xI g, 71, .inl f9) := (hu.2 _ (by omega)).trans h68
        have h69 : E1 69 = .inl (xI g, 3, .inl fa) := (hu.2 _ (by omega)).trans h69
        have h70 : E1 70 = .inl (xI g, 11, .inl fr) := (hu.2 _ (by omega)).trans h70
        have h71 : E1 71 = .inl (xI g, 10, .inl fl) := (hu.2 _ (by omega)).trans h71
        have h72 : E1 72 = .inl (xI g, 10, .inl fo) := (hu.2 _ (by omega)).trans h72
        have h73 : E1 73 = .inl (xC g, 60, .inl (ztf z)) := (hu.2 _ (by omega)).trans h73
        have h74 : E1 74 = .inl (xI g, 6, .inl fd) := (hu.2 _ (by omega)).trans h74
        have hfm : ∀ j, j < 65 → E1 j = E j := fun j hj => (hu.2 j (by omega)).trans (hfm j hj)
        refine lv_aload_n S.1 S.2.1 dX7_keep_31 rfl (lv_at hl 1 rfl) ?_
        refine x_get S hK hP dX7_keep_32 h65 (by decide) (RX7, TX7, 19) rfl hin7 0 (by decide) fl7 rfl ?_
        refine lv_bipush (v := 70) S.1 S.2.1 dX7_keep_35 (by decide) ?_
        refine x_iald S hK hP dX7_keep_37 h66 (by decide) (j := 70) rfl (by omega) (by decide) ?_
        exact x_iret S hr hlocks hP hS dX7_keep_38 (⟨_, ⟨hn0, rfl⟩, sM.mk (z := wS z) h65 rfl rfl rfl h66 h67 h68 h69 h70 h71 h72 h73 h74 hN hHi (fun _ => hN.move (fun x hx => by rw [Nat.zero_add]; exact hC x (by have := (nI_leI (a := 71) (b := q) (by omega) (by omega)).mp c5; omega))), hfm⟩)
      · skip
        have hq71 : q < 71 := Nat.not_le.mp (fun h => c5 ((nI_leI (a := 71) (by omega) (by omega)).mpr h))
        refine lv_aload_n S.1 S.2.1 dX7_keep_8 rfl (lv_at hl 1 rfl) ?_
        refine x_get S hK hP dX7_keep_9 h65 (by decide) (RX7, TX7, 19) rfl hin7 3 (by decide) fl16 rfl ?_
        refine lv_iload_n S.1 S.2.1 dX7_keep_12 rfl (lv_at hl 0 rfl) ?_
        refine lv_aload_n S.1 S.2.1 dX7_keep_13 rfl (lv_at hl 1 rfl) ?_
        refine x_get S hK hP dX7_keep_14 h65 (by decide) (RX7, TX7, 19) rfl hin7 0 (by decide) fl7 rfl ?_
        refine lv_iload_n S.1 S.2.1 dX7_keep_17 rfl (lv_at hl 0 rfl) ?_
        refine x_iald S hK hP dX7_keep_18 h66 (by decide) (j := q) rfl (by omega) (by decide) ?_
        refine x_iast S hK hJ hP hS dX7_keep_19 h68 (by decide) (j := q) rfl (by omega) (by decide) (fun H locs E1_1 hu hP hS => ?_)
        have h65 : E1_1 65 = mO g (nI (zh z)) (bI (zf z)) hi od bs bb bf (nI (ztl z)) at9 nu := (hu.2 _ (by omega)).trans h65
        have h66 : E1_1 66 = .inl (xI g, 71, .inl f) := (hu.2 _ (by omega)).trans h66
        have h67 : E1_1 67 = .inl (xI g, 284, .inl fh) := (hu.2 _ (by omega)).trans h67
        have h68 : E1_1 68 = .inl (xI g, 71, .inl (upd f9 q (f q))) := hu.1
        have h69 : E1_1 69 = .inl (xI g, 3, .inl fa) := (hu.2 _ (by omega)).trans h69
        have h70 : E1_1 70 = .inl (xI g, 11, .inl fr) := (hu.2 _ (by omega)).trans h70
        have h71 : E1_1 71 = .inl (xI g, 10, .inl fl) := (hu.2 _ (by omega)).trans h71
        have h72 : E1_1 72 = .inl (xI g, 10, .inl fo) := (hu.2 _ (by omega)).trans h72
        have h73 : E1_1 73 = .inl (xC g, 60, .inl (ztf z)) := (hu.2 _ (by omega)).trans h73
        have h74 : E1_1 74 = .inl (xI g, 6, .inl fd) := (hu.2 _ (by omega)).trans h74
        have hfm : ∀ j, j < 65 → E1_1 j = E j := fun j hj => (hu.2 j (by omega)).trans (hfm j hj)
        refine lv_iinc (v := nI (q + 1)) (lv' := [(1, .int (nI (q + 1))), (0, .ref (xad g 65))]) S.1 S.2.1 dX7_keep_20 hl (k := 0) rfl (show nI q + Int32.ofInt 1 = _ from nI_1 _) (by decide) rfl (fun ls hl => ?_)
        refine lv_goto (tgt := 2) S.1 S.2.1 dX7_keep_23 (by decide) ?_
        exact ih2 (q + 1) _ _ _ _ (by omega) (fun x hx => by rcases Nat.lt_or_ge x q with e | e; rw [pk_un (by omega)]; exact hC x e; rw [show x = q by omega, pk_us]) (by omega) h65 h66 h67 h68 h69 h70 h71 h72 h73 h74 hfm hP hS ls (lv_sub hl [0, 1] rfl)
  exact loop2 _ 0 fs _ _ _ (Nat.zero_le _) (fun x hx => absurd hx (Nat.not_lt_zero _)) (Nat.lt_succ_self _) h65 h66 h67 h68 h69 h70 h71 h72 h73 h74 hfm hP hS ls (lv_sub hl [0, 1] rfl)
set_option maxHeartbeats 4000000 in
set_option maxRecDepth 100000 in
theorem c_X7_restore (l : Launch) (g : xG) (hJ : xJ (xad g)) (E : Nat → va_E) {z : xS} (hz : sM g E z) (hv : vS z)  : Met l yX7_restore wsX7_restore ({ frames := 1, cells := 0, slots := 0, locals := 21 }) (xPc g [.ref (xad g 65)] E) (xQi g (fun r E1 => ∃ z1, sp_restore z r z1 ∧ sM g E1 z1 ∧ ∀ j, j < 65 → E1 j = E j)) 0 0 (xA (xad g)) := by
  refine x_met (ws' := _) (by decide) rfl (Nat.le_of_ble_eq_true rfl) ?_
  intro pz ez s m below meth cz ls S hr hlocks hP hK hl
  have hl : lv_has ls 2 [(0, .ref (xad g 65))] := hl
  have hS : va_S (xA (xad g)) s.heap s.heap [] := va_S.rf
  have hin7 : ∀ w ∈ u_ws RX7 TX7 19, w ∈ wsX7_restore := by decide +kernel
  have fl7 : Cond.fieldLink RX7 7 "DiscArcsModel" "now" "[I" ∈ wsX7_restore := by decide +kernel
  have fl16 : Cond.fieldLink RX7 16 "DiscArcsModel" "slot" "[I" ∈ wsX7_restore := by decide +kernel
  have fl174 : Cond.fieldLink RX7 174 "DiscArcsModel" "isFilled" "Z" ∈ wsX7_restore := by decide +kernel
  obtain ⟨hi, od, bs, bb, bf, at9, nu, f, fh, fs, fa, fr, fl, fo, fd, h65, h66, h67, h68, h69, h70, h71, h72, h73, h74, hN, hHi, hSl⟩ := id hz
  have hn := hN.1
  have hn0 := hN.n0
  have hv1 := hv.1.2
  have hfm : ∀ j, j < 65 → E j = E j := fun _ _ => rfl
  have hs4 := hv.2.1.1
  have htl := hv.2.2.2
  refine lv_aload_n S.1 S.2.1 dX7_restore_0 rfl (lv_at hl 0 rfl) ?_
  refine x_get S hK hP dX7_restore_1 h65 (by decide) (RX7, TX7, 19) rfl hin7 4 (by decide) fl174 rfl ?_
  refine lv_if_ne (tgt := 10) S.1 S.2.1 dX7_restore_4 (by decide) (fun c4 => ?_) (fun c4 => ?_)
  · skip
    have hft : zf z = true := by have : ¬ zf z = false := fun h => c4 (bI_0.mpr h); simpa using this
    have hSf := hSl hft
    refine lv_aload_n S.1 S.2.1 dX7_restore_10 rfl (lv_at hl 0 rfl) ?_
    refine x_qv (va_runV (As := []) (rest := []) S (c_X7_record l g hJ E h65 h66 hN h67 hs4 hHi) (cwV 0 S.2.2.2.2 gX7_restore_X7_record rfl rfl rfl (by decide +kernel) ⟨Nat.le_of_ble_eq_true rfl, Nat.le_of_ble_eq_true rfl⟩) (x_preV hK hP h65 (by decide) rfl) rfl rfl hl.1 rfl (lv_room (Nat.le_of_ble_eq_true rfl)) dX7_restore_11 ⟨Nat.le_of_ble_eq_true rfl, Nat.le_of_ble_eq_true rfl⟩) hS (fun E1 H locs hq11 hP hS => ?_)
    obtain ⟨hfr11, h65, fh2, h67, hHi2⟩ := hq11
    have h66 := (hfr11 66 (by decide) (by decide)).trans h66
    have h68 := (hfr11 68 (by decide) (by decide)).trans h68
    have h69 := (hfr11 69 (by decide) (by decide)).trans h69
    have h70 := (hfr11 70 (by decide) (by decide)).trans h70
    have h71 := (hfr11 71 (by decide) (by decide)).trans h71
    have h72 := (hfr11 72 (by decide) (by decide)).trans h72
    have h73 := (hfr11 73 (by decide) (by decide)).trans h73
    have h74 := (hfr11 74 (by decide) (by decide)).trans h74
    have hfm : ∀ j, j < 65 → E1 j = E j := fun j hj => (hfr11 j (by omega) (by omega)).trans (hfm j hj)
    refine lv_iconst (v := 0) S.1 S.2.1 dX7_restore_14 (by decide) ?_
    refine lv_istore_n (lv' := [(1, .int 0), (0, .ref (xad g 65))]) S.1 S.2.1 dX7_restore_15 rfl hl (by decide) rfl (fun ls hl => ?_)
    have loop16 : ∀ (d : Nat) (q : Nat) (f9 : Nat → Int32) (EL : Nat → va_E) (H : Heap) (locs : List Loc), (hq : q ≤ 71) → (hC : ∀ x, x < q → f9 x = fs x) → (71 - q) < d → (h65 : EL 65 = mO g (nI (rcS (zh z))) (bI (zf z)) hi od bs bb bf (nI (ztl z)) at9 nu) → (h66 : EL 66 = .inl (xI g, 71, .inl f9)) → (h67 : EL 67 = .inl (xI g, 284, .inl fh2)) → (h68 : EL 68 = .inl (xI g, 71, .inl fs)) → (h69 : EL 69 = .inl (xI g, 3, .inl fa)) → (h70 : EL 70 = .inl (xI g, 11, .inl fr)) → (h71 : EL 71 = .inl (xI g, 10, .inl fl)) → (h72 : EL 72 = .inl (xI g, 10, .inl fo)) → (h73 : EL 73 = .inl (xC g, 60, .inl (ztf z))) → (h74 : EL 74 = .inl (xI g, 6, .inl fd)) → (hfm : ∀ j, j < 65 → EL j = E j) → xP g EL H → va_S (xA (xad g)) s.heap H locs → ∀ ls : Array Slot, lv_has ls 2 [(1, .int (nI q)), (0, .ref (xad g 65))] → W pz l ez ({ frames := 1, cells := 0, slots := 0, locals := 21 }) s m ([.ref (xad g 65)] : List Value).toArray below meth cz H locs 0 0 (MQ below (xQi g (fun r E1 => ∃ z1, sp_restore z r z1 ∧ sM g E1 z1 ∧ ∀ j, j < 65 → E1 j = E j)) ([.ref (xad g 65)] : List Value).toArray s 0 0 (xA (xad g))) (F0 m 16 ls []) := by
      intro d
      induction d with
      | zero => intro q f9 EL H locs hq hC hd; exact absurd hd (Nat.not_lt_zero _)
      | succ d ih16 =>
        intro q f9 EL H locs hq hC hd h65 h66 h67 h68 h69 h70 h71 h72 h73 h74 hfm hP hS ls hl
        refine lv_iload_n S.1 S.2.1 dX7_restore_16 rfl (lv_at hl 0 rfl) ?_
        refine lv_bipush (v := 71) S.1 S.2.1 dX7_restore_17 (by decide) ?_
        refine lv_icmp_ge (tgt := 40) S.1 S.2.1 dX7_restore_19 (by decide) (fun c19 => ?_) (fun c19 => ?_)
        · skip
          have hN9 : nH f9 0 (zsn z) (zsM z) := hSf.move (fun x hx => by rw [Nat.zero_add]; exact hC x (by have := (nI_leI (a := 71) (b := q) (by omega) (by omega)).mp c19; omega))
          refine lv_aload_n S.1 S.2.1 dX7_restore_40 rfl (lv_at hl 1 rfl) ?_
          refine x_get S hK hP dX7_restore_41 h65 (by decide) (RX7, TX7, 19) rfl hin7 0 (by decide) fl7 rfl ?_
          refine lv_bipush (v := 70) S.1 S.2.1 dX7_restore_44 (by decide) ?_
          refine x_iald S hK hP dX7_restore_46 h66 (by decide) (j := 70) rfl (by omega) (by decide) ?_
          exact x_iret S hr hlocks hP hS dX7_restore_47 (⟨_, Or.inr ⟨hft, hN9.n0, rfl⟩, sM.mk (z := wP (wR z) (zsn z) (zsM z)) h65 rfl rfl rfl h66 h67 h68 h69 h70 h71 h72 h73 h74 hN9 hHi2 hSl, hfm⟩)
        · skip
          have hq71 : q < 71 := Nat.not_le.mp (fun h => c19 ((nI_leI (a := 71) (by omega) (by omega)).mpr h))
          refine lv_aload_n S.1 S.2.1 dX7_restore_22 rfl (lv_at hl 1 rfl) ?_
          refine x_get S hK hP dX7_restore_23 h65 (by decide) (RX7, TX7, 19) rfl hin7 0 (by decide) fl7 rfl ?_
          refine lv_iload_n S.1 S.2.1 dX7_restore_26 rfl (lv_at hl 0 rfl) ?_
          refine lv_aload_n S.1 S.2.1 dX7_restore_27 rfl (lv_at hl 1 rfl) ?_
          refine x_get S hK hP dX7_restore_28 h65 (by decide) (RX7, TX7, 19) rfl hin7 3 (by decide) fl16 rfl ?_
          refine lv_iload_n S.1 S.2.1 dX7_restore_31 rfl (lv_at hl 0 rfl) ?_
          refine x_iald S hK hP dX7_restore_32 h68 (by decide) (j := q) rfl (by omega) (by decide) ?_
          refine x_iast S hK hJ hP hS dX7_restore_33 h66 (by decide) (j := q) rfl (by omega) (by decide) (fun H locs E1_1 hu hP hS => ?_)
          have h65 : E1_1 65 = mO g (nI (rcS (zh z))) (bI (zf z)) hi od bs bb bf (nI (ztl z)) at9 nu := (hu.2 _ (by omega)).trans h65
          have h66 : E1_1 66 = .inl (xI g, 71, .inl (upd f9 q (fs q))) := hu.1
          have h67 : E1_1 67 = .inl (xI g, 284, .inl fh2) := (hu.2 _ (by omega)).trans h67
          have h68 : E1_1 68 = .inl (xI g, 71, .inl fs) := (hu.2 _ (by omega)).trans h68
          have h69 : E1_1 69 = .inl (xI g, 3, .inl fa) := (hu.2 _ (by omega)).trans h69
          have h70 : E1_1 70 = .inl (xI g, 11, .inl fr) := (hu.2 _ (by omega)).trans h70
          have h71 : E1_1 71 = .inl (xI g, 10, .inl fl) := (hu.2 _ (by omega)).trans h71
          have h72 : E1_1 72 = .inl (xI g, 10, .inl fo) := (hu.2 _ (by omega)).trans h72
          have h73 : E1_1 73 = .inl (xC g, 60, .inl (ztf z)) := (hu.2 _ (by omega)).trans h73
          have h74 : E1_1 74 = .inl (xI g, 6, .inl fd) := (hu.2 _ (by omega)).trans h74
          have hfm : ∀ j, j < 65 → E1_1 j = E j := fun j hj => (hu.2 j (by omega)).trans (hfm j hj)
          refine lv_iinc (v := nI (q + 1)) (lv' := [(1, .int (nI (q + 1))), (0, .ref (xad g 65))]) S.1 S.2.1 dX7_restore_34 hl (k := 0) rfl (show nI q + Int32.ofInt 1 = _ from nI_1 _) (by decide) rfl (fun ls hl => ?_)
          refine lv_goto (tgt := 16) S.1 S.2.1 dX7_restore_37 (by decide) ?_
          exact ih16 (q + 1) _ _ _ _ (by omega) (fun x hx => by rcases Nat.lt_or_ge x q with e | e; rw [pk_un (by omega)]; exact hC x e; rw [show x = q by omega, pk_us]) (by omega) h65 h66 h67 h68 h69 h70 h71 h72 h73 h74 hfm hP hS ls (lv_sub hl [0, 1] rfl)
    exact loop16 _ 0 f _ _ _ (Nat.zero_le _) (fun x hx => absurd hx (Nat.not_lt_zero _)) (Nat.lt_succ_self _) h65 h66 h67 h68 h69 h70 h71 h72 h73 h74 hfm hP hS ls (lv_sub hl [0, 1] rfl)
  · skip
    refine lv_bipush (v := (-5)) S.1 S.2.1 dX7_restore_7 (by decide) ?_
    exact x_iret S hr hlocks hP hS dX7_restore_9 (⟨z, Or.inl ⟨bI_0.mp c4, rfl, rfl⟩, sM.mk h65 rfl rfl rfl h66 h67 h68 h69 h70 h71 h72 h73 h74 hN hHi hSl, hfm⟩)
theorem plc_is {n q : Nat} {M : Nat → Nat → Int32} {t : Int32} (hv : vld n M) (hq : q ≤ n) (hno : ¬ ∃ k, k < n ∧ M 0 k = t) (hgt : ∀ k, q ≤ k → k < n → t < M 0 k) (hex : q = 0 ∨ ∃ q0, q = q0 + 1 ∧ M 0 q0 ≤ t) : plc M t n 0 = q := by
  have hle := plc_le M t n 0
  rcases Nat.lt_trichotomy (plc M t n 0) q with c | c | c
  · exfalso
    have h1 := plc_ge (M := M) (x := t) n 0 (by omega)
    rcases hex with h | ⟨q0, rfl, h⟩
    · omega
    · rw [I_lt] at h1
      rw [I_le] at h
      by_cases e : plc M t n 0 = q0
      · rw [e] at h1
        exact hno ⟨q0, by omega, I_eq.mpr (by omega)⟩
      · have := hv.2 (plc M t n 0) q0 (by omega) (by omega)
        omega
  · exact c
  · exfalso
    have h1 := plc_lt n 0 q (Nat.zero_le _) c
    have h2 := hgt q (Nat.le_refl _) (by omega)
    rw [I_lt] at h1 h2
    omega
theorem nH.ins {f9 : Nat → Int32} {M : Nat → Nat → Int32} {n q : Nat} {t x y e a o : Int32} (hn : n < 10) (hq : q ≤ n) (hlo : ∀ k w, k < q → w < 7 → f9 (7 * k + w) = M w k) (hup : ∀ k w, q < k → k ≤ n → w < 7 → f9 (7 * k + w) = M w (k - 1)) : nH (upd (upd (upd (upd (upd (upd (upd (upd f9 (7 * q) t) (7 * q + 1) x) (7 * q + 2) y) (7 * q + 3) e) (7 * q + 4) a) (7 * q + 5) o) (7 * q + 6) 0) 70 (nI (n + 1))) 0 (n + 1) (insM M q (tld t x y e a o)) := by
  refine ⟨by omega, pk_us, fun k w hk hw => ?_⟩
  rw [show 0 + 7 * k + w = 7 * k + w by omega]
  unfold insM
  by_cases h : k < q
  · rw [if_pos h, pk_un (by omega), pk_un (by omega), pk_un (by omega), pk_un (by omega), pk_un (by omega), pk_un (by omega), pk_un (by omega), pk_un (by omega)]
    exact hlo k w h hw
  · rw [if_neg h]
    by_cases h2 : k = q
    · subst h2
      rw [if_pos rfl, pk_un (by omega)]
      have : w = 0 ∨ w = 1 ∨ w = 2 ∨ w = 3 ∨ w = 4 ∨ w = 5 ∨ w = 6 := by omega
      rcases this with rfl | rfl | rfl | rfl | rfl | rfl | rfl
      · rw [pk_un (by omega), pk_un (by omega), pk_un (by omega), pk_un (by omega), pk_un (by omega), pk_un (by omega)]
        exact pk_us
      · rw [pk_un (by omega), pk_un (by omega), pk_un (by omega), pk_un (by omega), pk_un (by omega)]
        exact pk_us
      · rw [pk_un (by omega), pk_un (by omega), pk_un (by omega), pk_un (by omega)]
        exact pk_us
      · rw [pk_un (by omega), pk_un (by omega), pk_un (by omega)]
        exact pk_us
      · rw [pk_un (by omega), pk_un (by omega)]
        exact pk_us
      · rw [pk_un (by omega)]
        exact pk_us
      · exact pk_us
    · rw [if_neg h2, pk_un (by omega), pk_un (by omega), pk_un (by omega), pk_un (by omega), pk_un (by omega), pk_un (by omega), pk_un (by omega), pk_un (by omega)]
      exact hup k w (by omega) (by omega) hw
set_option maxHeartbeats 4000000 in
set_option maxRecDepth 100000 in
theorem c_X7_comes (l : Launch) (g : xG) (hJ : xJ (xad g)) (E : Nat → va_E) {z : xS} (hz : sM g E z) (hv : vS z) (t x y e5 a o5 : Int32) : Met l yX7_comes wsX7_comes ({ frames := 2, cells := 0, slots := 0, locals := 45 }) (xPc g [.ref (xad g 65), .int t, .int x, .int y, .int e5, .int a, .int o5] E) (xQi g (fun r E1 => ∃ z1, sp_comes z (tld t x y e5 a o5) r z1 ∧ sM g E1 z1 ∧ ∀ j, j < 65 → E1 j = E j)) 0 0 (xA (xad g)) := by
  refine x_met (ws' := _) (by decide) rfl (Nat.le_of_ble_eq_true rfl) ?_
  intro pz ez s m below meth cz ls S hr hlocks hP hK hl
  have hl : lv_has ls 9 [(0, .ref (xad g 65)), (1, .int t), (2, .int x), (3, .int y), (4, .int e5), (5, .int a), (6, .int o5)] := hl
  have hS : va_S (xA (xad g)) s.heap s.heap [] := va_S.rf
  have hin7 : ∀ w ∈ u_ws RX7 TX7 19, w ∈ wsX7_comes := by decide +kernel
  have fl7 : Cond.fieldLink RX7 7 "DiscArcsModel" "now" "[I" ∈ wsX7_comes := by decide +kernel
  obtain ⟨hi, od, bs, bb, bf, at9, nu, f, fh, fs, fa, fr, fl, fo, fd, h65, h66, h67, h68, h69, h70, h71, h72, h73, h74, hN, hHi, hSl⟩ := id hz
  have hn := hN.1
  have hn0 := hN.n0
  have hv1 := hv.1.2
  have hfm : ∀ j, j < 65 → E j = E j := fun _ _ => rfl
  have hs4 := hv.2.1.1
  have htl := hv.2.2.2
  refine lv_aload_n S.1 S.2.1 dX7_comes_0 rfl (lv_at hl 0 rfl) ?_
  refine lv_iload_n S.1 S.2.1 dX7_comes_1 rfl (lv_at hl 1 rfl) ?_
  refine x_si (va_runV (As := [.int t]) (rest := []) S (c_X7_isThere l g E h65 h66 hN t) (cwV 1 S.2.2.2.2 gX7_comes_X7_isThere rfl rfl rfl (by decide +kernel) ⟨Nat.le_of_ble_eq_true rfl, Nat.le_of_ble_eq_true rfl⟩) (x_preV hK hP h65 (by decide) rfl) rfl rfl hl.1 rfl (lv_room (Nat.le_of_ble_eq_true rfl)) dX7_comes_2 ⟨Nat.le_of_ble_eq_true rfl, Nat.le_of_ble_eq_true rfl⟩) (fun r2 hr2 => ?_)
  refine lv_if_eq (tgt := 11) S.1 S.2.1 dX7_comes_5 (by decide) (fun c5 => ?_) (fun c5 => ?_)
  · skip
    have hno := hr2.f c5
    refine lv_aload_n S.1 S.2.1 dX7_comes_11 rfl (lv_at hl 0 rfl) ?_
    refine x_get S hK hP dX7_comes_12 h65 (by decide) (RX7, TX7, 19) rfl hin7 0 (by decide) fl7 rfl ?_
    refine lv_bipush (v := 70) S.1 S.2.1 dX7_comes_15 (by decide) ?_
    refine x_iald S hK hP dX7_comes_17 h66 (by decide) (j := 70) rfl (by omega) (by decide) ?_
    refine lv_bipush (v := 10) S.1 S.2.1 dX7_comes_18 (by decide) ?_
    refine lv_icmp_ne (tgt := 26) S.1 S.2.1 dX7_comes_20 (by decide) (fun c20 => ?_) (fun c20 => ?_)
    · skip
      have hn10 : zn z < 10 := by have : ¬ zn z = 10 := fun h => c20 (by rw [hn0, h]; rfl); omega
      refine lv_aload_n S.1 S.2.1 dX7_comes_26 rfl (lv_at hl 0 rfl) ?_
      refine x_qv (va_runV (As := []) (rest := []) S (c_X7_record l g hJ E h65 h66 hN h67 hs4 hHi) (cwV 0 S.2.2.2.2 gX7_comes_X7_record rfl rfl rfl (by decide +kernel) ⟨Nat.le_of_ble_eq_true rfl, Nat.le_of_ble_eq_true rfl⟩) (x_preV hK hP h65 (by decide) rfl) rfl rfl hl.1 rfl (lv_room (Nat.le_of_ble_eq_true rfl)) dX7_comes_27 ⟨Nat.le_of_ble_eq_true rfl, Nat.le_of_ble_eq_true rfl⟩) hS (fun E1 H locs hq27 hP hS => ?_)
      obtain ⟨hfr27, h65, fh2, h67, hHi2⟩ := hq27
      have h66 := (hfr27 66 (by decide) (by decide)).trans h66
      have h68 := (hfr27 68 (by decide) (by decide)).trans h68
      have h69 := (hfr27 69 (by decide) (by decide)).trans h69
      have h70 := (hfr27 70 (by decide) (by decide)).trans h70
      have h71 := (hfr27 71 (by decide) (by decide)).trans h71
      have h72 := (hfr27 72 (by decide) (by decide)).trans h72
      have h73 := (hfr27 73 (by decide) (by decide)).trans h73
      have h74 := (hfr27 74 (by decide) (by decide)).trans h74
      have hfm : ∀ j, j < 65 → E1 j = E j := fun j hj => (hfr27 j (by omega) (by omega)).trans (hfm j hj)
      refine lv_aload_n S.1 S.2.1 dX7_comes_30 rfl (lv_at hl 0 rfl) ?_
      refine x_get S hK hP dX7_comes_31 h65 (by decide) (RX7, TX7, 19) rfl hin7 0 (by decide) fl7 rfl ?_
      refine lv_bipush (v := 70) S.1 S.2.1 dX7_comes_34 (by decide) ?_
      refine x_iald S hK hP dX7_comes_36 h66 (by decide) (j := 70) rfl (by omega) (by decide) ?_
      refine W.eq (g2 := F0 m 37 ls [.int (nI (zn z))]) (by rw [hn0]) ?_
      refine lv_istore (lv' := [(7, .int (nI (zn z))), (0, .ref (xad g 65)), (1, .int t), (2, .int x), (3, .int y), (4, .int e5), (5, .int a), (6, .int o5)]) S.1 S.2.1 dX7_comes_37 hl (by decide) rfl (fun ls hl => ?_)
      have loop39 : ∀ (d : Nat) (q : Nat) (f9 : Nat → Int32) (EL : Nat → va_E) (H : Heap) (locs : List Loc), (hq : q ≤ zn z) → (hlo : ∀ k w, k < q → w < 7 → f9 (7 * k + w) = zM z w k) → (hup : ∀ k w, q < k → k ≤ zn z → w < 7 → f9 (7 * k + w) = zM z w (k - 1)) → (h970 : f9 70 = nI (zn z)) → (hgt : ∀ k, q ≤ k → k < zn z → t < zM z 0 k) → (q) < d → (h65 : EL 65 = mO g (nI (rcS (zh z))) (bI (zf z)) hi od bs bb bf (nI (ztl z)) at9 nu) → (h66 : EL 66 = .inl (xI g, 71, .inl f9)) → (h67 : EL 67 = .inl (xI g, 284, .inl fh2)) → (h68 : EL 68 = .inl (xI g, 71, .inl fs)) → (h69 : EL 69 = .inl (xI g, 3, .inl fa)) → (h70 : EL 70 = .inl (xI g, 11, .inl fr)) → (h71 : EL 71 = .inl (xI g, 10, .inl fl)) → (h72 : EL 72 = .inl (xI g, 10, .inl fo)) → (h73 : EL 73 = .inl (xC g, 60, .inl (ztf z))) → (h74 : EL 74 = .inl (xI g, 6, .inl fd)) → (hfm : ∀ j, j < 65 → EL j = E j) → xP g EL H → va_S (xA (xad g)) s.heap H locs → ∀ ls : Array Slot, lv_has ls 9 [(7, .int (nI q)), (0, .ref (xad g 65)), (1, .int t), (2, .int x), (3, .int y), (4, .int e5), (5, .int a), (6, .int o5)] → W pz l ez ({ frames := 2, cells := 0, slots := 0, locals := 45 }) s m ([.ref (xad g 65), .int t, .int x, .int y, .int e5, .int a, .int o5] : List Value).toArray below meth cz H locs 0 0 (MQ below (xQi g (fun r E1 => ∃ z1, sp_comes z (tld t x y e5 a o5) r z1 ∧ sM g E1 z1 ∧ ∀ j, j < 65 → E1 j = E j)) ([.ref (xad g 65), .int t, .int x, .int y, .int e5, .int a, .int o5] : List Value).toArray s 0 0 (xA (xad g))) (F0 m 39 ls []) := by
        intro d
        induction d with
        | zero => intro q f9 EL H locs hq hlo hup h970 hgt hd; exact absurd hd (Nat.not_lt_zero _)
        | succ d ih39 =>
          intro q f9 EL H locs hq hlo hup h970 hgt hd h65 h66 h67 h68 h69 h70 h71 h72 h73 h74 hfm hP hS ls hl
          refine lv_iload S.1 S.2.1 dX7_comes_39 (lv_at hl 0 rfl) ?_
          refine lv_if_le (tgt := 102) S.1 S.2.1 dX7_comes_41 (by decide) (fun c41 => ?_) (fun c41 => ?_)
          · skip
            have hqp : plc (zM z) ((tld t x y e5 a o5) 0) (zn z) 0 = q := plc_is hv1 hq hno hgt (Or.inl (by rcases Nat.eq_zero_or_pos q with h | h; exact h; exact absurd c41 (nI_nle h (by omega))))
            refine lv_bipush (v := 7) S.1 S.2.1 dX7_comes_102 (by decide) ?_
            refine lv_iload S.1 S.2.1 dX7_comes_104 (lv_at hl 0 rfl) ?_
            refine lv_imul S.1 S.2.1 dX7_comes_106 ?_
            refine W.eq (g2 := F0 m 107 ls [.int (nI (7 * q))]) (by rw [show (7 : Int32) = nI 7 from rfl, pk_mul]) ?_
            refine lv_istore (lv' := [(8, .int (nI (7 * q))), (7, .int (nI q)), (0, .ref (xad g 65)), (1, .int t), (2, .int x), (3, .int y), (4, .int e5), (5, .int a), (6, .int o5)]) S.1 S.2.1 dX7_comes_107 hl (by decide) rfl (fun ls hl => ?_)
            refine lv_aload_n S.1 S.2.1 dX7_comes_109 rfl (lv_at hl 2 rfl) ?_
            refine x_get S hK hP dX7_comes_110 h65 (by decide) (RX7, TX7, 19) rfl hin7 0 (by decide) fl7 rfl ?_
            refine lv_iload S.1 S.2.1 dX7_comes_113 (lv_at hl 0 rfl) ?_
            refine lv_iload_n S.1 S.2.1 dX7_comes_115 rfl (lv_at hl 3 rfl) ?_
            refine x_iast S hK hJ hP hS dX7_comes_116 h66 (by decide) (j := (7 * q)) rfl (by omega) (by decide) (fun H locs E1_1 hu hP hS => ?_)
            have h65 : E1_1 65 = mO g (nI (rcS (zh z))) (bI (zf z)) hi od bs bb bf (nI (ztl z)) at9 nu := (hu.2 _ (by omega)).trans h65
            have h66 : E1_1 66 = .inl (xI g, 71, .inl (upd f9 (7 * q) t)) := hu.1
            have h67 : E1_1 67 = .inl (xI g, 284, .inl fh2) := (hu.2 _ (by omega)).trans h67
            have h68 : E1_1 68 = .inl (xI g, 71, .inl fs) := (hu.2 _ (by omega)).trans h68
            have h69 : E1_1 69 = .inl (xI g, 3, .inl fa) := (hu.2 _ (by omega)).trans h69
            have h70 : E1_1 70 = .inl (xI g, 11, .inl fr) := (hu.2 _ (by omega)).trans h70
            have h71 : E1_1 71 = .inl (xI g, 10, .inl fl) := (hu.2 _ (by omega)).trans h71
            have h72 : E1_1 72 = .inl (xI g, 10, .inl fo) := (hu.2 _ (by omega)).trans h72
            have h73 : E1_1 73 = .inl (xC g, 60, .inl (ztf z)) := (hu.2 _ (by omega)).trans h73
            have h74 : E1_1 74 = .inl (xI g, 6, .inl fd) := (hu.2 _ (by omega)).trans h74
            have hfm : ∀ j, j < 65 → E1_1 j = E j := fun j hj => (hu.2 j (by omega)).trans (hfm j hj)
            refine lv_aload_n S.1 S.2.1 dX7_comes_117 rfl (lv_at hl 2 rfl) ?_
            refine x_get S hK hP dX7_comes_118 h65 (by decide) (RX7, TX7, 19) rfl hin7 0 (by decide) fl7 rfl ?_
            refine lv_iload S.1 S.2.1 dX7_comes_121 (lv_at hl 0 rfl) ?_
            refine lv_iconst (v := 1) S.1 S.2.1 dX7_comes_123 (by decide) ?_
            refine lv_iadd S.1 S.2.1 dX7_comes_124 ?_
            refine lv_iload_n S.1 S.2.1 dX7_comes_125 rfl (lv_at hl 4 rfl) ?_
            refine x_iast S hK hJ hP hS dX7_comes_126 h66 (by decide) (j := (7 * q + 1)) (nI_add (7 * q) 1) (by omega) (by decide) (fun H locs E1_2 hu hP hS => ?_)
            have h65 : E1_2 65 = mO g (nI (rcS (zh z))) (bI (zf z)) hi od bs bb bf (nI (ztl z)) at9 nu := (hu.2 _ (by omega)).trans h65
            have h66 : E1_2 66 = .inl (xI g, 71, .inl (upd (upd f9 (7 * q) t) (7 * q + 1) x)) := hu.1
            have h67 : E1_2 67 = .inl (xI g, 284, .inl fh2) := (hu.2 _ (by omega)).trans h67
            have h68 : E1_2 68 = .inl (xI g, 71, .inl fs) := (hu.2 _ (by omega)).trans h68
            have h69 : E1_2 69 = .inl (xI g, 3, .inl fa) := (hu.2 _ (by omega)).trans h69
            have h70 : E1_2 70 = .inl (xI g, 11, .inl fr) := (hu.2 _ (by omega)).trans h70
            have h71 : E1_2 71 = .inl (xI g, 10, .inl fl) := (hu.2 _ (by omega)).trans h71
            have h72 : E1_2 72 = .inl (xI g, 10, .inl fo) := (hu.2 _ (by omega)).trans h72
            have h73 : E1_2 73 = .inl (xC g, 60, .inl (ztf z)) := (hu.2 _ (by omega)).trans h73
            have h74 : E1_2 74 = .inl (xI g, 6, .inl fd) := (hu.2 _ (by omega)).trans h74
            have hfm : ∀ j, j < 65 → E1_2 j = E j := fun j hj => (hu.2 j (by omega)).trans (hfm j hj)
            refine lv_aload_n S.1 S.2.1 dX7_comes_127 rfl (lv_at hl 2 rfl) ?_
            refine x_get S hK hP dX7_comes_128 h65 (by decide) (RX7, TX7, 19) rfl hin7 0 (by decide) fl7 rfl ?_
            refine lv_iload S.1 S.2.1 dX7_comes_131 (lv_at hl 0 rfl) ?_
            refine lv_iconst (v := 2) S.1 S.2.1 dX7_comes_133 (by decide) ?_
            refine lv_iadd S.1 S.2.1 dX7_comes_134 ?_
            refine lv_iload_n S.1 S.2.1 dX7_comes_135 rfl (lv_at hl 5 rfl) ?_
            refine x_iast S hK hJ hP hS dX7_comes_136 h66 (by decide) (j := (7 * q + 2)) (nI_add (7 * q) 2) (by omega) (by decide) (fun H locs E1_3 hu hP hS => ?_)
            have h65 : E1_3 65 = mO g (nI (rcS (zh z))) (bI (zf z)) hi od bs bb bf (nI (ztl z)) at9 nu := (hu.2 _ (by omega)).trans h65
            have h66 : E1_3 66 = .inl (xI g, 71, .inl (upd (upd (upd f9 (7 * q) t) (7 * q + 1) x) (7 * q + 2) y)) := hu.1
            have h67 : E1_3 67 = .inl (xI g, 284, .inl fh2) := (hu.2 _ (by omega)).trans h67
            have h68 : E1_3 68 = .inl (xI g, 71, .inl fs) := (hu.2 _ (by omega)).trans h68
            have h69 : E1_3 69 = .inl (xI g, 3, .inl fa) := (hu.2 _ (by omega)).trans h69
            have h70 : E1_3 70 = .inl (xI g, 11, .inl fr) := (hu.2 _ (by omega)).trans h70
            have h71 : E1_3 71 = .inl (xI g, 10, .inl fl) := (hu.2 _ (by omega)).trans h71
            have h72 : E1_3 72 = .inl (xI g, 10, .inl fo) := (hu.2 _ (by omega)).trans h72
            have h73 : E1_3 73 = .inl (xC g, 60, .inl (ztf z)) := (hu.2 _ (by omega)).trans h73
            have h74 : E1_3 74 = .inl (xI g, 6, .inl fd) := (hu.2 _ (by omega)).trans h74
            have hfm : ∀ j, j < 65 → E1_3 j = E j := fun j hj => (hu.2 j (by omega)).trans (hfm j hj)
            refine lv_aload_n S.1 S.2.1 dX7_comes_137 rfl (lv_at hl 2 rfl) ?_
            refine x_get S hK hP dX7_comes_138 h65 (by decide) (RX7, TX7, 19) rfl hin7 0 (by decide) fl7 rfl ?_
            refine lv_iload S.1 S.2.1 dX7_comes_141 (lv_at hl 0 rfl) ?_
            refine lv_iconst (v := 3) S.1 S.2.1 dX7_comes_143 (by decide) ?_
            refine lv_iadd S.1 S.2.1 dX7_comes_144 ?_
            refine lv_iload S.1 S.2.1 dX7_comes_145 (lv_at hl 6 rfl) ?_
            refine x_iast S hK hJ hP hS dX7_comes_147 h66 (by decide) (j := (7 * q + 3)) (nI_add (7 * q) 3) (by omega) (by decide) (fun H locs E1_4 hu hP hS => ?_)
            have h65 : E1_4 65 = mO g (nI (rcS (zh z))) (bI (zf z)) hi od bs bb bf (nI (ztl z)) at9 nu := (hu.2 _ (by omega)).trans h65
            have h66 : E1_4 66 = .inl (xI g, 71, .inl (upd (upd (upd (upd f9 (7 * q) t) (7 * q + 1) x) (7 * q + 2) y) (7 * q + 3) e5)) := hu.1
            have h67 : E1_4 67 = .inl (xI g, 284, .inl fh2) := (hu.2 _ (by omega)).trans h67
            have h68 : E1_4 68 = .inl (xI g, 71, .inl fs) := (hu.2 _ (by omega)).trans h68
            have h69 : E1_4 69 = .inl (xI g, 3, .inl fa) := (hu.2 _ (by omega)).trans h69
            have h70 : E1_4 70 = .inl (xI g, 11, .inl fr) := (hu.2 _ (by omega)).trans h70
            have h71 : E1_4 71 = .inl (xI g, 10, .inl fl) := (hu.2 _ (by omega)).trans h71
            have h72 : E1_4 72 = .inl (xI g, 10, .inl fo) := (hu.2 _ (by omega)).trans h72
            have h73 : E1_4 73 = .inl (xC g, 60, .inl (ztf z)) := (hu.2 _ (by omega)).trans h73
            have h74 : E1_4 74 = .inl (xI g, 6, .inl fd) := (hu.2 _ (by omega)).trans h74
            have hfm : ∀ j, j < 65 → E1_4 j = E j := fun j hj => (hu.2 j (by omega)).trans (hfm j hj)
            refine lv_aload_n S.1 S.2.1 dX7_comes_148 rfl (lv_at hl 2 rfl) ?_
            refine x_get S hK hP dX7_comes_149 h65 (by decide) (RX7, TX7, 19) rfl hin7 0 (by decide) fl7 rfl ?_
            refine lv_iload S.1 S.2.1 dX7_comes_152 (lv_at hl 0 rfl) ?_
            refine lv_iconst (v := 4) S.1 S.2.1 dX7_comes_154 (by decide) ?_
            refine lv_iadd S.1 S.2.1 dX7_comes_155 ?_
            refine lv_iload S.1 S.2.1 dX7_comes_156 (lv_at hl 7 rfl) ?_
            refine x_iast S hK hJ hP hS dX7_comes_158 h66 (by decide) (j := (7 * q + 4)) (nI_add (7 * q) 4) (by omega) (by decide) (fun H locs E1_5 hu hP hS => ?_)
            have h65 : E1_5 65 = mO g (nI (rcS (zh z))) (bI (zf z)) hi od bs bb bf (nI (ztl z)) at9 nu := (hu.2 _ (by omega)).trans h65
            have h66 : E1_5 66 = .inl (xI g, 71, .inl (upd (upd (upd (upd (upd f9 (7 * q) t) (7 * q + 1) x) (7 * q + 2) y) (7 * q + 3) e5) (7 * q + 4) a)) := hu.1
            have h67 : E1_5 67 = .inl (xI g, 284, .inl fh2) := (hu.2 _ (by omega)).trans h67
            have h68 : E1_5 68 = .inl (xI g, 71, .inl fs) := (hu.2 _ (by omega)).trans h68
            have h69 : E1_5 69 = .inl (xI g, 3, .inl fa) := (hu.2 _ (by omega)).trans h69
            have h70 : E1_5 70 = .inl (xI g, 11, .inl fr) := (hu.2 _ (by omega)).trans h70
            have h71 : E1_5 71 = .inl (xI g, 10, .inl fl) := (hu.2 _ (by omega)).trans h71
            have h72 : E1_5 72 = .inl (xI g, 10, .inl fo) := (hu.2 _ (by omega)).trans h72
            have h73 : E1_5 73 = .inl (xC g, 60, .inl (ztf z)) := (hu.2 _ (by omega)).trans h73
            have h74 : E1_5 74 = .inl (xI g, 6, .inl fd) := (hu.2 _ (by omega)).trans h74
            have hfm : ∀ j, j < 65 → E1_5 j = E j := fun j hj => (hu.2 j (by omega)).trans (hfm j hj)
            refine lv_aload_n S.1 S.2.1 dX7_comes_159 rfl (lv_at hl 2 rfl) ?_
            refine x_get S hK hP dX7_comes_160 h65 (by decide) (RX7, TX7, 19) rfl hin7 0 (by decide) fl7 rfl ?_
            refine lv_iload S.1 S.2.1 dX7_comes_163 (lv_at hl 0 rfl) ?_
            refine lv_iconst (v := 5) S.1 S.2.1 dX7_comes_165 (by decide) ?_
            refine lv_iadd S.1 S.2.1 dX7_comes_166 ?_
            refine lv_iload S.1 S.2.1 dX7_comes_167 (lv_at hl 8 rfl) ?_
            refine x_iast S hK hJ hP hS dX7_comes_169 h66 (by decide) (j := (7 * q + 5)) (nI_add (7 * q) 5) (by omega) (by decide) (fun H locs E1_6 hu hP hS => ?_)
            have h65 : E1_6 65 = mO g (nI (rcS (zh z))) (bI (zf z)) hi od bs bb bf (nI (ztl z)) at9 nu := (hu.2 _ (by omega)).trans h65
            have h66 : E1_6 66 = .inl (xI g, 71, .inl (upd (upd (upd (upd (upd (upd f9 (7 * q) t) (7 * q + 1) x) (7 * q + 2) y) (7 * q + 3) e5) (7 * q + 4) a) (7 * q + 5) o5)) := hu.1
            have h67 : E1_6 67 = .inl (xI g, 284, .inl fh2) := (hu.2 _ (by omega)).trans h67
            have h68 : E1_6 68 = .inl (xI g, 71, .inl fs) := (hu.2 _ (by omega)).trans h68
            have h69 : E1_6 69 = .inl (xI g, 3, .inl fa) := (hu.2 _ (by omega)).trans h69
            have h70 : E1_6 70 = .inl (xI g, 11, .inl fr) := (hu.2 _ (by omega)).trans h70
            have h71 : E1_6 71 = .inl (xI g, 10, .inl fl) := (hu.2 _ (by omega)).trans h71
            have h72 : E1_6 72 = .inl (xI g, 10, .inl fo) := (hu.2 _ (by omega)).trans h72
            have h73 : E1_6 73 = .inl (xC g, 60, .inl (ztf z)) := (hu.2 _ (by omega)).trans h73
            have h74 : E1_6 74 = .inl (xI g, 6, .inl fd) := (hu.2 _ (by omega)).trans h74
            have hfm : ∀ j, j < 65 → E1_6 j = E j := fun j hj => (hu.2 j (by omega)).trans (hfm j hj)
            refine lv_aload_n S.1 S.2.1 dX7_comes_170 rfl (lv_at hl 2 rfl) ?_
            refine x_get S hK hP dX7_comes_171 h65 (by decide) (RX7, TX7, 19) rfl hin7 0 (by decide) fl7 rfl ?_
            refine lv_iload S.1 S.2.1 dX7_comes_174 (lv_at hl 0 rfl) ?_
            refine lv_bipush (v := 6) S.1 S.2.1 dX7_comes_176 (by decide) ?_
            refine lv_iadd S.1 S.2.1 dX7_comes_178 ?_
            refine lv_iconst (v := 0) S.1 S.2.1 dX7_comes_179 (by decide) ?_
            refine x_iast S hK hJ hP hS dX7_comes_180 h66 (by decide) (j := (7 * q + 6)) (nI_add (7 * q) 6) (by omega) (by decide) (fun H locs E1_7 hu hP hS => ?_)
            have h65 : E1_7 65 = mO g (nI (rcS (zh z))) (bI (zf z)) hi od bs bb bf (nI (ztl z)) at9 nu := (hu.2 _ (by omega)).trans h65
            have h66 : E1_7 66 = .inl (xI g, 71, .inl (upd (upd (upd (upd (upd (upd (upd f9 (7 * q) t) (7 * q + 1) x) (7 * q + 2) y) (7 * q + 3) e5) (7 * q + 4) a) (7 * q + 5) o5) (7 * q + 6) 0)) := hu.1
            have h67 : E1_7 67 = .inl (xI g, 284, .inl fh2) := (hu.2 _ (by omega)).trans h67
            have h68 : E1_7 68 = .inl (xI g, 71, .inl fs) := (hu.2 _ (by omega)).trans h68
            have h69 : E1_7 69 = .inl (xI g, 3, .inl fa) := (hu.2 _ (by omega)).trans h69
            have h70 : E1_7 70 = .inl (xI g, 11, .inl fr) := (hu.2 _ (by omega)).trans h70
            have h71 : E1_7 71 = .inl (xI g, 10, .inl fl) := (hu.2 _ (by omega)).trans h71
            have h72 : E1_7 72 = .inl (xI g, 10, .inl fo) := (hu.2 _ (by omega)).trans h72
            have h73 : E1_7 73 = .inl (xC g, 60, .inl (ztf z)) := (hu.2 _ (by omega)).trans h73
            have h74 : E1_7 74 = .inl (xI g, 6, .inl fd) := (hu.2 _ (by omega)).trans h74
            have hfm : ∀ j, j < 65 → E1_7 j = E j := fun j hj => (hu.2 j (by omega)).trans (hfm j hj)
            refine lv_aload_n S.1 S.2.1 dX7_comes_181 rfl (lv_at hl 2 rfl) ?_
            refine x_get S hK hP dX7_comes_182 h65 (by decide) (RX7, TX7, 19) rfl hin7 0 (by decide) fl7 rfl ?_
            refine lv_bipush (v := 70) S.1 S.2.1 dX7_comes_185 (by decide) ?_
            refine lv_dup2_11 S.1 S.2.1 dX7_comes_187 rfl rfl ?_
            refine x_iald S hK hP dX7_comes_188 h66 (by decide) (j := 70) rfl (by omega) (by decide) ?_
            refine W.eq (g2 := F0 m 189 ls [.int (nI (zn z)), .int 70, .ref (xad g 66)]) (by rw [pk_un (by omega), pk_un (by omega), pk_un (by omega), pk_un (by omega), pk_un (by omega), pk_un (by omega), pk_un (by omega), h970]) ?_
            refine lv_iconst (v := 1) S.1 S.2.1 dX7_comes_189 (by decide) ?_
            refine lv_iadd S.1 S.2.1 dX7_comes_190 ?_
            refine W.eq (g2 := F0 m 191 ls [.int (nI (zn z + 1)), .int 70, .ref (xad g 66)]) (by rw [nI_1]) ?_
            refine x_iast S hK hJ hP hS dX7_comes_191 h66 (by decide) (j := 70) rfl (by omega) (by decide) (fun H locs E1_8 hu hP hS => ?_)
            have h65 : E1_8 65 = mO g (nI (rcS (zh z))) (bI (zf z)) hi od bs bb bf (nI (ztl z)) at9 nu := (hu.2 _ (by omega)).trans h65
            have h66 : E1_8 66 = .inl (xI g, 71, .inl (upd (upd (upd (upd (upd (upd (upd (upd f9 (7 * q) t) (7 * q + 1) x) (7 * q + 2) y) (7 * q + 3) e5) (7 * q + 4) a) (7 * q + 5) o5) (7 * q + 6) 0) 70 (nI (zn z + 1)))) := hu.1
            have h67 : E1_8 67 = .inl (xI g, 284, .inl fh2) := (hu.2 _ (by omega)).trans h67
            have h68 : E1_8 68 = .inl (xI g, 71, .inl fs) := (hu.2 _ (by omega)).trans h68
            have h69 : E1_8 69 = .inl (xI g, 3, .inl fa) := (hu.2 _ (by omega)).trans h69
            have h70 : E1_8 70 = .inl (xI g, 11, .inl fr) := (hu.2 _ (by omega)).trans h70
            have h71 : E1_8 71 = .inl (xI g, 10, .inl fl) := (hu.2 _ (by omega)).trans h71
            have h72 : E1_8 72 = .inl (xI g, 10, .inl fo) := (hu.2 _ (by omega)).trans h72
            have h73 : E1_8 73 = .inl (xC g, 60, .inl (ztf z)) := (hu.2 _ (by omega)).trans h73
            have h74 : E1_8 74 = .inl (xI g, 6, .inl fd) := (hu.2 _ (by omega)).trans h74
            have hfm : ∀ j, j < 65 → E1_8 j = E j := fun j hj => (hu.2 j (by omega)).trans (hfm j hj)
            refine lv_iload S.1 S.2.1 dX7_comes_192 (lv_at hl 1 rfl) ?_
            exact x_iret S hr hlocks hP hS dX7_comes_194 (⟨wP (wR z) (zn z + 1) (insM (zM z) q (tld t x y e5 a o5)), Or.inr ⟨hno, Or.inr ⟨hn10, by rw [hqp], by rw [hqp]⟩⟩, sM.mk (z := wP (wR z) (zn z + 1) (insM (zM z) q (tld t x y e5 a o5))) h65 rfl rfl rfl h66 h67 h68 h69 h70 h71 h72 h73 h74 (nH.ins hn10 hq hlo hup) hHi2 hSl, hfm⟩)
          · skip
            obtain ⟨q0, rfl⟩ : ∃ z, q = z + 1 := ⟨q - 1, by have : ¬ q = 0 := fun h => c41 (by rw [h]; decide); omega⟩
            refine lv_aload_n S.1 S.2.1 dX7_comes_44 rfl (lv_at hl 1 rfl) ?_
            refine lv_iload S.1 S.2.1 dX7_comes_45 (lv_at hl 0 rfl) ?_
            refine lv_iconst (v := 1) S.1 S.2.1 dX7_comes_47 (by decide) ?_
            refine lv_isub S.1 S.2.1 dX7_comes_48 ?_
            refine W.eq (g2 := F0 m 49 ls [.int (nI q0), .ref (xad g 65)]) (by rw [nI_pred]) ?_
            refine lv_iconst (v := 0) S.1 S.2.1 dX7_comes_49 (by decide) ?_
            refine x_si (va_runV (As := [.int (nI q0), .int 0]) (rest := []) S (c_X7_of l g EL h65 h66 (k := q0) (w := 0) (by omega)) (cwV 2 S.2.2.2.2 gX7_comes_X7_of rfl rfl rfl (by decide +kernel) ⟨Nat.le_of_ble_eq_true rfl, Nat.le_of_ble_eq_true rfl⟩) (x_preV hK hP h65 (by decide) rfl) rfl rfl hl.1 rfl (lv_room (Nat.le_of_ble_eq_true rfl)) dX7_comes_50 ⟨Nat.le_of_ble_eq_true rfl, Nat.le_of_ble_eq_true rfl⟩) (fun r50 hr50 => ?_)
            rw [hlo q0 0 (by omega) (by decide)] at hr50
            subst hr50
            refine lv_iload_n S.1 S.2.1 dX7_comes_53 rfl (lv_at hl 2 rfl) ?_
            refine lv_icmp_le (tgt := 102) S.1 S.2.1 dX7_comes_54 (by decide) (fun c54 => ?_) (fun c54 => ?_)
            · skip
              have hqp : plc (zM z) ((tld t x y e5 a o5) 0) (zn z) 0 = (q0 + 1) := plc_is hv1 hq hno hgt (Or.inr ⟨q0, rfl, c54⟩)
              refine lv_bipush (v := 7) S.1 S.2.1 dX7_comes_102 (by decide) ?_
              refine lv_iload S.1 S.2.1 dX7_comes_104 (lv_at hl 0 rfl) ?_
              refine lv_imul S.1 S.2.1 dX7_comes_106 ?_
              refine W.eq (g2 := F0 m 107 ls [.int (nI (7 * (q0 + 1)))]) (by rw [show (7 : Int32) = nI 7 from rfl, pk_mul]) ?_
              refine lv_istore (lv' := [(8, .int (nI (7 * (q0 + 1)))), (7, .int (nI (q0 + 1))), (0, .ref (xad g 65)), (1, .int t), (2, .int x), (3, .int y), (4, .int e5), (5, .int a), (6, .int o5)]) S.1 S.2.1 dX7_comes_107 hl (by decide) rfl (fun ls hl => ?_)
              refine lv_aload_n S.1 S.2.1 dX7_comes_109 rfl (lv_at hl 2 rfl) ?_
              refine x_get S hK hP dX7_comes_110 h65 (by decide) (RX7, TX7, 19) rfl hin7 0 (by decide) fl7 rfl ?_
              refine lv_iload S.1 S.2.1 dX7_comes_113 (lv_at hl 0 rfl) ?_
              refine lv_iload_n S.1 S.2.1 dX7_comes_115 rfl (lv_at hl 3 rfl) ?_
              refine x_iast S hK hJ hP hS dX7_comes_116 h66 (by decide) (j := (7 * (q0 + 1))) rfl (by omega) (by decide) (fun H locs E1_9 hu hP hS => ?_)
              have h65 : E1_9 65 = mO g (nI (rcS (zh z))) (bI (zf z)) hi od bs bb bf (nI (ztl z)) at9 nu := (hu.2 _ (by omega)).trans h65
              have h66 : E1_9 66 = .inl (xI g, 71, .inl (upd f9 (7 * (q0 + 1)) t)) := hu.1
              have h67 : E1_9 67 = .inl (xI g, 284, .inl fh2) := (hu.2 _ (by omega)).trans h67
              have h68 : E1_9 68 = .inl (xI g, 71, .inl fs) := (hu.2 _ (by omega)).trans h68
              have h69 : E1_9 69 = .inl (xI g, 3, .inl fa) := (hu.2 _ (by omega)).trans h69
              have h70 : E1_9 70 = .inl (xI g, 11, .inl fr) := (hu.2 _ (by omega)).trans h70
              have h71 : E1_9 71 = .inl (xI g, 10, .inl fl) := (hu.2 _ (by omega)).trans h71
              have h72 : E1_9 72 = .inl (xI g, 10, .inl fo) := (hu.2 _ (by omega)).trans h72
              have h73 : E1_9 73 = .inl (xC g, 60, .inl (ztf z)) := (hu.2 _ (by omega)).trans h73
              have h74 : E1_9 74 = .inl (xI g, 6, .inl fd) := (hu.2 _ (by omega)).trans h74
              have hfm : ∀ j, j < 65 → E1_9 j = E j := fun j hj => (hu.2 j (by omega)).trans (hfm j hj)
              refine lv_aload_n S.1 S.2.1 dX7_comes_117 rfl (lv_at hl 2 rfl) ?_
              refine x_get S hK hP dX7_comes_118 h65 (by decide) (RX7, TX7, 19) rfl hin7 0 (by decide) fl7 rfl ?_
              refine lv_iload S.1 S.2.1 dX7_comes_121 (lv_at hl 0 rfl) ?_
              refine lv_iconst (v := 1) S.1 S.2.1 dX7_comes_123 (by decide) ?_
              refine lv_iadd S.1 S.2.1 dX7_comes_124 ?_
              refine lv_iload_n S.1 S.2.1 dX7_comes_125 rfl (lv_at hl 4 rfl) ?_
              refine x_iast S hK hJ hP hS dX7_comes_126 h66 (by decide) (j := (7 * (q0 + 1) + 1)) (nI_add (7 * (q0 + 1)) 1) (by omega) (by decide) (fun H locs E1_10 hu hP hS => ?_)
              have h65 : E1_10 65 = mO g (nI (rcS (zh z))) (bI (zf z)) hi od bs bb bf (nI (ztl z)) at9 nu := (hu.2 _ (by omega)).trans h65
              have h66 : E1_10 66 = .inl (xI g, 71, .inl (upd (upd f9 (7 * (q0 + 1)) t) (7 * (q0 + 1) + 1) x)) := hu.1
              have h67 : E1_10 67 = .inl (xI g, 284, .inl fh2) := (hu.2 _ (by omega)).trans h67
              have h68 : E1_10 68 = .inl (xI g, 71, .inl fs) := (hu.2 _ (by omega)).trans h68
              have h69 : E1_10 69 = .inl (xI g, 3, .inl fa) := (hu.2 _ (by omega)).trans h69
              have h70 : E1_10 70 = .inl (xI g, 11, .inl fr) := (hu.2 _ (by omega)).trans h70
              have h71 : E1_10 71 = .inl (xI g, 10, .inl fl) := (hu.2 _ (by omega)).trans h71
              have h72 : E1_10 72 = .inl (xI g, 10, .inl fo) := (hu.2 _ (by omega)).trans h72
              have h73 : E1_10 73 = .inl (xC g, 60, .inl (ztf z)) := (hu.2 _ (by omega)).trans h73
              have h74 : E1_10 74 = .inl (xI g, 6, .inl fd) := (hu.2 _ (by omega)).trans h74
              have hfm : ∀ j, j < 65 → E1_10 j = E j := fun j hj => (hu.2 j (by omega)).trans (hfm j hj)
              refine lv_aload_n S.1 S.2.1 dX7_comes_127 rfl (lv_at hl 2 rfl) ?_
              refine x_get S hK hP dX7_comes_128 h65 (by decide) (RX7, TX7, 19) rfl hin7 0 (by decide) fl7 rfl ?_
              refine lv_iload S.1 S.2.1 dX7_comes_131 (lv_at hl 0 rfl) ?_
              refine lv_iconst (v := 2) S.1 S.2.1 dX7_comes_133 (by decide) ?_
              refine lv_iadd S.1 S.2.1 dX7_comes_134 ?_
              refine lv_iload_n S.1 S.2.1 dX7_comes_135 rfl (lv_at hl 5 rfl) ?_
              refine x_iast S hK hJ hP hS dX7_comes_136 h66 (by decide) (j := (7 * (q0 + 1) + 2)) (nI_add (7 * (q0 + 1)) 2) (by omega) (by decide) (fun H locs E1_11 hu hP hS => ?_)
              have h65 : E1_11 65 = mO g (nI (rcS (zh z))) (bI (zf z)) hi od bs bb bf (nI (ztl z)) at9 nu := (hu.2 _ (by omega)).trans h65
              have h66 : E1_11 66 = .inl (xI g, 71, .inl (upd (upd (upd f9 (7 * (q0 + 1)) t) (7 * (q0 + 1) + 1) x) (7 * (q0 + 1) + 2) y)) := hu.1
              have h67 : E1_11 67 = .inl (xI g, 284, .inl fh2) := (hu.2 _ (by omega)).trans h67
              have h68 : E1_11 68 = .inl (xI g, 71, .inl fs) := (hu.2 _ (by omega)).trans h68
              have h69 : E1_11 69 = .inl (xI g, 3, .inl fa) := (hu.2 _ (by omega)).trans h69
              have h70 : E1_11 70 = .inl (xI g, 11, .inl fr) := (hu.2 _ (by omega)).trans h70
              have h71 : E1_11 71 = .inl (xI g, 10, .inl fl) := (hu.2 _ (by omega)).trans h71
              have h72 : E1_11 72 = .inl (xI g, 10, .inl fo) := (hu.2 _ (by omega)).trans h72
              have h73 : E1_11 73 = .inl (xC g, 60, .inl (ztf z)) := (hu.2 _ (by omega)).trans h73
              have h74 : E1_11 74 = .inl (xI g, 6, .inl fd) := (hu.2 _ (by omega)).trans h74
              have hfm : ∀ j, j < 65 → E1_11 j = E j := fun j hj => (hu.2 j (by omega)).trans (hfm j hj)
              refine lv_aload_n S.1 S.2.1 dX7_comes_137 rfl (lv_at hl 2 rfl) ?_
              refine x_get S hK hP dX7_comes_138 h65 (by decide) (RX7, TX7, 19) rfl hin7 0 (by decide) fl7 rfl ?_
              refine lv_iload S.1 S.2.1 dX7_comes_141 (lv_at hl 0 rfl) ?_
              refine lv_iconst (v := 3) S.1 S.2.1 dX7_comes_143 (by decide) ?_
              refine lv_iadd S.1 S.2.1 dX7_comes_144 ?_
              refine lv_iload S.1 S.2.1 dX7_comes_145 (lv_at hl 6 rfl) ?_
              refine x_iast S hK hJ hP hS dX7_comes_147 h66 (by decide) (j := (7 * (q0 + 1) + 3)) (nI_add (7 * (q0 + 1)) 3) (by omega) (by decide) (fun H locs E1_12 hu hP hS => ?_)
              have h65 : E1_12 65 = mO g (nI (rcS (zh z))) (bI (zf z)) hi od bs bb bf (nI (ztl z)) at9 nu := (hu.2 _ (by omega)).trans h65
              have h66 : E1_12 66 = .inl (xI g, 71, .inl (upd (upd (upd (upd f9 (7 * (q0 + 1)) t) (7 * (q0 + 1) + 1) x) (7 * (q0 + 1) + 2) y) (7 * (q0 + 1) + 3) e5)) := hu.1
              have h67 : E1_12 67 = .inl (xI g, 284, .inl fh2) := (hu.2 _ (by omega)).trans h67
              have h68 : E1_12 68 = .inl (xI g, 71, .inl fs) := (hu.2 _ (by omega)).trans h68
              have h69 : E1_12 69 = .inl (xI g, 3, .inl fa) := (hu.2 _ (by omega)).trans h69
              have h70 : E1_12 70 = .inl (xI g, 11, .inl fr) := (hu.2 _ (by omega)).trans h70
              have h71 : E1_12 71 = .inl (xI g, 10, .inl fl) := (hu.2 _ (by omega)).trans h71
              have h72 : E1_12 72 = .inl (xI g, 10, .inl fo) := (hu.2 _ (by omega)).trans h72
              have h73 : E1_12 73 = .inl (xC g, 60, .inl (ztf z)) := (hu.2 _ (by omega)).trans h73
              have h74 : E1_12 74 = .inl (xI g, 6, .inl fd) := (hu.2 _ (by omega)).trans h74
              have hfm : ∀ j, j < 65 → E1_12 j = E j := fun j hj => (hu.2 j (by omega)).trans (hfm j hj)
              refine lv_aload_n S.1 S.2.1 dX7_comes_148 rfl (lv_at hl 2 rfl) ?_
              refine x_get S hK hP dX7_comes_149 h65 (by decide) (RX7, TX7, 19) rfl hin7 0 (by decide) fl7 rfl ?_
              refine lv_iload S.1 S.2.1 dX7_comes_152 (lv_at hl 0 rfl) ?_
              refine lv_iconst (v := 4) S.1 S.2.1 dX7_comes_154 (by decide) ?_
              refine lv_iadd S.1 S.2.1 dX7_comes_155 ?_
              refine lv_iload S.1 S.2.1 dX7_comes_156 (lv_at hl 7 rfl) ?_
              refine x_iast S hK hJ hP hS dX7_comes_158 h66 (by decide) (j := (7 * (q0 + 1) + 4)) (nI_add (7 * (q0 + 1)) 4) (by omega) (by decide) (fun H locs E1_13 hu hP hS => ?_)
              have h65 : E1_13 65 = mO g (nI (rcS (zh z))) (bI (zf z)) hi od bs bb bf (nI (ztl z)) at9 nu := (hu.2 _ (by omega)).trans h65
              have h66 : E1_13 66 = .inl (xI g, 71, .inl (upd (upd (upd (upd (upd f9 (7 * (q0 + 1)) t) (7 * (q0 + 1) + 1) x) (7 * (q0 + 1) + 2) y) (7 * (q0 + 1) + 3) e5) (7 * (q0 + 1) + 4) a)) := hu.1
              have h67 : E1_13 67 = .inl (xI g, 284, .inl fh2) := (hu.2 _ (by omega)).trans h67
              have h68 : E1_13 68 = .inl (xI g, 71, .inl fs) := (hu.2 _ (by omega)).trans h68
              have h69 : E1_13 69 = .inl (xI g, 3, .inl fa) := (hu.2 _ (by omega)).trans h69
              have h70 : E1_13 70 = .inl (xI g, 11, .inl fr) := (hu.2 _ (by omega)).trans h70
              have h71 : E1_13 71 = .inl (xI g, 10, .inl fl) := (hu.2 _ (by omega)).trans h71
              have h72 : E1_13 72 = .inl (xI g, 10, .inl fo) := (hu.2 _ (by omega)).trans h72
              have h73 : E1_13 73 = .inl (xC g, 60, .inl (ztf z)) := (hu.2 _ (by omega)).trans h73
              have h74 : E1_13 74 = .inl (xI g, 6, .inl fd) := (hu.2 _ (by omega)).trans h74
              have hfm : ∀ j, j < 65 → E1_13 j = E j := fun j hj => (hu.2 j (by omega)).trans (hfm j hj)
              refine lv_aload_n S.1 S.2.1 dX7_comes_159 rfl (lv_at hl 2 rfl) ?_
              refine x_get S hK hP dX7_comes_160 h65 (by decide) (RX7, TX7, 19) rfl hin7 0 (by decide) fl7 rfl ?_
              refine lv_iload S.1 S.2.1 dX7_comes_163 (lv_at hl 0 rfl) ?_
              refine lv_iconst (v := 5) S.1 S.2.1 dX7_comes_165 (by decide) ?_
              refine lv_iadd S.1 S.2.1 dX7_comes_166 ?_
              refine lv_iload S.1 S.2.1 dX7_comes_167 (lv_at hl 8 rfl) ?_
              refine x_iast S hK hJ hP hS dX7_comes_169 h66 (by decide) (j := (7 * (q0 + 1) + 5)) (nI_add (7 * (q0 + 1)) 5) (by omega) (by decide) (fun H locs E1_14 hu hP hS => ?_)
              have h65 : E1_14 65 = mO g (nI (rcS (zh z))) (bI (zf z)) hi od bs bb bf (nI (ztl z)) at9 nu := (hu.2 _ (by omega)).trans h65
              have h66 : E1_14 66 = .inl (xI g, 71, .inl (upd (upd (upd (upd (upd (upd f9 (7 * (q0 + 1)) t) (7 * (q0 + 1) + 1) x) (7 * (q0 + 1) + 2) y) (7 * (q0 + 1) + 3) e5) (7 * (q0 + 1) + 4) a) (7 * (q0 + 1) + 5) o5)) := hu.1
              have h67 : E1_14 67 = .inl (xI g, 284, .inl fh2) := (hu.2 _ (by omega)).trans h67
              have h68 : E1_14 68 = .inl (xI g, 71, .inl fs) := (hu.2 _ (by omega)).trans h68
              have h69 : E1_14 69 = .inl (xI g, 3, .inl fa) := (hu.2 _ (by omega)).trans h69
              have h70 : E1_14 70 = .inl (xI g, 11, .inl fr) := (hu.2 _ (by omega)).trans h70
              have h71 : E1_14 71 = .inl (xI g, 10, .inl fl) := (hu.2 _ (by omega)).trans h71
              have h72 : E1_14 72 = .inl (xI g, 10, .inl fo) := (hu.2 _ (by omega)).trans h72
              have h73 : E1_14 73 = .inl (xC g, 60, .inl (ztf z)) := (hu.2 _ (by omega)).trans h73
              have h74 : E1_14 74 = .inl (xI g, 6, .inl fd) := (hu.2 _ (by omega)).trans h74
              have hfm : ∀ j, j < 65 → E1_14 j = E j := fun j hj => (hu.2 j (by omega)).trans (hfm j hj)
              refine lv_aload_n S.1 S.2.1 dX7_comes_170 rfl (lv_at hl 2 rfl) ?_
              refine x_get S hK hP dX7_comes_171 h65 (by decide) (RX7, TX7, 19) rfl hin7 0 (by decide) fl7 rfl ?_
              refine lv_iload S.1 S.2.1 dX7_comes_174 (lv_at hl 0 rfl) ?_
              refine lv_bipush (v := 6) S.1 S.2.1 dX7_comes_176 (by decide) ?_
              refine lv_iadd S.1 S.2.1 dX7_comes_178 ?_
              refine lv_iconst (v := 0) S.1 S.2.1 dX7_comes_179 (by decide) ?_
              refine x_iast S hK hJ hP hS dX7_comes_180 h66 (by decide) (j := (7 * (q0 + 1) + 6)) (nI_add (7 * (q0 + 1)) 6) (by omega) (by decide) (fun H locs E1_15 hu hP hS => ?_)
              have h65 : E1_15 65 = mO g (nI (rcS (zh z))) (bI (zf z)) hi od bs bb bf (nI (ztl z)) at9 nu := (hu.2 _ (by omega)).trans h65
              have h66 : E1_15 66 = .inl (xI g, 71, .inl (upd (upd (upd (upd (upd (upd (upd f9 (7 * (q0 + 1)) t) (7 * (q0 + 1) + 1) x) (7 * (q0 + 1) + 2) y) (7 * (q0 + 1) + 3) e5) (7 * (q0 + 1) + 4) a) (7 * (q0 + 1) + 5) o5) (7 * (q0 + 1) + 6) 0)) := hu.1
              have h67 : E1_15 67 = .inl (xI g, 284, .inl fh2) := (hu.2 _ (by omega)).trans h67
              have h68 : E1_15 68 = .inl (xI g, 71, .inl fs) := (hu.2 _ (by omega)).trans h68
              have h69 : E1_15 69 = .inl (xI g, 3, .inl fa) := (hu.2 _ (by omega)).trans h69
              have h70 : E1_15 70 = .inl (xI g, 11, .inl fr) := (hu.2 _ (by omega)).trans h70
              have h71 : E1_15 71 = .inl (xI g, 10, .inl fl) := (hu.2 _ (by omega)).trans h71
              have h72 : E1_15 72 = .inl (xI g, 10, .inl fo) := (hu.2 _ (by omega)).trans h72
              have h73 : E1_15 73 = .inl (xC g, 60, .inl (ztf z)) := (hu.2 _ (by omega)).trans h73
              have h74 : E1_15 74 = .inl (xI g, 6, .inl fd) := (hu.2 _ (by omega)).trans h74
              have hfm : ∀ j, j < 65 → E1_15 j = E j := fun j hj => (hu.2 j (by omega)).trans (hfm j hj)
              refine lv_aload_n S.1 S.2.1 dX7_comes_181 rfl (lv_at hl 2 rfl) ?_
              refine x_get S hK hP dX7_comes_182 h65 (by decide) (RX7, TX7, 19) rfl hin7 0 (by decide) fl7 rfl ?_
              refine lv_bipush (v := 70) S.1 S.2.1 dX7_comes_185 (by decide) ?_
              refine lv_dup2_11 S.1 S.2.1 dX7_comes_187 rfl rfl ?_
              refine x_iald S hK hP dX7_comes_188 h66 (by decide) (j := 70) rfl (by omega) (by decide) ?_
              refine W.eq (g2 := F0 m 189 ls [.int (nI (zn z)), .int 70, .ref (xad g 66)]) (by rw [pk_un (by omega), pk_un (by omega), pk_un (by omega), pk_un (by omega), pk_un (by omega), pk_un (by omega), pk_un (by omega), h970]) ?_
              refine lv_iconst (v := 1) S.1 S.2.1 dX7_comes_189 (by decide) ?_
              refine lv_iadd S.1 S.2.1 dX7_comes_190 ?_
              refine W.eq (g2 := F0 m 191 ls [.int (nI (zn z + 1)), .int 70, .ref (xad g 66)]) (by rw [nI_1]) ?_
              refine x_iast S hK hJ hP hS dX7_comes_191 h66 (by decide) (j := 70) rfl (by omega) (by decide) (fun H locs E1_16 hu hP hS => ?_)
              have h65 : E1_16 65 = mO g (nI (rcS (zh z))) (bI (zf z)) hi od bs bb bf (nI (ztl z)) at9 nu := (hu.2 _ (by omega)).trans h65
              have h66 : E1_16 66 = .inl (xI g, 71, .inl (upd (upd (upd (upd (upd (upd (upd (upd f9 (7 * (q0 + 1)) t) (7 * (q0 + 1) + 1) x) (7 * (q0 + 1) + 2) y) (7 * (q0 + 1) + 3) e5) (7 * (q0 + 1) + 4) a) (7 * (q0 + 1) + 5) o5) (7 * (q0 + 1) + 6) 0) 70 (nI (zn z + 1)))) := hu.1
              have h67 : E1_16 67 = .inl (xI g, 284, .inl fh2) := (hu.2 _ (by omega)).trans h67
              have h68 : E1_16 68 = .inl (xI g, 71, .inl fs) := (hu.2 _ (by omega)).trans h68
              have h69 : E1_16 69 = .inl (xI g, 3, .inl fa) := (hu.2 _ (by omega)).trans h69
              have h70 : E1_16 70 = .inl (xI g, 11, .inl fr) := (hu.2 _ (by omega)).trans h70
              have h71 : E1_16 71 = .inl (xI g, 10, .inl fl) := (hu.2 _ (by omega)).trans h71
              have h72 : E1_16 72 = .inl (xI g, 10, .inl fo) := (hu.2 _ (by omega)).trans h72
              have h73 : E1_16 73 = .inl (xC g, 60, .inl (ztf z)) := (hu.2 _ (by omega)).trans h73
              have h74 : E1_16 74 = .inl (xI g, 6, .inl fd) := (hu.2 _ (by omega)).trans h74
              have hfm : ∀ j, j < 65 → E1_16 j = E j := fun j hj => (hu.2 j (by omega)).trans (hfm j hj)
              refine lv_iload S.1 S.2.1 dX7_comes_192 (lv_at hl 1 rfl) ?_
              exact x_iret S hr hlocks hP hS dX7_comes_194 (⟨wP (wR z) (zn z + 1) (insM (zM z) (q0 + 1) (tld t x y e5 a o5)), Or.inr ⟨hno, Or.inr ⟨hn10, by rw [hqp], by rw [hqp]⟩⟩, sM.mk (z := wP (wR z) (zn z + 1) (insM (zM z) (q0 + 1) (tld t x y e5 a o5))) h65 rfl rfl rfl h66 h67 h68 h69 h70 h71 h72 h73 h74 (nH.ins hn10 hq hlo hup) hHi2 hSl, hfm⟩)
            · skip
              refine lv_iconst (v := 0) S.1 S.2.1 dX7_comes_57 (by decide) ?_
              refine lv_istore (lv' := [(8, .int 0), (7, .int (nI (q0 + 1))), (0, .ref (xad g 65)), (1, .int t), (2, .int x), (3, .int y), (4, .int e5), (5, .int a), (6, .int o5)]) S.1 S.2.1 dX7_comes_58 hl (by decide) rfl (fun ls hl => ?_)
              have loop60 : ∀ (d : Nat) (w : Nat) (f8 : Nat → Int32) (EL : Nat → va_E) (H : Heap) (locs : List Loc), (hw : w ≤ 7) → (hA : ∀ i, i < 7 * (q0 + 1) ∨ 7 * (q0 + 1) + 7 ≤ i → f8 i = f9 i) → (hB : ∀ v, v < w → f8 (7 * (q0 + 1) + v) = zM z v q0) → (7 - w) < d → (h65 : EL 65 = mO g (nI (rcS (zh z))) (bI (zf z)) hi od bs bb bf (nI (ztl z)) at9 nu) → (h66 : EL 66 = .inl (xI g, 71, .inl f8)) → (h67 : EL 67 = .inl (xI g, 284, .inl fh2)) → (h68 : EL 68 = .inl (xI g, 71, .inl fs)) → (h69 : EL 69 = .inl (xI g, 3, .inl fa)) → (h70 : EL 70 = .inl (xI g, 11, .inl fr)) → (h71 : EL 71 = .inl (xI g, 10, .inl fl)) → (h72 : EL 72 = .inl (xI g, 10, .inl fo)) → (h73 : EL 73 = .inl (xC g, 60, .inl (ztf z))) → (h74 : EL 74 = .inl (xI g, 6, .inl fd)) → (hfm : ∀ j, j < 65 → EL j = E j) → xP g EL H → va_S (xA (xad g)) s.heap H locs → ∀ ls : Array Slot, lv_has ls 9 [(8, .int (nI w)), (7, .int (nI (q0 + 1))), (0, .ref (xad g 65)), (1, .int t), (2, .int x), (3, .int y), (4, .int e5), (5, .int a), (6, .int o5)] → W pz l ez ({ frames := 2, cells := 0, slots := 0, locals := 45 }) s m ([.ref (xad g 65), .int t, .int x, .int y, .int e5, .int a, .int o5] : List Value).toArray below meth cz H locs 0 0 (MQ below (xQi g (fun r E1 => ∃ z1, sp_comes z (tld t x y e5 a o5) r z1 ∧ sM g E1 z1 ∧ ∀ j, j < 65 → E1 j = E j)) ([.ref (xad g 65), .int t, .int x, .int y, .int e5, .int a, .int o5] : List Value).toArray s 0 0 (xA (xad g))) (F0 m 60 ls []) := by
                intro d
                induction d with
                | zero => intro w f8 EL H locs hw hA hB hd; exact absurd hd (Nat.not_lt_zero _)
                | succ d ih60 =>
                  intro w f8 EL H locs hw hA hB hd h65 h66 h67 h68 h69 h70 h71 h72 h73 h74 hfm hP hS ls hl
                  refine lv_iload S.1 S.2.1 dX7_comes_60 (lv_at hl 0 rfl) ?_
                  refine lv_bipush (v := 7) S.1 S.2.1 dX7_comes_62 (by decide) ?_
                  refine lv_icmp_ge (tgt := 96) S.1 S.2.1 dX7_comes_64 (by decide) (fun c64 => ?_) (fun c64 => ?_)
                  · skip
                    have hw7 : w = 7 := Nat.le_antisymm hw ((nI_leI (a := 7) (by omega) (by omega)).mp c64)
                    refine lv_iinc (v := nI q0) (lv' := [(7, .int (nI q0)), (8, .int (nI w)), (0, .ref (xad g 65)), (1, .int t), (2, .int x), (3, .int y), (4, .int e5), (5, .int a), (6, .int o5)]) S.1 S.2.1 dX7_comes_96 hl (k := 1) rfl (show nI (q0 + 1) + Int32.ofInt (-1) = _ from pk_m1 q0) (by decide) rfl (fun ls hl => ?_)
                    refine lv_goto (tgt := 39) S.1 S.2.1 dX7_comes_99 (by decide) ?_
                    exact ih39 q0 f8 _ _ _ (by omega) (fun k w hk hw => by rw [hA _ (Or.inl (by omega))]; exact hlo k w (by omega) hw) (fun k v h1 h2 hv => by rcases Classical.em (k = q0 + 1) with e | e; subst e; exact hB v (by omega); rw [hA _ (Or.inr (by omega))]; exact hup k v (by omega) h2 hv) (by rw [hA 70 (Or.inr (by omega))]; exact h970) (fun k h1 h2 => by rcases Classical.em (k = q0) with e | e; subst e; exact Int32.not_le.mp c54; exact hgt k (by omega) h2) (by omega) h65 h66 h67 h68 h69 h70 h71 h72 h73 h74 hfm hP hS ls (lv_sub hl [0, 2, 3, 4, 5, 6, 7, 8] rfl)
                  · skip
                    have hw7 : w < 7 := Nat.not_le.mp (fun h => c64 ((nI_leI (a := 7) (by omega) (by omega)).mpr h))
                    refine lv_aload_n S.1 S.2.1 dX7_comes_67 rfl (lv_at hl 2 rfl) ?_
                    refine x_get S hK hP dX7_comes_68 h65 (by decide) (RX7, TX7, 19) rfl hin7 0 (by decide) fl7 rfl ?_
                    refine lv_bipush (v := 7) S.1 S.2.1 dX7_comes_71 (by decide) ?_
                    refine lv_iload S.1 S.2.1 dX7_comes_73 (lv_at hl 1 rfl) ?_
                    refine lv_imul S.1 S.2.1 dX7_comes_75 ?_
                    refine lv_iload S.1 S.2.1 dX7_comes_76 (lv_at hl 0 rfl) ?_
                    refine lv_iadd S.1 S.2.1 dX7_comes_78 ?_
                    refine lv_aload_n S.1 S.2.1 dX7_comes_79 rfl (lv_at hl 2 rfl) ?_
                    refine lv_iload S.1 S.2.1 dX7_comes_80 (lv_at hl 1 rfl) ?_
                    refine lv_iconst (v := 1) S.1 S.2.1 dX7_comes_82 (by decide) ?_
                    refine lv_isub S.1 S.2.1 dX7_comes_83 ?_
                    refine W.eq (g2 := F0 m 84 ls [.int (nI q0), .ref (xad g 65), .int ((7 * (nI (q0 + 1))) + (nI w)), .ref (xad g 66)]) (by rw [nI_pred]) ?_
                    refine lv_iload S.1 S.2.1 dX7_comes_84 (lv_at hl 0 rfl) ?_
                    refine x_si (va_runV (As := [.int (nI q0), .int (nI w)]) (rest := [.int ((7 * (nI (q0 + 1))) + (nI w)), .ref (xad g 66)]) S (c_X7_of l g EL h65 h66 (k := q0) (w := w) (by omega)) (cwV 2 S.2.2.2.2 gX7_comes_X7_of rfl rfl rfl (by decide +kernel) ⟨Nat.le_of_ble_eq_true rfl, Nat.le_of_ble_eq_true rfl⟩) (x_preV hK hP h65 (by decide) rfl) rfl rfl hl.1 rfl (lv_room (Nat.le_of_ble_eq_true rfl)) dX7_comes_86 ⟨Nat.le_of_ble_eq_true rfl, Nat.le_of_ble_eq_true rfl⟩) (fun r86 hr86 => ?_)
                    rw [hA _ (Or.inl (by omega)), hlo q0 w (by omega) hw7] at hr86
                    subst hr86
                    refine x_iast S hK hJ hP hS dX7_comes_89 h66 (by decide) (j := (7 * (q0 + 1) + w)) (mul7 (q0 + 1) w) (by omega) (by decide) (fun H locs E1_17 hu hP hS => ?_)
                    have h65 : E1_17 65 = mO g (nI (rcS (zh z))) (bI (zf z)) hi od bs bb bf (nI (ztl z)) at9 nu := (hu.2 _ (by omega)).trans h65
                    have h66 : E1_17 66 = .inl (xI g, 71, .inl (upd f8 (7 * (q0 + 1) + w) (zM z w q0))) := hu.1
                    have h67 : E1_17 67 = .inl (xI g, 284, .inl fh2) := (hu.2 _ (by omega)).trans h67
                    have h68 : E1_17 68 = .inl (xI g, 71, .inl fs) := (hu.2 _ (by omega)).trans h68
                    have h69 : E1_17 69 = .inl (xI g, 3, .inl fa) := (hu.2 _ (by omega)).trans h69
                    have h70 : E1_17 70 = .inl (xI g, 11, .inl fr) := (hu.2 _ (by omega)).trans h70
                    have h71 : E1_17 71 = .inl (xI g, 10, .inl fl) := (hu.2 _ (by omega)).trans h71
                    have h72 : E1_17 72 = .inl (xI g, 10, .inl fo) := (hu.2 _ (by omega)).trans h72
                    have h73 : E1_17 73 = .inl (xC g, 60, .inl (ztf z)) := (hu.2 _ (by omega)).trans h73
                    have h74 : E1_17 74 = .inl (xI g, 6, .inl fd) := (hu.2 _ (by omega)).trans h74
                    have hfm : ∀ j, j < 65 → E1_17 j = E j := fun j hj => (hu.2 j (by omega)).trans (hfm j hj)
                    refine lv_iinc (v := nI (w + 1)) (lv' := [(8, .int (nI (w + 1))), (7, .int (nI (q0 + 1))), (0, .ref (xad g 65)), (1, .int t), (2, .int x), (3, .int y), (4, .int e5), (5, .int a), (6, .int o5)]) S.1 S.2.1 dX7_comes_90 hl (k := 0) rfl (show nI w + Int32.ofInt 1 = _ from nI_1 _) (by decide) rfl (fun ls hl => ?_)
                    refine lv_goto (tgt := 60) S.1 S.2.1 dX7_comes_93 (by decide) ?_
                    exact ih60 (w + 1) _ _ _ _ (by omega) (fun i hi => by rw [pk_un (by omega)]; exact hA i hi) (fun v h => by rcases Nat.lt_or_ge v w with e | e; rw [pk_un (by omega)]; exact hB v e; rw [show v = w by omega, pk_us]) (by omega) h65 h66 h67 h68 h69 h70 h71 h72 h73 h74 hfm hP hS ls (lv_sub hl [0, 1, 2, 3, 4, 5, 6, 7, 8] rfl)
              exact loop60 _ 0 f9 _ _ _ (Nat.zero_le _) (fun i _ => rfl) (fun v h => absurd h (Nat.not_lt_zero _)) (Nat.lt_succ_self _) h65 h66 h67 h68 h69 h70 h71 h72 h73 h74 hfm hP hS ls (lv_sub hl [0, 1, 2, 3, 4, 5, 6, 7, 8] rfl)
      exact loop39 _ (zn z) f _ _ _ (Nat.le_refl _) (fun k w hk hw => hN.at0 hk hw) (fun k w h1 h2 => by omega) hn0 (fun k h1 h2 => by omega) (Nat.lt_succ_self _) h65 h66 h67 h68 h69 h70 h71 h72 h73 h74 hfm hP hS ls (lv_sub hl [0, 1, 2, 3, 4, 5, 6, 7] rfl)
    · skip
      refine lv_bipush (v := (-3)) S.1 S.2.1 dX7_comes_23 (by decide) ?_
      exact x_iret S hr hlocks hP hS dX7_comes_25 (⟨z, Or.inr ⟨hno, Or.inl ⟨by rw [hn0] at c20; exact (nI_eq (b := 10) (by omega) (by decide)).mp c20, rfl, rfl⟩⟩, sM.mk h65 rfl rfl rfl h66 h67 h68 h69 h70 h71 h72 h73 h74 hN hHi hSl, hfm⟩)
  · skip
    refine lv_bipush (v := (-4)) S.1 S.2.1 dX7_comes_8 (by decide) ?_
    exact x_iret S hr hlocks hP hS dX7_comes_10 (⟨z, Or.inl ⟨hr2.t c5, rfl, rfl⟩, sM.mk h65 rfl rfl rfl h66 h67 h68 h69 h70 h71 h72 h73 h74 hN hHi hSl, hfm⟩)
theorem rng_ph {t x y e a o : Int32} : rngT (tld t x y e a o) ↔ isPh t x y e ∧ (0 ≤ a ∧ a ≤ 360) ∧ 0 ≤ o ∧ o ≤ 60 := by
  have e0 : tld t x y e a o 0 = t := rfl
  have e1 : tld t x y e a o 1 = x := rfl
  have e2 : tld t x y e a o 2 = y := rfl
  have e3 : tld t x y e a o 3 = e := rfl
  have e4 : tld t x y e a o 4 = a := rfl
  have e5 : tld t x y e a o 5 = o := rfl
  unfold rngT isPh
  rw [e0, e1, e2, e3, e4, e5]
  constructor
  · rintro ⟨h1, h2, h3, h4, h5, h6⟩
    exact ⟨⟨h1, h2, h3, h4⟩, h5, h6⟩
  · rintro ⟨⟨h1, h2, h3, h4⟩, h5, h6⟩
    exact ⟨h1, h2, h3, h4, h5, h6⟩
set_option maxHeartbeats 4000000 in
set_option maxRecDepth 100000 in
theorem c_X7_addPhoto (l : Launch) (g : xG) (hJ : xJ (xad g)) (E : Nat → va_E) {z : xS} (hz : sM g E z) (hv : vS z) (t x y e5 : Int32) : Met l yX7_addPhoto wsX7_addPhoto ({ frames := 3, cells := 0, slots := 0, locals := 73 }) (xPc g [.ref (xad g 65), .int t, .int x, .int y, .int e5] E) (xQi g (fun r E1 => ∃ z1, sp_addPhoto z t x y e5 r z1 ∧ sM g E1 z1 ∧ ∀ j, j < 65 → E1 j = E j)) 0 0 (xA (xad g)) := by
  refine x_met (ws' := _) (by decide) rfl (Nat.le_of_ble_eq_true rfl) ?_
  intro pz ez s m below meth cz ls S hr hlocks hP hK hl
  have hl : lv_has ls 5 [(0, .ref (xad g 65)), (1, .int t), (2, .int x), (3, .int y), (4, .int e5)] := hl
  have hS : va_S (xA (xad g)) s.heap s.heap [] := va_S.rf
  obtain ⟨hi, od, bs, bb, bf, at9, nu, f, fh, fs, fa, fr, fl, fo, fd, h65, h66, h67, h68, h69, h70, h71, h72, h73, h74, hN, hHi, hSl⟩ := id hz
  have hn := hN.1
  have hn0 := hN.n0
  have hv1 := hv.1.2
  have hfm : ∀ j, j < 65 → E j = E j := fun _ _ => rfl
  have hs4 := hv.2.1.1
  have htl := hv.2.2.2
  refine lv_iload_n S.1 S.2.1 dX7_addPhoto_0 rfl (lv_at hl 1 rfl) ?_
  refine lv_iload_n S.1 S.2.1 dX7_addPhoto_1 rfl (lv_at hl 2 rfl) ?_
  refine lv_iload_n S.1 S.2.1 dX7_addPhoto_2 rfl (lv_at hl 3 rfl) ?_
  refine lv_iload S.1 S.2.1 dX7_addPhoto_3 (lv_at hl 4 rfl) ?_
  refine x_si (va_runS (As := [.int t, .int x, .int y, .int e5]) (rest := []) S (c_X7_isPhoto l g E t x y e5) (va_cwS 4 S.2.2.2.2 gX7_addPhoto_X7_isPhoto rfl rfl rfl (by decide +kernel) ⟨Nat.le_of_ble_eq_true rfl, Nat.le_of_ble_eq_true rfl⟩) (x_preS hK hP) rfl rfl hl.1 rfl (lv_room (Nat.le_of_ble_eq_true rfl)) dX7_addPhoto_5 ⟨Nat.le_of_ble_eq_true rfl, Nat.le_of_ble_eq_true rfl⟩) (fun r5 hr5 => ?_)
  refine lv_if_eq (tgt := 27) S.1 S.2.1 dX7_addPhoto_8 (by decide) (fun c8 => ?_) (fun c8 => ?_)
  · skip
    refine lv_bipush (v := (-2)) S.1 S.2.1 dX7_addPhoto_27 (by decide) ?_
    exact x_iret S hr hlocks hP hS dX7_addPhoto_29 (⟨z, Or.inl ⟨fun h => hr5.f c8 (rng_ph.mp h).1, rfl, rfl⟩, sM.mk h65 rfl rfl rfl h66 h67 h68 h69 h70 h71 h72 h73 h74 hN hHi hSl, hfm⟩)
  · skip
    refine lv_aload_n S.1 S.2.1 dX7_addPhoto_11 rfl (lv_at hl 0 rfl) ?_
    refine lv_iload_n S.1 S.2.1 dX7_addPhoto_12 rfl (lv_at hl 1 rfl) ?_
    refine lv_iload_n S.1 S.2.1 dX7_addPhoto_13 rfl (lv_at hl 2 rfl) ?_
    refine lv_iload_n S.1 S.2.1 dX7_addPhoto_14 rfl (lv_at hl 3 rfl) ?_
    refine lv_iload S.1 S.2.1 dX7_addPhoto_15 (lv_at hl 4 rfl) ?_
    refine lv_sipush (v := 360) S.1 S.2.1 dX7_addPhoto_17 (by decide) ?_
    refine lv_iconst (v := 0) S.1 S.2.1 dX7_addPhoto_20 (by decide) ?_
    refine x_qi (va_runV (As := [.int t, .int x, .int y, .int e5, .int 360, .int 0]) (rest := []) S (c_X7_comes l g hJ E hz hv t x y e5 360 0) (cwV 6 S.2.2.2.2 gX7_addPhoto_X7_comes rfl rfl rfl (by decide +kernel) ⟨Nat.le_of_ble_eq_true rfl, Nat.le_of_ble_eq_true rfl⟩) (x_preV hK hP h65 (by decide) rfl) rfl rfl hl.1 rfl (lv_room (Nat.le_of_ble_eq_true rfl)) dX7_addPhoto_21 ⟨Nat.le_of_ble_eq_true rfl, Nat.le_of_ble_eq_true rfl⟩) hS (fun r21 E1 H locs hq21 hP hS => ?_)
    refine lv_goto (tgt := 29) S.1 S.2.1 dX7_addPhoto_24 (by decide) ?_
    exact x_iret S hr hlocks hP hS dX7_addPhoto_29 (by obtain ⟨z1, k1, k2, k3⟩ := hq21; exact ⟨z1, Or.inr ⟨rng_ph.mpr ⟨hr5.t c8, by decide, by decide⟩, k1⟩, k2, k3⟩)
/-! THE REFERENCE: texts -/
set_option maxHeartbeats 4000000 in
set_option maxRecDepth 100000 in
theorem c_X7_isDigit (l : Launch) (g : xG) (E : Nat → va_E) {kp fi hi od bs bb bf nu : Int32} {tl p : Nat} (h65 : E 65 = mO g kp fi hi od bs bb bf (nI tl) (nI p) nu) {tf : Nat → Int32} (h73 : E 73 = .inl (xC g, 60, .inl tf)) (htl : tl ≤ 60) (hp : p ≤ tl) : Met l yX7_isDigit wsX7_isDigit ({ frames := 1, cells := 0, slots := 0, locals := 22 }) (xPc g [.ref (xad g 65)] E) (vp_Si (xb (dig tf tl p))) 0 0 (fun _ => False) := by
  refine x_met (ws' := _) (by decide) rfl (Nat.le_of_ble_eq_true rfl) ?_
  intro pz ez s m below meth cz ls S hr hlocks hP hK hl
  have hl : lv_has ls 1 [(0, .ref (xad g 65))] := hl
  have hin7 : ∀ w ∈ u_ws RX7 TX7 19, w ∈ wsX7_isDigit := by decide +kernel
  have fl31 : Cond.fieldLink RX7 31 "DiscArcsModel" "text" "[C" ∈ wsX7_isDigit := by decide +kernel
  have fl149 : Cond.fieldLink RX7 149 "DiscArcsModel" "typed" "I" ∈ wsX7_isDigit := by decide +kernel
  have fl152 : Cond.fieldLink RX7 152 "DiscArcsModel" "at" "I" ∈ wsX7_isDigit := by decide +kernel
  refine lv_aload_n S.1 S.2.1 dX7_isDigit_0 rfl (lv_at hl 0 rfl) ?_
  refine x_get S hK hP dX7_isDigit_1 h65 (by decide) (RX7, TX7, 19) rfl hin7 16 (by decide) fl152 rfl ?_
  refine lv_aload_n S.1 S.2.1 dX7_isDigit_4 rfl (lv_at hl 0 rfl) ?_
  refine x_get S hK hP dX7_isDigit_5 h65 (by decide) (RX7, TX7, 19) rfl hin7 14 (by decide) fl149 rfl ?_
  refine lv_icmp_ge (tgt := 34) S.1 S.2.1 dX7_isDigit_8 (by decide) (fun c8 => ?_) (fun c8 => ?_)
  · skip
    refine lv_iconst (v := 0) S.1 S.2.1 dX7_isDigit_34 (by decide) ?_
    exact x_zretR S hr hlocks dX7_isDigit_35 (xb.zero (fun h => by first | exact hr24.f c27 h.2 | exact absurd ((nI_leI (by omega) (by omega)).mp c8) (by have := h.1; omega)))
  · skip
    have hpt : p < tl := Nat.not_le.mp (fun h => c8 ((nI_leI (by omega) (by omega)).mpr h))
    refine lv_aload_n S.1 S.2.1 dX7_isDigit_11 rfl (lv_at hl 0 rfl) ?_
    refine x_get S hK hP dX7_isDigit_12 h65 (by decide) (RX7, TX7, 19) rfl hin7 15 (by decide) fl31 rfl ?_
    refine lv_aload_n S.1 S.2.1 dX7_isDigit_15 rfl (lv_at hl 0 rfl) ?_
    refine x_get S hK hP dX7_isDigit_16 h65 (by decide) (RX7, TX7, 19) rfl hin7 16 (by decide) fl152 rfl ?_
    refine x_cald S hK hP dX7_isDigit_19 h73 (by decide) (j := p) rfl (by omega) (by decide) ?_
    refine lv_bipush (v := 48) S.1 S.2.1 dX7_isDigit_20 (by decide) ?_
    refine lv_bipush (v := 57) S.1 S.2.1 dX7_isDigit_22 (by decide) ?_
    refine x_si (va_runS (As := [.int (tf p), .int 48, .int 57]) (rest := []) S (c_X7_in l g E (tf p) 48 57) (va_cwS 3 S.2.2.2.2 gX7_isDigit_X7_in rfl rfl rfl (by decide +kernel) ⟨Nat.le_of_ble_eq_true rfl, Nat.le_of_ble_eq_true rfl⟩) (x_preS hK hP) rfl rfl hl.1 rfl (lv_room (Nat.le_of_ble_eq_true rfl)) dX7_isDigit_24 ⟨Nat.le_of_ble_eq_true rfl, Nat.le_of_ble_eq_true rfl⟩) (fun r24 hr24 => ?_)
    refine lv_if_eq (tgt := 34) S.1 S.2.1 dX7_isDigit_27 (by decide) (fun c27 => ?_) (fun c27 => ?_)
    · skip
      refine lv_iconst (v := 0) S.1 S.2.1 dX7_isDigit_34 (by decide) ?_
      exact x_zretR S hr hlocks dX7_isDigit_35 (xb.zero (fun h => by first | exact hr24.f c27 h.2 | exact absurd ((nI_leI (by omega) (by omega)).mp c8) (by have := h.1; omega)))
    · skip
      refine lv_iconst (v := 1) S.1 S.2.1 dX7_isDigit_30 (by decide) ?_
      refine lv_goto (tgt := 35) S.1 S.2.1 dX7_isDigit_31 (by decide) ?_
      exact x_zretR S hr hlocks dX7_isDigit_35 (xb.one ⟨hpt, hr24.t c27⟩)
set_option maxHeartbeats 4000000 in
set_option maxRecDepth 100000 in
theorem c_X7_takes (l : Launch) (g : xG) (hJ : xJ (xad g)) (E : Nat → va_E) {kp fi hi od bs bb bf nu : Int32} {tl p : Nat} (h65 : E 65 = mO g kp fi hi od bs bb bf (nI tl) (nI p) nu) {tf : Nat → Int32} (h73 : E 73 = .inl (xC g, 60, .inl tf)) (htl : tl ≤ 60) (hp : p ≤ tl) (c9 : Int32) : Met l yX7_takes wsX7_takes ({ frames := 0, cells := 0, slots := 0, locals := 0 }) (xPc g [.ref (xad g 65), .int c9] E) (xQi g (fun r E1 => xb ((pas tf tl c9 p).1 = true) r ∧ E1 65 = mO g kp fi hi od bs bb bf (nI tl) (nI (pas tf tl c9 p).2) nu ∧ ∀ j, j ≠ 65 → E1 j = E j)) 0 0 (xA (xad g)) := by
  refine x_met (ws' := _) (by decide) rfl (Nat.le_of_ble_eq_true rfl) ?_
  intro pz ez s m below meth cz ls S hr hlocks hP hK hl
  have hl : lv_has ls 3 [(0, .ref (xad g 65)), (1, .int c9)] := hl
  have hS : va_S (xA (xad g)) s.heap s.heap [] := va_S.rf
  have hin7 : ∀ w ∈ u_ws RX7 TX7 19, w ∈ wsX7_takes := by decide +kernel
  have fl31 : Cond.fieldLink RX7 31 "DiscArcsModel" "text" "[C" ∈ wsX7_takes := by decide +kernel
  have fl149 : Cond.fieldLink RX7 149 "DiscArcsModel" "typed" "I" ∈ wsX7_takes := by decide +kernel
  have fl152 : Cond.fieldLink RX7 152 "DiscArcsModel" "at" "I" ∈ wsX7_takes := by decide +kernel
  have hfr : ∀ j, j ≠ 65 → E j = E j := fun _ _ => rfl
  refine lv_aload_n S.1 S.2.1 dX7_takes_0 rfl (lv_at hl 0 rfl) ?_
  refine x_get S hK hP dX7_takes_1 h65 (by decide) (RX7, TX7, 19) rfl hin7 16 (by decide) fl152 rfl ?_
  refine lv_aload_n S.1 S.2.1 dX7_takes_4 rfl (lv_at hl 0 rfl) ?_
  refine x_get S hK hP dX7_takes_5 h65 (by decide) (RX7, TX7, 19) rfl hin7 14 (by decide) fl149 rfl ?_
  refine lv_icmp_ge (tgt := 28) S.1 S.2.1 dX7_takes_8 (by decide) (fun c8 => ?_) (fun c8 => ?_)
  · skip
    refine lv_iconst (v := 0) S.1 S.2.1 dX7_takes_28 (by decide) ?_
    refine lv_istore_n (lv' := [(2, .int 0), (0, .ref (xad g 65)), (1, .int c9)]) S.1 S.2.1 dX7_takes_29 rfl hl (by decide) rfl (fun ls hl => ?_)
    refine lv_aload_n S.1 S.2.1 dX7_takes_30 rfl (lv_at hl 1 rfl) ?_
    refine lv_dup S.1 S.2.1 dX7_takes_31 rfl ?_
    refine x_get S hK hP dX7_takes_32 h65 (by decide) (RX7, TX7, 19) rfl hin7 16 (by decide) fl152 rfl ?_
    refine lv_iload_n S.1 S.2.1 dX7_takes_35 rfl (lv_at hl 0 rfl) ?_
    refine lv_if_eq (tgt := 43) S.1 S.2.1 dX7_takes_36 (by decide) (fun c36 => ?_) (fun c36 => ?_)
    · skip
      refine lv_iconst (v := 0) S.1 S.2.1 dX7_takes_43 (by decide) ?_
      refine lv_iadd S.1 S.2.1 dX7_takes_44 ?_
      refine x_put S hK hJ hP hS dX7_takes_45 h65 (by decide) (RX7, TX7, 19) rfl hin7 tyX7 tyX7_ok nmX7 16 (by decide) fl152 rfl rfl rfl (Nat.le_of_ble_eq_true rfl) (fun H locs E1 hu hP hS => ?_)
      have h65 : E1 65 = mO g kp fi hi od bs bb bf (nI tl) ((nI p) + 0) nu := hu.1
      have h73 : E1 73 = .inl (xC g, 60, .inl tf) := (hu.2 _ (by omega)).trans h73
      have hfr : ∀ j, j ≠ 65 → E1 j = E j := fun j hj => (hu.2 j (by omega)).trans (hfr j hj)
      refine lv_iload_n S.1 S.2.1 dX7_takes_48 rfl (lv_at hl 0 rfl) ?_
      exact x_zret S hr hlocks hP hS dX7_takes_49 rfl (by have hn : pas tf tl c9 p = (false, p) := if_neg (fun h => by first | exact c21 h.2 | exact absurd ((nI_leI (by omega) (by omega)).mp c8) (by have := h.1; omega)); rw [hn]; exact ⟨xb.zero (by simp), h65.trans (by rw [Int32.add_zero]), hfr⟩)
    · skip
      exact absurd c36 (by decide)
  · skip
    have hpt : p < tl := Nat.not_le.mp (fun h => c8 ((nI_leI (by omega) (by omega)).mpr h))
    refine lv_aload_n S.1 S.2.1 dX7_takes_11 rfl (lv_at hl 0 rfl) ?_
    refine x_get S hK hP dX7_takes_12 h65 (by decide) (RX7, TX7, 19) rfl hin7 15 (by decide) fl31 rfl ?_
    refine lv_aload_n S.1 S.2.1 dX7_takes_15 rfl (lv_at hl 0 rfl) ?_
    refine x_get S hK hP dX7_takes_16 h65 (by decide) (RX7, TX7, 19) rfl hin7 16 (by decide) fl152 rfl ?_
    refine x_cald S hK hP dX7_takes_19 h73 (by decide) (j := p) rfl (by omega) (by decide) ?_
    refine lv_iload_n S.1 S.2.1 dX7_takes_20 rfl (lv_at hl 1 rfl) ?_
    refine lv_icmp_ne (tgt := 28) S.1 S.2.1 dX7_takes_21 (by decide) (fun c21 => ?_) (fun c21 => ?_)
    · skip
      refine lv_iconst (v := 0) S.1 S.2.1 dX7_takes_28 (by decide) ?_
      refine lv_istore_n (lv' := [(2, .int 0), (0, .ref (xad g 65)), (1, .int c9)]) S.1 S.2.1 dX7_takes_29 rfl hl (by decide) rfl (fun ls hl => ?_)
      refine lv_aload_n S.1 S.2.1 dX7_takes_30 rfl (lv_at hl 1 rfl) ?_
      refine lv_dup S.1 S.2.1 dX7_takes_31 rfl ?_
      refine x_get S hK hP dX7_takes_32 h65 (by decide) (RX7, TX7, 19) rfl hin7 16 (by decide) fl152 rfl ?_
      refine lv_iload_n S.1 S.2.1 dX7_takes_35 rfl (lv_at hl 0 rfl) ?_
      refine lv_if_eq (tgt := 43) S.1 S.2.1 dX7_takes_36 (by decide) (fun c36_1 => ?_) (fun c36_1 => ?_)
      · skip
        refine lv_iconst (v := 0) S.1 S.2.1 dX7_takes_43 (by decide) ?_
        refine lv_iadd S.1 S.2.1 dX7_takes_44 ?_
        refine x_put S hK hJ hP hS dX7_takes_45 h65 (by decide) (RX7, TX7, 19) rfl hin7 tyX7 tyX7_ok nmX7 16 (by decide) fl152 rfl rfl rfl (Nat.le_of_ble_eq_true rfl) (fun H locs E1_1 hu hP hS => ?_)
        have h65 : E1_1 65 = mO g kp fi hi od bs bb bf (nI tl) ((nI p) + 0) nu := hu.1
        have h73 : E1_1 73 = .inl (xC g, 60, .inl tf) := (hu.2 _ (by omega)).trans h73
        have hfr : ∀ j, j ≠ 65 → E1_1 j = E j := fun j hj => (hu.2 j (by omega)).trans (hfr j hj)
        refine lv_iload_n S.1 S.2.1 dX7_takes_48 rfl (lv_at hl 0 rfl) ?_
        exact x_zret S hr hlocks hP hS dX7_takes_49 rfl (by have hn : pas tf tl c9 p = (false, p) := if_neg (fun h => by first | exact c21 h.2 | exact absurd ((nI_leI (by omega) (by omega)).mp c8) (by have := h.1; omega)); rw [hn]; exact ⟨xb.zero (by simp), h65.trans (by rw [Int32.add_zero]), hfr⟩)
      · skip
        exact absurd c36_1 (by decide)
    · skip
      refine lv_iconst (v := 1) S.1 S.2.1 dX7_takes_24 (by decide) ?_
      refine lv_goto (tgt := 29) S.1 S.2.1 dX7_takes_25 (by decide) ?_
      refine lv_istore_n (lv' := [(2, .int 1), (0, .ref (xad g 65)), (1, .int c9)]) S.1 S.2.1 dX7_takes_29 rfl hl (by decide) rfl (fun ls hl => ?_)
      refine lv_aload_n S.1 S.2.1 dX7_takes_30 rfl (lv_at hl 1 rfl) ?_
      refine lv_dup S.1 S.2.1 dX7_takes_31 rfl ?_
      refine x_get S hK hP dX7_takes_32 h65 (by decide) (RX7, TX7, 19) rfl hin7 16 (by decide) fl152 rfl ?_
      refine lv_iload_n S.1 S.2.1 dX7_takes_35 rfl (lv_at hl 0 rfl) ?_
      refine lv_if_eq (tgt := 43) S.1 S.2.1 dX7_takes_36 (by decide) (fun c36_2 => ?_) (fun c36_2 => ?_)
      · skip
        exact absurd c36_2 (by decide)
      · skip
        refine lv_iconst (v := 1) S.1 S.2.1 dX7_takes_39 (by decide) ?_
        refine lv_goto (tgt := 44) S.1 S.2.1 dX7_takes_40 (by decide) ?_
        refine lv_iadd S.1 S.2.1 dX7_takes_44 ?_
        refine x_put S hK hJ hP hS dX7_takes_45 h65 (by decide) (RX7, TX7, 19) rfl hin7 tyX7 tyX7_ok nmX7 16 (by decide) fl152 rfl rfl rfl (Nat.le_of_ble_eq_true rfl) (fun H locs E1_2 hu hP hS => ?_)
        have h65 : E1_2 65 = mO g kp fi hi od bs bb bf (nI tl) ((nI p) + 1) nu := hu.1
        have h73 : E1_2 73 = .inl (xC g, 60, .inl tf) := (hu.2 _ (by omega)).trans h73
        have hfr : ∀ j, j ≠ 65 → E1_2 j = E j := fun j hj => (hu.2 j (by omega)).trans (hfr j hj)
        refine lv_iload_n S.1 S.2.1 dX7_takes_48 rfl (lv_at hl 0 rfl) ?_
        exact x_zret S hr hlocks hP hS dX7_takes_49 rfl (by have hn : pas tf tl c9 p = (true, p + 1) := if_pos ⟨hpt, c21⟩; rw [hn]; exact ⟨xb.one rfl, h65.trans (by rw [← nI_1]), hfr⟩)
theorem dg_b {f : Nat → Int32} {tl p : Nat} (h : dig f tl p) : (f p - 48).toInt = (f p).toInt - 48 ∧ 48 ≤ (f p).toInt ∧ (f p).toInt ≤ 57 := by
  obtain ⟨-, h1, h2⟩ := h
  rw [I_le, show (48 : Int32).toInt = 48 by decide] at h1
  rw [I_le, show (57 : Int32).toInt = 57 by decide] at h2
  refine ⟨?_, h1, h2⟩
  rw [I_sub (by rw [show (48 : Int32).toInt = 48 by decide]; omega) (by rw [show (48 : Int32).toInt = 48 by decide]; omega), show (48 : Int32).toInt = 48 by decide]
theorem dg_s {v x : Int32} {B : Int} (hv : 0 ≤ v.toInt ∧ v.toInt ≤ B) (hB : B ≤ 99) (hx : 48 ≤ x.toInt ∧ x.toInt ≤ 57) : 10 * v + x - 48 = 10 * v + (x - 48) ∧ 0 ≤ (10 * v + (x - 48)).toInt ∧ (10 * v + (x - 48)).toInt ≤ 10 * B + 9 := by
  have e10 : (10 : Int32).toInt = 10 := by decide
  have e48 : (48 : Int32).toInt = 48 := by decide
  have h1 : (10 * v).toInt = 10 * v.toInt := by rw [I_mul (by rw [e10]; omega) (by rw [e10]; omega), e10]
  have h2 : (x - 48).toInt = x.toInt - 48 := by rw [I_sub (by rw [e48]; omega) (by rw [e48]; omega), e48]
  refine ⟨by rw [Int32.sub_eq_add_neg, Int32.sub_eq_add_neg, Int32.add_assoc], ?_⟩
  rw [I_add (by omega) (by omega), h1, h2]
  omega
def vB (i : Nat) : Int := if i = 0 then 9 else if i = 1 then 99 else 999
theorem v_0 {v : Int32} (h : 0 ≤ v.toInt) : v ≤ 0 ↔ v = 0 := by
  rw [I_le, I_eq, show (0 : Int32).toInt = 0 by decide]
  omega
theorem vB_s {i : Nat} (h : i < 2) : 10 * vB i + 9 ≤ vB (i + 1) := by
  have : i = 0 ∨ i = 1 := by omega
  rcases this with h | h <;> subst h <;> decide
set_option maxHeartbeats 4000000 in
set_option maxRecDepth 100000 in
theorem c_X7_takesNumber_u (l : Launch) (g : xG) (hJ : xJ (xad g)) (E : Nat → va_E) {kp fi hi od bs bb bf nu : Int32} {tl p : Nat} (h65 : E 65 = mO g kp fi hi od bs bb bf (nI tl) (nI p) nu) {tf : Nat → Int32} (h73 : E 73 = .inl (xC g, 60, .inl tf)) (htl : tl ≤ 60) (hp : p ≤ tl) : Met l yX7_takesNumber wsX7_takesNumber ({ frames := 2, cells := 0, slots := 0, locals := 42 }) (xPc g [.ref (xad g 65), .int 0] E) (xQi g (fun r E1 => xb ((num tf tl false p).1 = true) r ∧ (∃ nu9 : Int32, E1 65 = mO g kp fi hi od bs bb bf (nI tl) (nI (num tf tl false p).2.1) nu9 ∧ ((num tf tl false p).1 = true → nu9 = (num tf tl false p).2.2)) ∧ ∀ j, j ≠ 65 → E1 j = E j)) 0 0 (xA (xad g)) := by
  refine x_met (ws' := _) (by decide) rfl (Nat.le_of_ble_eq_true rfl) ?_
  intro pz ez s m below meth cz ls S hr hlocks hP hK hl
  have hl : lv_has ls 4 [(0, .ref (xad g 65)), (1, .int 0)] := hl
  have hS : va_S (xA (xad g)) s.heap s.heap [] := va_S.rf
  have hin7 : ∀ w ∈ u_ws RX7 TX7 19, w ∈ wsX7_takesNumber := by decide +kernel
  have fl31 : Cond.fieldLink RX7 31 "DiscArcsModel" "text" "[C" ∈ wsX7_takesNumber := by decide +kernel
  have fl152 : Cond.fieldLink RX7 152 "DiscArcsModel" "at" "I" ∈ wsX7_takesNumber := by decide +kernel
  have fl161 : Cond.fieldLink RX7 161 "DiscArcsModel" "number" "I" ∈ wsX7_takesNumber := by decide +kernel
  have hfr : ∀ j, j ≠ 65 → E j = E j := fun _ _ => rfl
  refine lv_iload_n S.1 S.2.1 dX7_takesNumber_0 rfl (lv_at hl 1 rfl) ?_
  refine lv_if_eq (tgt := 17) S.1 S.2.1 dX7_takesNumber_1 (by decide) (fun c1 => ?_) (fun c1 => ?_)
  · skip
    refine lv_iconst (v := 0) S.1 S.2.1 dX7_takesNumber_17 (by decide) ?_
    refine lv_istore_n (lv' := [(2, .int 0), (0, .ref (xad g 65)), (1, .int 0)]) S.1 S.2.1 dX7_takesNumber_18 rfl hl (by decide) rfl (fun ls hl => ?_)
    have hnum : num tf tl false p = numB tf tl false p := rfl
    refine lv_aload_n S.1 S.2.1 dX7_takesNumber_19 rfl (lv_at hl 1 rfl) ?_
    refine x_si (va_runV (As := []) (rest := []) S (c_X7_isDigit l g E h65 h73 htl hp) (cwV 0 S.2.2.2.2 gX7_takesNumber_X7_isDigit rfl rfl rfl (by decide +kernel) ⟨Nat.le_of_ble_eq_true rfl, Nat.le_of_ble_eq_true rfl⟩) (x_preV hK hP h65 (by decide) rfl) rfl rfl hl.1 rfl (lv_room (Nat.le_of_ble_eq_true rfl)) dX7_takesNumber_20 ⟨Nat.le_of_ble_eq_true rfl, Nat.le_of_ble_eq_true rfl⟩) (fun r20 hr20 => ?_)
    refine lv_if_eq (tgt := 44) S.1 S.2.1 dX7_takesNumber_23 (by decide) (fun c23 => ?_) (fun c23 => ?_)
    · skip
      refine lv_iconst (v := 0) S.1 S.2.1 dX7_takesNumber_44 (by decide) ?_
      exact x_zret S hr hlocks hP hS dX7_takesNumber_45 rfl (by rw [hnum]; have hn : numB tf tl false p = (false, p, 0) := by { unfold numB; first | (rw [if_neg (fun h => hr20.f c23 (digB_iff.mp h))]; done) | (rw [if_pos (digB_iff.mpr hd20), if_pos (by simp [c41])]; done) }; rw [hn]; exact ⟨xb.zero (by simp), ⟨_, h65, fun h => by simp at h⟩, hfr⟩)
    · skip
      have hd20 := hr20.t c23
      obtain ⟨d1, d2, d3⟩ := dg_b hd20
      refine lv_iload_n S.1 S.2.1 dX7_takesNumber_26 rfl (lv_at hl 0 rfl) ?_
      refine lv_if_eq (tgt := 46) S.1 S.2.1 dX7_takesNumber_27 (by decide) (fun c27 => ?_) (fun c27 => ?_)
      · skip
        refine lv_aload_n S.1 S.2.1 dX7_takesNumber_46 rfl (lv_at hl 1 rfl) ?_
        refine lv_aload_n S.1 S.2.1 dX7_takesNumber_47 rfl (lv_at hl 1 rfl) ?_
        refine x_get S hK hP dX7_takesNumber_48 h65 (by decide) (RX7, TX7, 19) rfl hin7 15 (by decide) fl31 rfl ?_
        refine lv_aload_n S.1 S.2.1 dX7_takesNumber_51 rfl (lv_at hl 1 rfl) ?_
        refine x_get S hK hP dX7_takesNumber_52 h65 (by decide) (RX7, TX7, 19) rfl hin7 16 (by decide) fl152 rfl ?_
        refine x_cald S hK hP dX7_takesNumber_55 h73 (by decide) (j := p) rfl (by have := hd20.1; omega) (by decide) ?_
        refine lv_bipush (v := 48) S.1 S.2.1 dX7_takesNumber_56 (by decide) ?_
        refine lv_isub S.1 S.2.1 dX7_takesNumber_58 ?_
        refine x_put S hK hJ hP hS dX7_takesNumber_59 h65 (by decide) (RX7, TX7, 19) rfl hin7 tyX7 tyX7_ok nmX7 17 (by decide) fl161 rfl rfl rfl (Nat.le_of_ble_eq_true rfl) (fun H locs E1 hu hP hS => ?_)
        have h65 : E1 65 = mO g kp fi hi od bs bb bf (nI tl) (nI p) ((tf p) - 48) := hu.1
        have h73 : E1 73 = .inl (xC g, 60, .inl tf) := (hu.2 _ (by omega)).trans h73
        have hfr : ∀ j, j ≠ 65 → E1 j = E j := fun j hj => (hu.2 j (by omega)).trans (hfr j hj)
        refine lv_aload_n S.1 S.2.1 dX7_takesNumber_62 rfl (lv_at hl 1 rfl) ?_
        refine lv_dup S.1 S.2.1 dX7_takesNumber_63 rfl ?_
        refine x_get S hK hP dX7_takesNumber_64 h65 (by decide) (RX7, TX7, 19) rfl hin7 16 (by decide) fl152 rfl ?_
        refine lv_iconst (v := 1) S.1 S.2.1 dX7_takesNumber_67 (by decide) ?_
        refine lv_iadd S.1 S.2.1 dX7_takesNumber_68 ?_
        refine x_put S hK hJ hP hS dX7_takesNumber_69 h65 (by decide) (RX7, TX7, 19) rfl hin7 tyX7 tyX7_ok nmX7 16 (by decide) fl152 rfl rfl rfl (Nat.le_of_ble_eq_true rfl) (fun H locs E1_1 hu hP hS => ?_)
        have h65 : E1_1 65 = mO g kp fi hi od bs bb bf (nI tl) ((nI p) + 1) ((tf p) - 48) := hu.1
        have h73 : E1_1 73 = .inl (xC g, 60, .inl tf) := (hu.2 _ (by omega)).trans h73
        have hfr : ∀ j, j ≠ 65 → E1_1 j = E j := fun j hj => (hu.2 j (by omega)).trans (hfr j hj)
        refine lv_iconst (v := 0) S.1 S.2.1 dX7_takesNumber_72 (by decide) ?_
        refine lv_istore_n (lv' := [(3, .int 0), (2, .int 0), (0, .ref (xad g 65)), (1, .int 0)]) S.1 S.2.1 dX7_takesNumber_73 rfl hl (by decide) rfl (fun ls hl => ?_)
        have loop74 : ∀ (d : Nat) (q : Nat) (v : Int32) (i : Nat) (EL : Nat → va_E) (H : Heap) (locs : List Loc), (hi3 : i ≤ 2) → (hq9 : q ≤ tl) → (hinv : dgs tf tl 2 (p + 1) (tf p - 48) = dgs tf tl (2 - i) q v) → (hvb : 0 ≤ v.toInt ∧ v.toInt ≤ vB i) → (2 - i) < d → (h65 : EL 65 = mO g kp fi hi od bs bb bf (nI tl) (nI q) v) → (h73 : EL 73 = .inl (xC g, 60, .inl tf)) → (hfr : ∀ j, j ≠ 65 → EL j = E j) → xP g EL H → va_S (xA (xad g)) s.heap H locs → ∀ ls : Array Slot, lv_has ls 4 [(3, .int (nI i)), (2, .int 0), (0, .ref (xad g 65)), (1, .int 0)] → W pz l ez ({ frames := 2, cells := 0, slots := 0, locals := 42 }) s m ([.ref (xad g 65), .int 0] : List Value).toArray below meth cz H locs 0 0 (MQ below (xQi g (fun r E1 => xb ((num tf tl false p).1 = true) r ∧ (∃ nu9 : Int32, E1 65 = mO g kp fi hi od bs bb bf (nI tl) (nI (num tf tl false p).2.1) nu9 ∧ ((num tf tl false p).1 = true → nu9 = (num tf tl false p).2.2)) ∧ ∀ j, j ≠ 65 → E1 j = E j)) ([.ref (xad g 65), .int 0] : List Value).toArray s 0 0 (xA (xad g))) (F0 m 74 ls []) := by
          intro d
          induction d with
          | zero => intro q v i EL H locs hi3 hq9 hinv hvb hd; exact absurd hd (Nat.not_lt_zero _)
          | succ d ih74 =>
            intro q v i EL H locs hi3 hq9 hinv hvb hd h65 h73 hfr hP hS ls hl
            refine lv_iload_n S.1 S.2.1 dX7_takesNumber_74 rfl (lv_at hl 0 rfl) ?_
            refine lv_iconst (v := 2) S.1 S.2.1 dX7_takesNumber_75 (by decide) ?_
            refine lv_icmp_ge (tgt := 133) S.1 S.2.1 dX7_takesNumber_76 (by decide) (fun c76 => ?_) (fun c76 => ?_)
            · skip
              have hdg : dgs tf tl 2 (p + 1) (tf p - 48) = (q, v) := by
                rw [hinv]
                first
                  | (rw [show 2 - i = 0 by have := (nI_leI (a := 2) (b := i) (by omega) (by omega)).mp c76; omega]; rfl)
                  | (rw [show 2 - i = (2 - i - 1) + 1 by omega]; rw [dgs_step]; first | (rw [if_pos ((v_0 hvb.1).mp c83)]; done) | (rw [if_neg hv9, if_neg (fun h => hr87.f c90 (digB_iff.mp h))]; done))
              refine lv_aload_n S.1 S.2.1 dX7_takesNumber_133 rfl (lv_at hl 2 rfl) ?_
              refine lv_iload_n S.1 S.2.1 dX7_takesNumber_134 rfl (lv_at hl 1 rfl) ?_
              refine lv_if_eq (tgt := 146) S.1 S.2.1 dX7_takesNumber_135 (by decide) (fun c135 => ?_) (fun c135 => ?_)
              · skip
                refine lv_aload_n S.1 S.2.1 dX7_takesNumber_146 rfl (lv_at hl 2 rfl) ?_
                refine x_get S hK hP dX7_takesNumber_147 h65 (by decide) (RX7, TX7, 19) rfl hin7 17 (by decide) fl161 rfl ?_
                refine x_put S hK hJ hP hS dX7_takesNumber_150 h65 (by decide) (RX7, TX7, 19) rfl hin7 tyX7 tyX7_ok nmX7 17 (by decide) fl161 rfl rfl rfl (Nat.le_of_ble_eq_true rfl) (fun H locs E1_2 hu hP hS => ?_)
                have h65 : E1_2 65 = mO g kp fi hi od bs bb bf (nI tl) (nI q) v := hu.1
                have h73 : E1_2 73 = .inl (xC g, 60, .inl tf) := (hu.2 _ (by omega)).trans h73
                have hfr : ∀ j, j ≠ 65 → E1_2 j = E j := fun j hj => (hu.2 j (by omega)).trans (hfr j hj)
                refine lv_iconst (v := 1) S.1 S.2.1 dX7_takesNumber_153 (by decide) ?_
                exact x_zret S hr hlocks hP hS dX7_takesNumber_154 rfl (by rw [hnum]; have hn : numB tf tl false p = (true, q, v) := by { unfold numB; rw [if_pos (digB_iff.mpr hd20), if_neg (by simp), hdg]; rfl }; rw [hn]; exact ⟨xb.one rfl, ⟨_, h65, fun _ => rfl⟩, hfr⟩)
              · skip
                exact absurd c135 (by decide)
            · skip
              have hi2 : i < 2 := Nat.not_le.mp (fun h => c76 ((nI_leI (a := 2) (b := i) (by omega) (by omega)).mpr h))
              refine lv_aload_n S.1 S.2.1 dX7_takesNumber_79 rfl (lv_at hl 2 rfl) ?_
              refine x_get S hK hP dX7_takesNumber_80 h65 (by decide) (RX7, TX7, 19) rfl hin7 17 (by decide) fl161 rfl ?_
              refine lv_if_le (tgt := 133) S.1 S.2.1 dX7_takesNumber_83 (by decide) (fun c83 => ?_) (fun c83 => ?_)
              · skip
                have hdg : dgs tf tl 2 (p + 1) (tf p - 48) = (q, v) := by
                  rw [hinv]
                  first
                    | (rw [show 2 - i = 0 by have := (nI_leI (a := 2) (b := i) (by omega) (by omega)).mp c76; omega]; rfl)
                    | (rw [show 2 - i = (2 - i - 1) + 1 by omega]; rw [dgs_step]; first | (rw [if_pos ((v_0 hvb.1).mp c83)]; done) | (rw [if_neg hv9, if_neg (fun h => hr87.f c90 (digB_iff.mp h))]; done))
                refine lv_aload_n S.1 S.2.1 dX7_takesNumber_133 rfl (lv_at hl 2 rfl) ?_
                refine lv_iload_n S.1 S.2.1 dX7_takesNumber_134 rfl (lv_at hl 1 rfl) ?_
                refine lv_if_eq (tgt := 146) S.1 S.2.1 dX7_takesNumber_135 (by decide) (fun c135 => ?_) (fun c135 => ?_)
                · skip
                  refine lv_aload_n S.1 S.2.1 dX7_takesNumber_146 rfl (lv_at hl 2 rfl) ?_
                  refine x_get S hK hP dX7_takesNumber_147 h65 (by decide) (RX7, TX7, 19) rfl hin7 17 (by decide) fl161 rfl ?_
                  refine x_put S hK hJ hP hS dX7_takesNumber_150 h65 (by decide) (RX7, TX7, 19) rfl hin7 tyX7 tyX7_ok nmX7 17 (by decide) fl161 rfl rfl rfl (Nat.le_of_ble_eq_true rfl) (fun H locs E1_3 hu hP hS => ?_)
                  have h65 : E1_3 65 = mO g kp fi hi od bs bb bf (nI tl) (nI q) v := hu.1
                  have h73 : E1_3 73 = .inl (xC g, 60, .inl tf) := (hu.2 _ (by omega)).trans h73
                  have hfr : ∀ j, j ≠ 65 → E1_3 j = E j := fun j hj => (hu.2 j (by omega)).trans (hfr j hj)
                  refine lv_iconst (v := 1) S.1 S.2.1 dX7_takesNumber_153 (by decide) ?_
                  exact x_zret S hr hlocks hP hS dX7_takesNumber_154 rfl (by rw [hnum]; have hn : numB tf tl false p = (true, q, v) := by { unfold numB; rw [if_pos (digB_iff.mpr hd20), if_neg (by simp), hdg]; rfl }; rw [hn]; exact ⟨xb.one rfl, ⟨_, h65, fun _ => rfl⟩, hfr⟩)
                · skip
                  exact absurd c135 (by decide)
              · skip
                have hv9 : ¬ v = 0 := fun h => c83 ((v_0 hvb.1).mpr h)
                refine lv_aload_n S.1 S.2.1 dX7_takesNumber_86 rfl (lv_at hl 2 rfl) ?_
                refine x_si (va_runV (As := []) (rest := []) S (c_X7_isDigit l g EL h65 h73 htl hq9) (cwV 0 S.2.2.2.2 gX7_takesNumber_X7_isDigit rfl rfl rfl (by decide +kernel) ⟨Nat.le_of_ble_eq_true rfl, Nat.le_of_ble_eq_true rfl⟩) (x_preV hK hP h65 (by decide) rfl) rfl rfl hl.1 rfl (lv_room (Nat.le_of_ble_eq_true rfl)) dX7_takesNumber_87 ⟨Nat.le_of_ble_eq_true rfl, Nat.le_of_ble_eq_true rfl⟩) (fun r87 hr87 => ?_)
                refine lv_if_eq (tgt := 133) S.1 S.2.1 dX7_takesNumber_90 (by decide) (fun c90 => ?_) (fun c90 => ?_)
                · skip
                  have hdg : dgs tf tl 2 (p + 1) (tf p - 48) = (q, v) := by
                    rw [hinv]
                    first
                      | (rw [show 2 - i = 0 by have := (nI_leI (a := 2) (b := i) (by omega) (by omega)).mp c76; omega]; rfl)
                      | (rw [show 2 - i = (2 - i - 1) + 1 by omega]; rw [dgs_step]; first | (rw [if_pos ((v_0 hvb.1).mp c83)]; done) | (rw [if_neg hv9, if_neg (fun h => hr87.f c90 (digB_iff.mp h))]; done))
                  refine lv_aload_n S.1 S.2.1 dX7_takesNumber_133 rfl (lv_at hl 2 rfl) ?_
                  refine lv_iload_n S.1 S.2.1 dX7_takesNumber_134 rfl (lv_at hl 1 rfl) ?_
                  refine lv_if_eq (tgt := 146) S.1 S.2.1 dX7_takesNumber_135 (by decide) (fun c135 => ?_) (fun c135 => ?_)
                  · skip
                    refine lv_aload_n S.1 S.2.1 dX7_takesNumber_146 rfl (lv_at hl 2 rfl) ?_
                    refine x_get S hK hP dX7_takesNumber_147 h65 (by decide) (RX7, TX7, 19) rfl hin7 17 (by decide) fl161 rfl ?_
                    refine x_put S hK hJ hP hS dX7_takesNumber_150 h65 (by decide) (RX7, TX7, 19) rfl hin7 tyX7 tyX7_ok nmX7 17 (by decide) fl161 rfl rfl rfl (Nat.le_of_ble_eq_true rfl) (fun H locs E1_4 hu hP hS => ?_)
                    have h65 : E1_4 65 = mO g kp fi hi od bs bb bf (nI tl) (nI q) v := hu.1
                    have h73 : E1_4 73 = .inl (xC g, 60, .inl tf) := (hu.2 _ (by omega)).trans h73
                    have hfr : ∀ j, j ≠ 65 → E1_4 j = E j := fun j hj => (hu.2 j (by omega)).trans (hfr j hj)
                    refine lv_iconst (v := 1) S.1 S.2.1 dX7_takesNumber_153 (by decide) ?_
                    exact x_zret S hr hlocks hP hS dX7_takesNumber_154 rfl (by rw [hnum]; have hn : numB tf tl false p = (true, q, v) := by { unfold numB; rw [if_pos (digB_iff.mpr hd20), if_neg (by simp), hdg]; rfl }; rw [hn]; exact ⟨xb.one rfl, ⟨_, h65, fun _ => rfl⟩, hfr⟩)
                  · skip
                    exact absurd c135 (by decide)
                · skip
                  have hd87 := hr87.t c90
                  obtain ⟨e1, e2, e3⟩ := dg_b hd87
                  have hB : vB i ≤ 99 := by unfold vB; split <;> (try split) <;> omega
                  obtain ⟨s1, s2, s3⟩ := dg_s hvb hB ⟨e2, e3⟩
                  refine lv_aload_n S.1 S.2.1 dX7_takesNumber_93 rfl (lv_at hl 2 rfl) ?_
                  refine lv_bipush (v := 10) S.1 S.2.1 dX7_takesNumber_94 (by decide) ?_
                  refine lv_aload_n S.1 S.2.1 dX7_takesNumber_96 rfl (lv_at hl 2 rfl) ?_
                  refine x_get S hK hP dX7_takesNumber_97 h65 (by decide) (RX7, TX7, 19) rfl hin7 17 (by decide) fl161 rfl ?_
                  refine lv_imul S.1 S.2.1 dX7_takesNumber_100 ?_
                  refine lv_aload_n S.1 S.2.1 dX7_takesNumber_101 rfl (lv_at hl 2 rfl) ?_
                  refine x_get S hK hP dX7_takesNumber_102 h65 (by decide) (RX7, TX7, 19) rfl hin7 15 (by decide) fl31 rfl ?_
                  refine lv_aload_n S.1 S.2.1 dX7_takesNumber_105 rfl (lv_at hl 2 rfl) ?_
                  refine x_get S hK hP dX7_takesNumber_106 h65 (by decide) (RX7, TX7, 19) rfl hin7 16 (by decide) fl152 rfl ?_
                  refine x_cald S hK hP dX7_takesNumber_109 h73 (by decide) (j := q) rfl (by have := hd87.1; omega) (by decide) ?_
                  refine lv_iadd S.1 S.2.1 dX7_takesNumber_110 ?_
                  refine lv_bipush (v := 48) S.1 S.2.1 dX7_takesNumber_111 (by decide) ?_
                  refine lv_isub S.1 S.2.1 dX7_takesNumber_113 ?_
                  refine x_put S hK hJ hP hS dX7_takesNumber_114 h65 (by decide) (RX7, TX7, 19) rfl hin7 tyX7 tyX7_ok nmX7 17 (by decide) fl161 rfl rfl rfl (Nat.le_of_ble_eq_true rfl) (fun H locs E1_5 hu hP hS => ?_)
                  have h65 : E1_5 65 = mO g kp fi hi od bs bb bf (nI tl) (nI q) (((10 * v) + (tf q)) - 48) := hu.1
                  have h73 : E1_5 73 = .inl (xC g, 60, .inl tf) := (hu.2 _ (by omega)).trans h73
                  have hfr : ∀ j, j ≠ 65 → E1_5 j = E j := fun j hj => (hu.2 j (by omega)).trans (hfr j hj)
                  refine lv_aload_n S.1 S.2.1 dX7_takesNumber_117 rfl (lv_at hl 2 rfl) ?_
                  refine lv_dup S.1 S.2.1 dX7_takesNumber_118 rfl ?_
                  refine x_get S hK hP dX7_takesNumber_119 h65 (by decide) (RX7, TX7, 19) rfl hin7 16 (by decide) fl152 rfl ?_
                  refine lv_iconst (v := 1) S.1 S.2.1 dX7_takesNumber_122 (by decide) ?_
                  refine lv_iadd S.1 S.2.1 dX7_takesNumber_123 ?_
                  refine x_put S hK hJ hP hS dX7_takesNumber_124 h65 (by decide) (RX7, TX7, 19) rfl hin7 tyX7 tyX7_ok nmX7 16 (by decide) fl152 rfl rfl rfl (Nat.le_of_ble_eq_true rfl) (fun H locs E1_6 hu hP hS => ?_)
                  have h65 : E1_6 65 = mO g kp fi hi od bs bb bf (nI tl) ((nI q) + 1) (((10 * v) + (tf q)) - 48) := hu.1
                  have h73 : E1_6 73 = .inl (xC g, 60, .inl tf) := (hu.2 _ (by omega)).trans h73
                  have hfr : ∀ j, j ≠ 65 → E1_6 j = E j := fun j hj => (hu.2 j (by omega)).trans (hfr j hj)
                  refine lv_iinc (v := nI (i + 1)) (lv' := [(3, .int (nI (i + 1))), (2, .int 0), (0, .ref (xad g 65)), (1, .int 0)]) S.1 S.2.1 dX7_takesNumber_127 hl (k := 0) rfl (show nI i + Int32.ofInt 1 = _ from nI_1 _) (by decide) rfl (fun ls hl => ?_)
                  refine lv_goto (tgt := 74) S.1 S.2.1 dX7_takesNumber_130 (by decide) ?_
                  exact ih74 (q + 1) (10 * v + (tf q - 48)) (i + 1) _ _ _ (by omega) (by have := hd87.1; omega) (by rw [hinv, show 2 - i = (2 - (i + 1)) + 1 by omega]; rw [dgs_step, if_neg hv9, if_pos (digB_iff.mpr hd87)]) ⟨s2, Int.le_trans s3 (vB_s hi2)⟩ (by omega) (by rw [← s1, ← nI_1]; exact h65) h73 hfr hP hS ls (lv_sub hl [0, 1, 2, 3] rfl)
        exact loop74 _ (p + 1) _ 0 _ _ _ (Nat.zero_le _) (by have := hd20.1; omega) rfl ⟨by omega, by show _ ≤ (9 : Int); omega⟩ (Nat.lt_succ_self _) (by rw [← nI_1]; exact h65) h73 hfr hP hS ls (lv_sub hl [0, 1, 2, 3] rfl)
      · skip
        exact absurd c27 (by decide)
  · skip
    exact absurd c1 (by decide)
set_option maxHeartbeats 4000000 in
set_option maxRecDepth 100000 in
theorem c_X7_takesNumber_s (l : Launch) (g : xG) (hJ : xJ (xad g)) (E : Nat → va_E) {kp fi hi od bs bb bf nu : Int32} {tl p : Nat} (h65 : E 65 = mO g kp fi hi od bs bb bf (nI tl) (nI p) nu) {tf : Nat → Int32} (h73 : E 73 = .inl (xC g, 60, .inl tf)) (htl : tl ≤ 60) (hp : p ≤ tl) : Met l yX7_takesNumber wsX7_takesNumber ({ frames := 2, cells := 0, slots := 0, locals := 42 }) (xPc g [.ref (xad g 65), .int 1] E) (xQi g (fun r E1 => xb ((num tf tl true p).1 = true) r ∧ (∃ nu9 : Int32, E1 65 = mO g kp fi hi od bs bb bf (nI tl) (nI (num tf tl true p).2.1) nu9 ∧ ((num tf tl true p).1 = true → nu9 = (num tf tl true p).2.2)) ∧ ∀ j, j ≠ 65 → E1 j = E j)) 0 0 (xA (xad g)) := by
  refine x_met (ws' := _) (by decide) rfl (Nat.le_of_ble_eq_true rfl) ?_
  intro pz ez s m below meth cz ls S hr hlocks hP hK hl
  have hl : lv_has ls 4 [(0, .ref (xad g 65)), (1, .int 1)] := hl
  have hS : va_S (xA (xad g)) s.heap s.heap [] := va_S.rf
  have hin7 : ∀ w ∈ u_ws RX7 TX7 19, w ∈ wsX7_takesNumber := by decide +kernel
  have fl31 : Cond.fieldLink RX7 31 "DiscArcsModel" "text" "[C" ∈ wsX7_takesNumber := by decide +kernel
  have fl152 : Cond.fieldLink RX7 152 "DiscArcsModel" "at" "I" ∈ wsX7_takesNumber := by decide +kernel
  have fl161 : Cond.fieldLink RX7 161 "DiscArcsModel" "number" "I" ∈ wsX7_takesNumber := by decide +kernel
  have hfr : ∀ j, j ≠ 65 → E j = E j := fun _ _ => rfl
  refine lv_iload_n S.1 S.2.1 dX7_takesNumber_0 rfl (lv_at hl 1 rfl) ?_
  refine lv_if_eq (tgt := 17) S.1 S.2.1 dX7_takesNumber_1 (by decide) (fun c1 => ?_) (fun c1 => ?_)
  · skip
    exact absurd c1 (by decide)
  · skip
    refine lv_aload_n S.1 S.2.1 dX7_takesNumber_4 rfl (lv_at hl 0 rfl) ?_
    refine lv_bipush (v := 45) S.1 S.2.1 dX7_takesNumber_5 (by decide) ?_
    refine x_qi (va_runV (As := [.int 45]) (rest := []) S (c_X7_takes l g hJ E h65 h73 htl hp 45) (cwV 1 S.2.2.2.2 gX7_takesNumber_X7_takes rfl rfl rfl (by decide +kernel) ⟨Nat.le_of_ble_eq_true rfl, Nat.le_of_ble_eq_true rfl⟩) (x_preV hK hP h65 (by decide) rfl) rfl rfl hl.1 rfl (lv_room (Nat.le_of_ble_eq_true rfl)) dX7_takesNumber_7 ⟨Nat.le_of_ble_eq_true rfl, Nat.le_of_ble_eq_true rfl⟩) hS (fun r7 E1 H locs hq7 hP hS => ?_)
    obtain ⟨hr7, h65, hfr7⟩ := hq7
    have h73 : E1 73 = .inl (xC g, 60, .inl tf) := (hfr7 _ (by decide)).trans h73
    have hfr : ∀ j, j ≠ 65 → E1 j = E j := hfr7
    have hp9 := pas_le (f := tf) (c := 45) hp
    have hnum : num tf tl true p = numB tf tl (pas tf tl 45 p).1 (pas tf tl 45 p).2 := rfl
    generalize (pas tf tl 45 p).1 = b9 at *
    generalize (pas tf tl 45 p).2 = p9 at *
    refine lv_if_eq (tgt := 17) S.1 S.2.1 dX7_takesNumber_10 (by decide) (fun c10 => ?_) (fun c10 => ?_)
    · skip
      refine lv_iconst (v := 0) S.1 S.2.1 dX7_takesNumber_17 (by decide) ?_
      refine lv_istore_n (lv' := [(2, .int 0), (0, .ref (xad g 65)), (1, .int 1)]) S.1 S.2.1 dX7_takesNumber_18 rfl hl (by decide) rfl (fun ls hl => ?_)
      have hb9 : b9 = false := by exact Bool.eq_false_iff.mpr (hr7.f c10)
      rw [hb9] at hnum
      refine lv_aload_n S.1 S.2.1 dX7_takesNumber_19 rfl (lv_at hl 1 rfl) ?_
      refine x_si (va_runV (As := []) (rest := []) S (c_X7_isDigit l g E1 h65 h73 htl hp9) (cwV 0 S.2.2.2.2 gX7_takesNumber_X7_isDigit rfl rfl rfl (by decide +kernel) ⟨Nat.le_of_ble_eq_true rfl, Nat.le_of_ble_eq_true rfl⟩) (x_preV hK hP h65 (by decide) rfl) rfl rfl hl.1 rfl (lv_room (Nat.le_of_ble_eq_true rfl)) dX7_takesNumber_20 ⟨Nat.le_of_ble_eq_true rfl, Nat.le_of_ble_eq_true rfl⟩) (fun r20 hr20 => ?_)
      refine lv_if_eq (tgt := 44) S.1 S.2.1 dX7_takesNumber_23 (by decide) (fun c23 => ?_) (fun c23 => ?_)
      · skip
        refine lv_iconst (v := 0) S.1 S.2.1 dX7_takesNumber_44 (by decide) ?_
        exact x_zret S hr hlocks hP hS dX7_takesNumber_45 rfl (by rw [hnum]; have hn : numB tf tl false p9 = (false, p9, 0) := by { unfold numB; first | (rw [if_neg (fun h => hr20.f c23 (digB_iff.mp h))]; done) | (rw [if_pos (digB_iff.mpr hd20), if_pos (by simp [c41])]; done) }; rw [hn]; exact ⟨xb.zero (by simp), ⟨_, h65, fun h => by simp at h⟩, hfr⟩)
      · skip
        have hd20 := hr20.t c23
        obtain ⟨d1, d2, d3⟩ := dg_b hd20
        refine lv_iload_n S.1 S.2.1 dX7_takesNumber_26 rfl (lv_at hl 0 rfl) ?_
        refine lv_if_eq (tgt := 46) S.1 S.2.1 dX7_takesNumber_27 (by decide) (fun c27 => ?_) (fun c27 => ?_)
        · skip
          refine lv_aload_n S.1 S.2.1 dX7_takesNumber_46 rfl (lv_at hl 1 rfl) ?_
          refine lv_aload_n S.1 S.2.1 dX7_takesNumber_47 rfl (lv_at hl 1 rfl) ?_
          refine x_get S hK hP dX7_takesNumber_48 h65 (by decide) (RX7, TX7, 19) rfl hin7 15 (by decide) fl31 rfl ?_
          refine lv_aload_n S.1 S.2.1 dX7_takesNumber_51 rfl (lv_at hl 1 rfl) ?_
          refine x_get S hK hP dX7_takesNumber_52 h65 (by decide) (RX7, TX7, 19) rfl hin7 16 (by decide) fl152 rfl ?_
          refine x_cald S hK hP dX7_takesNumber_55 h73 (by decide) (j := p9) rfl (by have := hd20.1; omega) (by decide) ?_
          refine lv_bipush (v := 48) S.1 S.2.1 dX7_takesNumber_56 (by decide) ?_
          refine lv_isub S.1 S.2.1 dX7_takesNumber_58 ?_
          refine x_put S hK hJ hP hS dX7_takesNumber_59 h65 (by decide) (RX7, TX7, 19) rfl hin7 tyX7 tyX7_ok nmX7 17 (by decide) fl161 rfl rfl rfl (Nat.le_of_ble_eq_true rfl) (fun H locs E1_1 hu hP hS => ?_)
          have h65 : E1_1 65 = mO g kp fi hi od bs bb bf (nI tl) (nI p9) ((tf p9) - 48) := hu.1
          have h73 : E1_1 73 = .inl (xC g, 60, .inl tf) := (hu.2 _ (by omega)).trans h73
          have hfr : ∀ j, j ≠ 65 → E1_1 j = E j := fun j hj => (hu.2 j (by omega)).trans (hfr j hj)
          refine lv_aload_n S.1 S.2.1 dX7_takesNumber_62 rfl (lv_at hl 1 rfl) ?_
          refine lv_dup S.1 S.2.1 dX7_takesNumber_63 rfl ?_
          refine x_get S hK hP dX7_takesNumber_64 h65 (by decide) (RX7, TX7, 19) rfl hin7 16 (by decide) fl152 rfl ?_
          refine lv_iconst (v := 1) S.1 S.2.1 dX7_takesNumber_67 (by decide) ?_
          refine lv_iadd S.1 S.2.1 dX7_takesNumber_68 ?_
          refine x_put S hK hJ hP hS dX7_takesNumber_69 h65 (by decide) (RX7, TX7, 19) rfl hin7 tyX7 tyX7_ok nmX7 16 (by decide) fl152 rfl rfl rfl (Nat.le_of_ble_eq_true rfl) (fun H locs E1_2 hu hP hS => ?_)
          have h65 : E1_2 65 = mO g kp fi hi od bs bb bf (nI tl) ((nI p9) + 1) ((tf p9) - 48) := hu.1
          have h73 : E1_2 73 = .inl (xC g, 60, .inl tf) := (hu.2 _ (by omega)).trans h73
          have hfr : ∀ j, j ≠ 65 → E1_2 j = E j := fun j hj => (hu.2 j (by omega)).trans (hfr j hj)
          refine lv_iconst (v := 0) S.1 S.2.1 dX7_takesNumber_72 (by decide) ?_
          refine lv_istore_n (lv' := [(3, .int 0), (2, .int 0), (0, .ref (xad g 65)), (1, .int 1)]) S.1 S.2.1 dX7_takesNumber_73 rfl hl (by decide) rfl (fun ls hl => ?_)
          have loop74 : ∀ (d : Nat) (q : Nat) (v : Int32) (i : Nat) (EL : Nat → va_E) (H : Heap) (locs : List Loc), (hi3 : i ≤ 2) → (hq9 : q ≤ tl) → (hinv : dgs tf tl 2 (p9 + 1) (tf p9 - 48) = dgs tf tl (2 - i) q v) → (hvb : 0 ≤ v.toInt ∧ v.toInt ≤ vB i) → (2 - i) < d → (h65 : EL 65 = mO g kp fi hi od bs bb bf (nI tl) (nI q) v) → (h73 : EL 73 = .inl (xC g, 60, .inl tf)) → (hfr : ∀ j, j ≠ 65 → EL j = E j) → xP g EL H → va_S (xA (xad g)) s.heap H locs → ∀ ls : Array Slot, lv_has ls 4 [(3, .int (nI i)), (2, .int 0), (0, .ref (xad g 65)), (1, .int 1)] → W pz l ez ({ frames := 2, cells := 0, slots := 0, locals := 42 }) s m ([.ref (xad g 65), .int 1] : List Value).toArray below meth cz H locs 0 0 (MQ below (xQi g (fun r E1 => xb ((num tf tl true p).1 = true) r ∧ (∃ nu9 : Int32, E1 65 = mO g kp fi hi od bs bb bf (nI tl) (nI (num tf tl true p).2.1) nu9 ∧ ((num tf tl true p).1 = true → nu9 = (num tf tl true p).2.2)) ∧ ∀ j, j ≠ 65 → E1 j = E j)) ([.ref (xad g 65), .int 1] : List Value).toArray s 0 0 (xA (xad g))) (F0 m 74 ls []) := by
            intro d
            induction d with
            | zero => intro q v i EL H locs hi3 hq9 hinv hvb hd; exact absurd hd (Nat.not_lt_zero _)
            | succ d ih74 =>
              intro q v i EL H locs hi3 hq9 hinv hvb hd h65 h73 hfr hP hS ls hl
              refine lv_iload_n S.1 S.2.1 dX7_takesNumber_74 rfl (lv_at hl 0 rfl) ?_
              refine lv_iconst (v := 2) S.1 S.2.1 dX7_takesNumber_75 (by decide) ?_
              refine lv_icmp_ge (tgt := 133) S.1 S.2.1 dX7_takesNumber_76 (by decide) (fun c76 => ?_) (fun c76 => ?_)
              · skip
                have hdg : dgs tf tl 2 (p9 + 1) (tf p9 - 48) = (q, v) := by
                  rw [hinv]
                  first
                    | (rw [show 2 - i = 0 by have := (nI_leI (a := 2) (b := i) (by omega) (by omega)).mp c76; omega]; rfl)
                    | (rw [show 2 - i = (2 - i - 1) + 1 by omega]; rw [dgs_step]; first | (rw [if_pos ((v_0 hvb.1).mp c83)]; done) | (rw [if_neg hv9, if_neg (fun h => hr87.f c90 (digB_iff.mp h))]; done))
                refine lv_aload_n S.1 S.2.1 dX7_takesNumber_133 rfl (lv_at hl 2 rfl) ?_
                refine lv_iload_n S.1 S.2.1 dX7_takesNumber_134 rfl (lv_at hl 1 rfl) ?_
                refine lv_if_eq (tgt := 146) S.1 S.2.1 dX7_takesNumber_135 (by decide) (fun c135 => ?_) (fun c135 => ?_)
                · skip
                  refine lv_aload_n S.1 S.2.1 dX7_takesNumber_146 rfl (lv_at hl 2 rfl) ?_
                  refine x_get S hK hP dX7_takesNumber_147 h65 (by decide) (RX7, TX7, 19) rfl hin7 17 (by decide) fl161 rfl ?_
                  refine x_put S hK hJ hP hS dX7_takesNumber_150 h65 (by decide) (RX7, TX7, 19) rfl hin7 tyX7 tyX7_ok nmX7 17 (by decide) fl161 rfl rfl rfl (Nat.le_of_ble_eq_true rfl) (fun H locs E1_3 hu hP hS => ?_)
                  have h65 : E1_3 65 = mO g kp fi hi od bs bb bf (nI tl) (nI q) v := hu.1
                  have h73 : E1_3 73 = .inl (xC g, 60, .inl tf) := (hu.2 _ (by omega)).trans h73
                  have hfr : ∀ j, j ≠ 65 → E1_3 j = E j := fun j hj => (hu.2 j (by omega)).trans (hfr j hj)
                  refine lv_iconst (v := 1) S.1 S.2.1 dX7_takesNumber_153 (by decide) ?_
                  exact x_zret S hr hlocks hP hS dX7_takesNumber_154 rfl (by rw [hnum]; have hn : numB tf tl false p9 = (true, q, v) := by { unfold numB; rw [if_pos (digB_iff.mpr hd20), if_neg (by simp), hdg]; rfl }; rw [hn]; exact ⟨xb.one rfl, ⟨_, h65, fun _ => rfl⟩, hfr⟩)
                · skip
                  exact absurd c135 (by decide)
              · skip
                have hi2 : i < 2 := Nat.not_le.mp (fun h => c76 ((nI_leI (a := 2) (b := i) (by omega) (by omega)).mpr h))
                refine lv_aload_n S.1 S.2.1 dX7_takesNumber_79 rfl (lv_at hl 2 rfl) ?_
                refine x_get S hK hP dX7_takesNumber_80 h65 (by decide) (RX7, TX7, 19) rfl hin7 17 (by decide) fl161 rfl ?_
                refine lv_if_le (tgt := 133) S.1 S.2.1 dX7_takesNumber_83 (by decide) (fun c83 => ?_) (fun c83 => ?_)
                · skip
                  have hdg : dgs tf tl 2 (p9 + 1) (tf p9 - 48) = (q, v) := by
                    rw [hinv]
                    first
                      | (rw [show 2 - i = 0 by have := (nI_leI (a := 2) (b := i) (by omega) (by omega)).mp c76; omega]; rfl)
                      | (rw [show 2 - i = (2 - i - 1) + 1 by omega]; rw [dgs_step]; first | (rw [if_pos ((v_0 hvb.1).mp c83)]; done) | (rw [if_neg hv9, if_neg (fun h => hr87.f c90 (digB_iff.mp h))]; done))
                  refine lv_aload_n S.1 S.2.1 dX7_takesNumber_133 rfl (lv_at hl 2 rfl) ?_
                  refine lv_iload_n S.1 S.2.1 dX7_takesNumber_134 rfl (lv_at hl 1 rfl) ?_
                  refine lv_if_eq (tgt := 146) S.1 S.2.1 dX7_takesNumber_135 (by decide) (fun c135 => ?_) (fun c135 => ?_)
                  · skip
                    refine lv_aload_n S.1 S.2.1 dX7_takesNumber_146 rfl (lv_at hl 2 rfl) ?_
                    refine x_get S hK hP dX7_takesNumber_147 h65 (by decide) (RX7, TX7, 19) rfl hin7 17 (by decide) fl161 rfl ?_
                    refine x_put S hK hJ hP hS dX7_takesNumber_150 h65 (by decide) (RX7, TX7, 19) rfl hin7 tyX7 tyX7_ok nmX7 17 (by decide) fl161 rfl rfl rfl (Nat.le_of_ble_eq_true rfl) (fun H locs E1_4 hu hP hS => ?_)
                    have h65 : E1_4 65 = mO g kp fi hi od bs bb bf (nI tl) (nI q) v := hu.1
                    have h73 : E1_4 73 = .inl (xC g, 60, .inl tf) := (hu.2 _ (by omega)).trans h73
                    have hfr : ∀ j, j ≠ 65 → E1_4 j = E j := fun j hj => (hu.2 j (by omega)).trans (hfr j hj)
                    refine lv_iconst (v := 1) S.1 S.2.1 dX7_takesNumber_153 (by decide) ?_
                    exact x_zret S hr hlocks hP hS dX7_takesNumber_154 rfl (by rw [hnum]; have hn : numB tf tl false p9 = (true, q, v) := by { unfold numB; rw [if_pos (digB_iff.mpr hd20), if_neg (by simp), hdg]; rfl }; rw [hn]; exact ⟨xb.one rfl, ⟨_, h65, fun _ => rfl⟩, hfr⟩)
                  · skip
                    exact absurd c135 (by decide)
                · skip
                  have hv9 : ¬ v = 0 := fun h => c83 ((v_0 hvb.1).mpr h)
                  refine lv_aload_n S.1 S.2.1 dX7_takesNumber_86 rfl (lv_at hl 2 rfl) ?_
                  refine x_si (va_runV (As := []) (rest := []) S (c_X7_isDigit l g EL h65 h73 htl hq9) (cwV 0 S.2.2.2.2 gX7_takesNumber_X7_isDigit rfl rfl rfl (by decide +kernel) ⟨Nat.le_of_ble_eq_true rfl, Nat.le_of_ble_eq_true rfl⟩) (x_preV hK hP h65 (by decide) rfl) rfl rfl hl.1 rfl (lv_room (Nat.le_of_ble_eq_true rfl)) dX7_takesNumber_87 ⟨Nat.le_of_ble_eq_true rfl, Nat.le_of_ble_eq_true rfl⟩) (fun r87 hr87 => ?_)
                  refine lv_if_eq (tgt := 133) S.1 S.2.1 dX7_takesNumber_90 (by decide) (fun c90 => ?_) (fun c90 => ?_)
                  · skip
                    have hdg : dgs tf tl 2 (p9 + 1) (tf p9 - 48) = (q, v) := by
                      rw [hinv]
                      first
                        | (rw [show 2 - i = 0 by have := (nI_leI (a := 2) (b := i) (by omega) (by omega)).mp c76; omega]; rfl)
                        | (rw [show 2 - i = (2 - i - 1) + 1 by omega]; rw [dgs_step]; first | (rw [if_pos ((v_0 hvb.1).mp c83)]; done) | (rw [if_neg hv9, if_neg (fun h => hr87.f c90 (digB_iff.mp h))]; done))
                    refine lv_aload_n S.1 S.2.1 dX7_takesNumber_133 rfl (lv_at hl 2 rfl) ?_
                    refine lv_iload_n S.1 S.2.1 dX7_takesNumber_134 rfl (lv_at hl 1 rfl) ?_
                    refine lv_if_eq (tgt := 146) S.1 S.2.1 dX7_takesNumber_135 (by decide) (fun c135 => ?_) (fun c135 => ?_)
                    · skip
                      refine lv_aload_n S.1 S.2.1 dX7_takesNumber_146 rfl (lv_at hl 2 rfl) ?_
                      refine x_get S hK hP dX7_takesNumber_147 h65 (by decide) (RX7, TX7, 19) rfl hin7 17 (by decide) fl161 rfl ?_
                      refine x_put S hK hJ hP hS dX7_takesNumber_150 h65 (by decide) (RX7, TX7, 19) rfl hin7 tyX7 tyX7_ok nmX7 17 (by decide) fl161 rfl rfl rfl (Nat.le_of_ble_eq_true rfl) (fun H locs E1_5 hu hP hS => ?_)
                      have h65 : E1_5 65 = mO g kp fi hi od bs bb bf (nI tl) (nI q) v := hu.1
                      have h73 : E1_5 73 = .inl (xC g, 60, .inl tf) := (hu.2 _ (by omega)).trans h73
                      have hfr : ∀ j, j ≠ 65 → E1_5 j = E j := fun j hj => (hu.2 j (by omega)).trans (hfr j hj)
                      refine lv_iconst (v := 1) S.1 S.2.1 dX7_takesNumber_153 (by decide) ?_
                      exact x_zret S hr hlocks hP hS dX7_takesNumber_154 rfl (by rw [hnum]; have hn : numB tf tl false p9 = (true, q, v) := by { unfold numB; rw [if_pos (digB_iff.mpr hd20), if_neg (by simp), hdg]; rfl }; rw [hn]; exact ⟨xb.one rfl, ⟨_, h65, fun _ => rfl⟩, hfr⟩)
                    · skip
                      exact absurd c135 (by decide)
                  · skip
                    have hd87 := hr87.t c90
                    obtain ⟨e1, e2, e3⟩ := dg_b hd87
                    have hB : vB i ≤ 99 := by unfold vB; split <;> (try split) <;> omega
                    obtain ⟨s1, s2, s3⟩ := dg_s hvb hB ⟨e2, e3⟩
                    refine lv_aload_n S.1 S.2.1 dX7_takesNumber_93 rfl (lv_at hl 2 rfl) ?_
                    refine lv_bipush (v := 10) S.1 S.2.1 dX7_takesNumber_94 (by decide) ?_
                    refine lv_aload_n S.1 S.2.1 dX7_takesNumber_96 rfl (lv_at hl 2 rfl) ?_
                    refine x_get S hK hP dX7_takesNumber_97 h65 (by decide) (RX7, TX7, 19) rfl hin7 17 (by decide) fl161 rfl ?_
                    refine lv_imul S.1 S.2.1 dX7_takesNumber_100 ?_
                    refine lv_aload_n S.1 S.2.1 dX7_takesNumber_101 rfl (lv_at hl 2 rfl) ?_
                    refine x_get S hK hP dX7_takesNumber_102 h65 (by decide) (RX7, TX7, 19) rfl hin7 15 (by decide) fl31 rfl ?_
                    refine lv_aload_n S.1 S.2.1 dX7_takesNumber_105 rfl (lv_at hl 2 rfl) ?_
                    refine x_get S hK hP dX7_takesNumber_106 h65 (by decide) (RX7, TX7, 19) rfl hin7 16 (by decide) fl152 rfl ?_
                    refine x_cald S hK hP dX7_takesNumber_109 h73 (by decide) (j := q) rfl (by have := hd87.1; omega) (by decide) ?_
                    refine lv_iadd S.1 S.2.1 dX7_takesNumber_110 ?_
                    refine lv_bipush (v := 48) S.1 S.2.1 dX7_takesNumber_111 (by decide) ?_
                    refine lv_isub S.1 S.2.1 dX7_takesNumber_113 ?_
                    refine x_put S hK hJ hP hS dX7_takesNumber_114 h65 (by decide) (RX7, TX7, 19) rfl hin7 tyX7 tyX7_ok nmX7 17 (by decide) fl161 rfl rfl rfl (Nat.le_of_ble_eq_true rfl) (fun H locs E1_6 hu hP hS => ?_)
                    have h65 : E1_6 65 = mO g kp fi hi od bs bb bf (nI tl) (nI q) (((10 * v) + (tf q)) - 48) := hu.1
                    have h73 : E1_6 73 = .inl (xC g, 60, .inl tf) := (hu.2 _ (by omega)).trans h73
                    have hfr : ∀ j, j ≠ 65 → E1_6 j = E j := fun j hj => (hu.2 j (by omega)).trans (hfr j hj)
                    refine lv_aload_n S.1 S.2.1 dX7_takesNumber_117 rfl (lv_at hl 2 rfl) ?_
                    refine lv_dup S.1 S.2.1 dX7_takesNumber_118 rfl ?_
                    refine x_get S hK hP dX7_takesNumber_119 h65 (by decide) (RX7, TX7, 19) rfl hin7 16 (by decide) fl152 rfl ?_
                    refine lv_iconst (v := 1) S.1 S.2.1 dX7_takesNumber_122 (by decide) ?_
                    refine lv_iadd S.1 S.2.1 dX7_takesNumber_123 ?_
                    refine x_put S hK hJ hP hS dX7_takesNumber_124 h65 (by decide) (RX7, TX7, 19) rfl hin7 tyX7 tyX7_ok nmX7 16 (by decide) fl152 rfl rfl rfl (Nat.le_of_ble_eq_true rfl) (fun H locs E1_7 hu hP hS => ?_)
                    have h65 : E1_7 65 = mO g kp fi hi od bs bb bf (nI tl) ((nI q) + 1) (((10 * v) + (tf q)) - 48) := hu.1
                    have h73 : E1_7 73 = .inl (xC g, 60, .inl tf) := (hu.2 _ (by omega)).trans h73
                    have hfr : ∀ j, j ≠ 65 → E1_7 j = E j := fun j hj => (hu.2 j (by omega)).trans (hfr j hj)
                    refine lv_iinc (v := nI (i + 1)) (lv' := [(3, .int (nI (i + 1))), (2, .int 0), (0, .ref (xad g 65)), (1, .int 1)]) S.1 S.2.1 dX7_takesNumber_127 hl (k := 0) rfl (show nI i + Int32.ofInt 1 = _ from nI_1 _) (by decide) rfl (fun ls hl => ?_)
                    refine lv_goto (tgt := 74) S.1 S.2.1 dX7_takesNumber_130 (by decide) ?_
                    exact ih74 (q + 1) (10 * v + (tf q - 48)) (i + 1) _ _ _ (by omega) (by have := hd87.1; omega) (by rw [hinv, show 2 - i = (2 - (i + 1)) + 1 by omega]; rw [dgs_step, if_neg hv9, if_pos (digB_iff.mpr hd87)]) ⟨s2, Int.le_trans s3 (vB_s hi2)⟩ (by omega) (by rw [← s1, ← nI_1]; exact h65) h73 hfr hP hS ls (lv_sub hl [0, 1, 2, 3] rfl)
          exact loop74 _ (p9 + 1) _ 0 _ _ _ (Nat.zero_le _) (by have := hd20.1; omega) rfl ⟨by omega, by show _ ≤ (9 : Int); omega⟩ (Nat.lt_succ_self _) (by rw [← nI_1]; exact h65) h73 hfr hP hS ls (lv_sub hl [0, 1, 2, 3] rfl)
        · skip
          exact absurd c27 (by decide)
    · skip
      refine lv_iconst (v := 1) S.1 S.2.1 dX7_takesNumber_13 (by decide) ?_
      refine lv_goto (tgt := 18) S.1 S.2.1 dX7_takesNumber_14 (by decide) ?_
      refine lv_istore_n (lv' := [(2, .int 1), (0, .ref (xad g 65)), (1, .int 1)]) S.1 S.2.1 dX7_takesNumber_18 rfl hl (by decide) rfl (fun ls hl => ?_)
      have hb9 : b9 = true := by exact hr7.t c10
      rw [hb9] at hnum
      refine lv_aload_n S.1 S.2.1 dX7_takesNumber_19 rfl (lv_at hl 1 rfl) ?_
      refine x_si (va_runV (As := []) (rest := []) S (c_X7_isDigit l g E1 h65 h73 htl hp9) (cwV 0 S.2.2.2.2 gX7_takesNumber_X7_isDigit rfl rfl rfl (by decide +kernel) ⟨Nat.le_of_ble_eq_true rfl, Nat.le_of_ble_eq_true rfl⟩) (x_preV hK hP h65 (by decide) rfl) rfl rfl hl.1 rfl (lv_room (Nat.le_of_ble_eq_true rfl)) dX7_takesNumber_20 ⟨Nat.le_of_ble_eq_true rfl, Nat.le_of_ble_eq_true rfl⟩) (fun r20 hr20 => ?_)
      refine lv_if_eq (tgt := 44) S.1 S.2.1 dX7_takesNumber_23 (by decide) (fun c23 => ?_) (fun c23 => ?_)
      · skip
        refine lv_iconst (v := 0) S.1 S.2.1 dX7_takesNumber_44 (by decide) ?_
        exact x_zret S hr hlocks hP hS dX7_takesNumber_45 rfl (by rw [hnum]; have hn : numB tf tl true p9 = (false, p9, 0) := by { unfold numB; first | (rw [if_neg (fun h => hr20.f c23 (digB_iff.mp h))]; done) | (rw [if_pos (digB_iff.mpr hd20), if_pos (by simp [c41])]; done) }; rw [hn]; exact ⟨xb.zero (by simp), ⟨_, h65, fun h => by simp at h⟩, hfr⟩)
      · skip
        have hd20 := hr20.t c23
        obtain ⟨d1, d2, d3⟩ := dg_b hd20
        refine lv_iload_n S.1 S.2.1 dX7_takesNumber_26 rfl (lv_at hl 0 rfl) ?_
        refine lv_if_eq (tgt := 46) S.1 S.2.1 dX7_takesNumber_27 (by decide) (fun c27 => ?_) (fun c27 => ?_)
        · skip
          exact absurd c27 (by decide)
        · skip
          refine lv_aload_n S.1 S.2.1 dX7_takesNumber_30 rfl (lv_at hl 1 rfl) ?_
          refine x_get S hK hP dX7_takesNumber_31 h65 (by decide) (RX7, TX7, 19) rfl hin7 15 (by decide) fl31 rfl ?_
          refine lv_aload_n S.1 S.2.1 dX7_takesNumber_34 rfl (lv_at hl 1 rfl) ?_
          refine x_get S hK hP dX7_takesNumber_35 h65 (by decide) (RX7, TX7, 19) rfl hin7 16 (by decide) fl152 rfl ?_
          refine x_cald S hK hP dX7_takesNumber_38 h73 (by decide) (j := p9) rfl (by have := hd20.1; omega) (by decide) ?_
          refine lv_bipush (v := 48) S.1 S.2.1 dX7_takesNumber_39 (by decide) ?_
          refine lv_icmp_ne (tgt := 46) S.1 S.2.1 dX7_takesNumber_41 (by decide) (fun c41 => ?_) (fun c41 => ?_)
          · skip
            refine lv_aload_n S.1 S.2.1 dX7_takesNumber_46 rfl (lv_at hl 1 rfl) ?_
            refine lv_aload_n S.1 S.2.1 dX7_takesNumber_47 rfl (lv_at hl 1 rfl) ?_
            refine x_get S hK hP dX7_takesNumber_48 h65 (by decide) (RX7, TX7, 19) rfl hin7 15 (by decide) fl31 rfl ?_
            refine lv_aload_n S.1 S.2.1 dX7_takesNumber_51 rfl (lv_at hl 1 rfl) ?_
            refine x_get S hK hP dX7_takesNumber_52 h65 (by decide) (RX7, TX7, 19) rfl hin7 16 (by decide) fl152 rfl ?_
            refine x_cald S hK hP dX7_takesNumber_55 h73 (by decide) (j := p9) rfl (by have := hd20.1; omega) (by decide) ?_
            refine lv_bipush (v := 48) S.1 S.2.1 dX7_takesNumber_56 (by decide) ?_
            refine lv_isub S.1 S.2.1 dX7_takesNumber_58 ?_
            refine x_put S hK hJ hP hS dX7_takesNumber_59 h65 (by decide) (RX7, TX7, 19) rfl hin7 tyX7 tyX7_ok nmX7 17 (by decide) fl161 rfl rfl rfl (Nat.le_of_ble_eq_true rfl) (fun H locs E1_8 hu hP hS => ?_)
            have h65 : E1_8 65 = mO g kp fi hi od bs bb bf (nI tl) (nI p9) ((tf p9) - 48) := hu.1
            have h73 : E1_8 73 = .inl (xC g, 60, .inl tf) := (hu.2 _ (by omega)).trans h73
            have hfr : ∀ j, j ≠ 65 → E1_8 j = E j := fun j hj => (hu.2 j (by omega)).trans (hfr j hj)
            refine lv_aload_n S.1 S.2.1 dX7_takesNumber_62 rfl (lv_at hl 1 rfl) ?_
            refine lv_dup S.1 S.2.1 dX7_takesNumber_63 rfl ?_
            refine x_get S hK hP dX7_takesNumber_64 h65 (by decide) (RX7, TX7, 19) rfl hin7 16 (by decide) fl152 rfl ?_
            refine lv_iconst (v := 1) S.1 S.2.1 dX7_takesNumber_67 (by decide) ?_
            refine lv_iadd S.1 S.2.1 dX7_takesNumber_68 ?_
            refine x_put S hK hJ hP hS dX7_takesNumber_69 h65 (by decide) (RX7, TX7, 19) rfl hin7 tyX7 tyX7_ok nmX7 16 (by decide) fl152 rfl rfl rfl (Nat.le_of_ble_eq_true rfl) (fun H locs E1_9 hu hP hS => ?_)
            have h65 : E1_9 65 = mO g kp fi hi od bs bb bf (nI tl) ((nI p9) + 1) ((tf p9) - 48) := hu.1
            have h73 : E1_9 73 = .inl (xC g, 60, .inl tf) := (hu.2 _ (by omega)).trans h73
            have hfr : ∀ j, j ≠ 65 → E1_9 j = E j := fun j hj => (hu.2 j (by omega)).trans (hfr j hj)
            refine lv_iconst (v := 0) S.1 S.2.1 dX7_takesNumber_72 (by decide) ?_
            refine lv_istore_n (lv' := [(3, .int 0), (2, .int 1), (0, .ref (xad g 65)), (1, .int 1)]) S.1 S.2.1 dX7_takesNumber_73 rfl hl (by decide) rfl (fun ls hl => ?_)
            have loop74 : ∀ (d : Nat) (q : Nat) (v : Int32) (i : Nat) (EL : Nat → va_E) (H : Heap) (locs : List Loc), (hi3 : i ≤ 2) → (hq9 : q ≤ tl) → (hinv : dgs tf tl 2 (p9 + 1) (tf p9 - 48) = dgs tf tl (2 - i) q v) → (hvb : 0 ≤ v.toInt ∧ v.toInt ≤ vB i) → (2 - i) < d → (h65 : EL 65 = mO g kp fi hi od bs bb bf (nI tl) (nI q) v) → (h73 : EL 73 = .inl (xC g, 60, .inl tf)) → (hfr : ∀ j, j ≠ 65 → EL j = E j) → xP g EL H → va_S (xA (xad g)) s.heap H locs → ∀ ls : Array Slot, lv_has ls 4 [(3, .int (nI i)), (2, .int 1), (0, .ref (xad g 65)), (1, .int 1)] → W pz l ez ({ frames := 2, cells := 0, slots := 0, locals := 42 }) s m ([.ref (xad g 65), .int 1] : List Value).toArray below meth cz H locs 0 0 (MQ below (xQi g (fun r E1 => xb ((num tf tl true p).1 = true) r ∧ (∃ nu9 : Int32, E1 65 = mO g kp fi hi od bs bb bf (nI tl) (nI (num tf tl true p).2.1) nu9 ∧ ((num tf tl true p).1 = true → nu9 = (num tf tl true p).2.2)) ∧ ∀ j, j ≠ 65 → E1 j = E j)) ([.ref (xad g 65), .int 1] : List Value).toArray s 0 0 (xA (xad g))) (F0 m 74 ls []) := by
              intro d
              induction d with
              | zero => intro q v i EL H locs hi3 hq9 hinv hvb hd; exact absurd hd (Nat.not_lt_zero _)
              | succ d ih74 =>
                intro q v i EL H locs hi3 hq9 hinv hvb hd h65 h73 hfr hP hS ls hl
                refine lv_iload_n S.1 S.2.1 dX7_takesNumber_74 rfl (lv_at hl 0 rfl) ?_
                refine lv_iconst (v := 2) S.1 S.2.1 dX7_takesNumber_75 (by decide) ?_
                refine lv_icmp_ge (tgt := 133) S.1 S.2.1 dX7_takesNumber_76 (by decide) (fun c76 => ?_) (fun c76 => ?_)
                · skip
                  have hdg : dgs tf tl 2 (p9 + 1) (tf p9 - 48) = (q, v) := by
                    rw [hinv]
                    first
                      | (rw [show 2 - i = 0 by have := (nI_leI (a := 2) (b := i) (by omega) (by omega)).mp c76; omega]; rfl)
                      | (rw [show 2 - i = (2 - i - 1) + 1 by omega]; rw [dgs_step]; first | (rw [if_pos ((v_0 hvb.1).mp c83)]; done) | (rw [if_neg hv9, if_neg (fun h => hr87.f c90 (digB_iff.mp h))]; done))
                  refine lv_aload_n S.1 S.2.1 dX7_takesNumber_133 rfl (lv_at hl 2 rfl) ?_
                  refine lv_iload_n S.1 S.2.1 dX7_takesNumber_134 rfl (lv_at hl 1 rfl) ?_
                  refine lv_if_eq (tgt := 146) S.1 S.2.1 dX7_takesNumber_135 (by decide) (fun c135 => ?_) (fun c135 => ?_)
                  · skip
                    exact absurd c135 (by decide)
                  · skip
                    refine lv_aload_n S.1 S.2.1 dX7_takesNumber_138 rfl (lv_at hl 2 rfl) ?_
                    refine x_get S hK hP dX7_takesNumber_139 h65 (by decide) (RX7, TX7, 19) rfl hin7 17 (by decide) fl161 rfl ?_
                    refine lv_ineg S.1 S.2.1 dX7_takesNumber_142 ?_
                    refine lv_goto (tgt := 150) S.1 S.2.1 dX7_takesNumber_143 (by decide) ?_
                    refine x_put S hK hJ hP hS dX7_takesNumber_150 h65 (by decide) (RX7, TX7, 19) rfl hin7 tyX7 tyX7_ok nmX7 17 (by decide) fl161 rfl rfl rfl (Nat.le_of_ble_eq_true rfl) (fun H locs E1_10 hu hP hS => ?_)
                    have h65 : E1_10 65 = mO g kp fi hi od bs bb bf (nI tl) (nI q) (-v) := hu.1
                    have h73 : E1_10 73 = .inl (xC g, 60, .inl tf) := (hu.2 _ (by omega)).trans h73
                    have hfr : ∀ j, j ≠ 65 → E1_10 j = E j := fun j hj => (hu.2 j (by omega)).trans (hfr j hj)
                    refine lv_iconst (v := 1) S.1 S.2.1 dX7_takesNumber_153 (by decide) ?_
                    exact x_zret S hr hlocks hP hS dX7_takesNumber_154 rfl (by rw [hnum]; have hn : numB tf tl true p9 = (true, q, -v) := by { unfold numB; rw [if_pos (digB_iff.mpr hd20), if_neg (by simp [c41]), hdg]; rfl }; rw [hn]; exact ⟨xb.one rfl, ⟨_, h65, fun _ => rfl⟩, hfr⟩)
                · skip
                  have hi2 : i < 2 := Nat.not_le.mp (fun h => c76 ((nI_leI (a := 2) (b := i) (by omega) (by omega)).mpr h))
                  refine lv_aload_n S.1 S.2.1 dX7_takesNumber_79 rfl (lv_at hl 2 rfl) ?_
                  refine x_get S hK hP dX7_takesNumber_80 h65 (by decide) (RX7, TX7, 19) rfl hin7 17 (by decide) fl161 rfl ?_
                  refine lv_if_le (tgt := 133) S.1 S.2.1 dX7_takesNumber_83 (by decide) (fun c83 => ?_) (fun c83 => ?_)
                  · skip
                    have hdg : dgs tf tl 2 (p9 + 1) (tf p9 - 48) = (q, v) := by
                      rw [hinv]
                      first
                        | (rw [show 2 - i = 0 by have := (nI_leI (a := 2) (b := i) (by omega) (by omega)).mp c76; omega]; rfl)
                        | (rw [show 2 - i = (2 - i - 1) + 1 by omega]; rw [dgs_step]; first | (rw [if_pos ((v_0 hvb.1).mp c83)]; done) | (rw [if_neg hv9, if_neg (fun h => hr87.f c90 (digB_iff.mp h))]; done))
                    refine lv_aload_n S.1 S.2.1 dX7_takesNumber_133 rfl (lv_at hl 2 rfl) ?_
                    refine lv_iload_n S.1 S.2.1 dX7_takesNumber_134 rfl (lv_at hl 1 rfl) ?_
                    refine lv_if_eq (tgt := 146) S.1 S.2.1 dX7_takesNumber_135 (by decide) (fun c135 => ?_) (fun c135 => ?_)
                    · skip
                      exact absurd c135 (by decide)
                    · skip
                      refine lv_aload_n S.1 S.2.1 dX7_takesNumber_138 rfl (lv_at hl 2 rfl) ?_
                      refine x_get S hK hP dX7_takesNumber_139 h65 (by decide) (RX7, TX7, 19) rfl hin7 17 (by decide) fl161 rfl ?_
                      refine lv_ineg S.1 S.2.1 dX7_takesNumber_142 ?_
                      refine lv_goto (tgt := 150) S.1 S.2.1 dX7_takesNumber_143 (by decide) ?_
                      refine x_put S hK hJ hP hS dX7_takesNumber_150 h65 (by decide) (RX7, TX7, 19) rfl hin7 tyX7 tyX7_ok nmX7 17 (by decide) fl161 rfl rfl rfl (Nat.le_of_ble_eq_true rfl) (fun H locs E1_11 hu hP hS => ?_)
                      have h65 : E1_11 65 = mO g kp fi hi od bs bb bf (nI tl) (nI q) (-v) := hu.1
                      have h73 : E1_11 73 = .inl (xC g, 60, .inl tf) := (hu.2 _ (by omega)).trans h73
                      have hfr : ∀ j, j ≠ 65 → E1_11 j = E j := fun j hj => (hu.2 j (by omega)).trans (hfr j hj)
                      refine lv_iconst (v := 1) S.1 S.2.1 dX7_takesNumber_153 (by decide) ?_
                      exact x_zret S hr hlocks hP hS dX7_takesNumber_154 rfl (by rw [hnum]; have hn : numB tf tl true p9 = (true, q, -v) := by { unfold numB; rw [if_pos (digB_iff.mpr hd20), if_neg (by simp [c41]), hdg]; rfl }; rw [hn]; exact ⟨xb.one rfl, ⟨_, h65, fun _ => rfl⟩, hfr⟩)
                  · skip
                    have hv9 : ¬ v = 0 := fun h => c83 ((v_0 hvb.1).mpr h)
                    refine lv_aload_n S.1 S.2.1 dX7_takesNumber_86 rfl (lv_at hl 2 rfl) ?_
                    refine x_si (va_runV (As := []) (rest := []) S (c_X7_isDigit l g EL h65 h73 htl hq9) (cwV 0 S.2.2.2.2 gX7_takesNumber_X7_isDigit rfl rfl rfl (by decide +kernel) ⟨Nat.le_of_ble_eq_true rfl, Nat.le_of_ble_eq_true rfl⟩) (x_preV hK hP h65 (by decide) rfl) rfl rfl hl.1 rfl (lv_room (Nat.le_of_ble_eq_true rfl)) dX7_takesNumber_87 ⟨Nat.le_of_ble_eq_true rfl, Nat.le_of_ble_eq_true rfl⟩) (fun r87 hr87 => ?_)
                    refine lv_if_eq (tgt := 133) S.1 S.2.1 dX7_takesNumber_90 (by decide) (fun c90 => ?_) (fun c90 => ?_)
                    · skip
                      have hdg : dgs tf tl 2 (p9 + 1) (tf p9 - 48) = (q, v) := by
                        rw [hinv]
                        first
                          | (rw [show 2 - i = 0 by have := (nI_leI (a := 2) (b := i) (by omega) (by omega)).mp c76; omega]; rfl)
                          | (rw [show 2 - i = (2 - i - 1) + 1 by omega]; rw [dgs_step]; first | (rw [if_pos ((v_0 hvb.1).mp c83)]; done) | (rw [if_neg hv9, if_neg (fun h => hr87.f c90 (digB_iff.mp h))]; done))
                      refine lv_aload_n S.1 S.2.1 dX7_takesNumber_133 rfl (lv_at hl 2 rfl) ?_
                      refine lv_iload_n S.1 S.2.1 dX7_takesNumber_134 rfl (lv_at hl 1 rfl) ?_
                      refine lv_if_eq (tgt := 146) S.1 S.2.1 dX7_takesNumber_135 (by decide) (fun c135 => ?_) (fun c135 => ?_)
                      · skip
                        exact absurd c135 (by decide)
                      · skip
                        refine lv_aload_n S.1 S.2.1 dX7_takesNumber_138 rfl (lv_at hl 2 rfl) ?_
                        refine x_get S hK hP dX7_takesNumber_139 h65 (by decide) (RX7, TX7, 19) rfl hin7 17 (by decide) fl161 rfl ?_
                        refine lv_ineg S.1 S.2.1 dX7_takesNumber_142 ?_
                        refine lv_goto (tgt := 150) S.1 S.2.1 dX7_takesNumber_143 (by decide) ?_
                        refine x_put S hK hJ hP hS dX7_takesNumber_150 h65 (by decide) (RX7, TX7, 19) rfl hin7 tyX7 tyX7_ok nmX7 17 (by decide) fl161 rfl rfl rfl (Nat.le_of_ble_eq_true rfl) (fun H locs E1_12 hu hP hS => ?_)
                        have h65 : E1_12 65 = mO g kp fi hi od bs bb bf (nI tl) (nI q) (-v) := hu.1
                        have h73 : E1_12 73 = .inl (xC g, 60, .inl tf) := (hu.2 _ (by omega)).trans h73
                        have hfr : ∀ j, j ≠ 65 → E1_12 j = E j := fun j hj => (hu.2 j (by omega)).trans (hfr j hj)
                        refine lv_iconst (v := 1) S.1 S.2.1 dX7_takesNumber_153 (by decide) ?_
                        exact x_zret S hr hlocks hP hS dX7_takesNumber_154 rfl (by rw [hnum]; have hn : numB tf tl true p9 = (true, q, -v) := by { unfold numB; rw [if_pos (digB_iff.mpr hd20), if_neg (by simp [c41]), hdg]; rfl }; rw [hn]; exact ⟨xb.one rfl, ⟨_, h65, fun _ => rfl⟩, hfr⟩)
                    · skip
                      have hd87 := hr87.t c90
                      obtain ⟨e1, e2, e3⟩ := dg_b hd87
                      have hB : vB i ≤ 99 := by unfold vB; split <;> (try split) <;> omega
                      obtain ⟨s1, s2, s3⟩ := dg_s hvb hB ⟨e2, e3⟩
                      refine lv_aload_n S.1 S.2.1 dX7_takesNumber_93 rfl (lv_at hl 2 rfl) ?_
                      refine lv_bipush (v := 10) S.1 S.2.1 dX7_takesNumber_94 (by decide) ?_
                      refine lv_aload_n S.1 S.2.1 dX7_takesNumber_96 rfl (lv_at hl 2 rfl) ?_
                      refine x_get S hK hP dX7_takesNumber_97 h65 (by decide) (RX7, TX7, 19) rfl hin7 17 (by decide) fl161 rfl ?_
                      refine lv_imul S.1 S.2.1 dX7_takesNumber_100 ?_
                      refine lv_aload_n S.1 S.2.1 dX7_takesNumber_101 rfl (lv_at hl 2 rfl) ?_
                      refine x_get S hK hP dX7_takesNumber_102 h65 (by decide) (RX7, TX7, 19) rfl hin7 15 (by decide) fl31 rfl ?_
                      refine lv_aload_n S.1 S.2.1 dX7_takesNumber_105 rfl (lv_at hl 2 rfl) ?_
                      refine x_get S hK hP dX7_takesNumber_106 h65 (by decide) (RX7, TX7, 19) rfl hin7 16 (by decide) fl152 rfl ?_
                      refine x_cald S hK hP dX7_takesNumber_109 h73 (by decide) (j := q) rfl (by have := hd87.1; omega) (by decide) ?_
                      refine lv_iadd S.1 S.2.1 dX7_takesNumber_110 ?_
                      refine lv_bipush (v := 48) S.1 S.2.1 dX7_takesNumber_111 (by decide) ?_
                      refine lv_isub S.1 S.2.1 dX7_takesNumber_113 ?_
                      refine x_put S hK hJ hP hS dX7_takesNumber_114 h65 (by decide) (RX7, TX7, 19) rfl hin7 tyX7 tyX7_ok nmX7 17 (by decide) fl161 rfl rfl rfl (Nat.le_of_ble_eq_true rfl) (fun H locs E1_13 hu hP hS => ?_)
                      have h65 : E1_13 65 = mO g kp fi hi od bs bb bf (nI tl) (nI q) (((10 * v) + (tf q)) - 48) := hu.1
                      have h73 : E1_13 73 = .inl (xC g, 60, .inl tf) := (hu.2 _ (by omega)).trans h73
                      have hfr : ∀ j, j ≠ 65 → E1_13 j = E j := fun j hj => (hu.2 j (by omega)).trans (hfr j hj)
                      refine lv_aload_n S.1 S.2.1 dX7_takesNumber_117 rfl (lv_at hl 2 rfl) ?_
                      refine lv_dup S.1 S.2.1 dX7_takesNumber_118 rfl ?_
                      refine x_get S hK hP dX7_takesNumber_119 h65 (by decide) (RX7, TX7, 19) rfl hin7 16 (by decide) fl152 rfl ?_
                      refine lv_iconst (v := 1) S.1 S.2.1 dX7_takesNumber_122 (by decide) ?_
                      refine lv_iadd S.1 S.2.1 dX7_takesNumber_123 ?_
                      refine x_put S hK hJ hP hS dX7_takesNumber_124 h65 (by decide) (RX7, TX7, 19) rfl hin7 tyX7 tyX7_ok nmX7 16 (by decide) fl152 rfl rfl rfl (Nat.le_of_ble_eq_true rfl) (fun H locs E1_14 hu hP hS => ?_)
                      have h65 : E1_14 65 = mO g kp fi hi od bs bb bf (nI tl) ((nI q) + 1) (((10 * v) + (tf q)) - 48) := hu.1
                      have h73 : E1_14 73 = .inl (xC g, 60, .inl tf) := (hu.2 _ (by omega)).trans h73
                      have hfr : ∀ j, j ≠ 65 → E1_14 j = E j := fun j hj => (hu.2 j (by omega)).trans (hfr j hj)
                      refine lv_iinc (v := nI (i + 1)) (lv' := [(3, .int (nI (i + 1))), (2, .int 1), (0, .ref (xad g 65)), (1, .int 1)]) S.1 S.2.1 dX7_takesNumber_127 hl (k := 0) rfl (show nI i + Int32.ofInt 1 = _ from nI_1 _) (by decide) rfl (fun ls hl => ?_)
                      refine lv_goto (tgt := 74) S.1 S.2.1 dX7_takesNumber_130 (by decide) ?_
                      exact ih74 (q + 1) (10 * v + (tf q - 48)) (i + 1) _ _ _ (by omega) (by have := hd87.1; omega) (by rw [hinv, show 2 - i = (2 - (i + 1)) + 1 by omega]; rw [dgs_step, if_neg hv9, if_pos (digB_iff.mpr hd87)]) ⟨s2, Int.le_trans s3 (vB_s hi2)⟩ (by omega) (by rw [← s1, ← nI_1]; exact h65) h73 hfr hP hS ls (lv_sub hl [0, 1, 2, 3] rfl)
            exact loop74 _ (p9 + 1) _ 0 _ _ _ (Nat.zero_le _) (by have := hd20.1; omega) rfl ⟨by omega, by show _ ≤ (9 : Int); omega⟩ (Nat.lt_succ_self _) (by rw [← nI_1]; exact h65) h73 hfr hP hS ls (lv_sub hl [0, 1, 2, 3] rfl)
          · skip
            refine lv_iconst (v := 0) S.1 S.2.1 dX7_takesNumber_44 (by decide) ?_
            exact x_zret S hr hlocks hP hS dX7_takesNumber_45 rfl (by rw [hnum]; have hn : numB tf tl true p9 = (false, p9, 0) := by { unfold numB; first | (rw [if_neg (fun h => hr20.f c23 (digB_iff.mp h))]; done) | (rw [if_pos (digB_iff.mpr hd20), if_pos (by simp [c41])]; done) }; rw [hn]; exact ⟨xb.zero (by simp), ⟨_, h65, fun h => by simp at h⟩, hfr⟩)
set_option maxHeartbeats 4000000 in
set_option maxRecDepth 100000 in
theorem c_X7_isRead (l : Launch) (g : xG) (hJ : xJ (xad g)) (E : Nat → va_E) {kp fi hi od bs bb bf nu : Int32} {at9 : Int32} {tl : Nat} (h65 : E 65 = mO g kp fi hi od bs bb bf (nI tl) at9 nu) {tf : Nat → Int32} (h73 : E 73 = .inl (xC g, 60, .inl tf)) (htl : tl ≤ 60) {fd : Nat → Int32} (h74 : E 74 = .inl (xI g, 6, .inl fd)) : Met l yX7_isRead wsX7_isRead ({ frames := 3, cells := 0, slots := 0, locals := 65 }) (xPc g [.ref (xad g 65)] E) (xQi g (fun r E1 => xb ((prs tf tl).1 = true) r ∧ (∃ nu9 : Int32, E1 65 = mO g kp fi hi od bs bb bf (nI tl) (nI (prs tf tl).2.1) nu9) ∧ (∃ fd9 : Nat → Int32, E1 74 = .inl (xI g, 6, .inl fd9) ∧ ((prs tf tl).1 = true → fd9 0 = (plB tf tl).2.2.1 ∧ fd9 1 = (plB tf tl).2.2.2.1 ∧ fd9 2 = (plB tf tl).2.2.2.2.1 ∧ fd9 3 = (plB tf tl).2.2.2.2.2 ∧ fd9 4 = (prs tf tl).2.2.2.1 ∧ fd9 5 = (prs tf tl).2.2.2.2)) ∧ ∀ j, j ≠ 65 → j ≠ 74 → E1 j = E j)) 0 0 (xA (xad g)) := by
  refine x_met (ws' := _) (by decide) rfl (Nat.le_of_ble_eq_true rfl) ?_
  intro pz ez s m below meth cz ls S hr hlocks hP hK hl
  have hl : lv_has ls 2 [(0, .ref (xad g 65))] := hl
  have hS : va_S (xA (xad g)) s.heap s.heap [] := va_S.rf
  have hin7 : ∀ w ∈ u_ws RX7 TX7 19, w ∈ wsX7_isRead := by decide +kernel
  have fl35 : Cond.fieldLink RX7 35 "DiscArcsModel" "read" "[I" ∈ wsX7_isRead := by decide +kernel
  have fl149 : Cond.fieldLink RX7 149 "DiscArcsModel" "typed" "I" ∈ wsX7_isRead := by decide +kernel
  have fl152 : Cond.fieldLink RX7 152 "DiscArcsModel" "at" "I" ∈ wsX7_isRead := by decide +kernel
  have fl161 : Cond.fieldLink RX7 161 "DiscArcsModel" "number" "I" ∈ wsX7_isRead := by decide +kernel
  have hfr : ∀ j, j ≠ 65 ∧ j ≠ 74 → E j = E j := fun _ _ => rfl
  have hp0 : 0 ≤ tl := Nat.zero_le _
  refine lv_aload_n S.1 S.2.1 dX7_isRead_0 rfl (lv_at hl 0 rfl) ?_
  refine lv_iconst (v := 0) S.1 S.2.1 dX7_isRead_1 (by decide) ?_
  refine x_put S hK hJ hP hS dX7_isRead_2 h65 (by decide) (RX7, TX7, 19) rfl hin7 tyX7 tyX7_ok nmX7 16 (by decide) fl152 rfl rfl rfl (Nat.le_of_ble_eq_true rfl) (fun H locs E1 hu hP hS => ?_)
  have h65 : E1 65 = mO g kp fi hi od bs bb bf (nI tl) 0 nu := hu.1
  have h73 : E1 73 = .inl (xC g, 60, .inl tf) := (hu.2 _ (by omega)).trans h73
  have h74 : E1 74 = .inl (xI g, 6, .inl fd) := (hu.2 _ (by omega)).trans h74
  have hfr : ∀ j, j ≠ 65 ∧ j ≠ 74 → E1 j = E j := fun j hj => (hu.2 j (by omega)).trans (hfr j hj)
  refine lv_aload_n S.1 S.2.1 dX7_isRead_5 rfl (lv_at hl 0 rfl) ?_
  refine x_get S hK hP dX7_isRead_6 h65 (by decide) (RX7, TX7, 19) rfl hin7 18 (by decide) fl35 rfl ?_
  refine lv_iconst (v := 4) S.1 S.2.1 dX7_isRead_9 (by decide) ?_
  refine lv_sipush (v := 360) S.1 S.2.1 dX7_isRead_10 (by decide) ?_
  refine x_iast S hK hJ hP hS dX7_isRead_13 h74 (by decide) (j := 4) rfl (by omega) (by decide) (fun H locs E1_1 hu hP hS => ?_)
  have h65 : E1_1 65 = mO g kp fi hi od bs bb bf (nI tl) 0 nu := (hu.2 _ (by omega)).trans h65
  have h73 : E1_1 73 = .inl (xC g, 60, .inl tf) := (hu.2 _ (by omega)).trans h73
  have h74 : E1_1 74 = .inl (xI g, 6, .inl (upd fd 4 360)) := hu.1
  have hfr : ∀ j, j ≠ 65 ∧ j ≠ 74 → E1_1 j = E j := fun j hj => (hu.2 j (by omega)).trans (hfr j hj)
  refine lv_aload_n S.1 S.2.1 dX7_isRead_14 rfl (lv_at hl 0 rfl) ?_
  refine x_get S hK hP dX7_isRead_15 h65 (by decide) (RX7, TX7, 19) rfl hin7 18 (by decide) fl35 rfl ?_
  refine lv_iconst (v := 5) S.1 S.2.1 dX7_isRead_18 (by decide) ?_
  refine lv_iconst (v := 0) S.1 S.2.1 dX7_isRead_19 (by decide) ?_
  refine x_iast S hK hJ hP hS dX7_isRead_20 h74 (by decide) (j := 5) rfl (by omega) (by decide) (fun H locs E1_2 hu hP hS => ?_)
  have h65 : E1_2 65 = mO g kp fi hi od bs bb bf (nI tl) 0 nu := (hu.2 _ (by omega)).trans h65
  have h73 : E1_2 73 = .inl (xC g, 60, .inl tf) := (hu.2 _ (by omega)).trans h73
  have h74 : E1_2 74 = .inl (xI g, 6, .inl (upd (upd fd 4 360) 5 0)) := hu.1
  have hfr : ∀ j, j ≠ 65 ∧ j ≠ 74 → E1_2 j = E j := fun j hj => (hu.2 j (by omega)).trans (hfr j hj)
  have h65 : E1_2 65 = mO g kp fi hi od bs bb bf (nI tl) (nI 0) nu := h65
  refine lv_iconst (v := 0) S.1 S.2.1 dX7_isRead_21 (by decide) ?_
  refine lv_istore_n (lv' := [(1, .int 0), (0, .ref (xad g 65))]) S.1 S.2.1 dX7_isRead_22 rfl hl (by decide) rfl (fun ls hl => ?_)
  refine lv_iload_n S.1 S.2.1 dX7_isRead_23 rfl (lv_at hl 0 rfl) ?_
  refine lv_bipush (v := 6) S.1 S.2.1 dX7_isRead_24 (by decide) ?_
  refine lv_icmp_ge (tgt := 120) S.1 S.2.1 dX7_isRead_26 (by decide) (fun c26 => ?_) (fun c26 => ?_)
  · skip
    exact absurd c26 (by decide)
  · skip
    refine lv_iload_n S.1 S.2.1 dX7_isRead_29 rfl (lv_at hl 0 rfl) ?_
    refine lv_if_le (tgt := 62) S.1 S.2.1 dX7_isRead_30 (by decide) (fun c30 => ?_) (fun c30 => ?_)
    · skip
      refine lv_aload_n S.1 S.2.1 dX7_isRead_62 rfl (lv_at hl 1 rfl) ?_
      refine lv_iload_n S.1 S.2.1 dX7_isRead_63 rfl (lv_at hl 0 rfl) ?_
      refine lv_iconst (v := 1) S.1 S.2.1 dX7_isRead_64 (by decide) ?_
      refine lv_icmp_eq (tgt := 73) S.1 S.2.1 dX7_isRead_65 (by decide) (fun c65 => ?_) (fun c65 => ?_)
      · skip
        exact absurd c65 (by decide)
      · skip
        refine lv_iload_n S.1 S.2.1 dX7_isRead_68 rfl (lv_at hl 0 rfl) ?_
        refine lv_iconst (v := 2) S.1 S.2.1 dX7_isRead_69 (by decide) ?_
        refine lv_icmp_ne (tgt := 77) S.1 S.2.1 dX7_isRead_70 (by decide) (fun c70 => ?_) (fun c70 => ?_)
        · skip
          refine lv_iconst (v := 0) S.1 S.2.1 dX7_isRead_77 (by decide) ?_
          refine x_qi (va_runV (As := [.int 0]) (rest := []) S (c_X7_takesNumber_u l g hJ E1_2 h65 h73 htl hp0) (cwV 1 S.2.2.2.2 gX7_isRead_X7_takesNumber rfl rfl rfl (by decide +kernel) ⟨Nat.le_of_ble_eq_true rfl, Nat.le_of_ble_eq_true rfl⟩) (x_preV hK hP h65 (by decide) rfl) rfl rfl hl.1 rfl (lv_room (Nat.le_of_ble_eq_true rfl)) dX7_isRead_78 ⟨Nat.le_of_ble_eq_true rfl, Nat.le_of_ble_eq_true rfl⟩) hS (fun r1 E1_3 H locs hq1 hP hS => ?_)
          obtain ⟨hr1, ⟨nu1, h65, hv1⟩, hfr1⟩ := hq1
          have h73 : E1_3 73 = .inl (xC g, 60, .inl tf) := (hfr1 _ (by decide)).trans h73
          have h74 : E1_3 74 = .inl (xI g, 6, .inl (upd (upd fd 4 360) 5 0)) := (hfr1 _ (by decide)).trans h74
          have hfr : ∀ j, j ≠ 65 ∧ j ≠ 74 → E1_3 j = E j := fun j hj => (hfr1 j hj.1).trans (hfr j hj)
          obtain ⟨b1, p1, v1, e1⟩ : ∃ b p v, num tf tl false 0 = (b, p, v) := ⟨_, _, _, rfl⟩
          have hp1 : p1 ≤ tl := by have := num_le (f := tf) (sg := false) hp0; rw [e1] at this; exact this
          rw [e1] at hr1 h65 hv1
          dsimp only at hr1 h65 hv1
          refine lv_if_ne (tgt := 86) S.1 S.2.1 dX7_isRead_81 (by decide) (fun c81 => ?_) (fun c81 => ?_)
          · skip
            have hb1 : b1 = true := hr1.t c81
            rw [hb1] at e1
            rw [hv1 hb1] at h65
            refine lv_aload_n S.1 S.2.1 dX7_isRead_86 rfl (lv_at hl 1 rfl) ?_
            refine x_get S hK hP dX7_isRead_87 h65 (by decide) (RX7, TX7, 19) rfl hin7 18 (by decide) fl35 rfl ?_
            refine lv_iload_n S.1 S.2.1 dX7_isRead_90 rfl (lv_at hl 0 rfl) ?_
            refine lv_aload_n S.1 S.2.1 dX7_isRead_91 rfl (lv_at hl 1 rfl) ?_
            refine x_get S hK hP dX7_isRead_92 h65 (by decide) (RX7, TX7, 19) rfl hin7 17 (by decide) fl161 rfl ?_
            refine x_iast S hK hJ hP hS dX7_isRead_95 h74 (by decide) (j := 0) rfl (by omega) (by decide) (fun H locs E1_4 hu hP hS => ?_)
            have h65 : E1_4 65 = mO g kp fi hi od bs bb bf (nI tl) (nI p1) v1 := (hu.2 _ (by omega)).trans h65
            have h73 : E1_4 73 = .inl (xC g, 60, .inl tf) := (hu.2 _ (by omega)).trans h73
            have h74 : E1_4 74 = .inl (xI g, 6, .inl (upd (upd (upd fd 4 360) 5 0) 0 v1)) := hu.1
            have hfr : ∀ j, j ≠ 65 ∧ j ≠ 74 → E1_4 j = E j := fun j hj => (hu.2 j (by omega)).trans (hfr j hj)
            refine lv_iload_n S.1 S.2.1 dX7_isRead_96 rfl (lv_at hl 0 rfl) ?_
            refine lv_iconst (v := 3) S.1 S.2.1 dX7_isRead_97 (by decide) ?_
            refine lv_icmp_ne (tgt := 114) S.1 S.2.1 dX7_isRead_98 (by decide) (fun c98 => ?_) (fun c98 => ?_)
            · skip
              refine lv_iinc (v := 1) (lv' := [(1, .int 1), (0, .ref (xad g 65))]) S.1 S.2.1 dX7_isRead_114 hl (k := 0) rfl (by decide) (by decide) rfl (fun ls hl => ?_)
              refine lv_goto (tgt := 23) S.1 S.2.1 dX7_isRead_117 (by decide) ?_
              refine lv_iload_n S.1 S.2.1 dX7_isRead_23 rfl (lv_at hl 0 rfl) ?_
              refine lv_bipush (v := 6) S.1 S.2.1 dX7_isRead_24 (by decide) ?_
              refine lv_icmp_ge (tgt := 120) S.1 S.2.1 dX7_isRead_26 (by decide) (fun c26_1 => ?_) (fun c26_1 => ?_)
              · skip
                exact absurd c26_1 (by decide)
              · skip
                refine lv_iload_n S.1 S.2.1 dX7_isRead_29 rfl (lv_at hl 0 rfl) ?_
                refine lv_if_le (tgt := 62) S.1 S.2.1 dX7_isRead_30 (by decide) (fun c30_1 => ?_) (fun c30_1 => ?_)
                · skip
                  exact absurd c30_1 (by decide)
                · skip
                  refine lv_aload_n S.1 S.2.1 dX7_isRead_33 rfl (lv_at hl 1 rfl) ?_
                  refine lv_iload_n S.1 S.2.1 dX7_isRead_34 rfl (lv_at hl 0 rfl) ?_
                  refine lv_iconst (v := 1) S.1 S.2.1 dX7_isRead_35 (by decide) ?_
                  refine lv_icmp_ne (tgt := 44) S.1 S.2.1 dX7_isRead_36 (by decide) (fun c36 => ?_) (fun c36 => ?_)
                  · skip
                    exact absurd c36 (by decide)
                  · skip
                    refine lv_bipush (v := 58) S.1 S.2.1 dX7_isRead_39 (by decide) ?_
                    refine lv_goto (tgt := 56) S.1 S.2.1 dX7_isRead_41 (by decide) ?_
                    refine x_qi (va_runV (As := [.int 58]) (rest := []) S (c_X7_takes l g hJ E1_4 h65 h73 htl hp1 58) (cwV 1 S.2.2.2.2 gX7_isRead_X7_takes rfl rfl rfl (by decide +kernel) ⟨Nat.le_of_ble_eq_true rfl, Nat.le_of_ble_eq_true rfl⟩) (x_preV hK hP h65 (by decide) rfl) rfl rfl hl.1 rfl (lv_room (Nat.le_of_ble_eq_true rfl)) dX7_isRead_56 ⟨Nat.le_of_ble_eq_true rfl, Nat.le_of_ble_eq_true rfl⟩) hS (fun r2 E1_5 H locs hq2 hP hS => ?_)
                    obtain ⟨hr2, h65, hfr2⟩ := hq2
                    have h73 : E1_5 73 = .inl (xC g, 60, .inl tf) := (hfr2 _ (by decide)).trans h73
                    have h74 : E1_5 74 = .inl (xI g, 6, .inl (upd (upd (upd fd 4 360) 5 0) 0 v1)) := (hfr2 _ (by decide)).trans h74
                    have hfr : ∀ j, j ≠ 65 ∧ j ≠ 74 → E1_5 j = E j := fun j hj => (hfr2 j hj.1).trans (hfr j hj)
                    obtain ⟨b2, p2, e2⟩ : ∃ b p, pas tf tl 58 p1 = (b, p) := ⟨_, _, rfl⟩
                    have hp2 : p2 ≤ tl := by have := pas_le (f := tf) (c := 58) hp1; rw [e2] at this; exact this
                    rw [e2] at hr2 h65
                    dsimp only at hr2 h65
                    refine lv_if_eq (tgt := 84) S.1 S.2.1 dX7_isRead_59 (by decide) (fun c59 => ?_) (fun c59 => ?_)
                    · skip
                      refine lv_iconst (v := 0) S.1 S.2.1 dX7_isRead_84 (by decide) ?_
                      exact x_zret S hr hlocks hP hS dX7_isRead_85 rfl (by have hb : b2 = false := Bool.eq_false_iff.mpr (hr2.f c59); rw [hb] at e2; have hn : prs tf tl = (false, p2, false, 360, 0) := by { simp [prs, plB, e1, e2] }; rw [hn]; exact ⟨xb.zero (by simp), ⟨_, h65⟩, ⟨_, h74, fun h => by simp at h⟩, fun j g1 g2 => hfr j ⟨g1, g2⟩⟩)
                    · skip
                      have hb2 : b2 = true := hr2.t c59
                      rw [hb2] at e2
                      refine lv_aload_n S.1 S.2.1 dX7_isRead_62 rfl (lv_at hl 1 rfl) ?_
                      refine lv_iload_n S.1 S.2.1 dX7_isRead_63 rfl (lv_at hl 0 rfl) ?_
                      refine lv_iconst (v := 1) S.1 S.2.1 dX7_isRead_64 (by decide) ?_
                      refine lv_icmp_eq (tgt := 73) S.1 S.2.1 dX7_isRead_65 (by decide) (fun c65_1 => ?_) (fun c65_1 => ?_)
                      · skip
                        refine lv_iconst (v := 1) S.1 S.2.1 dX7_isRead_73 (by decide) ?_
                        refine lv_goto (tgt := 78) S.1 S.2.1 dX7_isRead_74 (by decide) ?_
                        refine x_qi (va_runV (As := [.int 1]) (rest := []) S (c_X7_takesNumber_s l g hJ E1_5 h65 h73 htl hp2) (cwV 1 S.2.2.2.2 gX7_isRead_X7_takesNumber rfl rfl rfl (by decide +kernel) ⟨Nat.le_of_ble_eq_true rfl, Nat.le_of_ble_eq_true rfl⟩) (x_preV hK hP h65 (by decide) rfl) rfl rfl hl.1 rfl (lv_room (Nat.le_of_ble_eq_true rfl)) dX7_isRead_78 ⟨Nat.le_of_ble_eq_true rfl, Nat.le_of_ble_eq_true rfl⟩) hS (fun r3 E1_6 H locs hq3 hP hS => ?_)
                        obtain ⟨hr3, ⟨nu3, h65, hv3⟩, hfr3⟩ := hq3
                        have h73 : E1_6 73 = .inl (xC g, 60, .inl tf) := (hfr3 _ (by decide)).trans h73
                        have h74 : E1_6 74 = .inl (xI g, 6, .inl (upd (upd (upd fd 4 360) 5 0) 0 v1)) := (hfr3 _ (by decide)).trans h74
                        have hfr : ∀ j, j ≠ 65 ∧ j ≠ 74 → E1_6 j = E j := fun j hj => (hfr3 j hj.1).trans (hfr j hj)
                        obtain ⟨b3, p3, v3, e3⟩ : ∃ b p v, num tf tl true p2 = (b, p, v) := ⟨_, _, _, rfl⟩
                        have hp3 : p3 ≤ tl := by have := num_le (f := tf) (sg := true) hp2; rw [e3] at this; exact this
                        rw [e3] at hr3 h65 hv3
                        dsimp only at hr3 h65 hv3
                        refine lv_if_ne (tgt := 86) S.1 S.2.1 dX7_isRead_81 (by decide) (fun c81 => ?_) (fun c81 => ?_)
                        · skip
                          have hb3 : b3 = true := hr3.t c81
                          rw [hb3] at e3
                          rw [hv3 hb3] at h65
                          refine lv_aload_n S.1 S.2.1 dX7_isRead_86 rfl (lv_at hl 1 rfl) ?_
                          refine x_get S hK hP dX7_isRead_87 h65 (by decide) (RX7, TX7, 19) rfl hin7 18 (by decide) fl35 rfl ?_
                          refine lv_iload_n S.1 S.2.1 dX7_isRead_90 rfl (lv_at hl 0 rfl) ?_
                          refine lv_aload_n S.1 S.2.1 dX7_isRead_91 rfl (lv_at hl 1 rfl) ?_
                          refine x_get S hK hP dX7_isRead_92 h65 (by decide) (RX7, TX7, 19) rfl hin7 17 (by decide) fl161 rfl ?_
                          refine x_iast S hK hJ hP hS dX7_isRead_95 h74 (by decide) (j := 1) rfl (by omega) (by decide) (fun H locs E1_7 hu hP hS => ?_)
                          have h65 : E1_7 65 = mO g kp fi hi od bs bb bf (nI tl) (nI p3) v3 := (hu.2 _ (by omega)).trans h65
                          have h73 : E1_7 73 = .inl (xC g, 60, .inl tf) := (hu.2 _ (by omega)).trans h73
                          have h74 : E1_7 74 = .inl (xI g, 6, .inl (upd (upd (upd (upd fd 4 360) 5 0) 0 v1) 1 v3)) := hu.1
                          have hfr : ∀ j, j ≠ 65 ∧ j ≠ 74 → E1_7 j = E j := fun j hj => (hu.2 j (by omega)).trans (hfr j hj)
                          refine lv_iload_n S.1 S.2.1 dX7_isRead_96 rfl (lv_at hl 0 rfl) ?_
                          refine lv_iconst (v := 3) S.1 S.2.1 dX7_isRead_97 (by decide) ?_
                          refine lv_icmp_ne (tgt := 114) S.1 S.2.1 dX7_isRead_98 (by decide) (fun c98_1 => ?_) (fun c98_1 => ?_)
                          · skip
                            refine lv_iinc (v := 2) (lv' := [(1, .int 2), (0, .ref (xad g 65))]) S.1 S.2.1 dX7_isRead_114 hl (k := 0) rfl (by decide) (by decide) rfl (fun ls hl => ?_)
                            refine lv_goto (tgt := 23) S.1 S.2.1 dX7_isRead_117 (by decide) ?_
                            refine lv_iload_n S.1 S.2.1 dX7_isRead_23 rfl (lv_at hl 0 rfl) ?_
                            refine lv_bipush (v := 6) S.1 S.2.1 dX7_isRead_24 (by decide) ?_
                            refine lv_icmp_ge (tgt := 120) S.1 S.2.1 dX7_isRead_26 (by decide) (fun c26_2 => ?_) (fun c26_2 => ?_)
                            · skip
                              exact absurd c26_2 (by decide)
                            · skip
                              refine lv_iload_n S.1 S.2.1 dX7_isRead_29 rfl (lv_at hl 0 rfl) ?_
                              refine lv_if_le (tgt := 62) S.1 S.2.1 dX7_isRead_30 (by decide) (fun c30_2 => ?_) (fun c30_2 => ?_)
                              · skip
                                exact absurd c30_2 (by decide)
                              · skip
                                refine lv_aload_n S.1 S.2.1 dX7_isRead_33 rfl (lv_at hl 1 rfl) ?_
                                refine lv_iload_n S.1 S.2.1 dX7_isRead_34 rfl (lv_at hl 0 rfl) ?_
                                refine lv_iconst (v := 1) S.1 S.2.1 dX7_isRead_35 (by decide) ?_
                                refine lv_icmp_ne (tgt := 44) S.1 S.2.1 dX7_isRead_36 (by decide) (fun c36_1 => ?_) (fun c36_1 => ?_)
                                · skip
                                  refine lv_iload_n S.1 S.2.1 dX7_isRead_44 rfl (lv_at hl 0 rfl) ?_
                                  refine lv_iconst (v := 4) S.1 S.2.1 dX7_isRead_45 (by decide) ?_
                                  refine lv_icmp_ne (tgt := 54) S.1 S.2.1 dX7_isRead_46 (by decide) (fun c46 => ?_) (fun c46 => ?_)
                                  · skip
                                    refine lv_bipush (v := 44) S.1 S.2.1 dX7_isRead_54 (by decide) ?_
                                    refine x_qi (va_runV (As := [.int 44]) (rest := []) S (c_X7_takes l g hJ E1_7 h65 h73 htl hp3 44) (cwV 1 S.2.2.2.2 gX7_isRead_X7_takes rfl rfl rfl (by decide +kernel) ⟨Nat.le_of_ble_eq_true rfl, Nat.le_of_ble_eq_true rfl⟩) (x_preV hK hP h65 (by decide) rfl) rfl rfl hl.1 rfl (lv_room (Nat.le_of_ble_eq_true rfl)) dX7_isRead_56 ⟨Nat.le_of_ble_eq_true rfl, Nat.le_of_ble_eq_true rfl⟩) hS (fun r4 E1_8 H locs hq4 hP hS => ?_)
                                    obtain ⟨hr4, h65, hfr4⟩ := hq4
                                    have h73 : E1_8 73 = .inl (xC g, 60, .inl tf) := (hfr4 _ (by decide)).trans h73
                                    have h74 : E1_8 74 = .inl (xI g, 6, .inl (upd (upd (upd (upd fd 4 360) 5 0) 0 v1) 1 v3)) := (hfr4 _ (by decide)).trans h74
                                    have hfr : ∀ j, j ≠ 65 ∧ j ≠ 74 → E1_8 j = E j := fun j hj => (hfr4 j hj.1).trans (hfr j hj)
                                    obtain ⟨b4, p4, e4⟩ : ∃ b p, pas tf tl 44 p3 = (b, p) := ⟨_, _, rfl⟩
                                    have hp4 : p4 ≤ tl := by have := pas_le (f := tf) (c := 44) hp3; rw [e4] at this; exact this
                                    rw [e4] at hr4 h65
                                    dsimp only at hr4 h65
                                    refine lv_if_eq (tgt := 84) S.1 S.2.1 dX7_isRead_59 (by decide) (fun c59 => ?_) (fun c59 => ?_)
                                    · skip
                                      refine lv_iconst (v := 0) S.1 S.2.1 dX7_isRead_84 (by decide) ?_
                                      exact x_zret S hr hlocks hP hS dX7_isRead_85 rfl (by have hb : b4 = false := Bool.eq_false_iff.mpr (hr4.f c59); rw [hb] at e4; have hn : prs tf tl = (false, p4, false, 360, 0) := by { simp [prs, plB, e1, e2, e3, e4] }; rw [hn]; exact ⟨xb.zero (by simp), ⟨_, h65⟩, ⟨_, h74, fun h => by simp at h⟩, fun j g1 g2 => hfr j ⟨g1, g2⟩⟩)
                                    · skip
                                      have hb4 : b4 = true := hr4.t c59
                                      rw [hb4] at e4
                                      refine lv_aload_n S.1 S.2.1 dX7_isRead_62 rfl (lv_at hl 1 rfl) ?_
                                      refine lv_iload_n S.1 S.2.1 dX7_isRead_63 rfl (lv_at hl 0 rfl) ?_
                                      refine lv_iconst (v := 1) S.1 S.2.1 dX7_isRead_64 (by decide) ?_
                                      refine lv_icmp_eq (tgt := 73) S.1 S.2.1 dX7_isRead_65 (by decide) (fun c65_2 => ?_) (fun c65_2 => ?_)
                                      · skip
                                        exact absurd c65_2 (by decide)
                                      · skip
                                        refine lv_iload_n S.1 S.2.1 dX7_isRead_68 rfl (lv_at hl 0 rfl) ?_
                                        refine lv_iconst (v := 2) S.1 S.2.1 dX7_isRead_69 (by decide) ?_
                                        refine lv_icmp_ne (tgt := 77) S.1 S.2.1 dX7_isRead_70 (by decide) (fun c70_1 => ?_) (fun c70_1 => ?_)
                                        · skip
                                          exact absurd c70_1 (by decide)
                                        · skip
                                          refine lv_iconst (v := 1) S.1 S.2.1 dX7_isRead_73 (by decide) ?_
                                          refine lv_goto (tgt := 78) S.1 S.2.1 dX7_isRead_74 (by decide) ?_
                                          refine x_qi (va_runV (As := [.int 1]) (rest := []) S (c_X7_takesNumber_s l g hJ E1_8 h65 h73 htl hp4) (cwV 1 S.2.2.2.2 gX7_isRead_X7_takesNumber rfl rfl rfl (by decide +kernel) ⟨Nat.le_of_ble_eq_true rfl, Nat.le_of_ble_eq_true rfl⟩) (x_preV hK hP h65 (by decide) rfl) rfl rfl hl.1 rfl (lv_room (Nat.le_of_ble_eq_true rfl)) dX7_isRead_78 ⟨Nat.le_of_ble_eq_true rfl, Nat.le_of_ble_eq_true rfl⟩) hS (fun r5 E1_9 H locs hq5 hP hS => ?_)
                                          obtain ⟨hr5, ⟨nu5, h65, hv5⟩, hfr5⟩ := hq5
                                          have h73 : E1_9 73 = .inl (xC g, 60, .inl tf) := (hfr5 _ (by decide)).trans h73
                                          have h74 : E1_9 74 = .inl (xI g, 6, .inl (upd (upd (upd (upd fd 4 360) 5 0) 0 v1) 1 v3)) := (hfr5 _ (by decide)).trans h74
                                          have hfr : ∀ j, j ≠ 65 ∧ j ≠ 74 → E1_9 j = E j := fun j hj => (hfr5 j hj.1).trans (hfr j hj)
                                          obtain ⟨b5, p5, v5, e5⟩ : ∃ b p v, num tf tl true p4 = (b, p, v) := ⟨_, _, _, rfl⟩
                                          have hp5 : p5 ≤ tl := by have := num_le (f := tf) (sg := true) hp4; rw [e5] at this; exact this
                                          rw [e5] at hr5 h65 hv5
                                          dsimp only at hr5 h65 hv5
                                          refine lv_if_ne (tgt := 86) S.1 S.2.1 dX7_isRead_81 (by decide) (fun c81 => ?_) (fun c81 => ?_)
                                          · skip
                                            have hb5 : b5 = true := hr5.t c81
                                            rw [hb5] at e5
                                            rw [hv5 hb5] at h65
                                            refine lv_aload_n S.1 S.2.1 dX7_isRead_86 rfl (lv_at hl 1 rfl) ?_
                                            refine x_get S hK hP dX7_isRead_87 h65 (by decide) (RX7, TX7, 19) rfl hin7 18 (by decide) fl35 rfl ?_
                                            refine lv_iload_n S.1 S.2.1 dX7_isRead_90 rfl (lv_at hl 0 rfl) ?_
                                            refine lv_aload_n S.1 S.2.1 dX7_isRead_91 rfl (lv_at hl 1 rfl) ?_
                                            refine x_get S hK hP dX7_isRead_92 h65 (by decide) (RX7, TX7, 19) rfl hin7 17 (by decide) fl161 rfl ?_
                                            refine x_iast S hK hJ hP hS dX7_isRead_95 h74 (by decide) (j := 2) rfl (by omega) (by decide) (fun H locs E1_10 hu hP hS => ?_)
                                            have h65 : E1_10 65 = mO g kp fi hi od bs bb bf (nI tl) (nI p5) v5 := (hu.2 _ (by omega)).trans h65
                                            have h73 : E1_10 73 = .inl (xC g, 60, .inl tf) := (hu.2 _ (by omega)).trans h73
                                            have h74 : E1_10 74 = .inl (xI g, 6, .inl (upd (upd (upd (upd (upd fd 4 360) 5 0) 0 v1) 1 v3) 2 v5)) := hu.1
                                            have hfr : ∀ j, j ≠ 65 ∧ j ≠ 74 → E1_10 j = E j := fun j hj => (hu.2 j (by omega)).trans (hfr j hj)
                                            refine lv_iload_n S.1 S.2.1 dX7_isRead_96 rfl (lv_at hl 0 rfl) ?_
                                            refine lv_iconst (v := 3) S.1 S.2.1 dX7_isRead_97 (by decide) ?_
                                            refine lv_icmp_ne (tgt := 114) S.1 S.2.1 dX7_isRead_98 (by decide) (fun c98_2 => ?_) (fun c98_2 => ?_)
                                            · skip
                                              refine lv_iinc (v := 3) (lv' := [(1, .int 3), (0, .ref (xad g 65))]) S.1 S.2.1 dX7_isRead_114 hl (k := 0) rfl (by decide) (by decide) rfl (fun ls hl => ?_)
                                              refine lv_goto (tgt := 23) S.1 S.2.1 dX7_isRead_117 (by decide) ?_
                                              refine lv_iload_n S.1 S.2.1 dX7_isRead_23 rfl (lv_at hl 0 rfl) ?_
                                              refine lv_bipush (v := 6) S.1 S.2.1 dX7_isRead_24 (by decide) ?_
                                              refine lv_icmp_ge (tgt := 120) S.1 S.2.1 dX7_isRead_26 (by decide) (fun c26_3 => ?_) (fun c26_3 => ?_)
                                              · skip
                                                exact absurd c26_3 (by decide)
                                              · skip
                                                refine lv_iload_n S.1 S.2.1 dX7_isRead_29 rfl (lv_at hl 0 rfl) ?_
                                                refine lv_if_le (tgt := 62) S.1 S.2.1 dX7_isRead_30 (by decide) (fun c30_3 => ?_) (fun c30_3 => ?_)
                                                · skip
                                                  exact absurd c30_3 (by decide)
                                                · skip
                                                  refine lv_aload_n S.1 S.2.1 dX7_isRead_33 rfl (lv_at hl 1 rfl) ?_
                                                  refine lv_iload_n S.1 S.2.1 dX7_isRead_34 rfl (lv_at hl 0 rfl) ?_
                                                  refine lv_iconst (v := 1) S.1 S.2.1 dX7_isRead_35 (by decide) ?_
                                                  refine lv_icmp_ne (tgt := 44) S.1 S.2.1 dX7_isRead_36 (by decide) (fun c36_2 => ?_) (fun c36_2 => ?_)
                                                  · skip
                                                    refine lv_iload_n S.1 S.2.1 dX7_isRead_44 rfl (lv_at hl 0 rfl) ?_
                                                    refine lv_iconst (v := 4) S.1 S.2.1 dX7_isRead_45 (by decide) ?_
                                                    refine lv_icmp_ne (tgt := 54) S.1 S.2.1 dX7_isRead_46 (by decide) (fun c46_1 => ?_) (fun c46_1 => ?_)
                                                    · skip
                                                      refine lv_bipush (v := 44) S.1 S.2.1 dX7_isRead_54 (by decide) ?_
                                                      refine x_qi (va_runV (As := [.int 44]) (rest := []) S (c_X7_takes l g hJ E1_10 h65 h73 htl hp5 44) (cwV 1 S.2.2.2.2 gX7_isRead_X7_takes rfl rfl rfl (by decide +kernel) ⟨Nat.le_of_ble_eq_true rfl, Nat.le_of_ble_eq_true rfl⟩) (x_preV hK hP h65 (by decide) rfl) rfl rfl hl.1 rfl (lv_room (Nat.le_of_ble_eq_true rfl)) dX7_isRead_56 ⟨Nat.le_of_ble_eq_true rfl, Nat.le_of_ble_eq_true rfl⟩) hS (fun r6 E1_11 H locs hq6 hP hS => ?_)
                                                      obtain ⟨hr6, h65, hfr6⟩ := hq6
                                                      have h73 : E1_11 73 = .inl (xC g, 60, .inl tf) := (hfr6 _ (by decide)).trans h73
                                                      have h74 : E1_11 74 = .inl (xI g, 6, .inl (upd (upd (upd (upd (upd fd 4 360) 5 0) 0 v1) 1 v3) 2 v5)) := (hfr6 _ (by decide)).trans h74
                                                      have hfr : ∀ j, j ≠ 65 ∧ j ≠ 74 → E1_11 j = E j := fun j hj => (hfr6 j hj.1).trans (hfr j hj)
                                                      obtain ⟨b6, p6, e6⟩ : ∃ b p, pas tf tl 44 p5 = (b, p) := ⟨_, _, rfl⟩
                                                      have hp6 : p6 ≤ tl := by have := pas_le (f := tf) (c := 44) hp5; rw [e6] at this; exact this
                                                      rw [e6] at hr6 h65
                                                      dsimp only at hr6 h65
                                                      refine lv_if_eq (tgt := 84) S.1 S.2.1 dX7_isRead_59 (by decide) (fun c59 => ?_) (fun c59 => ?_)
                                                      · skip
                                                        refine lv_iconst (v := 0) S.1 S.2.1 dX7_isRead_84 (by decide) ?_
                                                        exact x_zret S hr hlocks hP hS dX7_isRead_85 rfl (by have hb : b6 = false := Bool.eq_false_iff.mpr (hr6.f c59); rw [hb] at e6; have hn : prs tf tl = (false, p6, false, 360, 0) := by { simp [prs, plB, e1, e2, e3, e4, e5, e6] }; rw [hn]; exact ⟨xb.zero (by simp), ⟨_, h65⟩, ⟨_, h74, fun h => by simp at h⟩, fun j g1 g2 => hfr j ⟨g1, g2⟩⟩)
                                                      · skip
                                                        have hb6 : b6 = true := hr6.t c59
                                                        rw [hb6] at e6
                                                        refine lv_aload_n S.1 S.2.1 dX7_isRead_62 rfl (lv_at hl 1 rfl) ?_
                                                        refine lv_iload_n S.1 S.2.1 dX7_isRead_63 rfl (lv_at hl 0 rfl) ?_
                                                        refine lv_iconst (v := 1) S.1 S.2.1 dX7_isRead_64 (by decide) ?_
                                                        refine lv_icmp_eq (tgt := 73) S.1 S.2.1 dX7_isRead_65 (by decide) (fun c65_3 => ?_) (fun c65_3 => ?_)
                                                        · skip
                                                          exact absurd c65_3 (by decide)
                                                        · skip
                                                          refine lv_iload_n S.1 S.2.1 dX7_isRead_68 rfl (lv_at hl 0 rfl) ?_
                                                          refine lv_iconst (v := 2) S.1 S.2.1 dX7_isRead_69 (by decide) ?_
                                                          refine lv_icmp_ne (tgt := 77) S.1 S.2.1 dX7_isRead_70 (by decide) (fun c70_2 => ?_) (fun c70_2 => ?_)
                                                          · skip
                                                            refine lv_iconst (v := 0) S.1 S.2.1 dX7_isRead_77 (by decide) ?_
                                                            refine x_qi (va_runV (As := [.int 0]) (rest := []) S (c_X7_takesNumber_u l g hJ E1_11 h65 h73 htl hp6) (cwV 1 S.2.2.2.2 gX7_isRead_X7_takesNumber rfl rfl rfl (by decide +kernel) ⟨Nat.le_of_ble_eq_true rfl, Nat.le_of_ble_eq_true rfl⟩) (x_preV hK hP h65 (by decide) rfl) rfl rfl hl.1 rfl (lv_room (Nat.le_of_ble_eq_true rfl)) dX7_isRead_78 ⟨Nat.le_of_ble_eq_true rfl, Nat.le_of_ble_eq_true rfl⟩) hS (fun r7 E1_12 H locs hq7 hP hS => ?_)
                                                            obtain ⟨hr7, ⟨nu7, h65, hv7⟩, hfr7⟩ := hq7
                                                            have h73 : E1_12 73 = .inl (xC g, 60, .inl tf) := (hfr7 _ (by decide)).trans h73
                                                            have h74 : E1_12 74 = .inl (xI g, 6, .inl (upd (upd (upd (upd (upd fd 4 360) 5 0) 0 v1) 1 v3) 2 v5)) := (hfr7 _ (by decide)).trans h74
                                                            have hfr : ∀ j, j ≠ 65 ∧ j ≠ 74 → E1_12 j = E j := fun j hj => (hfr7 j hj.1).trans (hfr j hj)
                                                            obtain ⟨b7, p7, v7, e7⟩ : ∃ b p v, num tf tl false p6 = (b, p, v) := ⟨_, _, _, rfl⟩
                                                            have hp7 : p7 ≤ tl := by have := num_le (f := tf) (sg := false) hp6; rw [e7] at this; exact this
                                                            rw [e7] at hr7 h65 hv7
                                                            dsimp only at hr7 h65 hv7
                                                            refine lv_if_ne (tgt := 86) S.1 S.2.1 dX7_isRead_81 (by decide) (fun c81 => ?_) (fun c81 => ?_)
                                                            · skip
                                                              have hb7 : b7 = true := hr7.t c81
                                                              rw [hb7] at e7
                                                              rw [hv7 hb7] at h65
                                                              refine lv_aload_n S.1 S.2.1 dX7_isRead_86 rfl (lv_at hl 1 rfl) ?_
                                                              refine x_get S hK hP dX7_isRead_87 h65 (by decide) (RX7, TX7, 19) rfl hin7 18 (by decide) fl35 rfl ?_
                                                              refine lv_iload_n S.1 S.2.1 dX7_isRead_90 rfl (lv_at hl 0 rfl) ?_
                                                              refine lv_aload_n S.1 S.2.1 dX7_isRead_91 rfl (lv_at hl 1 rfl) ?_
                                                              refine x_get S hK hP dX7_isRead_92 h65 (by decide) (RX7, TX7, 19) rfl hin7 17 (by decide) fl161 rfl ?_
                                                              refine x_iast S hK hJ hP hS dX7_isRead_95 h74 (by decide) (j := 3) rfl (by omega) (by decide) (fun H locs E1_13 hu hP hS => ?_)
                                                              have h65 : E1_13 65 = mO g kp fi hi od bs bb bf (nI tl) (nI p7) v7 := (hu.2 _ (by omega)).trans h65
                                                              have h73 : E1_13 73 = .inl (xC g, 60, .inl tf) := (hu.2 _ (by omega)).trans h73
                                                              have h74 : E1_13 74 = .inl (xI g, 6, .inl (upd (upd (upd (upd (upd (upd fd 4 360) 5 0) 0 v1) 1 v3) 2 v5) 3 v7)) := hu.1
                                                              have hfr : ∀ j, j ≠ 65 ∧ j ≠ 74 → E1_13 j = E j := fun j hj => (hu.2 j (by omega)).trans (hfr j hj)
                                                              refine lv_iload_n S.1 S.2.1 dX7_isRead_96 rfl (lv_at hl 0 rfl) ?_
                                                              refine lv_iconst (v := 3) S.1 S.2.1 dX7_isRead_97 (by decide) ?_
                                                              refine lv_icmp_ne (tgt := 114) S.1 S.2.1 dX7_isRead_98 (by decide) (fun c98_3 => ?_) (fun c98_3 => ?_)
                                                              · skip
                                                                exact absurd c98_3 (by decide)
                                                              · skip
                                                                refine lv_aload_n S.1 S.2.1 dX7_isRead_101 rfl (lv_at hl 1 rfl) ?_
                                                                refine x_get S hK hP dX7_isRead_102 h65 (by decide) (RX7, TX7, 19) rfl hin7 16 (by decide) fl152 rfl ?_
                                                                refine lv_aload_n S.1 S.2.1 dX7_isRead_105 rfl (lv_at hl 1 rfl) ?_
                                                                refine x_get S hK hP dX7_isRead_106 h65 (by decide) (RX7, TX7, 19) rfl hin7 14 (by decide) fl149 rfl ?_
                                                                refine lv_icmp_ne (tgt := 114) S.1 S.2.1 dX7_isRead_109 (by decide) (fun c109 => ?_) (fun c109 => ?_)
                                                                · skip
                                                                  refine lv_iinc (v := 4) (lv' := [(1, .int 4), (0, .ref (xad g 65))]) S.1 S.2.1 dX7_isRead_114 hl (k := 0) rfl (by decide) (by decide) rfl (fun ls hl => ?_)
                                                                  refine lv_goto (tgt := 23) S.1 S.2.1 dX7_isRead_117 (by decide) ?_
                                                                  refine lv_iload_n S.1 S.2.1 dX7_isRead_23 rfl (lv_at hl 0 rfl) ?_
                                                                  refine lv_bipush (v := 6) S.1 S.2.1 dX7_isRead_24 (by decide) ?_
                                                                  refine lv_icmp_ge (tgt := 120) S.1 S.2.1 dX7_isRead_26 (by decide) (fun c26_4 => ?_) (fun c26_4 => ?_)
                                                                  · skip
                                                                    exact absurd c26_4 (by decide)
                                                                  · skip
                                                                    refine lv_iload_n S.1 S.2.1 dX7_isRead_29 rfl (lv_at hl 0 rfl) ?_
                                                                    refine lv_if_le (tgt := 62) S.1 S.2.1 dX7_isRead_30 (by decide) (fun c30_4 => ?_) (fun c30_4 => ?_)
                                                                    · skip
                                                                      exact absurd c30_4 (by decide)
                                                                    · skip
                                                                      refine lv_aload_n S.1 S.2.1 dX7_isRead_33 rfl (lv_at hl 1 rfl) ?_
                                                                      refine lv_iload_n S.1 S.2.1 dX7_isRead_34 rfl (lv_at hl 0 rfl) ?_
                                                                      refine lv_iconst (v := 1) S.1 S.2.1 dX7_isRead_35 (by decide) ?_
                                                                      refine lv_icmp_ne (tgt := 44) S.1 S.2.1 dX7_isRead_36 (by decide) (fun c36_3 => ?_) (fun c36_3 => ?_)
                                                                      · skip
                                                                        refine lv_iload_n S.1 S.2.1 dX7_isRead_44 rfl (lv_at hl 0 rfl) ?_
                                                                        refine lv_iconst (v := 4) S.1 S.2.1 dX7_isRead_45 (by decide) ?_
                                                                        refine lv_icmp_ne (tgt := 54) S.1 S.2.1 dX7_isRead_46 (by decide) (fun c46_2 => ?_) (fun c46_2 => ?_)
                                                                        · skip
                                                                          exact absurd c46_2 (by decide)
                                                                        · skip
                                                                          refine lv_bipush (v := 64) S.1 S.2.1 dX7_isRead_49 (by decide) ?_
                                                                          refine lv_goto (tgt := 56) S.1 S.2.1 dX7_isRead_51 (by decide) ?_
                                                                          refine x_qi (va_runV (As := [.int 64]) (rest := []) S (c_X7_takes l g hJ E1_13 h65 h73 htl hp7 64) (cwV 1 S.2.2.2.2 gX7_isRead_X7_takes rfl rfl rfl (by decide +kernel) ⟨Nat.le_of_ble_eq_true rfl, Nat.le_of_ble_eq_true rfl⟩) (x_preV hK hP h65 (by decide) rfl) rfl rfl hl.1 rfl (lv_room (Nat.le_of_ble_eq_true rfl)) dX7_isRead_56 ⟨Nat.le_of_ble_eq_true rfl, Nat.le_of_ble_eq_true rfl⟩) hS (fun r8 E1_14 H locs hq8 hP hS => ?_)
                                                                          obtain ⟨hr8, h65, hfr8⟩ := hq8
                                                                          have h73 : E1_14 73 = .inl (xC g, 60, .inl tf) := (hfr8 _ (by decide)).trans h73
                                                                          have h74 : E1_14 74 = .inl (xI g, 6, .inl (upd (upd (upd (upd (upd (upd fd 4 360) 5 0) 0 v1) 1 v3) 2 v5) 3 v7)) := (hfr8 _ (by decide)).trans h74
                                                                          have hfr : ∀ j, j ≠ 65 ∧ j ≠ 74 → E1_14 j = E j := fun j hj => (hfr8 j hj.1).trans (hfr j hj)
                                                                          obtain ⟨b8, p8, e8⟩ : ∃ b p, pas tf tl 64 p7 = (b, p) := ⟨_, _, rfl⟩
                                                                          have hp8 : p8 ≤ tl := by have := pas_le (f := tf) (c := 64) hp7; rw [e8] at this; exact this
                                                                          rw [e8] at hr8 h65
                                                                          dsimp only at hr8 h65
                                                                          refine lv_if_eq (tgt := 84) S.1 S.2.1 dX7_isRead_59 (by decide) (fun c59 => ?_) (fun c59 => ?_)
                                                                          · skip
                                                                            refine lv_iconst (v := 0) S.1 S.2.1 dX7_isRead_84 (by decide) ?_
                                                                            exact x_zret S hr hlocks hP hS dX7_isRead_85 rfl (by have he : ¬ p7 = tl := fun h => c109 (by rw [h]); have hb : b8 = false := Bool.eq_false_iff.mpr (hr8.f c59); rw [hb] at e8; have hn : prs tf tl = (false, p8, false, 360, 0) := by { simp [prs, plB, e1, e2, e3, e4, e5, e6, e7, e8, he] }; rw [hn]; exact ⟨xb.zero (by simp), ⟨_, h65⟩, ⟨_, h74, fun h => by simp at h⟩, fun j g1 g2 => hfr j ⟨g1, g2⟩⟩)
                                                                          · skip
                                                                            have hb8 : b8 = true := hr8.t c59
                                                                            rw [hb8] at e8
                                                                            refine lv_aload_n S.1 S.2.1 dX7_isRead_62 rfl (lv_at hl 1 rfl) ?_
                                                                            refine lv_iload_n S.1 S.2.1 dX7_isRead_63 rfl (lv_at hl 0 rfl) ?_
                                                                            refine lv_iconst (v := 1) S.1 S.2.1 dX7_isRead_64 (by decide) ?_
                                                                            refine lv_icmp_eq (tgt := 73) S.1 S.2.1 dX7_isRead_65 (by decide) (fun c65_4 => ?_) (fun c65_4 => ?_)
                                                                            · skip
                                                                              exact absurd c65_4 (by decide)
                                                                            · skip
                                                                              refine lv_iload_n S.1 S.2.1 dX7_isRead_68 rfl (lv_at hl 0 rfl) ?_
                                                                              refine lv_iconst (v := 2) S.1 S.2.1 dX7_isRead_69 (by decide) ?_
                                                                              refine lv_icmp_ne (tgt := 77) S.1 S.2.1 dX7_isRead_70 (by decide) (fun c70_3 => ?_) (fun c70_3 => ?_)
                                                                              · skip
                                                                                refine lv_iconst (v := 0) S.1 S.2.1 dX7_isRead_77 (by decide) ?_
                                                                                refine x_qi (va_runV (As := [.int 0]) (rest := []) S (c_X7_takesNumber_u l g hJ E1_14 h65 h73 htl hp8) (cwV 1 S.2.2.2.2 gX7_isRead_X7_takesNumber rfl rfl rfl (by decide +kernel) ⟨Nat.le_of_ble_eq_true rfl, Nat.le_of_ble_eq_true rfl⟩) (x_preV hK hP h65 (by decide) rfl) rfl rfl hl.1 rfl (lv_room (Nat.le_of_ble_eq_true rfl)) dX7_isRead_78 ⟨Nat.le_of_ble_eq_true rfl, Nat.le_of_ble_eq_true rfl⟩) hS (fun r9 E1_15 H locs hq9 hP hS => ?_)
                                                                                obtain ⟨hr9, ⟨nu9, h65, hv9⟩, hfr9⟩ := hq9
                                                                                have h73 : E1_15 73 = .inl (xC g, 60, .inl tf) := (hfr9 _ (by decide)).trans h73
                                                                                have h74 : E1_15 74 = .inl (xI g, 6, .inl (upd (upd (upd (upd (upd (upd fd 4 360) 5 0) 0 v1) 1 v3) 2 v5) 3 v7)) := (hfr9 _ (by decide)).trans h74
                                                                                have hfr : ∀ j, j ≠ 65 ∧ j ≠ 74 → E1_15 j = E j := fun j hj => (hfr9 j hj.1).trans (hfr j hj)
                                                                                obtain ⟨b9, p9, v9, e9⟩ : ∃ b p v, num tf tl false p8 = (b, p, v) := ⟨_, _, _, rfl⟩
                                                                                have hp9 : p9 ≤ tl := by have := num_le (f := tf) (sg := false) hp8; rw [e9] at this; exact this
                                                                                rw [e9] at hr9 h65 hv9
                                                                                dsimp only at hr9 h65 hv9
                                                                                refine lv_if_ne (tgt := 86) S.1 S.2.1 dX7_isRead_81 (by decide) (fun c81 => ?_) (fun c81 => ?_)
                                                                                · skip
                                                                                  have hb9 : b9 = true := hr9.t c81
                                                                                  rw [hb9] at e9
                                                                                  rw [hv9 hb9] at h65
                                                                                  refine lv_aload_n S.1 S.2.1 dX7_isRead_86 rfl (lv_at hl 1 rfl) ?_
                                                                                  refine x_get S hK hP dX7_isRead_87 h65 (by decide) (RX7, TX7, 19) rfl hin7 18 (by decide) fl35 rfl ?_
                                                                                  refine lv_iload_n S.1 S.2.1 dX7_isRead_90 rfl (lv_at hl 0 rfl) ?_
                                                                                  refine lv_aload_n S.1 S.2.1 dX7_isRead_91 rfl (lv_at hl 1 rfl) ?_
                                                                                  refine x_get S hK hP dX7_isRead_92 h65 (by decide) (RX7, TX7, 19) rfl hin7 17 (by decide) fl161 rfl ?_
                                                                                  refine x_iast S hK hJ hP hS dX7_isRead_95 h74 (by decide) (j := 4) rfl (by omega) (by decide) (fun H locs E1_16 hu hP hS => ?_)
                                                                                  have h65 : E1_16 65 = mO g kp fi hi od bs bb bf (nI tl) (nI p9) v9 := (hu.2 _ (by omega)).trans h65
                                                                                  have h73 : E1_16 73 = .inl (xC g, 60, .inl tf) := (hu.2 _ (by omega)).trans h73
                                                                                  have h74 : E1_16 74 = .inl (xI g, 6, .inl (upd (upd (upd (upd (upd (upd (upd fd 4 360) 5 0) 0 v1) 1 v3) 2 v5) 3 v7) 4 v9)) := hu.1
                                                                                  have hfr : ∀ j, j ≠ 65 ∧ j ≠ 74 → E1_16 j = E j := fun j hj => (hu.2 j (by omega)).trans (hfr j hj)
                                                                                  refine lv_iload_n S.1 S.2.1 dX7_isRead_96 rfl (lv_at hl 0 rfl) ?_
                                                                                  refine lv_iconst (v := 3) S.1 S.2.1 dX7_isRead_97 (by decide) ?_
                                                                                  refine lv_icmp_ne (tgt := 114) S.1 S.2.1 dX7_isRead_98 (by decide) (fun c98_4 => ?_) (fun c98_4 => ?_)
                                                                                  · skip
                                                                                    refine lv_iinc (v := 5) (lv' := [(1, .int 5), (0, .ref (xad g 65))]) S.1 S.2.1 dX7_isRead_114 hl (k := 0) rfl (by decide) (by decide) rfl (fun ls hl => ?_)
                                                                                    refine lv_goto (tgt := 23) S.1 S.2.1 dX7_isRead_117 (by decide) ?_
                                                                                    refine lv_iload_n S.1 S.2.1 dX7_isRead_23 rfl (lv_at hl 0 rfl) ?_
                                                                                    refine lv_bipush (v := 6) S.1 S.2.1 dX7_isRead_24 (by decide) ?_
                                                                                    refine lv_icmp_ge (tgt := 120) S.1 S.2.1 dX7_isRead_26 (by decide) (fun c26_5 => ?_) (fun c26_5 => ?_)
                                                                                    · skip
                                                                                      exact absurd c26_5 (by decide)
                                                                                    · skip
                                                                                      refine lv_iload_n S.1 S.2.1 dX7_isRead_29 rfl (lv_at hl 0 rfl) ?_
                                                                                      refine lv_if_le (tgt := 62) S.1 S.2.1 dX7_isRead_30 (by decide) (fun c30_5 => ?_) (fun c30_5 => ?_)
                                                                                      · skip
                                                                                        exact absurd c30_5 (by decide)
                                                                                      · skip
                                                                                        refine lv_aload_n S.1 S.2.1 dX7_isRead_33 rfl (lv_at hl 1 rfl) ?_
                                                                                        refine lv_iload_n S.1 S.2.1 dX7_isRead_34 rfl (lv_at hl 0 rfl) ?_
                                                                                        refine lv_iconst (v := 1) S.1 S.2.1 dX7_isRead_35 (by decide) ?_
                                                                                        refine lv_icmp_ne (tgt := 44) S.1 S.2.1 dX7_isRead_36 (by decide) (fun c36_4 => ?_) (fun c36_4 => ?_)
                                                                                        · skip
                                                                                          refine lv_iload_n S.1 S.2.1 dX7_isRead_44 rfl (lv_at hl 0 rfl) ?_
                                                                                          refine lv_iconst (v := 4) S.1 S.2.1 dX7_isRead_45 (by decide) ?_
                                                                                          refine lv_icmp_ne (tgt := 54) S.1 S.2.1 dX7_isRead_46 (by decide) (fun c46_3 => ?_) (fun c46_3 => ?_)
                                                                                          · skip
                                                                                            refine lv_bipush (v := 44) S.1 S.2.1 dX7_isRead_54 (by decide) ?_
                                                                                            refine x_qi (va_runV (As := [.int 44]) (rest := []) S (c_X7_takes l g hJ E1_16 h65 h73 htl hp9 44) (cwV 1 S.2.2.2.2 gX7_isRead_X7_takes rfl rfl rfl (by decide +kernel) ⟨Nat.le_of_ble_eq_true rfl, Nat.le_of_ble_eq_true rfl⟩) (x_preV hK hP h65 (by decide) rfl) rfl rfl hl.1 rfl (lv_room (Nat.le_of_ble_eq_true rfl)) dX7_isRead_56 ⟨Nat.le_of_ble_eq_true rfl, Nat.le_of_ble_eq_true rfl⟩) hS (fun r10 E1_17 H locs hq10 hP hS => ?_)
                                                                                            obtain ⟨hr10, h65, hfr10⟩ := hq10
                                                                                            have h73 : E1_17 73 = .inl (xC g, 60, .inl tf) := (hfr10 _ (by decide)).trans h73
                                                                                            have h74 : E1_17 74 = .inl (xI g, 6, .inl (upd (upd (upd (upd (upd (upd (upd fd 4 360) 5 0) 0 v1) 1 v3) 2 v5) 3 v7) 4 v9)) := (hfr10 _ (by decide)).trans h74
                                                                                            have hfr : ∀ j, j ≠ 65 ∧ j ≠ 74 → E1_17 j = E j := fun j hj => (hfr10 j hj.1).trans (hfr j hj)
                                                                                            obtain ⟨b10, p10, e10⟩ : ∃ b p, pas tf tl 44 p9 = (b, p) := ⟨_, _, rfl⟩
                                                                                            have hp10 : p10 ≤ tl := by have := pas_le (f := tf) (c := 44) hp9; rw [e10] at this; exact this
                                                                                            rw [e10] at hr10 h65
                                                                                            dsimp only at hr10 h65
                                                                                            refine lv_if_eq (tgt := 84) S.1 S.2.1 dX7_isRead_59 (by decide) (fun c59 => ?_) (fun c59 => ?_)
                                                                                            · skip
                                                                                              refine lv_iconst (v := 0) S.1 S.2.1 dX7_isRead_84 (by decide) ?_
                                                                                              exact x_zret S hr hlocks hP hS dX7_isRead_85 rfl (by have he : ¬ p7 = tl := fun h => c109 (by rw [h]); have hb : b10 = false := Bool.eq_false_iff.mpr (hr10.f c59); rw [hb] at e10; have hn : prs tf tl = (false, p10, true, v9, 0) := by { simp [prs, plB, e1, e2, e3, e4, e5, e6, e7, e8, e9, e10, he] }; rw [hn]; exact ⟨xb.zero (by simp), ⟨_, h65⟩, ⟨_, h74, fun h => by simp at h⟩, fun j g1 g2 => hfr j ⟨g1, g2⟩⟩)
                                                                                            · skip
                                                                                              have hb10 : b10 = true := hr10.t c59
                                                                                              rw [hb10] at e10
                                                                                              refine lv_aload_n S.1 S.2.1 dX7_isRead_62 rfl (lv_at hl 1 rfl) ?_
                                                                                              refine lv_iload_n S.1 S.2.1 dX7_isRead_63 rfl (lv_at hl 0 rfl) ?_
                                                                                              refine lv_iconst (v := 1) S.1 S.2.1 dX7_isRead_64 (by decide) ?_
                                                                                              refine lv_icmp_eq (tgt := 73) S.1 S.2.1 dX7_isRead_65 (by decide) (fun c65_5 => ?_) (fun c65_5 => ?_)
                                                                                              · skip
                                                                                                exact absurd c65_5 (by decide)
                                                                                              · skip
                                                                                                refine lv_iload_n S.1 S.2.1 dX7_isRead_68 rfl (lv_at hl 0 rfl) ?_
                                                                                                refine lv_iconst (v := 2) S.1 S.2.1 dX7_isRead_69 (by decide) ?_
                                                                                                refine lv_icmp_ne (tgt := 77) S.1 S.2.1 dX7_isRead_70 (by decide) (fun c70_4 => ?_) (fun c70_4 => ?_)
                                                                                                · skip
                                                                                                  refine lv_iconst (v := 0) S.1 S.2.1 dX7_isRead_77 (by decide) ?_
                                                                                                  refine x_qi (va_runV (As := [.int 0]) (rest := []) S (c_X7_takesNumber_u l g hJ E1_17 h65 h73 htl hp10) (cwV 1 S.2.2.2.2 gX7_isRead_X7_takesNumber rfl rfl rfl (by decide +kernel) ⟨Nat.le_of_ble_eq_true rfl, Nat.le_of_ble_eq_true rfl⟩) (x_preV hK hP h65 (by decide) rfl) rfl rfl hl.1 rfl (lv_room (Nat.le_of_ble_eq_true rfl)) dX7_isRead_78 ⟨Nat.le_of_ble_eq_true rfl, Nat.le_of_ble_eq_true rfl⟩) hS (fun r11 E1_18 H locs hq11 hP hS => ?_)
                                                                                                  obtain ⟨hr11, ⟨nu11, h65, hv11⟩, hfr11⟩ := hq11
                                                                                                  have h73 : E1_18 73 = .inl (xC g, 60, .inl tf) := (hfr11 _ (by decide)).trans h73
                                                                                                  have h74 : E1_18 74 = .inl (xI g, 6, .inl (upd (upd (upd (upd (upd (upd (upd fd 4 360) 5 0) 0 v1) 1 v3) 2 v5) 3 v7) 4 v9)) := (hfr11 _ (by decide)).trans h74
                                                                                                  have hfr : ∀ j, j ≠ 65 ∧ j ≠ 74 → E1_18 j = E j := fun j hj => (hfr11 j hj.1).trans (hfr j hj)
                                                                                                  obtain ⟨b11, p11, v11, e11⟩ : ∃ b p v, num tf tl false p10 = (b, p, v) := ⟨_, _, _, rfl⟩
                                                                                                  have hp11 : p11 ≤ tl := by have := num_le (f := tf) (sg := false) hp10; rw [e11] at this; exact this
                                                                                                  rw [e11] at hr11 h65 hv11
                                                                                                  dsimp only at hr11 h65 hv11
                                                                                                  refine lv_if_ne (tgt := 86) S.1 S.2.1 dX7_isRead_81 (by decide) (fun c81 => ?_) (fun c81 => ?_)
                                                                                                  · skip
                                                                                                    have hb11 : b11 = true := hr11.t c81
                                                                                                    rw [hb11] at e11
                                                                                                    rw [hv11 hb11] at h65
                                                                                                    refine lv_aload_n S.1 S.2.1 dX7_isRead_86 rfl (lv_at hl 1 rfl) ?_
                                                                                                    refine x_get S hK hP dX7_isRead_87 h65 (by decide) (RX7, TX7, 19) rfl hin7 18 (by decide) fl35 rfl ?_
                                                                                                    refine lv_iload_n S.1 S.2.1 dX7_isRead_90 rfl (lv_at hl 0 rfl) ?_
                                                                                                    refine lv_aload_n S.1 S.2.1 dX7_isRead_91 rfl (lv_at hl 1 rfl) ?_
                                                                                                    refine x_get S hK hP dX7_isRead_92 h65 (by decide) (RX7, TX7, 19) rfl hin7 17 (by decide) fl161 rfl ?_
                                                                                                    refine x_iast S hK hJ hP hS dX7_isRead_95 h74 (by decide) (j := 5) rfl (by omega) (by decide) (fun H locs E1_19 hu hP hS => ?_)
                                                                                                    have h65 : E1_19 65 = mO g kp fi hi od bs bb bf (nI tl) (nI p11) v11 := (hu.2 _ (by omega)).trans h65
                                                                                                    have h73 : E1_19 73 = .inl (xC g, 60, .inl tf) := (hu.2 _ (by omega)).trans h73
                                                                                                    have h74 : E1_19 74 = .inl (xI g, 6, .inl (upd (upd (upd (upd (upd (upd (upd (upd fd 4 360) 5 0) 0 v1) 1 v3) 2 v5) 3 v7) 4 v9) 5 v11)) := hu.1
                                                                                                    have hfr : ∀ j, j ≠ 65 ∧ j ≠ 74 → E1_19 j = E j := fun j hj => (hu.2 j (by omega)).trans (hfr j hj)
                                                                                                    refine lv_iload_n S.1 S.2.1 dX7_isRead_96 rfl (lv_at hl 0 rfl) ?_
                                                                                                    refine lv_iconst (v := 3) S.1 S.2.1 dX7_isRead_97 (by decide) ?_
                                                                                                    refine lv_icmp_ne (tgt := 114) S.1 S.2.1 dX7_isRead_98 (by decide) (fun c98_5 => ?_) (fun c98_5 => ?_)
                                                                                                    · skip
                                                                                                      refine lv_iinc (v := 6) (lv' := [(1, .int 6), (0, .ref (xad g 65))]) S.1 S.2.1 dX7_isRead_114 hl (k := 0) rfl (by decide) (by decide) rfl (fun ls hl => ?_)
                                                                                                      refine lv_goto (tgt := 23) S.1 S.2.1 dX7_isRead_117 (by decide) ?_
                                                                                                      refine lv_iload_n S.1 S.2.1 dX7_isRead_23 rfl (lv_at hl 0 rfl) ?_
                                                                                                      refine lv_bipush (v := 6) S.1 S.2.1 dX7_isRead_24 (by decide) ?_
                                                                                                      refine lv_icmp_ge (tgt := 120) S.1 S.2.1 dX7_isRead_26 (by decide) (fun c26_6 => ?_) (fun c26_6 => ?_)
                                                                                                      · skip
                                                                                                        refine lv_aload_n S.1 S.2.1 dX7_isRead_120 rfl (lv_at hl 1 rfl) ?_
                                                                                                        refine x_get S hK hP dX7_isRead_121 h65 (by decide) (RX7, TX7, 19) rfl hin7 16 (by decide) fl152 rfl ?_
                                                                                                        refine lv_aload_n S.1 S.2.1 dX7_isRead_124 rfl (lv_at hl 1 rfl) ?_
                                                                                                        refine x_get S hK hP dX7_isRead_125 h65 (by decide) (RX7, TX7, 19) rfl hin7 14 (by decide) fl149 rfl ?_
                                                                                                        refine lv_icmp_ne (tgt := 135) S.1 S.2.1 dX7_isRead_128 (by decide) (fun c128 => ?_) (fun c128 => ?_)
                                                                                                        · skip
                                                                                                          refine lv_iconst (v := 0) S.1 S.2.1 dX7_isRead_135 (by decide) ?_
                                                                                                          exact x_zret S hr hlocks hP hS dX7_isRead_136 rfl (by have he : ¬ p7 = tl := fun h => c109 (by rw [h]); have he5 : ¬ p11 = tl := fun h => c128 (by rw [h]); have hn : prs tf tl = (false, p11, true, v9, v11) := by { simp [prs, plB, e1, e2, e3, e4, e5, e6, e7, e8, e9, e10, e11, he, he5] }; have hpl : plB tf tl = (true, p7, v1, v3, v5, v7) := by { simp [plB, e1, e2, e3, e4, e5, e6, e7] }; rw [hn, hpl]; exact ⟨xb.zero (by simp), ⟨_, h65⟩, ⟨_, h74, fun h => by simp at h⟩, fun j g1 g2 => hfr j ⟨g1, g2⟩⟩)
                                                                                                        · skip
                                                                                                          refine lv_iconst (v := 1) S.1 S.2.1 dX7_isRead_131 (by decide) ?_
                                                                                                          refine lv_goto (tgt := 136) S.1 S.2.1 dX7_isRead_132 (by decide) ?_
                                                                                                          exact x_zret S hr hlocks hP hS dX7_isRead_136 rfl (by have he : ¬ p7 = tl := fun h => c109 (by rw [h]); have he5 : p11 = tl := (nI_eq (by omega) (by omega)).mp c128; have hn : prs tf tl = (true, p11, true, v9, v11) := by { simp [prs, plB, e1, e2, e3, e4, e5, e6, e7, e8, e9, e10, e11, he, he5] }; have hpl : plB tf tl = (true, p7, v1, v3, v5, v7) := by { simp [plB, e1, e2, e3, e4, e5, e6, e7] }; rw [hn, hpl]; exact ⟨xb.one rfl, ⟨_, h65⟩, ⟨_, h74, fun h => ⟨by simp [upd], by simp [upd], by simp [upd], by simp [upd], by simp [upd], by simp [upd]⟩⟩, fun j g1 g2 => hfr j ⟨g1, g2⟩⟩)
                                                                                                      · skip
                                                                                                        exact absurd c26_6 (by decide)
                                                                                                    · skip
                                                                                                      exact absurd c98_5 (by decide)
                                                                                                  · skip
                                                                                                    refine lv_iconst (v := 0) S.1 S.2.1 dX7_isRead_84 (by decide) ?_
                                                                                                    exact x_zret S hr hlocks hP hS dX7_isRead_85 rfl (by have he : ¬ p7 = tl := fun h => c109 (by rw [h]); have hb : b11 = false := Bool.eq_false_iff.mpr (hr11.f c81); rw [hb] at e11; have hn : prs tf tl = (false, p11, true, v9, 0) := by { simp [prs, plB, e1, e2, e3, e4, e5, e6, e7, e8, e9, e10, e11, he] }; rw [hn]; exact ⟨xb.zero (by simp), ⟨_, h65⟩, ⟨_, h74, fun h => by simp at h⟩, fun j g1 g2 => hfr j ⟨g1, g2⟩⟩)
                                                                                                · skip
                                                                                                  exact absurd c70_4 (by decide)
                                                                                          · skip
                                                                                            exact absurd c46_3 (by decide)
                                                                                        · skip
                                                                                          exact absurd c36_4 (by decide)
                                                                                  · skip
                                                                                    exact absurd c98_4 (by decide)
                                                                                · skip
                                                                                  refine lv_iconst (v := 0) S.1 S.2.1 dX7_isRead_84 (by decide) ?_
                                                                                  exact x_zret S hr hlocks hP hS dX7_isRead_85 rfl (by have he : ¬ p7 = tl := fun h => c109 (by rw [h]); have hb : b9 = false := Bool.eq_false_iff.mpr (hr9.f c81); rw [hb] at e9; have hn : prs tf tl = (false, p9, true, 360, 0) := by { simp [prs, plB, e1, e2, e3, e4, e5, e6, e7, e8, e9, he] }; rw [hn]; exact ⟨xb.zero (by simp), ⟨_, h65⟩, ⟨_, h74, fun h => by simp at h⟩, fun j g1 g2 => hfr j ⟨g1, g2⟩⟩)
                                                                              · skip
                                                                                exact absurd c70_3 (by decide)
                                                                      · skip
                                                                        exact absurd c36_3 (by decide)
                                                                · skip
                                                                  refine lv_iconst (v := 1) S.1 S.2.1 dX7_isRead_112 (by decide) ?_
                                                                  exact x_zret S hr hlocks hP hS dX7_isRead_113 rfl (by have he : p7 = tl := (nI_eq (by omega) (by omega)).mp c109; have hn : prs tf tl = (true, p7, false, 360, 0) := by { simp [prs, plB, e1, e2, e3, e4, e5, e6, e7, he] }; have hpl : plB tf tl = (true, p7, v1, v3, v5, v7) := by { simp [plB, e1, e2, e3, e4, e5, e6, e7] }; rw [hn, hpl]; exact ⟨xb.one rfl, ⟨_, h65⟩, ⟨_, h74, fun _ => ⟨by simp [upd], by simp [upd], by simp [upd], by simp [upd], by simp [upd], by simp [upd]⟩⟩, fun j g1 g2 => hfr j ⟨g1, g2⟩⟩)
                                                            · skip
                                                              refine lv_iconst (v := 0) S.1 S.2.1 dX7_isRead_84 (by decide) ?_
                                                              exact x_zret S hr hlocks hP hS dX7_isRead_85 rfl (by have hb : b7 = false := Bool.eq_false_iff.mpr (hr7.f c81); rw [hb] at e7; have hn : prs tf tl = (false, p7, false, 360, 0) := by { simp [prs, plB, e1, e2, e3, e4, e5, e6, e7] }; rw [hn]; exact ⟨xb.zero (by simp), ⟨_, h65⟩, ⟨_, h74, fun h => by simp at h⟩, fun j g1 g2 => hfr j ⟨g1, g2⟩⟩)
                                                          · skip
                                                            exact absurd c70_2 (by decide)
                                                    · skip
                                                      exact absurd c46_1 (by decide)
                                                  · skip
                                                    exact absurd c36_2 (by decide)
                                            · skip
                                              exact absurd c98_2 (by decide)
                                          · skip
                                            refine lv_iconst (v := 0) S.1 S.2.1 dX7_isRead_84 (by decide) ?_
                                            exact x_zret S hr hlocks hP hS dX7_isRead_85 rfl (by have hb : b5 = false := Bool.eq_false_iff.mpr (hr5.f c81); rw [hb] at e5; have hn : prs tf tl = (false, p5, false, 360, 0) := by { simp [prs, plB, e1, e2, e3, e4, e5] }; rw [hn]; exact ⟨xb.zero (by simp), ⟨_, h65⟩, ⟨_, h74, fun h => by simp at h⟩, fun j g1 g2 => hfr j ⟨g1, g2⟩⟩)
                                  · skip
                                    exact absurd c46 (by decide)
                                · skip
                                  exact absurd c36_1 (by decide)
                          · skip
                            exact absurd c98_1 (by decide)
                        · skip
                          refine lv_iconst (v := 0) S.1 S.2.1 dX7_isRead_84 (by decide) ?_
                          exact x_zret S hr hlocks hP hS dX7_isRead_85 rfl (by have hb : b3 = false := Bool.eq_false_iff.mpr (hr3.f c81); rw [hb] at e3; have hn : prs tf tl = (false, p3, false, 360, 0) := by { simp [prs, plB, e1, e2, e3] }; rw [hn]; exact ⟨xb.zero (by simp), ⟨_, h65⟩, ⟨_, h74, fun h => by simp at h⟩, fun j g1 g2 => hfr j ⟨g1, g2⟩⟩)
                      · skip
                        exact absurd c65_1 (by decide)
            · skip
              exact absurd c98 (by decide)
          · skip
            refine lv_iconst (v := 0) S.1 S.2.1 dX7_isRead_84 (by decide) ?_
            exact x_zret S hr hlocks hP hS dX7_isRead_85 rfl (by have hb : b1 = false := Bool.eq_false_iff.mpr (hr1.f c81); rw [hb] at e1; have hn : prs tf tl = (false, p1, false, 360, 0) := by { simp [prs, plB, e1] }; rw [hn]; exact ⟨xb.zero (by simp), ⟨_, h65⟩, ⟨_, h74, fun h => by simp at h⟩, fun j g1 g2 => hfr j ⟨g1, g2⟩⟩)
        · skip
          exact absurd c70 (by decide)
    · skip
      exact absurd c30 (by decide)
set_option maxHeartbeats 4000000 in
set_option maxRecDepth 100000 in
theorem c_X7_isTold (l : Launch) (g : xG) (E : Nat → va_E) {kp fi hi od bs bb bf at9 nu : Int32} {tl : Nat} (h65 : E 65 = mO g kp fi hi od bs bb bf (nI tl) at9 nu) {tf : Nat → Int32} (h73 : E 73 = .inl (xC g, 60, .inl tf)) (htl : tl ≤ 60) : Met l yX7_isTold wsX7_isTold ({ frames := 0, cells := 0, slots := 0, locals := 0 }) (xPc g [.ref (xad g 65)] E) (vp_Si (xb (∃ k, k < tl ∧ tf k = 64))) 0 0 (fun _ => False) := by
  refine x_met (ws' := _) (by decide) rfl (Nat.le_of_ble_eq_true rfl) ?_
  intro pz ez s m below meth cz ls S hr hlocks hP hK hl
  have hl : lv_has ls 3 [(0, .ref (xad g 65))] := hl
  have hin7 : ∀ w ∈ u_ws RX7 TX7 19, w ∈ wsX7_isTold := by decide +kernel
  have fl31 : Cond.fieldLink RX7 31 "DiscArcsModel" "text" "[C" ∈ wsX7_isTold := by decide +kernel
  have fl149 : Cond.fieldLink RX7 149 "DiscArcsModel" "typed" "I" ∈ wsX7_isTold := by decide +kernel
  refine lv_iconst (v := 0) S.1 S.2.1 dX7_isTold_0 (by decide) ?_
  refine lv_istore_n (lv' := [(1, .int 0), (0, .ref (xad g 65))]) S.1 S.2.1 dX7_isTold_1 rfl hl (by decide) rfl (fun ls hl => ?_)
  refine lv_iconst (v := 0) S.1 S.2.1 dX7_isTold_2 (by decide) ?_
  refine lv_istore_n (lv' := [(2, .int 0), (1, .int 0), (0, .ref (xad g 65))]) S.1 S.2.1 dX7_isTold_3 rfl hl (by decide) rfl (fun ls hl => ?_)
  have loop4 : ∀ (d : Nat) (q : Nat) (y : Int32), (hq : q ≤ tl) → (hy : xb (∃ k, k < q ∧ tf k = 64) y) → (tl - q) < d → ∀ ls : Array Slot, lv_has ls 3 [(2, .int (nI q)), (1, .int y), (0, .ref (xad g 65))] → W pz l ez ({ frames := 0, cells := 0, slots := 0, locals := 0 }) s m ([.ref (xad g 65)] : List Value).toArray below meth cz s.heap [] 0 0 (MQ below (vp_Si (xb (∃ k, k < tl ∧ tf k = 64))) ([.ref (xad g 65)] : List Value).toArray s 0 0 (fun _ => False)) (F0 m 4 ls []) := by
    intro d
    induction d with
    | zero => intro q y hq hy hd; exact absurd hd (Nat.not_lt_zero _)
    | succ d ih4 =>
      intro q y hq hy hd ls hl
      refine lv_iload_n S.1 S.2.1 dX7_isTold_4 rfl (lv_at hl 0 rfl) ?_
      refine lv_aload_n S.1 S.2.1 dX7_isTold_5 rfl (lv_at hl 2 rfl) ?_
      refine x_get S hK hP dX7_isTold_6 h65 (by decide) (RX7, TX7, 19) rfl hin7 14 (by decide) fl149 rfl ?_
      refine lv_icmp_ge (tgt := 37) S.1 S.2.1 dX7_isTold_9 (by decide) (fun c9 => ?_) (fun c9 => ?_)
      · skip
        refine lv_iload_n S.1 S.2.1 dX7_isTold_37 rfl (lv_at hl 1 rfl) ?_
        exact x_zretR S hr hlocks dX7_isTold_38 (by rw [← show q = tl from Nat.le_antisymm hq ((nI_leI (by omega) (by omega)).mp c9)]; exact hy)
      · skip
        have hqt : q < tl := Nat.not_le.mp (fun h => c9 ((nI_leI (by omega) (by omega)).mpr h))
        refine lv_iload_n S.1 S.2.1 dX7_isTold_12 rfl (lv_at hl 1 rfl) ?_
        refine lv_aload_n S.1 S.2.1 dX7_isTold_13 rfl (lv_at hl 2 rfl) ?_
        refine x_get S hK hP dX7_isTold_14 h65 (by decide) (RX7, TX7, 19) rfl hin7 15 (by decide) fl31 rfl ?_
        refine lv_iload_n S.1 S.2.1 dX7_isTold_17 rfl (lv_at hl 0 rfl) ?_
        refine x_cald S hK hP dX7_isTold_18 h73 (by decide) (j := q) rfl (by omega) (by decide) ?_
        refine lv_bipush (v := 64) S.1 S.2.1 dX7_isTold_19 (by decide) ?_
        refine lv_icmp_ne (tgt := 28) S.1 S.2.1 dX7_isTold_21 (by decide) (fun c21 => ?_) (fun c21 => ?_)
        · skip
          refine lv_iconst (v := 0) S.1 S.2.1 dX7_isTold_28 (by decide) ?_
          refine lv_ior S.1 S.2.1 dX7_isTold_29 ?_
          refine lv_topi (fun y30 ey30 => ?_)
          refine lv_istore_n (lv' := [(1, .int y30), (2, .int (nI q)), (0, .ref (xad g 65))]) S.1 S.2.1 dX7_isTold_30 rfl hl (by decide) rfl (fun ls hl => ?_)
          refine lv_iinc (v := nI (q + 1)) (lv' := [(2, .int (nI (q + 1))), (1, .int y30), (0, .ref (xad g 65))]) S.1 S.2.1 dX7_isTold_31 hl (k := 1) rfl (show nI q + Int32.ofInt 1 = _ from nI_1 _) (by decide) rfl (fun ls hl => ?_)
          refine lv_goto (tgt := 4) S.1 S.2.1 dX7_isTold_34 (by decide) ?_
          exact ih4 (q + 1) y30 (by omega) (by rw [ey30]; exact ex_next hy c21) (by omega) ls (lv_sub hl [0, 1, 2] rfl)
        · skip
          refine lv_iconst (v := 1) S.1 S.2.1 dX7_isTold_24 (by decide) ?_
          refine lv_goto (tgt := 29) S.1 S.2.1 dX7_isTold_25 (by decide) ?_
          refine lv_ior S.1 S.2.1 dX7_isTold_29 ?_
          refine lv_topi (fun y30 ey30 => ?_)
          refine lv_istore_n (lv' := [(1, .int y30), (2, .int (nI q)), (0, .ref (xad g 65))]) S.1 S.2.1 dX7_isTold_30 rfl hl (by decide) rfl (fun ls hl => ?_)
          refine lv_iinc (v := nI (q + 1)) (lv' := [(2, .int (nI (q + 1))), (1, .int y30), (0, .ref (xad g 65))]) S.1 S.2.1 dX7_isTold_31 hl (k := 1) rfl (show nI q + Int32.ofInt 1 = _ from nI_1 _) (by decide) rfl (fun ls hl => ?_)
          refine lv_goto (tgt := 4) S.1 S.2.1 dX7_isTold_34 (by decide) ?_
          exact ih4 (q + 1) y30 (by omega) (by rw [ey30]; exact ex_yes hy c21) (by omega) ls (lv_sub hl [0, 1, 2] rfl)
  exact loop4 _ 0 0 (Nat.zero_le _) (xb.zero (fun ⟨k, h, _⟩ => absurd h (Nat.not_lt_zero _))) (Nat.lt_succ_self _) ls (lv_sub hl [0, 1, 2] rfl)
theorem pas_no {f : Nat → Int32} {tl p p' : Nat} {c : Int32} (h : pas f tl c p = (true, p')) (hc : ¬ c = 64) : p ≤ p' ∧ ∀ q, p ≤ q → q < p' → ¬ f q = 64 := by
  unfold pas at h
  split at h
  · rename_i g
    have e : p + 1 = p' := congrArg Prod.snd h
    refine ⟨by omega, fun q h1 h2 => ?_⟩
    rw [show q = p by omega, g.2]
    exact hc
  · exact absurd (congrArg Prod.fst h) (by simp)
theorem dig_no {f : Nat → Int32} {tl p : Nat} (h : digB f tl p = true) : ¬ f p = 64 := by
  have h2 := (digB_iff.mp h).2.2
  intro e
  rw [e] at h2
  exact absurd h2 (by decide)
theorem dgs_no {f : Nat → Int32} {tl : Nat} : ∀ (d p : Nat) (v : Int32), p ≤ (dgs f tl d p v).1 ∧ ∀ q, p ≤ q → q < (dgs f tl d p v).1 → ¬ f q = 64
  | 0, p, v => ⟨Nat.le_refl _, fun q h1 h2 => by
      have h2 : q < p := h2
      omega⟩
  | d + 1, p, v => by
    rw [dgs_step]
    split
    · exact ⟨Nat.le_refl _, fun q h1 h2 => by
        have h2 : q < p := h2
        omega⟩
    · split
      · rename_i hd
        obtain ⟨a1, a2⟩ := dgs_no (f := f) (tl := tl) d (p + 1) (10 * v + (f p - 48))
        refine ⟨by omega, fun q h1 h2 => ?_⟩
        by_cases e : q = p
        · rw [e]
          exact dig_no hd
        · exact a2 q (by omega) h2
      · exact ⟨Nat.le_refl _, fun q h1 h2 => by
          have h2 : q < p := h2
          omega⟩
theorem numB_no {f : Nat → Int32} {tl p p' : Nat} {neg : Bool} {v : Int32} (h : numB f tl neg p = (true, p', v)) : p ≤ p' ∧ ∀ q, p ≤ q → q < p' → ¬ f q = 64 := by
  unfold numB at h
  split at h
  · rename_i hd
    split at h
    · exact absurd (congrArg Prod.fst h) (by simp)
    · have e : (dgs f tl 2 (p + 1) (f p - 48)).1 = p' := congrArg (fun z => z.2.1) h
      obtain ⟨a1, a2⟩ := dgs_no (f := f) (tl := tl) 2 (p + 1) (f p - 48)
      rw [e] at a1 a2
      refine ⟨by omega, fun q h1 h2 => ?_⟩
      by_cases e2 : q = p
      · rw [e2]
        exact dig_no hd
      · exact a2 q (by omega) h2
  · exact absurd (congrArg Prod.fst h) (by simp)
theorem num_no {f : Nat → Int32} {tl p p' : Nat} {sg : Bool} {v : Int32} (h : num f tl sg p = (true, p', v)) : p ≤ p' ∧ ∀ q, p ≤ q → q < p' → ¬ f q = 64 := by
  unfold num at h
  cases sg
  · exact numB_no h
  · have h : numB f tl (pas f tl 45 p).1 (pas f tl 45 p).2 = (true, p', v) := h
    obtain ⟨b, p9, e⟩ : ∃ b p9, pas f tl 45 p = (b, p9) := ⟨_, _, rfl⟩
    rw [e] at h
    obtain ⟨a1, a2⟩ := numB_no h
    cases b
    · have : p9 = p := by
        unfold pas at e
        split at e
        · exact absurd (congrArg Prod.fst e) (by simp)
        · exact (congrArg Prod.snd e).symm
      subst this
      exact ⟨a1, a2⟩
    · obtain ⟨c1, c2⟩ := pas_no e (by decide)
      refine ⟨Nat.le_trans c1 a1, fun q h1 h2 => ?_⟩
      by_cases g : q < p9
      · exact c2 q h1 g
      · exact a2 q (by omega) h2
theorem plB_no {f : Nat → Int32} {tl : Nat} (h : (plB f tl).1 = true) : ∀ q, q < (plB f tl).2.1 → ¬ f q = 64 := by
  obtain ⟨b1, p1, v1, e1⟩ : ∃ b p v, num f tl false 0 = (b, p, v) := ⟨_, _, _, rfl⟩
  obtain ⟨b2, p2, e2⟩ : ∃ b p, pas f tl 58 p1 = (b, p) := ⟨_, _, rfl⟩
  obtain ⟨b3, p3, v3, e3⟩ : ∃ b p v, num f tl true p2 = (b, p, v) := ⟨_, _, _, rfl⟩
  obtain ⟨b4, p4, e4⟩ : ∃ b p, pas f tl 44 p3 = (b, p) := ⟨_, _, rfl⟩
  obtain ⟨b5, p5, v5, e5⟩ : ∃ b p v, num f tl true p4 = (b, p, v) := ⟨_, _, _, rfl⟩
  obtain ⟨b6, p6, e6⟩ : ∃ b p, pas f tl 44 p5 = (b, p) := ⟨_, _, rfl⟩
  obtain ⟨b7, p7, v7, e7⟩ : ∃ b p v, num f tl false p6 = (b, p, v) := ⟨_, _, _, rfl⟩
  cases b1
  · simp [plB, e1] at h
  cases b2
  · simp [plB, e1, e2] at h
  cases b3
  · simp [plB, e1, e2, e3] at h
  cases b4
  · simp [plB, e1, e2, e3, e4] at h
  cases b5
  · simp [plB, e1, e2, e3, e4, e5] at h
  cases b6
  · simp [plB, e1, e2, e3, e4, e5, e6] at h
  cases b7
  · simp [plB, e1, e2, e3, e4, e5, e6, e7] at h
  have hp : plB f tl = (true, p7, v1, v3, v5, v7) := by simp [plB, e1, e2, e3, e4, e5, e6, e7]
  rw [hp]
  obtain ⟨-, a1⟩ := num_no e1
  obtain ⟨-, a2⟩ := pas_no e2 (by decide)
  obtain ⟨-, a3⟩ := num_no e3
  obtain ⟨-, a4⟩ := pas_no e4 (by decide)
  obtain ⟨-, a5⟩ := num_no e5
  obtain ⟨-, a6⟩ := pas_no e6 (by decide)
  obtain ⟨-, a7⟩ := num_no e7
  intro q hq
  have hq : q < p7 := hq
  by_cases g1 : q < p1
  · exact a1 q (Nat.zero_le _) g1
  by_cases g2 : q < p2
  · exact a2 q (by omega) g2
  by_cases g3 : q < p3
  · exact a3 q (by omega) g3
  by_cases g4 : q < p4
  · exact a4 q (by omega) g4
  by_cases g5 : q < p5
  · exact a5 q (by omega) g5
  by_cases g6 : q < p6
  · exact a6 q (by omega) g6
  exact a7 q (by omega) hq
/-- a text that is right tells an angle if it has the sign -/
theorem prs_told {f : Nat → Int32} {tl : Nat} (h : (prs f tl).1 = true) : ((prs f tl).2.2.1 = true → ∃ k, k < tl ∧ f k = 64) ∧ (¬ (prs f tl).2.2.1 = true → (¬ ∃ k, k < tl ∧ f k = 64) ∧ (prs f tl).2.2.2.1 = 360 ∧ (prs f tl).2.2.2.2 = 0) := by
  obtain ⟨b1, p1, w, e1⟩ : ∃ b p w, plB f tl = (b, p, w) := ⟨_, _, _, rfl⟩
  cases b1
  · simp [prs, e1] at h
  have hno := plB_no (f := f) (tl := tl) (by rw [e1])
  rw [e1] at hno
  have hno : ∀ q, q < p1 → ¬ f q = 64 := hno
  by_cases he : p1 = tl
  · have hn : prs f tl = (true, p1, false, 360, 0) := by simp [prs, e1, he]
    rw [hn]
    refine ⟨fun h => by simp at h, fun _ => ⟨?_, rfl, rfl⟩⟩
    rintro ⟨k, h1, h2⟩
    exact hno k (by omega) h2
  · obtain ⟨b2, p2, e2⟩ : ∃ b p, pas f tl 64 p1 = (b, p) := ⟨_, _, rfl⟩
    cases b2
    · simp [prs, e1, he, e2] at h
    have hat : p1 < tl ∧ f p1 = 64 := by
      unfold pas at e2
      split at e2
      · assumption
      · exact absurd (congrArg Prod.fst e2) (by simp)
    have hta : (prs f tl).2.2.1 = true := by
      obtain ⟨b3, p3, v3, e3⟩ : ∃ b p v, num f tl false p2 = (b, p, v) := ⟨_, _, _, rfl⟩
      cases b3
      · simp [prs, e1, he, e2, e3] at h
      obtain ⟨b4, p4, e4⟩ : ∃ b p, pas f tl 44 p3 = (b, p) := ⟨_, _, rfl⟩
      cases b4
      · simp [prs, e1, he, e2, e3, e4] at h
      obtain ⟨b5, p5, v5, e5⟩ : ∃ b p v, num f tl false p4 = (b, p, v) := ⟨_, _, _, rfl⟩
      cases b5
      · simp [prs, e1, he, e2, e3, e4, e5] at h
      by_cases he5 : p5 = tl
      · simp [prs, e1, he, e2, e3, e4, e5, he5]
      · simp [prs, e1, he, e2, e3, e4, e5, he5] at h
    exact ⟨fun _ => ⟨p1, hat⟩, fun g => absurd hta g⟩
theorem le359 {a : Int32} (h : a ≤ 360) (h2 : ¬ a = 360) : a ≤ 359 := by
  rw [I_le, show (360 : Int32).toInt = 360 by decide] at h
  rw [I_eq, show (360 : Int32).toInt = 360 by decide] at h2
  rw [I_le, show (359 : Int32).toInt = 359 by decide]
  omega
set_option maxHeartbeats 4000000 in
set_option maxRecDepth 100000 in
theorem c_X7_readPhoto (l : Launch) (g : xG) (hJ : xJ (xad g)) (E : Nat → va_E) {z : xS} (hz : sM g E z) (hv : vS z)  : Met l yX7_readPhoto wsX7_readPhoto ({ frames := 4, cells := 0, slots := 0, locals := 86 }) (xPc g [.ref (xad g 65)] E) (xQi g (fun r E1 => ∃ z1, sp_readPhoto z r z1 ∧ sM g E1 z1 ∧ ∀ j, j < 65 → E1 j = E j)) 0 0 (xA (xad g)) := by
  refine x_met (ws' := _) (by decide) rfl (Nat.le_of_ble_eq_true rfl) ?_
  intro pz ez s m below meth cz ls S hr hlocks hP hK hl
  have hl : lv_has ls 2 [(0, .ref (xad g 65))] := hl
  have hS : va_S (xA (xad g)) s.heap s.heap [] := va_S.rf
  have hin7 : ∀ w ∈ u_ws RX7 TX7 19, w ∈ wsX7_readPhoto := by decide +kernel
  have fl35 : Cond.fieldLink RX7 35 "DiscArcsModel" "read" "[I" ∈ wsX7_readPhoto := by decide +kernel
  have fl152 : Cond.fieldLink RX7 152 "DiscArcsModel" "at" "I" ∈ wsX7_readPhoto := by decide +kernel
  obtain ⟨hi, od, bs, bb, bf, at9, nu, f, fh, fs, fa, fr, fl, fo, fd, h65, h66, h67, h68, h69, h70, h71, h72, h73, h74, hN, hHi, hSl⟩ := id hz
  have hn := hN.1
  have hn0 := hN.n0
  have hv1 := hv.1.2
  have hfm : ∀ j, j < 65 → E j = E j := fun _ _ => rfl
  have hs4 := hv.2.1.1
  have htl := hv.2.2.2
  refine lv_aload_n S.1 S.2.1 dX7_readPhoto_0 rfl (lv_at hl 0 rfl) ?_
  refine x_qi (va_runV (As := []) (rest := []) S (c_X7_isRead l g hJ E h65 h73 htl h74) (cwV 0 S.2.2.2.2 gX7_readPhoto_X7_isRead rfl rfl rfl (by decide +kernel) ⟨Nat.le_of_ble_eq_true rfl, Nat.le_of_ble_eq_true rfl⟩) (x_preV hK hP h65 (by decide) rfl) rfl rfl hl.1 rfl (lv_room (Nat.le_of_ble_eq_true rfl)) dX7_readPhoto_1 ⟨Nat.le_of_ble_eq_true rfl, Nat.le_of_ble_eq_true rfl⟩) hS (fun r1 E1 H locs hq1 hP hS => ?_)
  obtain ⟨hr1, ⟨nu9, h65⟩, ⟨fd9, h74, hi1⟩, hfr1⟩ := hq1
  have h66 := (hfr1 66 (by decide) (by decide)).trans h66
  have h67 := (hfr1 67 (by decide) (by decide)).trans h67
  have h68 := (hfr1 68 (by decide) (by decide)).trans h68
  have h69 := (hfr1 69 (by decide) (by decide)).trans h69
  have h70 := (hfr1 70 (by decide) (by decide)).trans h70
  have h71 := (hfr1 71 (by decide) (by decide)).trans h71
  have h72 := (hfr1 72 (by decide) (by decide)).trans h72
  have h73 := (hfr1 73 (by decide) (by decide)).trans h73
  have hfm : ∀ j, j < 65 → E1 j = E j := fun j hj => (hfr1 j (by omega) (by omega)).trans (hfm j hj)
  refine lv_if_ne (tgt := 15) S.1 S.2.1 dX7_readPhoto_4 (by decide) (fun c4 => ?_) (fun c4 => ?_)
  · skip
    have hok : (prs (ztf z) (ztl z)).1 = true := hr1.t c4
    obtain ⟨g0, g1, g2, g3, g4, g5⟩ := hi1 hok
    have htold := prs_told hok
    refine lv_aload_n S.1 S.2.1 dX7_readPhoto_15 rfl (lv_at hl 0 rfl) ?_
    refine x_get S hK hP dX7_readPhoto_16 h65 (by decide) (RX7, TX7, 19) rfl hin7 18 (by decide) fl35 rfl ?_
    refine lv_iconst (v := 4) S.1 S.2.1 dX7_readPhoto_19 (by decide) ?_
    refine x_iald S hK hP dX7_readPhoto_20 h74 (by decide) (j := 4) rfl (by omega) (by decide) ?_
    refine lv_sipush (v := 360) S.1 S.2.1 dX7_readPhoto_21 (by decide) ?_
    refine lv_icmp_ne (tgt := 47) S.1 S.2.1 dX7_readPhoto_24 (by decide) (fun c24 => ?_) (fun c24 => ?_)
    · skip
      refine lv_iconst (v := 0) S.1 S.2.1 dX7_readPhoto_47 (by decide) ?_
      have hta : (prs (ztf z) (ztl z)).2.2.1 = true := Classical.byContradiction (fun h => by obtain ⟨h1, h2, h3⟩ := htold.2 h; first | exact h1 (hr37.t c40) | exact c33 (g5.trans h3) | exact c24 (g4.trans h2))
      refine lv_istore_n (lv' := [(1, .int 0), (0, .ref (xad g 65))]) S.1 S.2.1 dX7_readPhoto_48 rfl hl (by decide) rfl (fun ls hl => ?_)
      refine lv_aload_n S.1 S.2.1 dX7_readPhoto_49 rfl (lv_at hl 1 rfl) ?_
      refine x_get S hK hP dX7_readPhoto_50 h65 (by decide) (RX7, TX7, 19) rfl hin7 18 (by decide) fl35 rfl ?_
      refine lv_iconst (v := 0) S.1 S.2.1 dX7_readPhoto_53 (by decide) ?_
      refine x_iald S hK hP dX7_readPhoto_54 h74 (by decide) (j := 0) rfl (by omega) (by decide) ?_
      refine lv_aload_n S.1 S.2.1 dX7_readPhoto_55 rfl (lv_at hl 1 rfl) ?_
      refine x_get S hK hP dX7_readPhoto_56 h65 (by decide) (RX7, TX7, 19) rfl hin7 18 (by decide) fl35 rfl ?_
      refine lv_iconst (v := 1) S.1 S.2.1 dX7_readPhoto_59 (by decide) ?_
      refine x_iald S hK hP dX7_readPhoto_60 h74 (by decide) (j := 1) rfl (by omega) (by decide) ?_
      refine lv_aload_n S.1 S.2.1 dX7_readPhoto_61 rfl (lv_at hl 1 rfl) ?_
      refine x_get S hK hP dX7_readPhoto_62 h65 (by decide) (RX7, TX7, 19) rfl hin7 18 (by decide) fl35 rfl ?_
      refine lv_iconst (v := 2) S.1 S.2.1 dX7_readPhoto_65 (by decide) ?_
      refine x_iald S hK hP dX7_readPhoto_66 h74 (by decide) (j := 2) rfl (by omega) (by decide) ?_
      refine lv_aload_n S.1 S.2.1 dX7_readPhoto_67 rfl (lv_at hl 1 rfl) ?_
      refine x_get S hK hP dX7_readPhoto_68 h65 (by decide) (RX7, TX7, 19) rfl hin7 18 (by decide) fl35 rfl ?_
      refine lv_iconst (v := 3) S.1 S.2.1 dX7_readPhoto_71 (by decide) ?_
      refine x_iald S hK hP dX7_readPhoto_72 h74 (by decide) (j := 3) rfl (by omega) (by decide) ?_
      refine x_si (va_runS (As := [.int (fd9 0), .int (fd9 1), .int (fd9 2), .int (fd9 3)]) (rest := []) S (c_X7_isPhoto l g E1 (fd9 0) (fd9 1) (fd9 2) (fd9 3)) (va_cwS 4 S.2.2.2.2 gX7_readPhoto_X7_isPhoto rfl rfl rfl (by decide +kernel) ⟨Nat.le_of_ble_eq_true rfl, Nat.le_of_ble_eq_true rfl⟩) (x_preS hK hP) rfl rfl hl.1 rfl (lv_room (Nat.le_of_ble_eq_true rfl)) dX7_readPhoto_73 ⟨Nat.le_of_ble_eq_true rfl, Nat.le_of_ble_eq_true rfl⟩) (fun r73 hr73 => ?_)
      refine lv_if_eq (tgt := 114) S.1 S.2.1 dX7_readPhoto_76 (by decide) (fun c76 => ?_) (fun c76 => ?_)
      · skip
        refine lv_bipush (v := (-2)) S.1 S.2.1 dX7_readPhoto_114 (by decide) ?_
        exact x_iret S hr hlocks hP hS dX7_readPhoto_116 (⟨z, Or.inr ⟨hok, Or.inl ⟨fun h => hr73.f c76 (by rw [g0, g1, g2, g3]; exact (rng_ph.mp h.1).1), rfl, rfl⟩⟩, sM.mk h65 rfl rfl rfl h66 h67 h68 h69 h70 h71 h72 h73 h74 hN hHi hSl, hfm⟩)
      · skip
        refine lv_iload_n S.1 S.2.1 dX7_readPhoto_79 rfl (lv_at hl 0 rfl) ?_
        refine lv_if_ne (tgt := 117) S.1 S.2.1 dX7_readPhoto_80 (by decide) (fun c80 => ?_) (fun c80 => ?_)
        · skip
          exact absurd c80 (by decide)
        · skip
          refine lv_aload_n S.1 S.2.1 dX7_readPhoto_83 rfl (lv_at hl 1 rfl) ?_
          refine x_get S hK hP dX7_readPhoto_84 h65 (by decide) (RX7, TX7, 19) rfl hin7 18 (by decide) fl35 rfl ?_
          refine lv_iconst (v := 4) S.1 S.2.1 dX7_readPhoto_87 (by decide) ?_
          refine x_iald S hK hP dX7_readPhoto_88 h74 (by decide) (j := 4) rfl (by omega) (by decide) ?_
          refine lv_iconst (v := 0) S.1 S.2.1 dX7_readPhoto_89 (by decide) ?_
          refine lv_sipush (v := 359) S.1 S.2.1 dX7_readPhoto_90 (by decide) ?_
          refine x_si (va_runS (As := [.int (fd9 4), .int 0, .int 359]) (rest := []) S (c_X7_in l g E1 (fd9 4) 0 359) (va_cwS 3 S.2.2.2.2 gX7_readPhoto_X7_in rfl rfl rfl (by decide +kernel) ⟨Nat.le_of_ble_eq_true rfl, Nat.le_of_ble_eq_true rfl⟩) (x_preS hK hP) rfl rfl hl.1 rfl (lv_room (Nat.le_of_ble_eq_true rfl)) dX7_readPhoto_93 ⟨Nat.le_of_ble_eq_true rfl, Nat.le_of_ble_eq_true rfl⟩) (fun r93 hr93 => ?_)
          refine lv_if_eq (tgt := 114) S.1 S.2.1 dX7_readPhoto_96 (by decide) (fun c96 => ?_) (fun c96 => ?_)
          · skip
            refine lv_bipush (v := (-2)) S.1 S.2.1 dX7_readPhoto_114 (by decide) ?_
            exact x_iret S hr hlocks hP hS dX7_readPhoto_116 (⟨z, Or.inr ⟨hok, Or.inl ⟨fun h => hr93.f c96 (by rw [g4]; have ha := (rng_ph.mp h.1).2.1; exact ⟨ha.1, le359 ha.2 (fun e => h.2 ⟨hta, e⟩)⟩), rfl, rfl⟩⟩, sM.mk h65 rfl rfl rfl h66 h67 h68 h69 h70 h71 h72 h73 h74 hN hHi hSl, hfm⟩)
          · skip
            refine lv_aload_n S.1 S.2.1 dX7_readPhoto_99 rfl (lv_at hl 1 rfl) ?_
            refine x_get S hK hP dX7_readPhoto_100 h65 (by decide) (RX7, TX7, 19) rfl hin7 18 (by decide) fl35 rfl ?_
            refine lv_iconst (v := 5) S.1 S.2.1 dX7_readPhoto_103 (by decide) ?_
            refine x_iald S hK hP dX7_readPhoto_104 h74 (by decide) (j := 5) rfl (by omega) (by decide) ?_
            refine lv_iconst (v := 0) S.1 S.2.1 dX7_readPhoto_105 (by decide) ?_
            refine lv_bipush (v := 60) S.1 S.2.1 dX7_readPhoto_106 (by decide) ?_
            refine x_si (va_runS (As := [.int (fd9 5), .int 0, .int 60]) (rest := []) S (c_X7_in l g E1 (fd9 5) 0 60) (va_cwS 3 S.2.2.2.2 gX7_readPhoto_X7_in rfl rfl rfl (by decide +kernel) ⟨Nat.le_of_ble_eq_true rfl, Nat.le_of_ble_eq_true rfl⟩) (x_preS hK hP) rfl rfl hl.1 rfl (lv_room (Nat.le_of_ble_eq_true rfl)) dX7_readPhoto_108 ⟨Nat.le_of_ble_eq_true rfl, Nat.le_of_ble_eq_true rfl⟩) (fun r108 hr108 => ?_)
            refine lv_if_ne (tgt := 117) S.1 S.2.1 dX7_readPhoto_111 (by decide) (fun c111 => ?_) (fun c111 => ?_)
            · skip
              refine lv_aload_n S.1 S.2.1 dX7_readPhoto_117 rfl (lv_at hl 1 rfl) ?_
              refine lv_aload_n S.1 S.2.1 dX7_readPhoto_118 rfl (lv_at hl 1 rfl) ?_
              refine x_get S hK hP dX7_readPhoto_119 h65 (by decide) (RX7, TX7, 19) rfl hin7 18 (by decide) fl35 rfl ?_
              refine lv_iconst (v := 0) S.1 S.2.1 dX7_readPhoto_122 (by decide) ?_
              refine x_iald S hK hP dX7_readPhoto_123 h74 (by decide) (j := 0) rfl (by omega) (by decide) ?_
              refine lv_aload_n S.1 S.2.1 dX7_readPhoto_124 rfl (lv_at hl 1 rfl) ?_
              refine x_get S hK hP dX7_readPhoto_125 h65 (by decide) (RX7, TX7, 19) rfl hin7 18 (by decide) fl35 rfl ?_
              refine lv_iconst (v := 1) S.1 S.2.1 dX7_readPhoto_128 (by decide) ?_
              refine x_iald S hK hP dX7_readPhoto_129 h74 (by decide) (j := 1) rfl (by omega) (by decide) ?_
              refine lv_aload_n S.1 S.2.1 dX7_readPhoto_130 rfl (lv_at hl 1 rfl) ?_
              refine x_get S hK hP dX7_readPhoto_131 h65 (by decide) (RX7, TX7, 19) rfl hin7 18 (by decide) fl35 rfl ?_
              refine lv_iconst (v := 2) S.1 S.2.1 dX7_readPhoto_134 (by decide) ?_
              refine x_iald S hK hP dX7_readPhoto_135 h74 (by decide) (j := 2) rfl (by omega) (by decide) ?_
              refine lv_aload_n S.1 S.2.1 dX7_readPhoto_136 rfl (lv_at hl 1 rfl) ?_
              refine x_get S hK hP dX7_readPhoto_137 h65 (by decide) (RX7, TX7, 19) rfl hin7 18 (by decide) fl35 rfl ?_
              refine lv_iconst (v := 3) S.1 S.2.1 dX7_readPhoto_140 (by decide) ?_
              refine x_iald S hK hP dX7_readPhoto_141 h74 (by decide) (j := 3) rfl (by omega) (by decide) ?_
              refine lv_aload_n S.1 S.2.1 dX7_readPhoto_142 rfl (lv_at hl 1 rfl) ?_
              refine x_get S hK hP dX7_readPhoto_143 h65 (by decide) (RX7, TX7, 19) rfl hin7 18 (by decide) fl35 rfl ?_
              refine lv_iconst (v := 4) S.1 S.2.1 dX7_readPhoto_146 (by decide) ?_
              refine x_iald S hK hP dX7_readPhoto_147 h74 (by decide) (j := 4) rfl (by omega) (by decide) ?_
              refine lv_aload_n S.1 S.2.1 dX7_readPhoto_148 rfl (lv_at hl 1 rfl) ?_
              refine x_get S hK hP dX7_readPhoto_149 h65 (by decide) (RX7, TX7, 19) rfl hin7 18 (by decide) fl35 rfl ?_
              refine lv_iconst (v := 5) S.1 S.2.1 dX7_readPhoto_152 (by decide) ?_
              refine x_iald S hK hP dX7_readPhoto_153 h74 (by decide) (j := 5) rfl (by omega) (by decide) ?_
              refine x_qi (va_runV (As := [.int (fd9 0), .int (fd9 1), .int (fd9 2), .int (fd9 3), .int (fd9 4), .int (fd9 5)]) (rest := []) S (c_X7_comes l g hJ E1 (sM.mk (z := z) h65 rfl rfl rfl h66 h67 h68 h69 h70 h71 h72 h73 h74 hN hHi hSl) hv (fd9 0) (fd9 1) (fd9 2) (fd9 3) (fd9 4) (fd9 5)) (cwV 6 S.2.2.2.2 gX7_readPhoto_X7_comes rfl rfl rfl (by decide +kernel) ⟨Nat.le_of_ble_eq_true rfl, Nat.le_of_ble_eq_true rfl⟩) (x_preV hK hP h65 (by decide) rfl) rfl rfl hl.1 rfl (lv_room (Nat.le_of_ble_eq_true rfl)) dX7_readPhoto_154 ⟨Nat.le_of_ble_eq_true rfl, Nat.le_of_ble_eq_true rfl⟩) hS (fun r154 E1_1 H locs hq154 hP hS => ?_)
              exact x_iret S hr hlocks hP hS dX7_readPhoto_157 (by obtain ⟨z1, k1, k2, k3⟩ := hq154; exact ⟨z1, Or.inr ⟨hok, Or.inr ⟨⟨rng_ph.mpr ⟨(by have := hr73.t c76; rw [g0, g1, g2, g3] at this; exact this), by have h4 := hr93.t c96; rw [g4] at h4; exact ⟨h4.1, Int32.le_trans h4.2 (by decide)⟩, by have h5 := hr108.t c111; rw [g5] at h5; exact h5⟩, fun h => by have h4 := hr93.t c96; rw [g4, h.2] at h4; exact absurd h4.2 (by decide)⟩, k1.congr (w6 (P := fun w => tld (fd9 0) (fd9 1) (fd9 2) (fd9 3) (fd9 4) (fd9 5) w = prT (ztf z) (ztl z) w) g0 g1 g2 g3 g4 g5)⟩⟩, k2, fun j hj => (k3 j hj).trans (hfm j hj)⟩)
            · skip
              refine lv_bipush (v := (-2)) S.1 S.2.1 dX7_readPhoto_114 (by decide) ?_
              exact x_iret S hr hlocks hP hS dX7_readPhoto_116 (⟨z, Or.inr ⟨hok, Or.inl ⟨fun h => hr108.f c111 (by rw [g5]; exact (rng_ph.mp h.1).2.2), rfl, rfl⟩⟩, sM.mk h65 rfl rfl rfl h66 h67 h68 h69 h70 h71 h72 h73 h74 hN hHi hSl, hfm⟩)
    · skip
      refine lv_aload_n S.1 S.2.1 dX7_readPhoto_27 rfl (lv_at hl 0 rfl) ?_
      refine x_get S hK hP dX7_readPhoto_28 h65 (by decide) (RX7, TX7, 19) rfl hin7 18 (by decide) fl35 rfl ?_
      refine lv_iconst (v := 5) S.1 S.2.1 dX7_readPhoto_31 (by decide) ?_
      refine x_iald S hK hP dX7_readPhoto_32 h74 (by decide) (j := 5) rfl (by omega) (by decide) ?_
      refine lv_if_ne (tgt := 47) S.1 S.2.1 dX7_readPhoto_33 (by decide) (fun c33 => ?_) (fun c33 => ?_)
      · skip
        refine lv_iconst (v := 0) S.1 S.2.1 dX7_readPhoto_47 (by decide) ?_
        have hta : (prs (ztf z) (ztl z)).2.2.1 = true := Classical.byContradiction (fun h => by obtain ⟨h1, h2, h3⟩ := htold.2 h; first | exact h1 (hr37.t c40) | exact c33 (g5.trans h3) | exact c24 (g4.trans h2))
        refine lv_istore_n (lv' := [(1, .int 0), (0, .ref (xad g 65))]) S.1 S.2.1 dX7_readPhoto_48 rfl hl (by decide) rfl (fun ls hl => ?_)
        refine lv_aload_n S.1 S.2.1 dX7_readPhoto_49 rfl (lv_at hl 1 rfl) ?_
        refine x_get S hK hP dX7_readPhoto_50 h65 (by decide) (RX7, TX7, 19) rfl hin7 18 (by decide) fl35 rfl ?_
        refine lv_iconst (v := 0) S.1 S.2.1 dX7_readPhoto_53 (by decide) ?_
        refine x_iald S hK hP dX7_readPhoto_54 h74 (by decide) (j := 0) rfl (by omega) (by decide) ?_
        refine lv_aload_n S.1 S.2.1 dX7_readPhoto_55 rfl (lv_at hl 1 rfl) ?_
        refine x_get S hK hP dX7_readPhoto_56 h65 (by decide) (RX7, TX7, 19) rfl hin7 18 (by decide) fl35 rfl ?_
        refine lv_iconst (v := 1) S.1 S.2.1 dX7_readPhoto_59 (by decide) ?_
        refine x_iald S hK hP dX7_readPhoto_60 h74 (by decide) (j := 1) rfl (by omega) (by decide) ?_
        refine lv_aload_n S.1 S.2.1 dX7_readPhoto_61 rfl (lv_at hl 1 rfl) ?_
        refine x_get S hK hP dX7_readPhoto_62 h65 (by decide) (RX7, TX7, 19) rfl hin7 18 (by decide) fl35 rfl ?_
        refine lv_iconst (v := 2) S.1 S.2.1 dX7_readPhoto_65 (by decide) ?_
        refine x_iald S hK hP dX7_readPhoto_66 h74 (by decide) (j := 2) rfl (by omega) (by decide) ?_
        refine lv_aload_n S.1 S.2.1 dX7_readPhoto_67 rfl (lv_at hl 1 rfl) ?_
        refine x_get S hK hP dX7_readPhoto_68 h65 (by decide) (RX7, TX7, 19) rfl hin7 18 (by decide) fl35 rfl ?_
        refine lv_iconst (v := 3) S.1 S.2.1 dX7_readPhoto_71 (by decide) ?_
        refine x_iald S hK hP dX7_readPhoto_72 h74 (by decide) (j := 3) rfl (by omega) (by decide) ?_
        refine x_si (va_runS (As := [.int (fd9 0), .int (fd9 1), .int (fd9 2), .int (fd9 3)]) (rest := []) S (c_X7_isPhoto l g E1 (fd9 0) (fd9 1) (fd9 2) (fd9 3)) (va_cwS 4 S.2.2.2.2 gX7_readPhoto_X7_isPhoto rfl rfl rfl (by decide +kernel) ⟨Nat.le_of_ble_eq_true rfl, Nat.le_of_ble_eq_true rfl⟩) (x_preS hK hP) rfl rfl hl.1 rfl (lv_room (Nat.le_of_ble_eq_true rfl)) dX7_readPhoto_73 ⟨Nat.le_of_ble_eq_true rfl, Nat.le_of_ble_eq_true rfl⟩) (fun r73 hr73 => ?_)
        refine lv_if_eq (tgt := 114) S.1 S.2.1 dX7_readPhoto_76 (by decide) (fun c76 => ?_) (fun c76 => ?_)
        · skip
          refine lv_bipush (v := (-2)) S.1 S.2.1 dX7_readPhoto_114 (by decide) ?_
          exact x_iret S hr hlocks hP hS dX7_readPhoto_116 (⟨z, Or.inr ⟨hok, Or.inl ⟨fun h => hr73.f c76 (by rw [g0, g1, g2, g3]; exact (rng_ph.mp h.1).1), rfl, rfl⟩⟩, sM.mk h65 rfl rfl rfl h66 h67 h68 h69 h70 h71 h72 h73 h74 hN hHi hSl, hfm⟩)
        · skip
          refine lv_iload_n S.1 S.2.1 dX7_readPhoto_79 rfl (lv_at hl 0 rfl) ?_
          refine lv_if_ne (tgt := 117) S.1 S.2.1 dX7_readPhoto_80 (by decide) (fun c80 => ?_) (fun c80 => ?_)
          · skip
            exact absurd c80 (by decide)
          · skip
            refine lv_aload_n S.1 S.2.1 dX7_readPhoto_83 rfl (lv_at hl 1 rfl) ?_
            refine x_get S hK hP dX7_readPhoto_84 h65 (by decide) (RX7, TX7, 19) rfl hin7 18 (by decide) fl35 rfl ?_
            refine lv_iconst (v := 4) S.1 S.2.1 dX7_readPhoto_87 (by decide) ?_
            refine x_iald S hK hP dX7_readPhoto_88 h74 (by decide) (j := 4) rfl (by omega) (by decide) ?_
            refine lv_iconst (v := 0) S.1 S.2.1 dX7_readPhoto_89 (by decide) ?_
            refine lv_sipush (v := 359) S.1 S.2.1 dX7_readPhoto_90 (by decide) ?_
            refine x_si (va_runS (As := [.int (fd9 4), .int 0, .int 359]) (rest := []) S (c_X7_in l g E1 (fd9 4) 0 359) (va_cwS 3 S.2.2.2.2 gX7_readPhoto_X7_in rfl rfl rfl (by decide +kernel) ⟨Nat.le_of_ble_eq_true rfl, Nat.le_of_ble_eq_true rfl⟩) (x_preS hK hP) rfl rfl hl.1 rfl (lv_room (Nat.le_of_ble_eq_true rfl)) dX7_readPhoto_93 ⟨Nat.le_of_ble_eq_true rfl, Nat.le_of_ble_eq_true rfl⟩) (fun r93 hr93 => ?_)
            refine lv_if_eq (tgt := 114) S.1 S.2.1 dX7_readPhoto_96 (by decide) (fun c96 => ?_) (fun c96 => ?_)
            · skip
              refine lv_bipush (v := (-2)) S.1 S.2.1 dX7_readPhoto_114 (by decide) ?_
              exact x_iret S hr hlocks hP hS dX7_readPhoto_116 (⟨z, Or.inr ⟨hok, Or.inl ⟨fun h => hr93.f c96 (by rw [g4]; have ha := (rng_ph.mp h.1).2.1; exact ⟨ha.1, le359 ha.2 (fun e => h.2 ⟨hta, e⟩)⟩), rfl, rfl⟩⟩, sM.mk h65 rfl rfl rfl h66 h67 h68 h69 h70 h71 h72 h73 h74 hN hHi hSl, hfm⟩)
            · skip
              refine lv_aload_n S.1 S.2.1 dX7_readPhoto_99 rfl (lv_at hl 1 rfl) ?_
              refine x_get S hK hP dX7_readPhoto_100 h65 (by decide) (RX7, TX7, 19) rfl hin7 18 (by decide) fl35 rfl ?_
              refine lv_iconst (v := 5) S.1 S.2.1 dX7_readPhoto_103 (by decide) ?_
              refine x_iald S hK hP dX7_readPhoto_104 h74 (by decide) (j := 5) rfl (by omega) (by decide) ?_
              refine lv_iconst (v := 0) S.1 S.2.1 dX7_readPhoto_105 (by decide) ?_
              refine lv_bipush (v := 60) S.1 S.2.1 dX7_readPhoto_106 (by decide) ?_
              refine x_si (va_runS (As := [.int (fd9 5), .int 0, .int 60]) (rest := []) S (c_X7_in l g E1 (fd9 5) 0 60) (va_cwS 3 S.2.2.2.2 gX7_readPhoto_X7_in rfl rfl rfl (by decide +kernel) ⟨Nat.le_of_ble_eq_true rfl, Nat.le_of_ble_eq_true rfl⟩) (x_preS hK hP) rfl rfl hl.1 rfl (lv_room (Nat.le_of_ble_eq_true rfl)) dX7_readPhoto_108 ⟨Nat.le_of_ble_eq_true rfl, Nat.le_of_ble_eq_true rfl⟩) (fun r108 hr108 => ?_)
              refine lv_if_ne (tgt := 117) S.1 S.2.1 dX7_readPhoto_111 (by decide) (fun c111 => ?_) (fun c111 => ?_)
              · skip
                refine lv_aload_n S.1 S.2.1 dX7_readPhoto_117 rfl (lv_at hl 1 rfl) ?_
                refine lv_aload_n S.1 S.2.1 dX7_readPhoto_118 rfl (lv_at hl 1 rfl) ?_
                refine x_get S hK hP dX7_readPhoto_119 h65 (by decide) (RX7, TX7, 19) rfl hin7 18 (by decide) fl35 rfl ?_
                refine lv_iconst (v := 0) S.1 S.2.1 dX7_readPhoto_122 (by decide) ?_
                refine x_iald S hK hP dX7_readPhoto_123 h74 (by decide) (j := 0) rfl (by omega) (by decide) ?_
                refine lv_aload_n S.1 S.2.1 dX7_readPhoto_124 rfl (lv_at hl 1 rfl) ?_
                refine x_get S hK hP dX7_readPhoto_125 h65 (by decide) (RX7, TX7, 19) rfl hin7 18 (by decide) fl35 rfl ?_
                refine lv_iconst (v := 1) S.1 S.2.1 dX7_readPhoto_128 (by decide) ?_
                refine x_iald S hK hP dX7_readPhoto_129 h74 (by decide) (j := 1) rfl (by omega) (by decide) ?_
                refine lv_aload_n S.1 S.2.1 dX7_readPhoto_130 rfl (lv_at hl 1 rfl) ?_
                refine x_get S hK hP dX7_readPhoto_131 h65 (by decide) (RX7, TX7, 19) rfl hin7 18 (by decide) fl35 rfl ?_
                refine lv_iconst (v := 2) S.1 S.2.1 dX7_readPhoto_134 (by decide) ?_
                refine x_iald S hK hP dX7_readPhoto_135 h74 (by decide) (j := 2) rfl (by omega) (by decide) ?_
                refine lv_aload_n S.1 S.2.1 dX7_readPhoto_136 rfl (lv_at hl 1 rfl) ?_
                refine x_get S hK hP dX7_readPhoto_137 h65 (by decide) (RX7, TX7, 19) rfl hin7 18 (by decide) fl35 rfl ?_
                refine lv_iconst (v := 3) S.1 S.2.1 dX7_readPhoto_140 (by decide) ?_
                refine x_iald S hK hP dX7_readPhoto_141 h74 (by decide) (j := 3) rfl (by omega) (by decide) ?_
                refine lv_aload_n S.1 S.2.1 dX7_readPhoto_142 rfl (lv_at hl 1 rfl) ?_
                refine x_get S hK hP dX7_readPhoto_143 h65 (by decide) (RX7, TX7, 19) rfl hin7 18 (by decide) fl35 rfl ?_
                refine lv_iconst (v := 4) S.1 S.2.1 dX7_readPhoto_146 (by decide) ?_
                refine x_iald S hK hP dX7_readPhoto_147 h74 (by decide) (j := 4) rfl (by omega) (by decide) ?_
                refine lv_aload_n S.1 S.2.1 dX7_readPhoto_148 rfl (lv_at hl 1 rfl) ?_
                refine x_get S hK hP dX7_readPhoto_149 h65 (by decide) (RX7, TX7, 19) rfl hin7 18 (by decide) fl35 rfl ?_
                refine lv_iconst (v := 5) S.1 S.2.1 dX7_readPhoto_152 (by decide) ?_
                refine x_iald S hK hP dX7_readPhoto_153 h74 (by decide) (j := 5) rfl (by omega) (by decide) ?_
                refine x_qi (va_runV (As := [.int (fd9 0), .int (fd9 1), .int (fd9 2), .int (fd9 3), .int (fd9 4), .int (fd9 5)]) (rest := []) S (c_X7_comes l g hJ E1 (sM.mk (z := z) h65 rfl rfl rfl h66 h67 h68 h69 h70 h71 h72 h73 h74 hN hHi hSl) hv (fd9 0) (fd9 1) (fd9 2) (fd9 3) (fd9 4) (fd9 5)) (cwV 6 S.2.2.2.2 gX7_readPhoto_X7_comes rfl rfl rfl (by decide +kernel) ⟨Nat.le_of_ble_eq_true rfl, Nat.le_of_ble_eq_true rfl⟩) (x_preV hK hP h65 (by decide) rfl) rfl rfl hl.1 rfl (lv_room (Nat.le_of_ble_eq_true rfl)) dX7_readPhoto_154 ⟨Nat.le_of_ble_eq_true rfl, Nat.le_of_ble_eq_true rfl⟩) hS (fun r154 E1_2 H locs hq154 hP hS => ?_)
                exact x_iret S hr hlocks hP hS dX7_readPhoto_157 (by obtain ⟨z1, k1, k2, k3⟩ := hq154; exact ⟨z1, Or.inr ⟨hok, Or.inr ⟨⟨rng_ph.mpr ⟨(by have := hr73.t c76; rw [g0, g1, g2, g3] at this; exact this), by have h4 := hr93.t c96; rw [g4] at h4; exact ⟨h4.1, Int32.le_trans h4.2 (by decide)⟩, by have h5 := hr108.t c111; rw [g5] at h5; exact h5⟩, fun h => by have h4 := hr93.t c96; rw [g4, h.2] at h4; exact absurd h4.2 (by decide)⟩, k1.congr (w6 (P := fun w => tld (fd9 0) (fd9 1) (fd9 2) (fd9 3) (fd9 4) (fd9 5) w = prT (ztf z) (ztl z) w) g0 g1 g2 g3 g4 g5)⟩⟩, k2, fun j hj => (k3 j hj).trans (hfm j hj)⟩)
              · skip
                refine lv_bipush (v := (-2)) S.1 S.2.1 dX7_readPhoto_114 (by decide) ?_
                exact x_iret S hr hlocks hP hS dX7_readPhoto_116 (⟨z, Or.inr ⟨hok, Or.inl ⟨fun h => hr108.f c111 (by rw [g5]; exact (rng_ph.mp h.1).2.2), rfl, rfl⟩⟩, sM.mk h65 rfl rfl rfl h66 h67 h68 h69 h70 h71 h72 h73 h74 hN hHi hSl, hfm⟩)
      · skip
        refine lv_aload_n S.1 S.2.1 dX7_readPhoto_36 rfl (lv_at hl 0 rfl) ?_
        refine x_si (va_runV (As := []) (rest := []) S (c_X7_isTold l g E1 h65 h73 htl) (cwV 0 S.2.2.2.2 gX7_readPhoto_X7_isTold rfl rfl rfl (by decide +kernel) ⟨Nat.le_of_ble_eq_true rfl, Nat.le_of_ble_eq_true rfl⟩) (x_preV hK hP h65 (by decide) rfl) rfl rfl hl.1 rfl (lv_room (Nat.le_of_ble_eq_true rfl)) dX7_readPhoto_37 ⟨Nat.le_of_ble_eq_true rfl, Nat.le_of_ble_eq_true rfl⟩) (fun r37 hr37 => ?_)
        refine lv_if_ne (tgt := 47) S.1 S.2.1 dX7_readPhoto_40 (by decide) (fun c40 => ?_) (fun c40 => ?_)
        · skip
          refine lv_iconst (v := 0) S.1 S.2.1 dX7_readPhoto_47 (by decide) ?_
          have hta : (prs (ztf z) (ztl z)).2.2.1 = true := Classical.byContradiction (fun h => by obtain ⟨h1, h2, h3⟩ := htold.2 h; first | exact h1 (hr37.t c40) | exact c33 (g5.trans h3) | exact c24 (g4.trans h2))
          refine lv_istore_n (lv' := [(1, .int 0), (0, .ref (xad g 65))]) S.1 S.2.1 dX7_readPhoto_48 rfl hl (by decide) rfl (fun ls hl => ?_)
          refine lv_aload_n S.1 S.2.1 dX7_readPhoto_49 rfl (lv_at hl 1 rfl) ?_
          refine x_get S hK hP dX7_readPhoto_50 h65 (by decide) (RX7, TX7, 19) rfl hin7 18 (by decide) fl35 rfl ?_
          refine lv_iconst (v := 0) S.1 S.2.1 dX7_readPhoto_53 (by decide) ?_
          refine x_iald S hK hP dX7_readPhoto_54 h74 (by decide) (j := 0) rfl (by omega) (by decide) ?_
          refine lv_aload_n S.1 S.2.1 dX7_readPhoto_55 rfl (lv_at hl 1 rfl) ?_
          refine x_get S hK hP dX7_readPhoto_56 h65 (by decide) (RX7, TX7, 19) rfl hin7 18 (by decide) fl35 rfl ?_
          refine lv_iconst (v := 1) S.1 S.2.1 dX7_readPhoto_59 (by decide) ?_
          refine x_iald S hK hP dX7_readPhoto_60 h74 (by decide) (j := 1) rfl (by omega) (by decide) ?_
          refine lv_aload_n S.1 S.2.1 dX7_readPhoto_61 rfl (lv_at hl 1 rfl) ?_
          refine x_get S hK hP dX7_readPhoto_62 h65 (by decide) (RX7, TX7, 19) rfl hin7 18 (by decide) fl35 rfl ?_
          refine lv_iconst (v := 2) S.1 S.2.1 dX7_readPhoto_65 (by decide) ?_
          refine x_iald S hK hP dX7_readPhoto_66 h74 (by decide) (j := 2) rfl (by omega) (by decide) ?_
          refine lv_aload_n S.1 S.2.1 dX7_readPhoto_67 rfl (lv_at hl 1 rfl) ?_
          refine x_get S hK hP dX7_readPhoto_68 h65 (by decide) (RX7, TX7, 19) rfl hin7 18 (by decide) fl35 rfl ?_
          refine lv_iconst (v := 3) S.1 S.2.1 dX7_readPhoto_71 (by decide) ?_
          refine x_iald S hK hP dX7_readPhoto_72 h74 (by decide) (j := 3) rfl (by omega) (by decide) ?_
          refine x_si (va_runS (As := [.int (fd9 0), .int (fd9 1), .int (fd9 2), .int (fd9 3)]) (rest := []) S (c_X7_isPhoto l g E1 (fd9 0) (fd9 1) (fd9 2) (fd9 3)) (va_cwS 4 S.2.2.2.2 gX7_readPhoto_X7_isPhoto rfl rfl rfl (by decide +kernel) ⟨Nat.le_of_ble_eq_true rfl, Nat.le_of_ble_eq_true rfl⟩) (x_preS hK hP) rfl rfl hl.1 rfl (lv_room (Nat.le_of_ble_eq_true rfl)) dX7_readPhoto_73 ⟨Nat.le_of_ble_eq_true rfl, Nat.le_of_ble_eq_true rfl⟩) (fun r73 hr73 => ?_)
          refine lv_if_eq (tgt := 114) S.1 S.2.1 dX7_readPhoto_76 (by decide) (fun c76 => ?_) (fun c76 => ?_)
          · skip
            refine lv_bipush (v := (-2)) S.1 S.2.1 dX7_readPhoto_114 (by decide) ?_
            exact x_iret S hr hlocks hP hS dX7_readPhoto_116 (⟨z, Or.inr ⟨hok, Or.inl ⟨fun h => hr73.f c76 (by rw [g0, g1, g2, g3]; exact (rng_ph.mp h.1).1), rfl, rfl⟩⟩, sM.mk h65 rfl rfl rfl h66 h67 h68 h69 h70 h71 h72 h73 h74 hN hHi hSl, hfm⟩)
          · skip
            refine lv_iload_n S.1 S.2.1 dX7_readPhoto_79 rfl (lv_at hl 0 rfl) ?_
            refine lv_if_ne (tgt := 117) S.1 S.2.1 dX7_readPhoto_80 (by decide) (fun c80 => ?_) (fun c80 => ?_)
            · skip
              exact absurd c80 (by decide)
            · skip
              refine lv_aload_n S.1 S.2.1 dX7_readPhoto_83 rfl (lv_at hl 1 rfl) ?_
              refine x_get S hK hP dX7_readPhoto_84 h65 (by decide) (RX7, TX7, 19) rfl hin7 18 (by decide) fl35 rfl ?_
              refine lv_iconst (v := 4) S.1 S.2.1 dX7_readPhoto_87 (by decide) ?_
              refine x_iald S hK hP dX7_readPhoto_88 h74 (by decide) (j := 4) rfl (by omega) (by decide) ?_
              refine lv_iconst (v := 0) S.1 S.2.1 dX7_readPhoto_89 (by decide) ?_
              refine lv_sipush (v := 359) S.1 S.2.1 dX7_readPhoto_90 (by decide) ?_
              refine x_si (va_runS (As := [.int (fd9 4), .int 0, .int 359]) (rest := []) S (c_X7_in l g E1 (fd9 4) 0 359) (va_cwS 3 S.2.2.2.2 gX7_readPhoto_X7_in rfl rfl rfl (by decide +kernel) ⟨Nat.le_of_ble_eq_true rfl, Nat.le_of_ble_eq_true rfl⟩) (x_preS hK hP) rfl rfl hl.1 rfl (lv_room (Nat.le_of_ble_eq_true rfl)) dX7_readPhoto_93 ⟨Nat.le_of_ble_eq_true rfl, Nat.le_of_ble_eq_true rfl⟩) (fun r93 hr93 => ?_)
              refine lv_if_eq (tgt := 114) S.1 S.2.1 dX7_readPhoto_96 (by decide) (fun c96 => ?_) (fun c96 => ?_)
              · skip
                refine lv_bipush (v := (-2)) S.1 S.2.1 dX7_readPhoto_114 (by decide) ?_
                exact x_iret S hr hlocks hP hS dX7_readPhoto_116 (⟨z, Or.inr ⟨hok, Or.inl ⟨fun h => hr93.f c96 (by rw [g4]; have ha := (rng_ph.mp h.1).2.1; exact ⟨ha.1, le359 ha.2 (fun e => h.2 ⟨hta, e⟩)⟩), rfl, rfl⟩⟩, sM.mk h65 rfl rfl rfl h66 h67 h68 h69 h70 h71 h72 h73 h74 hN hHi hSl, hfm⟩)
              · skip
                refine lv_aload_n S.1 S.2.1 dX7_readPhoto_99 rfl (lv_at hl 1 rfl) ?_
                refine x_get S hK hP dX7_readPhoto_100 h65 (by decide) (RX7, TX7, 19) rfl hin7 18 (by decide) fl35 rfl ?_
                refine lv_iconst (v := 5) S.1 S.2.1 dX7_readPhoto_103 (by decide) ?_
                refine x_iald S hK hP dX7_readPhoto_104 h74 (by decide) (j := 5) rfl (by omega) (by decide) ?_
                refine lv_iconst (v := 0) S.1 S.2.1 dX7_readPhoto_105 (by decide) ?_
                refine lv_bipush (v := 60) S.1 S.2.1 dX7_readPhoto_106 (by decide) ?_
                refine x_si (va_runS (As := [.int (fd9 5), .int 0, .int 60]) (rest := []) S (c_X7_in l g E1 (fd9 5) 0 60) (va_cwS 3 S.2.2.2.2 gX7_readPhoto_X7_in rfl rfl rfl (by decide +kernel) ⟨Nat.le_of_ble_eq_true rfl, Nat.le_of_ble_eq_true rfl⟩) (x_preS hK hP) rfl rfl hl.1 rfl (lv_room (Nat.le_of_ble_eq_true rfl)) dX7_readPhoto_108 ⟨Nat.le_of_ble_eq_true rfl, Nat.le_of_ble_eq_true rfl⟩) (fun r108 hr108 => ?_)
                refine lv_if_ne (tgt := 117) S.1 S.2.1 dX7_readPhoto_111 (by decide) (fun c111 => ?_) (fun c111 => ?_)
                · skip
                  refine lv_aload_n S.1 S.2.1 dX7_readPhoto_117 rfl (lv_at hl 1 rfl) ?_
                  refine lv_aload_n S.1 S.2.1 dX7_readPhoto_118 rfl (lv_at hl 1 rfl) ?_
                  refine x_get S hK hP dX7_readPhoto_119 h65 (by decide) (RX7, TX7, 19) rfl hin7 18 (by decide) fl35 rfl ?_
                  refine lv_iconst (v := 0) S.1 S.2.1 dX7_readPhoto_122 (by decide) ?_
                  refine x_iald S hK hP dX7_readPhoto_123 h74 (by decide) (j := 0) rfl (by omega) (by decide) ?_
                  refine lv_aload_n S.1 S.2.1 dX7_readPhoto_124 rfl (lv_at hl 1 rfl) ?_
                  refine x_get S hK hP dX7_readPhoto_125 h65 (by decide) (RX7, TX7, 19) rfl hin7 18 (by decide) fl35 rfl ?_
                  refine lv_iconst (v := 1) S.1 S.2.1 dX7_readPhoto_128 (by decide) ?_
                  refine x_iald S hK hP dX7_readPhoto_129 h74 (by decide) (j := 1) rfl (by omega) (by decide) ?_
                  refine lv_aload_n S.1 S.2.1 dX7_readPhoto_130 rfl (lv_at hl 1 rfl) ?_
                  refine x_get S hK hP dX7_readPhoto_131 h65 (by decide) (RX7, TX7, 19) rfl hin7 18 (by decide) fl35 rfl ?_
                  refine lv_iconst (v := 2) S.1 S.2.1 dX7_readPhoto_134 (by decide) ?_
                  refine x_iald S hK hP dX7_readPhoto_135 h74 (by decide) (j := 2) rfl (by omega) (by decide) ?_
                  refine lv_aload_n S.1 S.2.1 dX7_readPhoto_136 rfl (lv_at hl 1 rfl) ?_
                  refine x_get S hK hP dX7_readPhoto_137 h65 (by decide) (RX7, TX7, 19) rfl hin7 18 (by decide) fl35 rfl ?_
                  refine lv_iconst (v := 3) S.1 S.2.1 dX7_readPhoto_140 (by decide) ?_
                  refine x_iald S hK hP dX7_readPhoto_141 h74 (by decide) (j := 3) rfl (by omega) (by decide) ?_
                  refine lv_aload_n S.1 S.2.1 dX7_readPhoto_142 rfl (lv_at hl 1 rfl) ?_
                  refine x_get S hK hP dX7_readPhoto_143 h65 (by decide) (RX7, TX7, 19) rfl hin7 18 (by decide) fl35 rfl ?_
                  refine lv_iconst (v := 4) S.1 S.2.1 dX7_readPhoto_146 (by decide) ?_
                  refine x_iald S hK hP dX7_readPhoto_147 h74 (by decide) (j := 4) rfl (by omega) (by decide) ?_
                  refine lv_aload_n S.1 S.2.1 dX7_readPhoto_148 rfl (lv_at hl 1 rfl) ?_
                  refine x_get S hK hP dX7_readPhoto_149 h65 (by decide) (RX7, TX7, 19) rfl hin7 18 (by decide) fl35 rfl ?_
                  refine lv_iconst (v := 5) S.1 S.2.1 dX7_readPhoto_152 (by decide) ?_
                  refine x_iald S hK hP dX7_readPhoto_153 h74 (by decide) (j := 5) rfl (by omega) (by decide) ?_
                  refine x_qi (va_runV (As := [.int (fd9 0), .int (fd9 1), .int (fd9 2), .int (fd9 3), .int (fd9 4), .int (fd9 5)]) (rest := []) S (c_X7_comes l g hJ E1 (sM.mk (z := z) h65 rfl rfl rfl h66 h67 h68 h69 h70 h71 h72 h73 h74 hN hHi hSl) hv (fd9 0) (fd9 1) (fd9 2) (fd9 3) (fd9 4) (fd9 5)) (cwV 6 S.2.2.2.2 gX7_readPhoto_X7_comes rfl rfl rfl (by decide +kernel) ⟨Nat.le_of_ble_eq_true rfl, Nat.le_of_ble_eq_true rfl⟩) (x_preV hK hP h65 (by decide) rfl) rfl rfl hl.1 rfl (lv_room (Nat.le_of_ble_eq_true rfl)) dX7_readPhoto_154 ⟨Nat.le_of_ble_eq_true rfl, Nat.le_of_ble_eq_true rfl⟩) hS (fun r154 E1_3 H locs hq154 hP hS => ?_)
                  exact x_iret S hr hlocks hP hS dX7_readPhoto_157 (by obtain ⟨z1, k1, k2, k3⟩ := hq154; exact ⟨z1, Or.inr ⟨hok, Or.inr ⟨⟨rng_ph.mpr ⟨(by have := hr73.t c76; rw [g0, g1, g2, g3] at this; exact this), by have h4 := hr93.t c96; rw [g4] at h4; exact ⟨h4.1, Int32.le_trans h4.2 (by decide)⟩, by have h5 := hr108.t c111; rw [g5] at h5; exact h5⟩, fun h => by have h4 := hr93.t c96; rw [g4, h.2] at h4; exact absurd h4.2 (by decide)⟩, k1.congr (w6 (P := fun w => tld (fd9 0) (fd9 1) (fd9 2) (fd9 3) (fd9 4) (fd9 5) w = prT (ztf z) (ztl z) w) g0 g1 g2 g3 g4 g5)⟩⟩, k2, fun j hj => (k3 j hj).trans (hfm j hj)⟩)
                · skip
                  refine lv_bipush (v := (-2)) S.1 S.2.1 dX7_readPhoto_114 (by decide) ?_
                  exact x_iret S hr hlocks hP hS dX7_readPhoto_116 (⟨z, Or.inr ⟨hok, Or.inl ⟨fun h => hr108.f c111 (by rw [g5]; exact (rng_ph.mp h.1).2.2), rfl, rfl⟩⟩, sM.mk h65 rfl rfl rfl h66 h67 h68 h69 h70 h71 h72 h73 h74 hN hHi hSl, hfm⟩)
        · skip
          refine lv_iconst (v := 1) S.1 S.2.1 dX7_readPhoto_43 (by decide) ?_
          refine lv_goto (tgt := 48) S.1 S.2.1 dX7_readPhoto_44 (by decide) ?_
          have hta : ¬ (prs (ztf z) (ztl z)).2.2.1 = true := fun h => hr37.f c40 (htold.1 h)
          refine lv_istore_n (lv' := [(1, .int 1), (0, .ref (xad g 65))]) S.1 S.2.1 dX7_readPhoto_48 rfl hl (by decide) rfl (fun ls hl => ?_)
          refine lv_aload_n S.1 S.2.1 dX7_readPhoto_49 rfl (lv_at hl 1 rfl) ?_
          refine x_get S hK hP dX7_readPhoto_50 h65 (by decide) (RX7, TX7, 19) rfl hin7 18 (by decide) fl35 rfl ?_
          refine lv_iconst (v := 0) S.1 S.2.1 dX7_readPhoto_53 (by decide) ?_
          refine x_iald S hK hP dX7_readPhoto_54 h74 (by decide) (j := 0) rfl (by omega) (by decide) ?_
          refine lv_aload_n S.1 S.2.1 dX7_readPhoto_55 rfl (lv_at hl 1 rfl) ?_
          refine x_get S hK hP dX7_readPhoto_56 h65 (by decide) (RX7, TX7, 19) rfl hin7 18 (by decide) fl35 rfl ?_
          refine lv_iconst (v := 1) S.1 S.2.1 dX7_readPhoto_59 (by decide) ?_
          refine x_iald S hK hP dX7_readPhoto_60 h74 (by decide) (j := 1) rfl (by omega) (by decide) ?_
          refine lv_aload_n S.1 S.2.1 dX7_readPhoto_61 rfl (lv_at hl 1 rfl) ?_
          refine x_get S hK hP dX7_readPhoto_62 h65 (by decide) (RX7, TX7, 19) rfl hin7 18 (by decide) fl35 rfl ?_
          refine lv_iconst (v := 2) S.1 S.2.1 dX7_readPhoto_65 (by decide) ?_
          refine x_iald S hK hP dX7_readPhoto_66 h74 (by decide) (j := 2) rfl (by omega) (by decide) ?_
          refine lv_aload_n S.1 S.2.1 dX7_readPhoto_67 rfl (lv_at hl 1 rfl) ?_
          refine x_get S hK hP dX7_readPhoto_68 h65 (by decide) (RX7, TX7, 19) rfl hin7 18 (by decide) fl35 rfl ?_
          refine lv_iconst (v := 3) S.1 S.2.1 dX7_readPhoto_71 (by decide) ?_
          refine x_iald S hK hP dX7_readPhoto_72 h74 (by decide) (j := 3) rfl (by omega) (by decide) ?_
          refine x_si (va_runS (As := [.int (fd9 0), .int (fd9 1), .int (fd9 2), .int (fd9 3)]) (rest := []) S (c_X7_isPhoto l g E1 (fd9 0) (fd9 1) (fd9 2) (fd9 3)) (va_cwS 4 S.2.2.2.2 gX7_readPhoto_X7_isPhoto rfl rfl rfl (by decide +kernel) ⟨Nat.le_of_ble_eq_true rfl, Nat.le_of_ble_eq_true rfl⟩) (x_preS hK hP) rfl rfl hl.1 rfl (lv_room (Nat.le_of_ble_eq_true rfl)) dX7_readPhoto_73 ⟨Nat.le_of_ble_eq_true rfl, Nat.le_of_ble_eq_true rfl⟩) (fun r73 hr73 => ?_)
          refine lv_if_eq (tgt := 114) S.1 S.2.1 dX7_readPhoto_76 (by decide) (fun c76 => ?_) (fun c76 => ?_)
          · skip
            refine lv_bipush (v := (-2)) S.1 S.2.1 dX7_readPhoto_114 (by decide) ?_
            exact x_iret S hr hlocks hP hS dX7_readPhoto_116 (⟨z, Or.inr ⟨hok, Or.inl ⟨fun h => hr73.f c76 (by rw [g0, g1, g2, g3]; exact (rng_ph.mp h.1).1), rfl, rfl⟩⟩, sM.mk h65 rfl rfl rfl h66 h67 h68 h69 h70 h71 h72 h73 h74 hN hHi hSl, hfm⟩)
          · skip
            refine lv_iload_n S.1 S.2.1 dX7_readPhoto_79 rfl (lv_at hl 0 rfl) ?_
            refine lv_if_ne (tgt := 117) S.1 S.2.1 dX7_readPhoto_80 (by decide) (fun c80 => ?_) (fun c80 => ?_)
            · skip
              refine lv_aload_n S.1 S.2.1 dX7_readPhoto_117 rfl (lv_at hl 1 rfl) ?_
              refine lv_aload_n S.1 S.2.1 dX7_readPhoto_118 rfl (lv_at hl 1 rfl) ?_
              refine x_get S hK hP dX7_readPhoto_119 h65 (by decide) (RX7, TX7, 19) rfl hin7 18 (by decide) fl35 rfl ?_
              refine lv_iconst (v := 0) S.1 S.2.1 dX7_readPhoto_122 (by decide) ?_
              refine x_iald S hK hP dX7_readPhoto_123 h74 (by decide) (j := 0) rfl (by omega) (by decide) ?_
              refine lv_aload_n S.1 S.2.1 dX7_readPhoto_124 rfl (lv_at hl 1 rfl) ?_
              refine x_get S hK hP dX7_readPhoto_125 h65 (by decide) (RX7, TX7, 19) rfl hin7 18 (by decide) fl35 rfl ?_
              refine lv_iconst (v := 1) S.1 S.2.1 dX7_readPhoto_128 (by decide) ?_
              refine x_iald S hK hP dX7_readPhoto_129 h74 (by decide) (j := 1) rfl (by omega) (by decide) ?_
              refine lv_aload_n S.1 S.2.1 dX7_readPhoto_130 rfl (lv_at hl 1 rfl) ?_
              refine x_get S hK hP dX7_readPhoto_131 h65 (by decide) (RX7, TX7, 19) rfl hin7 18 (by decide) fl35 rfl ?_
              refine lv_iconst (v := 2) S.1 S.2.1 dX7_readPhoto_134 (by decide) ?_
              refine x_iald S hK hP dX7_readPhoto_135 h74 (by decide) (j := 2) rfl (by omega) (by decide) ?_
              refine lv_aload_n S.1 S.2.1 dX7_readPhoto_136 rfl (lv_at hl 1 rfl) ?_
              refine x_get S hK hP dX7_readPhoto_137 h65 (by decide) (RX7, TX7, 19) rfl hin7 18 (by decide) fl35 rfl ?_
              refine lv_iconst (v := 3) S.1 S.2.1 dX7_readPhoto_140 (by decide) ?_
              refine x_iald S hK hP dX7_readPhoto_141 h74 (by decide) (j := 3) rfl (by omega) (by decide) ?_
              refine lv_aload_n S.1 S.2.1 dX7_readPhoto_142 rfl (lv_at hl 1 rfl) ?_
              refine x_get S hK hP dX7_readPhoto_143 h65 (by decide) (RX7, TX7, 19) rfl hin7 18 (by decide) fl35 rfl ?_
              refine lv_iconst (v := 4) S.1 S.2.1 dX7_readPhoto_146 (by decide) ?_
              refine x_iald S hK hP dX7_readPhoto_147 h74 (by decide) (j := 4) rfl (by omega) (by decide) ?_
              refine lv_aload_n S.1 S.2.1 dX7_readPhoto_148 rfl (lv_at hl 1 rfl) ?_
              refine x_get S hK hP dX7_readPhoto_149 h65 (by decide) (RX7, TX7, 19) rfl hin7 18 (by decide) fl35 rfl ?_
              refine lv_iconst (v := 5) S.1 S.2.1 dX7_readPhoto_152 (by decide) ?_
              refine x_iald S hK hP dX7_readPhoto_153 h74 (by decide) (j := 5) rfl (by omega) (by decide) ?_
              refine x_qi (va_runV (As := [.int (fd9 0), .int (fd9 1), .int (fd9 2), .int (fd9 3), .int (fd9 4), .int (fd9 5)]) (rest := []) S (c_X7_comes l g hJ E1 (sM.mk (z := z) h65 rfl rfl rfl h66 h67 h68 h69 h70 h71 h72 h73 h74 hN hHi hSl) hv (fd9 0) (fd9 1) (fd9 2) (fd9 3) (fd9 4) (fd9 5)) (cwV 6 S.2.2.2.2 gX7_readPhoto_X7_comes rfl rfl rfl (by decide +kernel) ⟨Nat.le_of_ble_eq_true rfl, Nat.le_of_ble_eq_true rfl⟩) (x_preV hK hP h65 (by decide) rfl) rfl rfl hl.1 rfl (lv_room (Nat.le_of_ble_eq_true rfl)) dX7_readPhoto_154 ⟨Nat.le_of_ble_eq_true rfl, Nat.le_of_ble_eq_true rfl⟩) hS (fun r154 E1_4 H locs hq154 hP hS => ?_)
              exact x_iret S hr hlocks hP hS dX7_readPhoto_157 (by obtain ⟨z1, k1, k2, k3⟩ := hq154; exact ⟨z1, Or.inr ⟨hok, Or.inr ⟨⟨rng_ph.mpr ⟨(by have := hr73.t c76; rw [g0, g1, g2, g3] at this; exact this), by rw [(htold.2 hta).2.1]; decide, by rw [(htold.2 hta).2.2]; decide⟩, fun h => hta h.1⟩, k1.congr (w6 (P := fun w => tld (fd9 0) (fd9 1) (fd9 2) (fd9 3) (fd9 4) (fd9 5) w = prT (ztf z) (ztl z) w) g0 g1 g2 g3 g4 g5)⟩⟩, k2, fun j hj => (k3 j hj).trans (hfm j hj)⟩)
            · skip
              exact absurd c80 (by decide)
  · skip
    refine lv_bipush (v := (-100)) S.1 S.2.1 dX7_readPhoto_7 (by decide) ?_
    refine lv_aload_n S.1 S.2.1 dX7_readPhoto_9 rfl (lv_at hl 0 rfl) ?_
    refine x_get S hK hP dX7_readPhoto_10 h65 (by decide) (RX7, TX7, 19) rfl hin7 16 (by decide) fl152 rfl ?_
    refine lv_isub S.1 S.2.1 dX7_readPhoto_13 ?_
    exact x_iret S hr hlocks hP hS dX7_readPhoto_14 (⟨z, Or.inl ⟨hr1.f c4, rfl, rfl⟩, sM.mk h65 rfl rfl rfl h66 h67 h68 h69 h70 h71 h72 h73 h74 hN hHi hSl, hfm⟩)
