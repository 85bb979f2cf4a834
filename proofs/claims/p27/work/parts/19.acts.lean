/-! THE STATE of a DiscArcs, as both sides have it: photos n, M; history hs, N, MM; whether there is a snapshot, and it: sn, sM; the text tl, tf -/
abbrev xS : Type := Nat × (Nat → Nat → Int32) × Nat × (Nat → Nat) × (Nat → Nat → Nat → Int32) × Bool × Nat × (Nat → Nat → Int32) × Nat × (Nat → Int32)
def zn (z : xS) : Nat := z.1
def zM (z : xS) : Nat → Nat → Int32 := z.2.1
def zh (z : xS) : Nat := z.2.2.1
def zN (z : xS) : Nat → Nat := z.2.2.2.1
def zMM (z : xS) : Nat → Nat → Nat → Int32 := z.2.2.2.2.1
def zf (z : xS) : Bool := z.2.2.2.2.2.1
def zsn (z : xS) : Nat := z.2.2.2.2.2.2.1
def zsM (z : xS) : Nat → Nat → Int32 := z.2.2.2.2.2.2.2.1
def ztl (z : xS) : Nat := z.2.2.2.2.2.2.2.2.1
def ztf (z : xS) : Nat → Int32 := z.2.2.2.2.2.2.2.2.2
/-- what holds of every state -/
def vS (z : xS) : Prop := (zn z ≤ 10 ∧ vld (zn z) (zM z)) ∧ (zh z ≤ 4 ∧ ∀ i, i < zh z → zN z i ≤ 10 ∧ vld (zN z i) (zMM z i)) ∧ (zsn z ≤ 10 ∧ vld (zsn z) (zsM z)) ∧ ztl z ≤ 60
/-- other photos -/
def wP (z : xS) (n : Nat) (M : Nat → Nat → Int32) : xS := (n, M, z.2.2)
/-- the state is recorded -/
def wR (z : xS) : xS := (zn z, zM z, rcS (zh z), rcV (zh z) (zN z) (zn z), rcV (zh z) (zMM z) (zM z), z.2.2.2.2.2)
def wT (z : xS) (tl : Nat) (tf : Nat → Int32) : xS := (zn z, zM z, zh z, zN z, zMM z, zf z, zsn z, zsM z, tl, tf)
def wH (z : xS) (h : Nat) : xS := (zn z, zM z, h, z.2.2.2)
def wS (z : xS) : xS := (zn z, zM z, zh z, zN z, zMM z, true, zn z, zM z, ztl z, ztf z)
theorem vS.wP {z : xS} {n : Nat} {M : Nat → Nat → Int32} (h : vS z) (hn : n ≤ 10) (hv : vld n M) : vS (wP z n M) := ⟨⟨hn, hv⟩, h.2.1, h.2.2⟩
theorem vS.wR {z : xS} (h : vS z) : vS (wR z) := by
  obtain ⟨h1, ⟨h2, h3⟩, h4⟩ := h
  refine ⟨h1, ⟨?_, fun i hi => ?_⟩, h4⟩
  · show rcS (zh z) ≤ 4
    unfold rcS
    split <;> omega
  · have hi : i < rcS (zh z) := hi
    show rcV (zh z) (zN z) (zn z) i ≤ 10 ∧ vld (rcV (zh z) (zN z) (zn z) i) (rcV (zh z) (zMM z) (zM z) i)
    unfold rcS at hi
    unfold rcV
    by_cases c : zh z < 4
    · rw [if_pos c] at hi ⊢
      rw [if_pos c]
      by_cases e : i < zh z
      · rw [if_pos e, if_pos e]
        exact h3 i e
      · rw [if_neg e, if_neg e]
        exact h1
    · rw [if_neg c] at hi ⊢
      rw [if_neg c]
      by_cases e : i < 3
      · rw [if_pos e, if_pos e]
        exact h3 (i + 1) (by omega)
      · rw [if_neg e, if_neg e]
        exact h1
theorem vS.wT {z : xS} {tl : Nat} {tf : Nat → Int32} (h : vS z) (ht : tl ≤ 60) : vS (wT z tl tf) := ⟨h.1, h.2.1, h.2.2.1, ht⟩
theorem vS.wS {z : xS} (h : vS z) : vS (wS z) := ⟨h.1, h.2.1, h.1, h.2.2.2⟩
theorem vS.wH {z : xS} {k : Nat} (h : vS z) (hk : k ≤ zh z) : vS (wH z k) := ⟨h.1, ⟨Nat.le_trans hk h.2.1.1, fun i hi => h.2.1.2 i (Nat.lt_of_lt_of_le hi hk)⟩, h.2.2⟩
/-- a truth as an int -/
def bI (b : Bool) : Int32 := if b then 1 else 0
/-- the class's cells hold a state -/
def sX (g : xG) (E : Nat → va_E) (z : xS) : Prop :=
  E 0 = .inr (6, [.ref (xad g 1), .ref (xad g 10), .int (bI (zf z)), .ref (xad g 19), .ref (xad g 57), .ref (xad g 59), .ref (xad g 60), .ref (xad g 61), .ref (xad g 64)]) ∧
  ePh g E 1 (zn z) (zM z) ∧ ePh g E 10 (zsn z) (zsM z) ∧
  (∃ B N MM, eHi g E (zh z) B N MM ∧ ∀ i, i < zh z → N i = zN z i ∧ MM i = zMM z i) ∧
  (∃ p0 ta : Int32, E 57 = .inr (4, [.ref (xad g 58), .int (nI (ztl z)), .int p0, .int ta])) ∧ E 58 = .inl (xC g, 60, .inl (ztf z)) ∧
  (∃ f6 : Nat → Int32, E 59 = .inl (xI g, 6, .inl f6)) ∧ (∃ a b c : Int32, E 60 = .inr (0, [.ref (xad g 1), .int a, .int b, .int c])) ∧
  E 61 = .inr (5, [.ref (xad g 1), .ref (xad g 60), .ref (xad g 62), .ref (xad g 63)]) ∧ (∃ f2 : Nat → Int32, E 62 = .inl (xI g, 11, .inl f2)) ∧ (∃ f3 : Nat → Int32, E 63 = .inl (xI g, 11, .inl f3)) ∧
  ∃ a b c : Int32, E 64 = .inr (3, [.ref (xad g 1), .int a, .int b, .int c])
theorem sX.mk {g : xG} {E : Nat → va_E} {z : xS} {B N : Nat → Nat} {MM : Nat → Nat → Nat → Int32} {hf p0 ta a1 b1 c1 a2 b2 c2 : Int32} {f6 f2 f3 : Nat → Int32} (h0 : E 0 = .inr (6, [.ref (xad g 1), .ref (xad g 10), .int hf, .ref (xad g 19), .ref (xad g 57), .ref (xad g 59), .ref (xad g 60), .ref (xad g 61), .ref (xad g 64)])) (hf9 : hf = bI (zf z)) (h1 : ePh g E 1 (zn z) (zM z)) (h2 : ePh g E 10 (zsn z) (zsM z)) (h3 : eHi g E (zh z) B N MM) (h4 : ∀ i, i < zh z → N i = zN z i ∧ MM i = zMM z i) (h5 : E 57 = .inr (4, [.ref (xad g 58), .int (nI (ztl z)), .int p0, .int ta])) (h6 : E 58 = .inl (xC g, 60, .inl (ztf z))) (h7 : E 59 = .inl (xI g, 6, .inl f6)) (h8 : E 60 = .inr (0, [.ref (xad g 1), .int a1, .int b1, .int c1])) (h9 : E 61 = .inr (5, [.ref (xad g 1), .ref (xad g 60), .ref (xad g 62), .ref (xad g 63)])) (h10 : E 62 = .inl (xI g, 11, .inl f2)) (h11 : E 63 = .inl (xI g, 11, .inl f3)) (h12 : E 64 = .inr (3, [.ref (xad g 1), .int a2, .int b2, .int c2])) : sX g E z :=
  ⟨by rw [← hf9]; exact h0, h1, h2, ⟨B, N, MM, h3, h4⟩, ⟨_, _, h5⟩, h6, ⟨_, h7⟩, ⟨_, _, _, h8⟩, h9, ⟨_, h10⟩, ⟨_, h11⟩, _, _, _, h12⟩
theorem bI_0 {b : Bool} : bI b = 0 ↔ b = false := by cases b <;> decide
/-! DISCARCS: photos are added -/
def rngT (f : Nat → Int32) : Prop := (0 ≤ f 0 ∧ f 0 ≤ 99) ∧ (-400 ≤ f 1 ∧ f 1 ≤ 400) ∧ (-400 ≤ f 2 ∧ f 2 ≤ 400) ∧ (0 ≤ f 3 ∧ f 3 ≤ 40) ∧ (0 ≤ f 4 ∧ f 4 ≤ 360) ∧ 0 ≤ f 5 ∧ f 5 ≤ 60
set_option maxHeartbeats 4000000 in
set_option maxRecDepth 100000 in
theorem c_X6_toldIsInRange (l : Launch) (g : xG) (E : Nat → va_E) {hf : Int32} (hX : E 0 = .inr (6, [.ref (xad g 1), .ref (xad g 10), .int hf, .ref (xad g 19), .ref (xad g 57), .ref (xad g 59), .ref (xad g 60), .ref (xad g 61), .ref (xad g 64)])) {f6 : Nat → Int32} (h59 : E 59 = .inl (xI g, 6, .inl f6)) : Met l yX6_toldIsInRange wsX6_toldIsInRange ({ frames := 1, cells := 0, slots := 0, locals := 22 }) (xPc g [.ref (xad g 0)] E) (vp_Si (xb (rngT f6))) 0 0 (fun _ => False) := by
  refine x_met (ws' := _) (by decide) rfl (Nat.le_of_ble_eq_true rfl) ?_
  intro pz ez s m below meth cz ls S hr hlocks hP hK hl
  have hl : lv_has ls 1 [(0, .ref (xad g 0))] := hl
  have hin6 : ∀ w ∈ u_ws RX6 TX6 9, w ∈ wsX6_toldIsInRange := by decide +kernel
  have fl33 : Cond.fieldLink RX6 33 "DiscArcs" "told" "[I" ∈ wsX6_toldIsInRange := by decide +kernel
  refine lv_aload_n S.1 S.2.1 dX6_toldIsInRange_0 rfl (lv_at hl 0 rfl) ?_
  refine x_get S hK hP dX6_toldIsInRange_1 hX (by decide) (RX6, TX6, 9) rfl hin6 5 (by decide) fl33 rfl ?_
  refine lv_iconst (v := 0) S.1 S.2.1 dX6_toldIsInRange_4 (by decide) ?_
  refine x_iald S hK hP dX6_toldIsInRange_5 h59 (by decide) (j := 0) rfl (by omega) (by decide) ?_
  refine lv_iconst (v := 0) S.1 S.2.1 dX6_toldIsInRange_6 (by decide) ?_
  refine lv_bipush (v := 99) S.1 S.2.1 dX6_toldIsInRange_7 (by decide) ?_
  refine x_si (va_runS (As := [.int (f6 0), .int 0, .int 99]) (rest := []) S (c_X6_isWithin l g E (f6 0) 0 99) (va_cwS 3 S.2.2.2.2 gX6_toldIsInRange_X6_isWithin rfl rfl rfl (by decide +kernel) ⟨Nat.le_of_ble_eq_true rfl, Nat.le_of_ble_eq_true rfl⟩) (x_preS hK hP) rfl rfl hl.1 rfl (lv_room (Nat.le_of_ble_eq_true rfl)) dX6_toldIsInRange_9 ⟨Nat.le_of_ble_eq_true rfl, Nat.le_of_ble_eq_true rfl⟩) (fun r9 hr9 => ?_)
  refine lv_if_eq (tgt := 101) S.1 S.2.1 dX6_toldIsInRange_12 (by decide) (fun c12 => ?_) (fun c12 => ?_)
  · skip
    refine lv_iconst (v := 0) S.1 S.2.1 dX6_toldIsInRange_101 (by decide) ?_
    exact x_zretR S hr hlocks dX6_toldIsInRange_102 (xb.zero (by first | exact fun h => hr91.f c94 h.2.2.2.2.2 | exact fun h => hr76.f c79 h.2.2.2.2.1 | exact fun h => hr60.f c63 h.2.2.2.1 | exact fun h => hr45.f c48 h.2.2.1 | exact fun h => hr27.f c30 h.2.1 | exact fun h => hr9.f c12 h.1))
  · skip
    refine lv_aload_n S.1 S.2.1 dX6_toldIsInRange_15 rfl (lv_at hl 0 rfl) ?_
    refine x_get S hK hP dX6_toldIsInRange_16 hX (by decide) (RX6, TX6, 9) rfl hin6 5 (by decide) fl33 rfl ?_
    refine lv_iconst (v := 1) S.1 S.2.1 dX6_toldIsInRange_19 (by decide) ?_
    refine x_iald S hK hP dX6_toldIsInRange_20 h59 (by decide) (j := 1) rfl (by omega) (by decide) ?_
    refine lv_sipush (v := (-400)) S.1 S.2.1 dX6_toldIsInRange_21 (by decide) ?_
    refine lv_sipush (v := 400) S.1 S.2.1 dX6_toldIsInRange_24 (by decide) ?_
    refine x_si (va_runS (As := [.int (f6 1), .int (-400), .int 400]) (rest := []) S (c_X6_isWithin l g E (f6 1) (-400) 400) (va_cwS 3 S.2.2.2.2 gX6_toldIsInRange_X6_isWithin rfl rfl rfl (by decide +kernel) ⟨Nat.le_of_ble_eq_true rfl, Nat.le_of_ble_eq_true rfl⟩) (x_preS hK hP) rfl rfl hl.1 rfl (lv_room (Nat.le_of_ble_eq_true rfl)) dX6_toldIsInRange_27 ⟨Nat.le_of_ble_eq_true rfl, Nat.le_of_ble_eq_true rfl⟩) (fun r27 hr27 => ?_)
    refine lv_if_eq (tgt := 101) S.1 S.2.1 dX6_toldIsInRange_30 (by decide) (fun c30 => ?_) (fun c30 => ?_)
    · skip
      refine lv_iconst (v := 0) S.1 S.2.1 dX6_toldIsInRange_101 (by decide) ?_
      exact x_zretR S hr hlocks dX6_toldIsInRange_102 (xb.zero (by first | exact fun h => hr91.f c94 h.2.2.2.2.2 | exact fun h => hr76.f c79 h.2.2.2.2.1 | exact fun h => hr60.f c63 h.2.2.2.1 | exact fun h => hr45.f c48 h.2.2.1 | exact fun h => hr27.f c30 h.2.1 | exact fun h => hr9.f c12 h.1))
    · skip
      refine lv_aload_n S.1 S.2.1 dX6_toldIsInRange_33 rfl (lv_at hl 0 rfl) ?_
      refine x_get S hK hP dX6_toldIsInRange_34 hX (by decide) (RX6, TX6, 9) rfl hin6 5 (by decide) fl33 rfl ?_
      refine lv_iconst (v := 2) S.1 S.2.1 dX6_toldIsInRange_37 (by decide) ?_
      refine x_iald S hK hP dX6_toldIsInRange_38 h59 (by decide) (j := 2) rfl (by omega) (by decide) ?_
      refine lv_sipush (v := (-400)) S.1 S.2.1 dX6_toldIsInRange_39 (by decide) ?_
      refine lv_sipush (v := 400) S.1 S.2.1 dX6_toldIsInRange_42 (by decide) ?_
      refine x_si (va_runS (As := [.int (f6 2), .int (-400), .int 400]) (rest := []) S (c_X6_isWithin l g E (f6 2) (-400) 400) (va_cwS 3 S.2.2.2.2 gX6_toldIsInRange_X6_isWithin rfl rfl rfl (by decide +kernel) ⟨Nat.le_of_ble_eq_true rfl, Nat.le_of_ble_eq_true rfl⟩) (x_preS hK hP) rfl rfl hl.1 rfl (lv_room (Nat.le_of_ble_eq_true rfl)) dX6_toldIsInRange_45 ⟨Nat.le_of_ble_eq_true rfl, Nat.le_of_ble_eq_true rfl⟩) (fun r45 hr45 => ?_)
      refine lv_if_eq (tgt := 101) S.1 S.2.1 dX6_toldIsInRange_48 (by decide) (fun c48 => ?_) (fun c48 => ?_)
      · skip
        refine lv_iconst (v := 0) S.1 S.2.1 dX6_toldIsInRange_101 (by decide) ?_
        exact x_zretR S hr hlocks dX6_toldIsInRange_102 (xb.zero (by first | exact fun h => hr91.f c94 h.2.2.2.2.2 | exact fun h => hr76.f c79 h.2.2.2.2.1 | exact fun h => hr60.f c63 h.2.2.2.1 | exact fun h => hr45.f c48 h.2.2.1 | exact fun h => hr27.f c30 h.2.1 | exact fun h => hr9.f c12 h.1))
      · skip
        refine lv_aload_n S.1 S.2.1 dX6_toldIsInRange_51 rfl (lv_at hl 0 rfl) ?_
        refine x_get S hK hP dX6_toldIsInRange_52 hX (by decide) (RX6, TX6, 9) rfl hin6 5 (by decide) fl33 rfl ?_
        refine lv_iconst (v := 3) S.1 S.2.1 dX6_toldIsInRange_55 (by decide) ?_
        refine x_iald S hK hP dX6_toldIsInRange_56 h59 (by decide) (j := 3) rfl (by omega) (by decide) ?_
        refine lv_iconst (v := 0) S.1 S.2.1 dX6_toldIsInRange_57 (by decide) ?_
        refine lv_bipush (v := 40) S.1 S.2.1 dX6_toldIsInRange_58 (by decide) ?_
        refine x_si (va_runS (As := [.int (f6 3), .int 0, .int 40]) (rest := []) S (c_X6_isWithin l g E (f6 3) 0 40) (va_cwS 3 S.2.2.2.2 gX6_toldIsInRange_X6_isWithin rfl rfl rfl (by decide +kernel) ⟨Nat.le_of_ble_eq_true rfl, Nat.le_of_ble_eq_true rfl⟩) (x_preS hK hP) rfl rfl hl.1 rfl (lv_room (Nat.le_of_ble_eq_true rfl)) dX6_toldIsInRange_60 ⟨Nat.le_of_ble_eq_true rfl, Nat.le_of_ble_eq_true rfl⟩) (fun r60 hr60 => ?_)
        refine lv_if_eq (tgt := 101) S.1 S.2.1 dX6_toldIsInRange_63 (by decide) (fun c63 => ?_) (fun c63 => ?_)
        · skip
          refine lv_iconst (v := 0) S.1 S.2.1 dX6_toldIsInRange_101 (by decide) ?_
          exact x_zretR S hr hlocks dX6_toldIsInRange_102 (xb.zero (by first | exact fun h => hr91.f c94 h.2.2.2.2.2 | exact fun h => hr76.f c79 h.2.2.2.2.1 | exact fun h => hr60.f c63 h.2.2.2.1 | exact fun h => hr45.f c48 h.2.2.1 | exact fun h => hr27.f c30 h.2.1 | exact fun h => hr9.f c12 h.1))
        · skip
          refine lv_aload_n S.1 S.2.1 dX6_toldIsInRange_66 rfl (lv_at hl 0 rfl) ?_
          refine x_get S hK hP dX6_toldIsInRange_67 hX (by decide) (RX6, TX6, 9) rfl hin6 5 (by decide) fl33 rfl ?_
          refine lv_iconst (v := 4) S.1 S.2.1 dX6_toldIsInRange_70 (by decide) ?_
          refine x_iald S hK hP dX6_toldIsInRange_71 h59 (by decide) (j := 4) rfl (by omega) (by decide) ?_
          refine lv_iconst (v := 0) S.1 S.2.1 dX6_toldIsInRange_72 (by decide) ?_
          refine lv_sipush (v := 360) S.1 S.2.1 dX6_toldIsInRange_73 (by decide) ?_
          refine x_si (va_runS (As := [.int (f6 4), .int 0, .int 360]) (rest := []) S (c_X6_isWithin l g E (f6 4) 0 360) (va_cwS 3 S.2.2.2.2 gX6_toldIsInRange_X6_isWithin rfl rfl rfl (by decide +kernel) ⟨Nat.le_of_ble_eq_true rfl, Nat.le_of_ble_eq_true rfl⟩) (x_preS hK hP) rfl rfl hl.1 rfl (lv_room (Nat.le_of_ble_eq_true rfl)) dX6_toldIsInRange_76 ⟨Nat.le_of_ble_eq_true rfl, Nat.le_of_ble_eq_true rfl⟩) (fun r76 hr76 => ?_)
          refine lv_if_eq (tgt := 101) S.1 S.2.1 dX6_toldIsInRange_79 (by decide) (fun c79 => ?_) (fun c79 => ?_)
          · skip
            refine lv_iconst (v := 0) S.1 S.2.1 dX6_toldIsInRange_101 (by decide) ?_
            exact x_zretR S hr hlocks dX6_toldIsInRange_102 (xb.zero (by first | exact fun h => hr91.f c94 h.2.2.2.2.2 | exact fun h => hr76.f c79 h.2.2.2.2.1 | exact fun h => hr60.f c63 h.2.2.2.1 | exact fun h => hr45.f c48 h.2.2.1 | exact fun h => hr27.f c30 h.2.1 | exact fun h => hr9.f c12 h.1))
          · skip
            refine lv_aload_n S.1 S.2.1 dX6_toldIsInRange_82 rfl (lv_at hl 0 rfl) ?_
            refine x_get S hK hP dX6_toldIsInRange_83 hX (by decide) (RX6, TX6, 9) rfl hin6 5 (by decide) fl33 rfl ?_
            refine lv_iconst (v := 5) S.1 S.2.1 dX6_toldIsInRange_86 (by decide) ?_
            refine x_iald S hK hP dX6_toldIsInRange_87 h59 (by decide) (j := 5) rfl (by omega) (by decide) ?_
            refine lv_iconst (v := 0) S.1 S.2.1 dX6_toldIsInRange_88 (by decide) ?_
            refine lv_bipush (v := 60) S.1 S.2.1 dX6_toldIsInRange_89 (by decide) ?_
            refine x_si (va_runS (As := [.int (f6 5), .int 0, .int 60]) (rest := []) S (c_X6_isWithin l g E (f6 5) 0 60) (va_cwS 3 S.2.2.2.2 gX6_toldIsInRange_X6_isWithin rfl rfl rfl (by decide +kernel) ⟨Nat.le_of_ble_eq_true rfl, Nat.le_of_ble_eq_true rfl⟩) (x_preS hK hP) rfl rfl hl.1 rfl (lv_room (Nat.le_of_ble_eq_true rfl)) dX6_toldIsInRange_91 ⟨Nat.le_of_ble_eq_true rfl, Nat.le_of_ble_eq_true rfl⟩) (fun r91 hr91 => ?_)
            refine lv_if_eq (tgt := 101) S.1 S.2.1 dX6_toldIsInRange_94 (by decide) (fun c94 => ?_) (fun c94 => ?_)
            · skip
              refine lv_iconst (v := 0) S.1 S.2.1 dX6_toldIsInRange_101 (by decide) ?_
              exact x_zretR S hr hlocks dX6_toldIsInRange_102 (xb.zero (by first | exact fun h => hr91.f c94 h.2.2.2.2.2 | exact fun h => hr76.f c79 h.2.2.2.2.1 | exact fun h => hr60.f c63 h.2.2.2.1 | exact fun h => hr45.f c48 h.2.2.1 | exact fun h => hr27.f c30 h.2.1 | exact fun h => hr9.f c12 h.1))
            · skip
              refine lv_iconst (v := 1) S.1 S.2.1 dX6_toldIsInRange_97 (by decide) ?_
              refine lv_goto (tgt := 102) S.1 S.2.1 dX6_toldIsInRange_98 (by decide) ?_
              exact x_zretR S hr hlocks dX6_toldIsInRange_102 (xb.one ⟨hr9.t c12, hr27.t c30, hr45.t c48, hr60.t c63, hr76.t c79, hr91.t c94⟩)
/-- a photo comes: what is answered, and the state then -/
def sp_comes (z : xS) (f : Nat → Int32) (r : Int32) (z' : xS) : Prop := ((∃ k, k < zn z ∧ zM z 0 k = f 0) ∧ r = -4 ∧ z' = z) ∨ ((¬ ∃ k, k < zn z ∧ zM z 0 k = f 0) ∧ ((zn z = 10 ∧ r = -3 ∧ z' = z) ∨ (zn z < 10 ∧ r = nI (plc (zM z) (f 0) (zn z) 0) ∧ z' = wP (wR z) (zn z + 1) (insM (zM z) (plc (zM z) (f 0) (zn z) 0) f))))
theorem insM_congr {M : Nat → Nat → Int32} {q : Nat} {f f' : Nat → Int32} (h : ∀ w, w < 6 → f w = f' w) : insM M q f = insM M q f' := by
  funext w k
  unfold insM
  by_cases hw : w < 6
  · rw [if_pos hw, if_pos hw, h w hw]
  · rw [if_neg hw, if_neg hw]
theorem sp_comes.det {z : xS} {f f' : Nat → Int32} {r r' : Int32} {z1 z2 : xS} (hf : ∀ w, w < 6 → f w = f' w) (h : sp_comes z f r z1) (h' : sp_comes z f' r' z2) : r = r' ∧ z1 = z2 := by
  have e0 := hf 0 (by decide)
  have ei := insM_congr (M := zM z) (q := plc (zM z) (f' 0) (zn z) 0) hf
  unfold sp_comes at h h'
  rw [e0] at h
  rw [ei] at h
  rcases h with ⟨a1, a2, a3⟩ | ⟨a1, ⟨a2, a3, a4⟩ | ⟨a2, a3, a4⟩⟩ <;> rcases h' with ⟨b1, b2, b3⟩ | ⟨b1, ⟨b2, b3, b4⟩ | ⟨b2, b3, b4⟩⟩
  · exact ⟨a2.trans b2.symm, a3.trans b3.symm⟩
  · exact absurd a1 b1
  · exact absurd a1 b1
  · exact absurd b1 a1
  · exact ⟨a3.trans b3.symm, a4.trans b4.symm⟩
  · omega
  · exact absurd b1 a1
  · omega
  · exact ⟨a3.trans b3.symm, a4.trans b4.symm⟩
theorem plc_lt {M : Nat → Nat → Int32} {x : Int32} : ∀ d i k, i ≤ k → k < plc M x d i → M 0 k < x
  | 0, i, k, h1, h2 => by
    have h2 : k < i := h2
    omega
  | d + 1, i, k, h1, h2 => by
    unfold plc at h2
    split at h2
    · rename_i h
      by_cases e : k = i
      · subst e
        exact h
      · exact plc_lt d (i + 1) k (by omega) h2
    · omega
theorem plc_ge {M : Nat → Nat → Int32} {x : Int32} : ∀ d i, plc M x d i < i + d → ¬ M 0 (plc M x d i) < x
  | 0, i, h => by
    have h : i < i + 0 := h
    omega
  | d + 1, i, h => by
    unfold plc at h ⊢
    split
    · rename_i h2
      rw [if_pos h2] at h
      exact plc_ge d (i + 1) (by omega)
    · rename_i h2
      exact h2
/-- a time is there if it is at its place -/
theorem plc_there {n : Nat} {M : Nat → Nat → Int32} {x : Int32} (hv : vld n M) : (∃ k, k < n ∧ M 0 k = x) ↔ plc M x n 0 < n ∧ M 0 (plc M x n 0) = x := by
  constructor
  · rintro ⟨k, hk, e⟩
    have h1 : ¬ k < plc M x n 0 := fun h => by
      have := plc_lt n 0 k (Nat.zero_le _) h
      rw [e] at this
      exact Int32.lt_irrefl this
    have hn : plc M x n 0 < n := by omega
    refine ⟨hn, ?_⟩
    have h2 := plc_ge (M := M) (x := x) n 0 (by omega)
    by_cases e2 : plc M x n 0 = k
    · rw [e2]
      exact e
    · have h3 := hv.2 (plc M x n 0) k (by omega) hk
      rw [e, I_lt] at *
      exact absurd h3 h2
  · rintro ⟨h1, h2⟩
    exact ⟨_, h1, h2⟩
theorem rec_eq {hs n i : Nat} {N N1 N2 : Nat → Nat} {MM MM1 MM2 : Nat → Nat → Nat → Int32} {M : Nat → Nat → Int32} (h : ∀ i, i < hs → N i = N1 i ∧ MM i = MM1 i) (h2 : N2 i = rcV hs N n i ∧ MM2 i = rcV hs MM M i) (hi : i < rcS hs) : N2 i = rcV hs N1 n i ∧ MM2 i = rcV hs MM1 M i := by
  rw [h2.1, h2.2]
  unfold rcS at hi
  unfold rcV
  by_cases c : hs < 4
  · rw [if_pos c] at hi
    rw [if_pos c, if_pos c, if_pos c, if_pos c]
    by_cases e : i < hs
    · rw [if_pos e, if_pos e, if_pos e, if_pos e]
      exact h i e
    · rw [if_neg e, if_neg e, if_neg e, if_neg e]
      exact ⟨rfl, rfl⟩
  · rw [if_neg c] at hi
    rw [if_neg c, if_neg c, if_neg c, if_neg c]
    by_cases e : i < 3
    · rw [if_pos e, if_pos e, if_pos e, if_pos e]
      exact h (i + 1) (by omega)
    · rw [if_neg e, if_neg e, if_neg e, if_neg e]
      exact ⟨rfl, rfl⟩
set_option maxHeartbeats 4000000 in
set_option maxRecDepth 100000 in
theorem c_X6_addTold (l : Launch) (g : xG) (hJ : xJ (xad g)) (E : Nat → va_E) {z : xS} (hz : sX g E z) (hv : vS z) {f6 : Nat → Int32} (h59 : E 59 = .inl (xI g, 6, .inl f6))  : Met l yX6_addTold wsX6_addTold ({ frames := 3, cells := 0, slots := 0, locals := 103 }) (xPc g [.ref (xad g 0)] E) (xQi g (fun r E1 => ∃ z1, sp_comes z f6 r z1 ∧ sX g E1 z1 ∧ ∀ j, 65 ≤ j → E1 j = E j)) 0 0 (xA (xad g)) := by
  refine x_met (ws' := _) (by decide) rfl (Nat.le_of_ble_eq_true rfl) ?_
  intro pz ez s m below meth cz ls S hr hlocks hP hK hl
  have hl : lv_has ls 2 [(0, .ref (xad g 0))] := hl
  have hS : va_S (xA (xad g)) s.heap s.heap [] := va_S.rf
  have hin2 : ∀ w ∈ u_ws RX2 TX2 2, w ∈ wsX6_addTold := by decide +kernel
  have hin6 : ∀ w ∈ u_ws RX6 TX6 9, w ∈ wsX6_addTold := by decide +kernel
  have fl10 : Cond.fieldLink RX6 10 "DiscArcs" "photos" "LDiscArcs$Photos;" ∈ wsX6_addTold := by decide +kernel
  have fl22 : Cond.fieldLink RX6 22 "DiscArcs" "history" "LDiscArcs$History;" ∈ wsX6_addTold := by decide +kernel
  have fl33 : Cond.fieldLink RX6 33 "DiscArcs" "told" "[I" ∈ wsX6_addTold := by decide +kernel
  have fl90 : Cond.fieldLink RX6 90 "DiscArcs$Photos" "rows" "[[I" ∈ wsX6_addTold := by decide +kernel
  have fl118 : Cond.fieldLink RX6 118 "DiscArcs$Photos" "size" "I" ∈ wsX6_addTold := by decide +kernel
  obtain ⟨hX, hp, hsn, ⟨B, N, MM, hH, hHe⟩, ⟨p0, ta, h57⟩, h58, -, ⟨x1, x2, x3, hA⟩, h61, ⟨f2, h62⟩, ⟨f3, h63⟩, u1, u2, u3, hZ⟩ := hz
  have h0 := hp.1
  have hv1 := hv.1.2
  have hfm : ∀ j, 65 ≤ j → E j = E j := fun _ _ => rfl
  refine lv_aload_n S.1 S.2.1 dX6_addTold_0 rfl (lv_at hl 0 rfl) ?_
  refine x_get S hK hP dX6_addTold_1 hX (by decide) (RX6, TX6, 9) rfl hin6 0 (by decide) fl10 rfl ?_
  refine lv_aload_n S.1 S.2.1 dX6_addTold_4 rfl (lv_at hl 0 rfl) ?_
  refine x_get S hK hP dX6_addTold_5 hX (by decide) (RX6, TX6, 9) rfl hin6 5 (by decide) fl33 rfl ?_
  refine lv_iconst (v := 0) S.1 S.2.1 dX6_addTold_8 (by decide) ?_
  refine x_iald S hK hP dX6_addTold_9 h59 (by decide) (j := 0) rfl (by omega) (by decide) ?_
  refine x_si (va_runV (As := [.int (f6 0)]) (rest := []) S (c_X2_numberAt l g E hp (f6 0)) (cwV 1 S.2.2.2.2 gX6_addTold_X2_numberAt rfl rfl rfl (by decide +kernel) ⟨Nat.le_of_ble_eq_true rfl, Nat.le_of_ble_eq_true rfl⟩) (x_preV hK hP hp.2.1 (by decide) rfl) rfl rfl hl.1 rfl (lv_room (Nat.le_of_ble_eq_true rfl)) dX6_addTold_10 ⟨Nat.le_of_ble_eq_true rfl, Nat.le_of_ble_eq_true rfl⟩) (fun r10 hr10 => ?_)
  subst hr10
  have hql := plc_le (zM z) (f6 0) (zn z) 0
  refine lv_istore_n (lv' := [(1, .int (nI (plc (zM z) (f6 0) (zn z) 0))), (0, .ref (xad g 0))]) S.1 S.2.1 dX6_addTold_13 rfl hl (by decide) rfl (fun ls hl => ?_)
  refine lv_iload_n S.1 S.2.1 dX6_addTold_14 rfl (lv_at hl 0 rfl) ?_
  refine lv_aload_n S.1 S.2.1 dX6_addTold_15 rfl (lv_at hl 1 rfl) ?_
  refine x_get S hK hP dX6_addTold_16 hX (by decide) (RX6, TX6, 9) rfl hin6 0 (by decide) fl10 rfl ?_
  refine x_get S hK hP dX6_addTold_19 hp.2.1 (by decide) (RX2, TX2, 2) rfl hin2 1 (by decide) fl118 rfl ?_
  refine lv_icmp_ge (tgt := 48) S.1 S.2.1 dX6_addTold_22 (by decide) (fun c22 => ?_) (fun c22 => ?_)
  · skip
    have hno : ¬ ∃ k, k < zn z ∧ zM z 0 k = f6 0 := fun h => by
      obtain ⟨k1, k2⟩ := (plc_there hv1).mp h
      first
        | exact c42 k2
        | exact absurd ((nI_leI (by omega) (by omega)).mp c22) (by omega)
    refine lv_aload_n S.1 S.2.1 dX6_addTold_48 rfl (lv_at hl 1 rfl) ?_
    refine x_get S hK hP dX6_addTold_49 hX (by decide) (RX6, TX6, 9) rfl hin6 0 (by decide) fl10 rfl ?_
    refine x_get S hK hP dX6_addTold_52 hp.2.1 (by decide) (RX2, TX2, 2) rfl hin2 1 (by decide) fl118 rfl ?_
    refine lv_bipush (v := 10) S.1 S.2.1 dX6_addTold_55 (by decide) ?_
    refine lv_icmp_lt (tgt := 63) S.1 S.2.1 dX6_addTold_57 (by decide) (fun c57 => ?_) (fun c57 => ?_)
    · skip
      have hn10 : zn z < 10 := (nI_ltI (a := zn z) (b := 10) (by omega) (by decide)).mp c57
      refine lv_aload_n S.1 S.2.1 dX6_addTold_63 rfl (lv_at hl 1 rfl) ?_
      refine x_get S hK hP dX6_addTold_64 hX (by decide) (RX6, TX6, 9) rfl hin6 3 (by decide) fl22 rfl ?_
      refine lv_aload_n S.1 S.2.1 dX6_addTold_67 rfl (lv_at hl 1 rfl) ?_
      refine x_get S hK hP dX6_addTold_68 hX (by decide) (RX6, TX6, 9) rfl hin6 0 (by decide) fl10 rfl ?_
      refine x_qv (va_runV (As := [.ref (xad g 1)]) (rest := []) S (c_X1_record l g hJ E hH hp) (cwV 1 S.2.2.2.2 gX6_addTold_X1_record rfl rfl rfl (by decide +kernel) ⟨Nat.le_of_ble_eq_true rfl, Nat.le_of_ble_eq_true rfl⟩) (x_preV hK hP hH.2.1 (by decide) rfl) rfl rfl hl.1 rfl (lv_room (Nat.le_of_ble_eq_true rfl)) dX6_addTold_71 ⟨Nat.le_of_ble_eq_true rfl, Nat.le_of_ble_eq_true rfl⟩) hS (fun E1 H locs hq71 hP hS => ?_)
      obtain ⟨⟨B2, N2, MM2, hH, hHe2⟩, hfr71⟩ := hq71
      have hX := (hfr71 0 (by decide)).trans hX
      have hp := hp.keep (E1 := E1) (fun j g1 g2 => hfr71 j (by omega))
      have hsn := hsn.keep (E1 := E1) (fun j g1 g2 => hfr71 j (by omega))
      have h57 := (hfr71 57 (by decide)).trans h57
      have h58 := (hfr71 58 (by decide)).trans h58
      have h59 := (hfr71 59 (by decide)).trans h59
      have hA := (hfr71 60 (by decide)).trans hA
      have h61 := (hfr71 61 (by decide)).trans h61
      have h62 := (hfr71 62 (by decide)).trans h62
      have h63 := (hfr71 63 (by decide)).trans h63
      have hZ := (hfr71 64 (by decide)).trans hZ
      have hfm : ∀ j, 65 ≤ j → E1 j = E j := fun j hj => (hfr71 j (by omega)).trans (hfm j hj)
      have hHe : ∀ i, i < rcS (zh z) → N2 i = rcV (zh z) (zN z) (zn z) i ∧ MM2 i = rcV (zh z) (zMM z) (zM z) i := fun i hi => rec_eq hHe (hHe2 i hi) hi
      refine lv_aload_n S.1 S.2.1 dX6_addTold_74 rfl (lv_at hl 1 rfl) ?_
      refine x_get S hK hP dX6_addTold_75 hX (by decide) (RX6, TX6, 9) rfl hin6 0 (by decide) fl10 rfl ?_
      refine lv_iload_n S.1 S.2.1 dX6_addTold_78 rfl (lv_at hl 0 rfl) ?_
      refine lv_aload_n S.1 S.2.1 dX6_addTold_79 rfl (lv_at hl 1 rfl) ?_
      refine x_get S hK hP dX6_addTold_80 hX (by decide) (RX6, TX6, 9) rfl hin6 5 (by decide) fl33 rfl ?_
      refine x_qv (va_runV (As := [.int (nI (plc (zM z) (f6 0) (zn z) 0)), .ref (xad g 59)]) (rest := []) S (c_X2_insert l g hJ E1 hp (by decide) h59 (q := (plc (zM z) (f6 0) (zn z) 0)) (by omega) hn10) (cwV 2 S.2.2.2.2 gX6_addTold_X2_insert rfl rfl rfl (by decide +kernel) ⟨Nat.le_of_ble_eq_true rfl, Nat.le_of_ble_eq_true rfl⟩) (x_preV hK hP hp.2.1 (by decide) rfl) rfl rfl hl.1 rfl (lv_room (Nat.le_of_ble_eq_true rfl)) dX6_addTold_83 ⟨Nat.le_of_ble_eq_true rfl, Nat.le_of_ble_eq_true rfl⟩) hS (fun E1_1 H locs hq83 hP hS => ?_)
      obtain ⟨hp, hfr83⟩ := hq83
      have hX := (hfr83 0 (by decide)).trans hX
      have hsn := hsn.keep (E1 := E1_1) (fun j g1 g2 => hfr83 j (by omega))
      have h57 := (hfr83 57 (by decide)).trans h57
      have h58 := (hfr83 58 (by decide)).trans h58
      have h59 := (hfr83 59 (by decide)).trans h59
      have hA := (hfr83 60 (by decide)).trans hA
      have h61 := (hfr83 61 (by decide)).trans h61
      have h62 := (hfr83 62 (by decide)).trans h62
      have h63 := (hfr83 63 (by decide)).trans h63
      have hZ := (hfr83 64 (by decide)).trans hZ
      have hfm : ∀ j, 65 ≤ j → E1_1 j = E j := fun j hj => (hfr83 j (by omega)).trans (hfm j hj)
      have hH := hH.keep (E1 := E1_1) (fun j g1 g2 => hfr83 j (by omega))
      refine lv_iload_n S.1 S.2.1 dX6_addTold_86 rfl (lv_at hl 0 rfl) ?_
      exact x_iret S hr hlocks hP hS dX6_addTold_87 (⟨_, Or.inr ⟨hno, Or.inr ⟨hn10, rfl, rfl⟩⟩, sX.mk (z := wP (wR z) (zn z + 1) (insM (zM z) (plc (zM z) (f6 0) (zn z) 0) f6)) hX rfl hp hsn hH hHe h57 h58 h59 hA h61 h62 h63 hZ, hfm⟩)
    · skip
      refine lv_bipush (v := (-3)) S.1 S.2.1 dX6_addTold_60 (by decide) ?_
      exact x_iret S hr hlocks hP hS dX6_addTold_62 (⟨z, Or.inr ⟨hno, Or.inl ⟨by have := Nat.not_lt.mp (fun h => c57 ((nI_ltI (a := zn z) (b := 10) (by omega) (by decide)).mpr h)); omega, rfl, rfl⟩⟩, sX.mk hX rfl hp hsn hH hHe h57 h58 h59 hA h61 h62 h63 hZ, hfm⟩)
  · skip
    have hqn : (plc (zM z) (f6 0) (zn z) 0) < zn z := (Nat.not_le.mp (fun h => c22 ((nI_leI (by omega) (by omega)).mpr h)))
    refine lv_aload_n S.1 S.2.1 dX6_addTold_25 rfl (lv_at hl 1 rfl) ?_
    refine x_get S hK hP dX6_addTold_26 hX (by decide) (RX6, TX6, 9) rfl hin6 0 (by decide) fl10 rfl ?_
    refine x_get S hK hP dX6_addTold_29 hp.2.1 (by decide) (RX2, TX2, 2) rfl hin2 0 (by decide) fl90 rfl ?_
    refine lv_iconst (v := 0) S.1 S.2.1 dX6_addTold_32 (by decide) ?_
    refine x_row S hK hP dX6_addTold_33 hp 0 rfl (by omega) ?_
    refine lv_iload_n S.1 S.2.1 dX6_addTold_34 rfl (lv_at hl 0 rfl) ?_
    refine x_val S hK hP dX6_addTold_35 hp (w := 0) (plc (zM z) (f6 0) (zn z) 0) rfl (by decide) hqn ?_
    refine lv_aload_n S.1 S.2.1 dX6_addTold_36 rfl (lv_at hl 1 rfl) ?_
    refine x_get S hK hP dX6_addTold_37 hX (by decide) (RX6, TX6, 9) rfl hin6 5 (by decide) fl33 rfl ?_
    refine lv_iconst (v := 0) S.1 S.2.1 dX6_addTold_40 (by decide) ?_
    refine x_iald S hK hP dX6_addTold_41 h59 (by decide) (j := 0) rfl (by omega) (by decide) ?_
    refine lv_icmp_ne (tgt := 48) S.1 S.2.1 dX6_addTold_42 (by decide) (fun c42 => ?_) (fun c42 => ?_)
    · skip
      have hno : ¬ ∃ k, k < zn z ∧ zM z 0 k = f6 0 := fun h => by
        obtain ⟨k1, k2⟩ := (plc_there hv1).mp h
        first
          | exact c42 k2
          | exact absurd ((nI_leI (by omega) (by omega)).mp c22) (by omega)
      refine lv_aload_n S.1 S.2.1 dX6_addTold_48 rfl (lv_at hl 1 rfl) ?_
      refine x_get S hK hP dX6_addTold_49 hX (by decide) (RX6, TX6, 9) rfl hin6 0 (by decide) fl10 rfl ?_
      refine x_get S hK hP dX6_addTold_52 hp.2.1 (by decide) (RX2, TX2, 2) rfl hin2 1 (by decide) fl118 rfl ?_
      refine lv_bipush (v := 10) S.1 S.2.1 dX6_addTold_55 (by decide) ?_
      refine lv_icmp_lt (tgt := 63) S.1 S.2.1 dX6_addTold_57 (by decide) (fun c57 => ?_) (fun c57 => ?_)
      · skip
        have hn10 : zn z < 10 := (nI_ltI (a := zn z) (b := 10) (by omega) (by decide)).mp c57
        refine lv_aload_n S.1 S.2.1 dX6_addTold_63 rfl (lv_at hl 1 rfl) ?_
        refine x_get S hK hP dX6_addTold_64 hX (by decide) (RX6, TX6, 9) rfl hin6 3 (by decide) fl22 rfl ?_
        refine lv_aload_n S.1 S.2.1 dX6_addTold_67 rfl (lv_at hl 1 rfl) ?_
        refine x_get S hK hP dX6_addTold_68 hX (by decide) (RX6, TX6, 9) rfl hin6 0 (by decide) fl10 rfl ?_
        refine x_qv (va_runV (As := [.ref (xad g 1)]) (rest := []) S (c_X1_record l g hJ E hH hp) (cwV 1 S.2.2.2.2 gX6_addTold_X1_record rfl rfl rfl (by decide +kernel) ⟨Nat.le_of_ble_eq_true rfl, Nat.le_of_ble_eq_true rfl⟩) (x_preV hK hP hH.2.1 (by decide) rfl) rfl rfl hl.1 rfl (lv_room (Nat.le_of_ble_eq_true rfl)) dX6_addTold_71 ⟨Nat.le_of_ble_eq_true rfl, Nat.le_of_ble_eq_true rfl⟩) hS (fun E1_2 H locs hq71 hP hS => ?_)
        obtain ⟨⟨B2, N2, MM2, hH, hHe2⟩, hfr71⟩ := hq71
        have hX := (hfr71 0 (by decide)).trans hX
        have hp := hp.keep (E1 := E1_2) (fun j g1 g2 => hfr71 j (by omega))
        have hsn := hsn.keep (E1 := E1_2) (fun j g1 g2 => hfr71 j (by omega))
        have h57 := (hfr71 57 (by decide)).trans h57
        have h58 := (hfr71 58 (by decide)).trans h58
        have h59 := (hfr71 59 (by decide)).trans h59
        have hA := (hfr71 60 (by decide)).trans hA
        have h61 := (hfr71 61 (by decide)).trans h61
        have h62 := (hfr71 62 (by decide)).trans h62
        have h63 := (hfr71 63 (by decide)).trans h63
        have hZ := (hfr71 64 (by decide)).trans hZ
        have hfm : ∀ j, 65 ≤ j → E1_2 j = E j := fun j hj => (hfr71 j (by omega)).trans (hfm j hj)
        have hHe : ∀ i, i < rcS (zh z) → N2 i = rcV (zh z) (zN z) (zn z) i ∧ MM2 i = rcV (zh z) (zMM z) (zM z) i := fun i hi => rec_eq hHe (hHe2 i hi) hi
        refine lv_aload_n S.1 S.2.1 dX6_addTold_74 rfl (lv_at hl 1 rfl) ?_
        refine x_get S hK hP dX6_addTold_75 hX (by decide) (RX6, TX6, 9) rfl hin6 0 (by decide) fl10 rfl ?_
        refine lv_iload_n S.1 S.2.1 dX6_addTold_78 rfl (lv_at hl 0 rfl) ?_
        refine lv_aload_n S.1 S.2.1 dX6_addTold_79 rfl (lv_at hl 1 rfl) ?_
        refine x_get S hK hP dX6_addTold_80 hX (by decide) (RX6, TX6, 9) rfl hin6 5 (by decide) fl33 rfl ?_
        refine x_qv (va_runV (As := [.int (nI (plc (zM z) (f6 0) (zn z) 0)), .ref (xad g 59)]) (rest := []) S (c_X2_insert l g hJ E1_2 hp (by decide) h59 (q := (plc (zM z) (f6 0) (zn z) 0)) (by omega) hn10) (cwV 2 S.2.2.2.2 gX6_addTold_X2_insert rfl rfl rfl (by decide +kernel) ⟨Nat.le_of_ble_eq_true rfl, Nat.le_of_ble_eq_true rfl⟩) (x_preV hK hP hp.2.1 (by decide) rfl) rfl rfl hl.1 rfl (lv_room (Nat.le_of_ble_eq_true rfl)) dX6_addTold_83 ⟨Nat.le_of_ble_eq_true rfl, Nat.le_of_ble_eq_true rfl⟩) hS (fun E1_3 H locs hq83 hP hS => ?_)
        obtain ⟨hp, hfr83⟩ := hq83
        have hX := (hfr83 0 (by decide)).trans hX
        have hsn := hsn.keep (E1 := E1_3) (fun j g1 g2 => hfr83 j (by omega))
        have h57 := (hfr83 57 (by decide)).trans h57
        have h58 := (hfr83 58 (by decide)).trans h58
        have h59 := (hfr83 59 (by decide)).trans h59
        have hA := (hfr83 60 (by decide)).trans hA
        have h61 := (hfr83 61 (by decide)).trans h61
        have h62 := (hfr83 62 (by decide)).trans h62
        have h63 := (hfr83 63 (by decide)).trans h63
        have hZ := (hfr83 64 (by decide)).trans hZ
        have hfm : ∀ j, 65 ≤ j → E1_3 j = E j := fun j hj => (hfr83 j (by omega)).trans (hfm j hj)
        have hH := hH.keep (E1 := E1_3) (fun j g1 g2 => hfr83 j (by omega))
        refine lv_iload_n S.1 S.2.1 dX6_addTold_86 rfl (lv_at hl 0 rfl) ?_
        exact x_iret S hr hlocks hP hS dX6_addTold_87 (⟨_, Or.inr ⟨hno, Or.inr ⟨hn10, rfl, rfl⟩⟩, sX.mk (z := wP (wR z) (zn z + 1) (insM (zM z) (plc (zM z) (f6 0) (zn z) 0) f6)) hX rfl hp hsn hH hHe h57 h58 h59 hA h61 h62 h63 hZ, hfm⟩)
      · skip
        refine lv_bipush (v := (-3)) S.1 S.2.1 dX6_addTold_60 (by decide) ?_
        exact x_iret S hr hlocks hP hS dX6_addTold_62 (⟨z, Or.inr ⟨hno, Or.inl ⟨by have := Nat.not_lt.mp (fun h => c57 ((nI_ltI (a := zn z) (b := 10) (by omega) (by decide)).mpr h)); omega, rfl, rfl⟩⟩, sX.mk hX rfl hp hsn hH hHe h57 h58 h59 hA h61 h62 h63 hZ, hfm⟩)
    · skip
      refine lv_bipush (v := (-4)) S.1 S.2.1 dX6_addTold_45 (by decide) ?_
      exact x_iret S hr hlocks hP hS dX6_addTold_47 (⟨z, Or.inl ⟨(plc_there hv1).mpr ⟨hqn, c42⟩, rfl, rfl⟩, sX.mk hX rfl hp hsn hH hHe h57 h58 h59 hA h61 h62 h63 hZ, hfm⟩)
/-! DISCARCS: the acts -/
def tld (t x y e a o : Int32) (w : Nat) : Int32 := if w = 0 then t else if w = 1 then x else if w = 2 then y else if w = 3 then e else if w = 4 then a else o
theorem rngT_congr {f f' : Nat → Int32} (h : ∀ w, w < 6 → f w = f' w) : rngT f ↔ rngT f' := by
  unfold rngT
  rw [h 0 (by decide), h 1 (by decide), h 2 (by decide), h 3 (by decide), h 4 (by decide), h 5 (by decide)]
theorem sp_comes.congr {z z' : xS} {f f' : Nat → Int32} {r : Int32} (h : ∀ w, w < 6 → f w = f' w) (hs : sp_comes z f r z') : sp_comes z f' r z' := by
  unfold sp_comes at *
  rw [← h 0 (by decide), ← insM_congr h]
  exact hs
def sp_addPhoto (z : xS) (t x y e r : Int32) (z' : xS) : Prop := (¬ rngT (tld t x y e 360 0) ∧ r = -2 ∧ z' = z) ∨ (rngT (tld t x y e 360 0) ∧ sp_comes z (tld t x y e 360 0) r z')
theorem w6 {P : Nat → Prop} (h0 : P 0) (h1 : P 1) (h2 : P 2) (h3 : P 3) (h4 : P 4) (h5 : P 5) : ∀ w, w < 6 → P w := by
  intro w hw
  have : w = 0 ∨ w = 1 ∨ w = 2 ∨ w = 3 ∨ w = 4 ∨ w = 5 := by omega
  rcases this with rfl | rfl | rfl | rfl | rfl | rfl <;> assumption
set_option maxHeartbeats 4000000 in
set_option maxRecDepth 100000 in
theorem c_X6_addPhoto (l : Launch) (g : xG) (hJ : xJ (xad g)) (E : Nat → va_E) {z : xS} (hz : sX g E z) (hv : vS z) (t x y e5 : Int32) : Met l yX6_addPhoto wsX6_addPhoto ({ frames := 4, cells := 0, slots := 0, locals := 124 }) (xPc g [.ref (xad g 0), .int t, .int x, .int y, .int e5] E) (xQi g (fun r E1 => ∃ z1, sp_addPhoto z t x y e5 r z1 ∧ sX g E1 z1 ∧ ∀ j, 65 ≤ j → E1 j = E j)) 0 0 (xA (xad g)) := by
  refine x_met (ws' := _) (by decide) rfl (Nat.le_of_ble_eq_true rfl) ?_
  intro pz ez s m below meth cz ls S hr hlocks hP hK hl
  have hl : lv_has ls 5 [(0, .ref (xad g 0)), (1, .int t), (2, .int x), (3, .int y), (4, .int e5)] := hl
  have hS : va_S (xA (xad g)) s.heap s.heap [] := va_S.rf
  have hin6 : ∀ w ∈ u_ws RX6 TX6 9, w ∈ wsX6_addPhoto := by decide +kernel
  have fl33 : Cond.fieldLink RX6 33 "DiscArcs" "told" "[I" ∈ wsX6_addPhoto := by decide +kernel
  obtain ⟨hX, hp, hsn, ⟨B, N, MM, hH, hHe⟩, ⟨p0, ta, h57⟩, h58, ⟨f6, h59⟩, ⟨x1, x2, x3, hA⟩, h61, ⟨f2, h62⟩, ⟨f3, h63⟩, u1, u2, u3, hZ⟩ := hz
  have h0 := hp.1
  have hv1 := hv.1.2
  have hfm : ∀ j, 65 ≤ j → E j = E j := fun _ _ => rfl
  refine lv_aload_n S.1 S.2.1 dX6_addPhoto_0 rfl (lv_at hl 0 rfl) ?_
  refine x_get S hK hP dX6_addPhoto_1 hX (by decide) (RX6, TX6, 9) rfl hin6 5 (by decide) fl33 rfl ?_
  refine lv_iconst (v := 0) S.1 S.2.1 dX6_addPhoto_4 (by decide) ?_
  refine lv_iload_n S.1 S.2.1 dX6_addPhoto_5 rfl (lv_at hl 1 rfl) ?_
  refine x_iast S hK hJ hP hS dX6_addPhoto_6 h59 (by decide) (j := 0) rfl (by omega) (by decide) (fun H locs E1 hu hP hS => ?_)
  have hX : E1 0 = .inr (6, [.ref (xad g 1), .ref (xad g 10), .int (bI (zf z)), .ref (xad g 19), .ref (xad g 57), .ref (xad g 59), .ref (xad g 60), .ref (xad g 61), .ref (xad g 64)]) := (hu.2 _ (by omega)).trans hX
  have hp : ePh g E1 1 (zn z) (zM z) := hp.keep (fun j h1 h2 => hu.2 j (by omega))
  have hsn : ePh g E1 10 (zsn z) (zsM z) := hsn.keep (fun j h1 h2 => hu.2 j (by omega))
  have hH := hH.keep (E1 := E1) (fun j h1 h2 => hu.2 j (by omega))
  have h57 : E1 57 = .inr (4, [.ref (xad g 58), .int (nI (ztl z)), .int p0, .int ta]) := (hu.2 _ (by omega)).trans h57
  have h58 : E1 58 = .inl (xC g, 60, .inl (ztf z)) := (hu.2 _ (by omega)).trans h58
  have h59 : E1 59 = .inl (xI g, 6, .inl (upd f6 0 t)) := hu.1
  have hA : E1 60 = .inr (0, [.ref (xad g 1), .int x1, .int x2, .int x3]) := (hu.2 _ (by omega)).trans hA
  have h61 : E1 61 = .inr (5, [.ref (xad g 1), .ref (xad g 60), .ref (xad g 62), .ref (xad g 63)]) := (hu.2 _ (by omega)).trans h61
  have h62 : E1 62 = .inl (xI g, 11, .inl f2) := (hu.2 _ (by omega)).trans h62
  have h63 : E1 63 = .inl (xI g, 11, .inl f3) := (hu.2 _ (by omega)).trans h63
  have hZ : E1 64 = .inr (3, [.ref (xad g 1), .int u1, .int u2, .int u3]) := (hu.2 _ (by omega)).trans hZ
  have hfm : ∀ j, 65 ≤ j → E1 j = E j := fun j hj => (hu.2 j (by omega)).trans (hfm j hj)
  refine lv_aload_n S.1 S.2.1 dX6_addPhoto_7 rfl (lv_at hl 0 rfl) ?_
  refine x_get S hK hP dX6_addPhoto_8 hX (by decide) (RX6, TX6, 9) rfl hin6 5 (by decide) fl33 rfl ?_
  refine lv_iconst (v := 1) S.1 S.2.1 dX6_addPhoto_11 (by decide) ?_
  refine lv_iload_n S.1 S.2.1 dX6_addPhoto_12 rfl (lv_at hl 2 rfl) ?_
  refine x_iast S hK hJ hP hS dX6_addPhoto_13 h59 (by decide) (j := 1) rfl (by omega) (by decide) (fun H locs E1_1 hu hP hS => ?_)
  have hX : E1_1 0 = .inr (6, [.ref (xad g 1), .ref (xad g 10), .int (bI (zf z)), .ref (xad g 19), .ref (xad g 57), .ref (xad g 59), .ref (xad g 60), .ref (xad g 61), .ref (xad g 64)]) := (hu.2 _ (by omega)).trans hX
  have hp : ePh g E1_1 1 (zn z) (zM z) := hp.keep (fun j h1 h2 => hu.2 j (by omega))
  have hsn : ePh g E1_1 10 (zsn z) (zsM z) := hsn.keep (fun j h1 h2 => hu.2 j (by omega))
  have hH := hH.keep (E1 := E1_1) (fun j h1 h2 => hu.2 j (by omega))
  have h57 : E1_1 57 = .inr (4, [.ref (xad g 58), .int (nI (ztl z)), .int p0, .int ta]) := (hu.2 _ (by omega)).trans h57
  have h58 : E1_1 58 = .inl (xC g, 60, .inl (ztf z)) := (hu.2 _ (by omega)).trans h58
  have h59 : E1_1 59 = .inl (xI g, 6, .inl (upd (upd f6 0 t) 1 x)) := hu.1
  have hA : E1_1 60 = .inr (0, [.ref (xad g 1), .int x1, .int x2, .int x3]) := (hu.2 _ (by omega)).trans hA
  have h61 : E1_1 61 = .inr (5, [.ref (xad g 1), .ref (xad g 60), .ref (xad g 62), .ref (xad g 63)]) := (hu.2 _ (by omega)).trans h61
  have h62 : E1_1 62 = .inl (xI g, 11, .inl f2) := (hu.2 _ (by omega)).trans h62
  have h63 : E1_1 63 = .inl (xI g, 11, .inl f3) := (hu.2 _ (by omega)).trans h63
  have hZ : E1_1 64 = .inr (3, [.ref (xad g 1), .int u1, .int u2, .int u3]) := (hu.2 _ (by omega)).trans hZ
  have hfm : ∀ j, 65 ≤ j → E1_1 j = E j := fun j hj => (hu.2 j (by omega)).trans (hfm j hj)
  refine lv_aload_n S.1 S.2.1 dX6_addPhoto_14 rfl (lv_at hl 0 rfl) ?_
  refine x_get S hK hP dX6_addPhoto_15 hX (by decide) (RX6, TX6, 9) rfl hin6 5 (by decide) fl33 rfl ?_
  refine lv_iconst (v := 2) S.1 S.2.1 dX6_addPhoto_18 (by decide) ?_
  refine lv_iload_n S.1 S.2.1 dX6_addPhoto_19 rfl (lv_at hl 3 rfl) ?_
  refine x_iast S hK hJ hP hS dX6_addPhoto_20 h59 (by decide) (j := 2) rfl (by omega) (by decide) (fun H locs E1_2 hu hP hS => ?_)
  have hX : E1_2 0 = .inr (6, [.ref (xad g 1), .ref (xad g 10), .int (bI (zf z)), .ref (xad g 19), .ref (xad g 57), .ref (xad g 59), .ref (xad g 60), .ref (xad g 61), .ref (xad g 64)]) := (hu.2 _ (by omega)).trans hX
  have hp : ePh g E1_2 1 (zn z) (zM z) := hp.keep (fun j h1 h2 => hu.2 j (by omega))
  have hsn : ePh g E1_2 10 (zsn z) (zsM z) := hsn.keep (fun j h1 h2 => hu.2 j (by omega))
  have hH := hH.keep (E1 := E1_2) (fun j h1 h2 => hu.2 j (by omega))
  have h57 : E1_2 57 = .inr (4, [.ref (xad g 58), .int (nI (ztl z)), .int p0, .int ta]) := (hu.2 _ (by omega)).trans h57
  have h58 : E1_2 58 = .inl (xC g, 60, .inl (ztf z)) := (hu.2 _ (by omega)).trans h58
  have h59 : E1_2 59 = .inl (xI g, 6, .inl (upd (upd (upd f6 0 t) 1 x) 2 y)) := hu.1
  have hA : E1_2 60 = .inr (0, [.ref (xad g 1), .int x1, .int x2, .int x3]) := (hu.2 _ (by omega)).trans hA
  have h61 : E1_2 61 = .inr (5, [.ref (xad g 1), .ref (xad g 60), .ref (xad g 62), .ref (xad g 63)]) := (hu.2 _ (by omega)).trans h61
  have h62 : E1_2 62 = .inl (xI g, 11, .inl f2) := (hu.2 _ (by omega)).trans h62
  have h63 : E1_2 63 = .inl (xI g, 11, .inl f3) := (hu.2 _ (by omega)).trans h63
  have hZ : E1_2 64 = .inr (3, [.ref (xad g 1), .int u1, .int u2, .int u3]) := (hu.2 _ (by omega)).trans hZ
  have hfm : ∀ j, 65 ≤ j → E1_2 j = E j := fun j hj => (hu.2 j (by omega)).trans (hfm j hj)
  refine lv_aload_n S.1 S.2.1 dX6_addPhoto_21 rfl (lv_at hl 0 rfl) ?_
  refine x_get S hK hP dX6_addPhoto_22 hX (by decide) (RX6, TX6, 9) rfl hin6 5 (by decide) fl33 rfl ?_
  refine lv_iconst (v := 3) S.1 S.2.1 dX6_addPhoto_25 (by decide) ?_
  refine lv_iload S.1 S.2.1 dX6_addPhoto_26 (lv_at hl 4 rfl) ?_
  refine x_iast S hK hJ hP hS dX6_addPhoto_28 h59 (by decide) (j := 3) rfl (by omega) (by decide) (fun H locs E1_3 hu hP hS => ?_)
  have hX : E1_3 0 = .inr (6, [.ref (xad g 1), .ref (xad g 10), .int (bI (zf z)), .ref (xad g 19), .ref (xad g 57), .ref (xad g 59), .ref (xad g 60), .ref (xad g 61), .ref (xad g 64)]) := (hu.2 _ (by omega)).trans hX
  have hp : ePh g E1_3 1 (zn z) (zM z) := hp.keep (fun j h1 h2 => hu.2 j (by omega))
  have hsn : ePh g E1_3 10 (zsn z) (zsM z) := hsn.keep (fun j h1 h2 => hu.2 j (by omega))
  have hH := hH.keep (E1 := E1_3) (fun j h1 h2 => hu.2 j (by omega))
  have h57 : E1_3 57 = .inr (4, [.ref (xad g 58), .int (nI (ztl z)), .int p0, .int ta]) := (hu.2 _ (by omega)).trans h57
  have h58 : E1_3 58 = .inl (xC g, 60, .inl (ztf z)) := (hu.2 _ (by omega)).trans h58
  have h59 : E1_3 59 = .inl (xI g, 6, .inl (upd (upd (upd (upd f6 0 t) 1 x) 2 y) 3 e5)) := hu.1
  have hA : E1_3 60 = .inr (0, [.ref (xad g 1), .int x1, .int x2, .int x3]) := (hu.2 _ (by omega)).trans hA
  have h61 : E1_3 61 = .inr (5, [.ref (xad g 1), .ref (xad g 60), .ref (xad g 62), .ref (xad g 63)]) := (hu.2 _ (by omega)).trans h61
  have h62 : E1_3 62 = .inl (xI g, 11, .inl f2) := (hu.2 _ (by omega)).trans h62
  have h63 : E1_3 63 = .inl (xI g, 11, .inl f3) := (hu.2 _ (by omega)).trans h63
  have hZ : E1_3 64 = .inr (3, [.ref (xad g 1), .int u1, .int u2, .int u3]) := (hu.2 _ (by omega)).trans hZ
  have hfm : ∀ j, 65 ≤ j → E1_3 j = E j := fun j hj => (hu.2 j (by omega)).trans (hfm j hj)
  refine lv_aload_n S.1 S.2.1 dX6_addPhoto_29 rfl (lv_at hl 0 rfl) ?_
  refine x_get S hK hP dX6_addPhoto_30 hX (by decide) (RX6, TX6, 9) rfl hin6 5 (by decide) fl33 rfl ?_
  refine lv_iconst (v := 4) S.1 S.2.1 dX6_addPhoto_33 (by decide) ?_
  refine lv_sipush (v := 360) S.1 S.2.1 dX6_addPhoto_34 (by decide) ?_
  refine x_iast S hK hJ hP hS dX6_addPhoto_37 h59 (by decide) (j := 4) rfl (by omega) (by decide) (fun H locs E1_4 hu hP hS => ?_)
  have hX : E1_4 0 = .inr (6, [.ref (xad g 1), .ref (xad g 10), .int (bI (zf z)), .ref (xad g 19), .ref (xad g 57), .ref (xad g 59), .ref (xad g 60), .ref (xad g 61), .ref (xad g 64)]) := (hu.2 _ (by omega)).trans hX
  have hp : ePh g E1_4 1 (zn z) (zM z) := hp.keep (fun j h1 h2 => hu.2 j (by omega))
  have hsn : ePh g E1_4 10 (zsn z) (zsM z) := hsn.keep (fun j h1 h2 => hu.2 j (by omega))
  have hH := hH.keep (E1 := E1_4) (fun j h1 h2 => hu.2 j (by omega))
  have h57 : E1_4 57 = .inr (4, [.ref (xad g 58), .int (nI (ztl z)), .int p0, .int ta]) := (hu.2 _ (by omega)).trans h57
  have h58 : E1_4 58 = .inl (xC g, 60, .inl (ztf z)) := (hu.2 _ (by omega)).trans h58
  have h59 : E1_4 59 = .inl (xI g, 6, .inl (upd (upd (upd (upd (upd f6 0 t) 1 x) 2 y) 3 e5) 4 360)) := hu.1
  have hA : E1_4 60 = .inr (0, [.ref (xad g 1), .int x1, .int x2, .int x3]) := (hu.2 _ (by omega)).trans hA
  have h61 : E1_4 61 = .inr (5, [.ref (xad g 1), .ref (xad g 60), .ref (xad g 62), .ref (xad g 63)]) := (hu.2 _ (by omega)).trans h61
  have h62 : E1_4 62 = .inl (xI g, 11, .inl f2) := (hu.2 _ (by omega)).trans h62
  have h63 : E1_4 63 = .inl (xI g, 11, .inl f3) := (hu.2 _ (by omega)).trans h63
  have hZ : E1_4 64 = .inr (3, [.ref (xad g 1), .int u1, .int u2, .int u3]) := (hu.2 _ (by omega)).trans hZ
  have hfm : ∀ j, 65 ≤ j → E1_4 j = E j := fun j hj => (hu.2 j (by omega)).trans (hfm j hj)
  refine lv_aload_n S.1 S.2.1 dX6_addPhoto_38 rfl (lv_at hl 0 rfl) ?_
  refine x_get S hK hP dX6_addPhoto_39 hX (by decide) (RX6, TX6, 9) rfl hin6 5 (by decide) fl33 rfl ?_
  refine lv_iconst (v := 5) S.1 S.2.1 dX6_addPhoto_42 (by decide) ?_
  refine lv_iconst (v := 0) S.1 S.2.1 dX6_addPhoto_43 (by decide) ?_
  refine x_iast S hK hJ hP hS dX6_addPhoto_44 h59 (by decide) (j := 5) rfl (by omega) (by decide) (fun H locs E1_5 hu hP hS => ?_)
  have hX : E1_5 0 = .inr (6, [.ref (xad g 1), .ref (xad g 10), .int (bI (zf z)), .ref (xad g 19), .ref (xad g 57), .ref (xad g 59), .ref (xad g 60), .ref (xad g 61), .ref (xad g 64)]) := (hu.2 _ (by omega)).trans hX
  have hp : ePh g E1_5 1 (zn z) (zM z) := hp.keep (fun j h1 h2 => hu.2 j (by omega))
  have hsn : ePh g E1_5 10 (zsn z) (zsM z) := hsn.keep (fun j h1 h2 => hu.2 j (by omega))
  have hH := hH.keep (E1 := E1_5) (fun j h1 h2 => hu.2 j (by omega))
  have h57 : E1_5 57 = .inr (4, [.ref (xad g 58), .int (nI (ztl z)), .int p0, .int ta]) := (hu.2 _ (by omega)).trans h57
  have h58 : E1_5 58 = .inl (xC g, 60, .inl (ztf z)) := (hu.2 _ (by omega)).trans h58
  have h59 : E1_5 59 = .inl (xI g, 6, .inl (upd (upd (upd (upd (upd (upd f6 0 t) 1 x) 2 y) 3 e5) 4 360) 5 0)) := hu.1
  have hA : E1_5 60 = .inr (0, [.ref (xad g 1), .int x1, .int x2, .int x3]) := (hu.2 _ (by omega)).trans hA
  have h61 : E1_5 61 = .inr (5, [.ref (xad g 1), .ref (xad g 60), .ref (xad g 62), .ref (xad g 63)]) := (hu.2 _ (by omega)).trans h61
  have h62 : E1_5 62 = .inl (xI g, 11, .inl f2) := (hu.2 _ (by omega)).trans h62
  have h63 : E1_5 63 = .inl (xI g, 11, .inl f3) := (hu.2 _ (by omega)).trans h63
  have hZ : E1_5 64 = .inr (3, [.ref (xad g 1), .int u1, .int u2, .int u3]) := (hu.2 _ (by omega)).trans hZ
  have hfm : ∀ j, 65 ≤ j → E1_5 j = E j := fun j hj => (hu.2 j (by omega)).trans (hfm j hj)
  refine lv_aload_n S.1 S.2.1 dX6_addPhoto_45 rfl (lv_at hl 0 rfl) ?_
  refine x_si (va_runV (As := []) (rest := []) S (c_X6_toldIsInRange l g E1_5 hX h59) (cwV 0 S.2.2.2.2 gX6_addPhoto_X6_toldIsInRange rfl rfl rfl (by decide +kernel) ⟨Nat.le_of_ble_eq_true rfl, Nat.le_of_ble_eq_true rfl⟩) (x_preV hK hP hX (by decide) rfl) rfl rfl hl.1 rfl (lv_room (Nat.le_of_ble_eq_true rfl)) dX6_addPhoto_46 ⟨Nat.le_of_ble_eq_true rfl, Nat.le_of_ble_eq_true rfl⟩) (fun r46 hr46 => ?_)
  refine lv_if_eq (tgt := 59) S.1 S.2.1 dX6_addPhoto_49 (by decide) (fun c49 => ?_) (fun c49 => ?_)
  · skip
    refine lv_bipush (v := (-2)) S.1 S.2.1 dX6_addPhoto_59 (by decide) ?_
    exact x_iret S hr hlocks hP hS dX6_addPhoto_61 (⟨z, Or.inl ⟨fun h => hr46.f c49 ((rngT_congr (w6 (P := fun w => (upd (upd (upd (upd (upd (upd f6 0 t) 1 x) 2 y) 3 e5) 4 360) 5 0) w = tld t x y e5 360 0 w) rfl rfl rfl rfl rfl rfl)).mpr h), rfl, rfl⟩, sX.mk hX rfl hp hsn hH hHe h57 h58 h59 hA h61 h62 h63 hZ, hfm⟩)
  · skip
    refine lv_aload_n S.1 S.2.1 dX6_addPhoto_52 rfl (lv_at hl 0 rfl) ?_
    refine x_qi (va_runV (As := []) (rest := []) S (c_X6_addTold l g hJ E1_5 (sX.mk hX rfl hp hsn hH hHe h57 h58 h59 hA h61 h62 h63 hZ) hv h59) (cwV 0 S.2.2.2.2 gX6_addPhoto_X6_addTold rfl rfl rfl (by decide +kernel) ⟨Nat.le_of_ble_eq_true rfl, Nat.le_of_ble_eq_true rfl⟩) (x_preV hK hP hX (by decide) rfl) rfl rfl hl.1 rfl (lv_room (Nat.le_of_ble_eq_true rfl)) dX6_addPhoto_53 ⟨Nat.le_of_ble_eq_true rfl, Nat.le_of_ble_eq_true rfl⟩) hS (fun r53 E1_6 H locs hq53 hP hS => ?_)
    refine lv_goto (tgt := 61) S.1 S.2.1 dX6_addPhoto_56 (by decide) ?_
    exact x_iret S hr hlocks hP hS dX6_addPhoto_61 (by obtain ⟨z1, k1, k2, k3⟩ := hq53; exact ⟨z1, Or.inr ⟨(rngT_congr (w6 (P := fun w => (upd (upd (upd (upd (upd (upd f6 0 t) 1 x) 2 y) 3 e5) 4 360) 5 0) w = tld t x y e5 360 0 w) rfl rfl rfl rfl rfl rfl)).mp (hr46.t c49), k1.congr (w6 (P := fun w => (upd (upd (upd (upd (upd (upd f6 0 t) 1 x) 2 y) 3 e5) 4 360) 5 0) w = tld t x y e5 360 0 w) rfl rfl rfl rfl rfl rfl)⟩, k2, fun j hj => (k3 j hj).trans (hfm j hj)⟩)
def prT (f : Nat → Int32) (tl : Nat) : Nat → Int32 := tld (plB f tl).2.2.1 (plB f tl).2.2.2.1 (plB f tl).2.2.2.2.1 (plB f tl).2.2.2.2.2 (prs f tl).2.2.2.1 (prs f tl).2.2.2.2
def sp_readPhoto (z : xS) (r : Int32) (z' : xS) : Prop := (¬ (prs (ztf z) (ztl z)).1 = true ∧ r = -100 - nI (prs (ztf z) (ztl z)).2.1 ∧ z' = z) ∨ ((prs (ztf z) (ztl z)).1 = true ∧ ((¬ (rngT (prT (ztf z) (ztl z)) ∧ ¬ ((prs (ztf z) (ztl z)).2.2.1 = true ∧ (prs (ztf z) (ztl z)).2.2.2.1 = 360)) ∧ r = -2 ∧ z' = z) ∨ ((rngT (prT (ztf z) (ztl z)) ∧ ¬ ((prs (ztf z) (ztl z)).2.2.1 = true ∧ (prs (ztf z) (ztl z)).2.2.2.1 = 360)) ∧ sp_comes z (prT (ztf z) (ztl z)) r z')))
set_option maxHeartbeats 4000000 in
set_option maxRecDepth 100000 in
theorem c_X6_readPhoto (l : Launch) (g : xG) (hJ : xJ (xad g)) (E : Nat → va_E) {z : xS} (hz : sX g E z) (hv : vS z)  : Met l yX6_readPhoto wsX6_readPhoto ({ frames := 4, cells := 0, slots := 0, locals := 124 }) (xPc g [.ref (xad g 0)] E) (xQi g (fun r E1 => ∃ z1, sp_readPhoto z r z1 ∧ sX g E1 z1 ∧ ∀ j, 65 ≤ j → E1 j = E j)) 0 0 (xA (xad g)) := by
  refine x_met (ws' := _) (by decide) rfl (Nat.le_of_ble_eq_true rfl) ?_
  intro pz ez s m below meth cz ls S hr hlocks hP hK hl
  have hl : lv_has ls 1 [(0, .ref (xad g 0))] := hl
  have hS : va_S (xA (xad g)) s.heap s.heap [] := va_S.rf
  have hin4 : ∀ w ∈ u_ws RX4 TX4 4, w ∈ wsX6_readPhoto := by decide +kernel
  have hin6 : ∀ w ∈ u_ws RX6 TX6 9, w ∈ wsX6_readPhoto := by decide +kernel
  have fl29 : Cond.fieldLink RX6 29 "DiscArcs" "text" "LDiscArcs$Text;" ∈ wsX6_readPhoto := by decide +kernel
  have fl33 : Cond.fieldLink RX6 33 "DiscArcs" "told" "[I" ∈ wsX6_readPhoto := by decide +kernel
  have fl74 : Cond.fieldLink RX6 74 "DiscArcs$Text" "position" "I" ∈ wsX6_readPhoto := by decide +kernel
  have fl78 : Cond.fieldLink RX6 78 "DiscArcs$Text" "tellsAngle" "Z" ∈ wsX6_readPhoto := by decide +kernel
  obtain ⟨hX, hp, hsn, ⟨B, N, MM, hH, hHe⟩, ⟨p0, ta, h57⟩, h58, ⟨f6, h59⟩, ⟨x1, x2, x3, hA⟩, h61, ⟨f2, h62⟩, ⟨f3, h63⟩, u1, u2, u3, hZ⟩ := hz
  have h0 := hp.1
  have hv1 := hv.1.2
  have hfm : ∀ j, 65 ≤ j → E j = E j := fun _ _ => rfl
  refine lv_aload_n S.1 S.2.1 dX6_readPhoto_0 rfl (lv_at hl 0 rfl) ?_
  refine x_get S hK hP dX6_readPhoto_1 hX (by decide) (RX6, TX6, 9) rfl hin6 4 (by decide) fl29 rfl ?_
  refine lv_aload_n S.1 S.2.1 dX6_readPhoto_4 rfl (lv_at hl 0 rfl) ?_
  refine x_get S hK hP dX6_readPhoto_5 hX (by decide) (RX6, TX6, 9) rfl hin6 5 (by decide) fl33 rfl ?_
  refine x_qi (va_runV (As := [.ref (xad g 59)]) (rest := []) S (c_X4_readInto l g hJ E h57 h58 hv.2.2.2 h59) (cwV 1 S.2.2.2.2 gX6_readPhoto_X4_readInto rfl rfl rfl (by decide +kernel) ⟨Nat.le_of_ble_eq_true rfl, Nat.le_of_ble_eq_true rfl⟩) (x_preV hK hP h57 (by decide) rfl) rfl rfl hl.1 rfl (lv_room (Nat.le_of_ble_eq_true rfl)) dX6_readPhoto_8 ⟨Nat.le_of_ble_eq_true rfl, Nat.le_of_ble_eq_true rfl⟩) hS (fun r8 E1 H locs hq8 hP hS => ?_)
  obtain ⟨hr8, ⟨ta8, h57, hta⟩, hfr8, hi8, hx8⟩ := hq8
  have hX := (hfr8 0 (by decide) (by decide)).trans hX
  have hp := hp.keep (E1 := E1) (fun j g1 g2 => hfr8 j (by omega) (by omega))
  have hsn := hsn.keep (E1 := E1) (fun j g1 g2 => hfr8 j (by omega) (by omega))
  have hH := hH.keep (E1 := E1) (fun j g1 g2 => hfr8 j (by omega) (by omega))
  have h58 := (hfr8 58 (by decide) (by decide)).trans h58
  have hA := (hfr8 60 (by decide) (by decide)).trans hA
  have h61 := (hfr8 61 (by decide) (by decide)).trans h61
  have h62 := (hfr8 62 (by decide) (by decide)).trans h62
  have h63 := (hfr8 63 (by decide) (by decide)).trans h63
  have hZ := (hfr8 64 (by decide) (by decide)).trans hZ
  have hfm : ∀ j, 65 ≤ j → E1 j = E j := fun j hj => (hfr8 j (by omega) (by omega)).trans (hfm j hj)
  refine lv_if_ne (tgt := 25) S.1 S.2.1 dX6_readPhoto_11 (by decide) (fun c11 => ?_) (fun c11 => ?_)
  · skip
    have hok : (prs (ztf z) (ztl z)).1 = true := hr8.t c11
    obtain ⟨f7, h59, g0, g1, g2, g3, g4, g5⟩ := hi8 hok
    have hfe : ∀ w, w < 6 → f7 w = prT (ztf z) (ztl z) w := w6 g0 g1 g2 g3 g4 g5
    refine lv_aload_n S.1 S.2.1 dX6_readPhoto_25 rfl (lv_at hl 0 rfl) ?_
    refine x_si (va_runV (As := []) (rest := []) S (c_X6_toldIsInRange l g E1 hX h59) (cwV 0 S.2.2.2.2 gX6_readPhoto_X6_toldIsInRange rfl rfl rfl (by decide +kernel) ⟨Nat.le_of_ble_eq_true rfl, Nat.le_of_ble_eq_true rfl⟩) (x_preV hK hP hX (by decide) rfl) rfl rfl hl.1 rfl (lv_room (Nat.le_of_ble_eq_true rfl)) dX6_readPhoto_26 ⟨Nat.le_of_ble_eq_true rfl, Nat.le_of_ble_eq_true rfl⟩) (fun r26 hr26 => ?_)
    refine lv_if_eq (tgt := 54) S.1 S.2.1 dX6_readPhoto_29 (by decide) (fun c29 => ?_) (fun c29 => ?_)
    · skip
      refine lv_bipush (v := (-2)) S.1 S.2.1 dX6_readPhoto_54 (by decide) ?_
      exact x_iret S hr hlocks hP hS dX6_readPhoto_56 (⟨z, Or.inr ⟨hok, Or.inl ⟨fun h => by first | exact hr26.f c29 ((rngT_congr hfe).mpr h.1) | exact h.2 ⟨hta.t c39, g4.symm.trans c51⟩, rfl, rfl⟩⟩, sX.mk hX rfl hp hsn hH hHe h57 h58 h59 hA h61 h62 h63 hZ, hfm⟩)
    · skip
      refine lv_aload_n S.1 S.2.1 dX6_readPhoto_32 rfl (lv_at hl 0 rfl) ?_
      refine x_get S hK hP dX6_readPhoto_33 hX (by decide) (RX6, TX6, 9) rfl hin6 4 (by decide) fl29 rfl ?_
      refine x_get S hK hP dX6_readPhoto_36 h57 (by decide) (RX4, TX4, 4) rfl hin4 3 (by decide) fl78 rfl ?_
      refine lv_if_eq (tgt := 57) S.1 S.2.1 dX6_readPhoto_39 (by decide) (fun c39 => ?_) (fun c39 => ?_)
      · skip
        refine lv_aload_n S.1 S.2.1 dX6_readPhoto_57 rfl (lv_at hl 0 rfl) ?_
        refine x_qi (va_runV (As := []) (rest := []) S (c_X6_addTold l g hJ E1 (sX.mk hX rfl hp hsn hH hHe h57 h58 h59 hA h61 h62 h63 hZ) hv h59) (cwV 0 S.2.2.2.2 gX6_readPhoto_X6_addTold rfl rfl rfl (by decide +kernel) ⟨Nat.le_of_ble_eq_true rfl, Nat.le_of_ble_eq_true rfl⟩) (x_preV hK hP hX (by decide) rfl) rfl rfl hl.1 rfl (lv_room (Nat.le_of_ble_eq_true rfl)) dX6_readPhoto_58 ⟨Nat.le_of_ble_eq_true rfl, Nat.le_of_ble_eq_true rfl⟩) hS (fun r58 E1_1 H locs hq58 hP hS => ?_)
        exact x_iret S hr hlocks hP hS dX6_readPhoto_61 (by obtain ⟨z1, k1, k2, k3⟩ := hq58; exact ⟨z1, Or.inr ⟨hok, Or.inr ⟨⟨(rngT_congr hfe).mp (hr26.t c29), fun h => by first | exact c51 (g4.trans h.2) | exact absurd h.1 (hta.f c39)⟩, k1.congr hfe⟩⟩, k2, fun j hj => (k3 j hj).trans (hfm j hj)⟩)
      · skip
        refine lv_aload_n S.1 S.2.1 dX6_readPhoto_42 rfl (lv_at hl 0 rfl) ?_
        refine x_get S hK hP dX6_readPhoto_43 hX (by decide) (RX6, TX6, 9) rfl hin6 5 (by decide) fl33 rfl ?_
        refine lv_iconst (v := 4) S.1 S.2.1 dX6_readPhoto_46 (by decide) ?_
        refine x_iald S hK hP dX6_readPhoto_47 h59 (by decide) (j := 4) rfl (by omega) (by decide) ?_
        refine lv_sipush (v := 360) S.1 S.2.1 dX6_readPhoto_48 (by decide) ?_
        refine lv_icmp_ne (tgt := 57) S.1 S.2.1 dX6_readPhoto_51 (by decide) (fun c51 => ?_) (fun c51 => ?_)
        · skip
          refine lv_aload_n S.1 S.2.1 dX6_readPhoto_57 rfl (lv_at hl 0 rfl) ?_
          refine x_qi (va_runV (As := []) (rest := []) S (c_X6_addTold l g hJ E1 (sX.mk hX rfl hp hsn hH hHe h57 h58 h59 hA h61 h62 h63 hZ) hv h59) (cwV 0 S.2.2.2.2 gX6_readPhoto_X6_addTold rfl rfl rfl (by decide +kernel) ⟨Nat.le_of_ble_eq_true rfl, Nat.le_of_ble_eq_true rfl⟩) (x_preV hK hP hX (by decide) rfl) rfl rfl hl.1 rfl (lv_room (Nat.le_of_ble_eq_true rfl)) dX6_readPhoto_58 ⟨Nat.le_of_ble_eq_true rfl, Nat.le_of_ble_eq_true rfl⟩) hS (fun r58 E1_2 H locs hq58 hP hS => ?_)
          exact x_iret S hr hlocks hP hS dX6_readPhoto_61 (by obtain ⟨z1, k1, k2, k3⟩ := hq58; exact ⟨z1, Or.inr ⟨hok, Or.inr ⟨⟨(rngT_congr hfe).mp (hr26.t c29), fun h => by first | exact c51 (g4.trans h.2) | exact absurd h.1 (hta.f c39)⟩, k1.congr hfe⟩⟩, k2, fun j hj => (k3 j hj).trans (hfm j hj)⟩)
        · skip
          refine lv_bipush (v := (-2)) S.1 S.2.1 dX6_readPhoto_54 (by decide) ?_
          exact x_iret S hr hlocks hP hS dX6_readPhoto_56 (⟨z, Or.inr ⟨hok, Or.inl ⟨fun h => by first | exact hr26.f c29 ((rngT_congr hfe).mpr h.1) | exact h.2 ⟨hta.t c39, g4.symm.trans c51⟩, rfl, rfl⟩⟩, sX.mk hX rfl hp hsn hH hHe h57 h58 h59 hA h61 h62 h63 hZ, hfm⟩)
  · skip
    obtain ⟨f7, h59⟩ := hx8
    refine lv_bipush (v := (-100)) S.1 S.2.1 dX6_readPhoto_14 (by decide) ?_
    refine lv_aload_n S.1 S.2.1 dX6_readPhoto_16 rfl (lv_at hl 0 rfl) ?_
    refine x_get S hK hP dX6_readPhoto_17 hX (by decide) (RX6, TX6, 9) rfl hin6 4 (by decide) fl29 rfl ?_
    refine x_get S hK hP dX6_readPhoto_20 h57 (by decide) (RX4, TX4, 4) rfl hin4 2 (by decide) fl74 rfl ?_
    refine lv_isub S.1 S.2.1 dX6_readPhoto_23 ?_
    exact x_iret S hr hlocks hP hS dX6_readPhoto_24 (⟨z, Or.inl ⟨hr8.f c11, rfl, rfl⟩, sX.mk hX rfl hp hsn hH hHe h57 h58 h59 hA h61 h62 h63 hZ, hfm⟩)
def angOk (a e : Int32) : Prop := (0 ≤ a ∧ a ≤ 360) ∧ (0 ≤ e ∧ e ≤ 60) ∧ (a = 360 → e = 0)
def sp_setAngle (z : xS) (x a e r : Int32) (z' : xS) : Prop := (¬ held (zn z) x ∧ r = -1 ∧ z' = z) ∨ ∃ k, k < zn z ∧ x = nI k ∧ ((¬ angOk a e ∧ r = -2 ∧ z' = z) ∨ (angOk a e ∧ ((zM z 4 k = a ∧ zM z 5 k = e) ∧ r = -5 ∧ z' = z ∨ (¬ (zM z 4 k = a ∧ zM z 5 k = e) ∧ r = zM z 4 k ∧ z' = wP (wR z) (zn z) (setM (setM (zM z) 4 k a) 5 k e)))))
set_option maxHeartbeats 4000000 in
set_option maxRecDepth 100000 in
theorem c_X6_setAngle (l : Launch) (g : xG) (hJ : xJ (xad g)) (E : Nat → va_E) {z : xS} (hz : sX g E z) (hv : vS z) (x a e5 : Int32) : Met l yX6_setAngle wsX6_setAngle ({ frames := 3, cells := 0, slots := 0, locals := 103 }) (xPc g [.ref (xad g 0), .int x, .int a, .int e5] E) (xQi g (fun r E1 => ∃ z1, sp_setAngle z x a e5 r z1 ∧ sX g E1 z1 ∧ ∀ j, 65 ≤ j → E1 j = E j)) 0 0 (xA (xad g)) := by
  refine x_met (ws' := _) (by decide) rfl (Nat.le_of_ble_eq_true rfl) ?_
  intro pz ez s m below meth cz ls S hr hlocks hP hK hl
  have hl : lv_has ls 5 [(0, .ref (xad g 0)), (1, .int x), (2, .int a), (3, .int e5)] := hl
  have hS : va_S (xA (xad g)) s.heap s.heap [] := va_S.rf
  have hin2 : ∀ w ∈ u_ws RX2 TX2 2, w ∈ wsX6_setAngle := by decide +kernel
  have hin6 : ∀ w ∈ u_ws RX6 TX6 9, w ∈ wsX6_setAngle := by decide +kernel
  have fl10 : Cond.fieldLink RX6 10 "DiscArcs" "photos" "LDiscArcs$Photos;" ∈ wsX6_setAngle := by decide +kernel
  have fl22 : Cond.fieldLink RX6 22 "DiscArcs" "history" "LDiscArcs$History;" ∈ wsX6_setAngle := by decide +kernel
  have fl90 : Cond.fieldLink RX6 90 "DiscArcs$Photos" "rows" "[[I" ∈ wsX6_setAngle := by decide +kernel
  obtain ⟨hX, hp, hsn, ⟨B, N, MM, hH, hHe⟩, ⟨p0, ta, h57⟩, h58, ⟨f6, h59⟩, ⟨x1, x2, x3, hA⟩, h61, ⟨f2, h62⟩, ⟨f3, h63⟩, u1, u2, u3, hZ⟩ := hz
  have h0 := hp.1
  have hv1 := hv.1.2
  have hfm : ∀ j, 65 ≤ j → E j = E j := fun _ _ => rfl
  refine lv_aload_n S.1 S.2.1 dX6_setAngle_0 rfl (lv_at hl 0 rfl) ?_
  refine x_get S hK hP dX6_setAngle_1 hX (by decide) (RX6, TX6, 9) rfl hin6 0 (by decide) fl10 rfl ?_
  refine lv_iload_n S.1 S.2.1 dX6_setAngle_4 rfl (lv_at hl 1 rfl) ?_
  refine x_si (va_runV (As := [.int x]) (rest := []) S (c_X2_holds l g E hp x) (cwV 1 S.2.2.2.2 gX6_setAngle_X2_holds rfl rfl rfl (by decide +kernel) ⟨Nat.le_of_ble_eq_true rfl, Nat.le_of_ble_eq_true rfl⟩) (x_preV hK hP hp.2.1 (by decide) rfl) rfl rfl hl.1 rfl (lv_room (Nat.le_of_ble_eq_true rfl)) dX6_setAngle_5 ⟨Nat.le_of_ble_eq_true rfl, Nat.le_of_ble_eq_true rfl⟩) (fun r5 hr5 => ?_)
  refine lv_if_ne (tgt := 13) S.1 S.2.1 dX6_setAngle_8 (by decide) (fun c8 => ?_) (fun c8 => ?_)
  · skip
    obtain ⟨k, hk, rfl⟩ := hr5.t c8
    refine lv_iload_n S.1 S.2.1 dX6_setAngle_13 rfl (lv_at hl 2 rfl) ?_
    refine lv_iconst (v := 0) S.1 S.2.1 dX6_setAngle_14 (by decide) ?_
    refine lv_sipush (v := 360) S.1 S.2.1 dX6_setAngle_15 (by decide) ?_
    refine x_si (va_runS (As := [.int a, .int 0, .int 360]) (rest := []) S (c_X6_isWithin l g E a 0 360) (va_cwS 3 S.2.2.2.2 gX6_setAngle_X6_isWithin rfl rfl rfl (by decide +kernel) ⟨Nat.le_of_ble_eq_true rfl, Nat.le_of_ble_eq_true rfl⟩) (x_preS hK hP) rfl rfl hl.1 rfl (lv_room (Nat.le_of_ble_eq_true rfl)) dX6_setAngle_18 ⟨Nat.le_of_ble_eq_true rfl, Nat.le_of_ble_eq_true rfl⟩) (fun r18 hr18 => ?_)
    refine lv_if_eq (tgt := 45) S.1 S.2.1 dX6_setAngle_21 (by decide) (fun c21 => ?_) (fun c21 => ?_)
    · skip
      refine lv_bipush (v := (-2)) S.1 S.2.1 dX6_setAngle_45 (by decide) ?_
      exact x_iret S hr hlocks hP hS dX6_setAngle_47 (⟨z, Or.inr ⟨k, hk, rfl, Or.inl ⟨fun h => by first | exact c42 (h.2.2 c38) | exact hr28.f c31 h.2.1 | exact hr18.f c21 h.1, rfl, rfl⟩⟩, sX.mk hX rfl hp hsn hH hHe h57 h58 h59 hA h61 h62 h63 hZ, hfm⟩)
    · skip
      refine lv_iload_n S.1 S.2.1 dX6_setAngle_24 rfl (lv_at hl 3 rfl) ?_
      refine lv_iconst (v := 0) S.1 S.2.1 dX6_setAngle_25 (by decide) ?_
      refine lv_bipush (v := 60) S.1 S.2.1 dX6_setAngle_26 (by decide) ?_
      refine x_si (va_runS (As := [.int e5, .int 0, .int 60]) (rest := []) S (c_X6_isWithin l g E e5 0 60) (va_cwS 3 S.2.2.2.2 gX6_setAngle_X6_isWithin rfl rfl rfl (by decide +kernel) ⟨Nat.le_of_ble_eq_true rfl, Nat.le_of_ble_eq_true rfl⟩) (x_preS hK hP) rfl rfl hl.1 rfl (lv_room (Nat.le_of_ble_eq_true rfl)) dX6_setAngle_28 ⟨Nat.le_of_ble_eq_true rfl, Nat.le_of_ble_eq_true rfl⟩) (fun r28 hr28 => ?_)
      refine lv_if_eq (tgt := 45) S.1 S.2.1 dX6_setAngle_31 (by decide) (fun c31 => ?_) (fun c31 => ?_)
      · skip
        refine lv_bipush (v := (-2)) S.1 S.2.1 dX6_setAngle_45 (by decide) ?_
        exact x_iret S hr hlocks hP hS dX6_setAngle_47 (⟨z, Or.inr ⟨k, hk, rfl, Or.inl ⟨fun h => by first | exact c42 (h.2.2 c38) | exact hr28.f c31 h.2.1 | exact hr18.f c21 h.1, rfl, rfl⟩⟩, sX.mk hX rfl hp hsn hH hHe h57 h58 h59 hA h61 h62 h63 hZ, hfm⟩)
      · skip
        refine lv_iload_n S.1 S.2.1 dX6_setAngle_34 rfl (lv_at hl 2 rfl) ?_
        refine lv_sipush (v := 360) S.1 S.2.1 dX6_setAngle_35 (by decide) ?_
        refine lv_icmp_ne (tgt := 48) S.1 S.2.1 dX6_setAngle_38 (by decide) (fun c38 => ?_) (fun c38 => ?_)
        · skip
          have hok : angOk a e5 := ⟨hr18.t c21, hr28.t c31, fun h => by first | exact absurd h c38 | exact c42⟩
          refine lv_aload_n S.1 S.2.1 dX6_setAngle_48 rfl (lv_at hl 0 rfl) ?_
          refine x_get S hK hP dX6_setAngle_49 hX (by decide) (RX6, TX6, 9) rfl hin6 0 (by decide) fl10 rfl ?_
          refine x_get S hK hP dX6_setAngle_52 hp.2.1 (by decide) (RX2, TX2, 2) rfl hin2 0 (by decide) fl90 rfl ?_
          refine lv_iconst (v := 4) S.1 S.2.1 dX6_setAngle_55 (by decide) ?_
          refine x_row S hK hP dX6_setAngle_56 hp 4 rfl (by omega) ?_
          refine lv_iload_n S.1 S.2.1 dX6_setAngle_57 rfl (lv_at hl 1 rfl) ?_
          refine x_val S hK hP dX6_setAngle_58 hp (w := 4) k rfl (by omega) (by omega) ?_
          refine lv_istore (lv' := [(4, .int ((zM z) 4 k)), (0, .ref (xad g 0)), (1, .int (nI k)), (2, .int a), (3, .int e5)]) S.1 S.2.1 dX6_setAngle_59 hl (by decide) rfl (fun ls hl => ?_)
          refine lv_iload S.1 S.2.1 dX6_setAngle_61 (lv_at hl 0 rfl) ?_
          refine lv_iload_n S.1 S.2.1 dX6_setAngle_63 rfl (lv_at hl 3 rfl) ?_
          refine lv_icmp_ne (tgt := 85) S.1 S.2.1 dX6_setAngle_64 (by decide) (fun c64 => ?_) (fun c64 => ?_)
          · skip
            refine lv_aload_n S.1 S.2.1 dX6_setAngle_85 rfl (lv_at hl 1 rfl) ?_
            refine x_get S hK hP dX6_setAngle_86 hX (by decide) (RX6, TX6, 9) rfl hin6 3 (by decide) fl22 rfl ?_
            refine lv_aload_n S.1 S.2.1 dX6_setAngle_89 rfl (lv_at hl 1 rfl) ?_
            refine x_get S hK hP dX6_setAngle_90 hX (by decide) (RX6, TX6, 9) rfl hin6 0 (by decide) fl10 rfl ?_
            refine x_qv (va_runV (As := [.ref (xad g 1)]) (rest := []) S (c_X1_record l g hJ E hH hp) (cwV 1 S.2.2.2.2 gX6_setAngle_X1_record rfl rfl rfl (by decide +kernel) ⟨Nat.le_of_ble_eq_true rfl, Nat.le_of_ble_eq_true rfl⟩) (x_preV hK hP hH.2.1 (by decide) rfl) rfl rfl hl.1 rfl (lv_room (Nat.le_of_ble_eq_true rfl)) dX6_setAngle_93 ⟨Nat.le_of_ble_eq_true rfl, Nat.le_of_ble_eq_true rfl⟩) hS (fun E1 H locs hq93 hP hS => ?_)
            obtain ⟨⟨B2, N2, MM2, hH, hHe2⟩, hfr93⟩ := hq93
            have hX := (hfr93 0 (by decide)).trans hX
            have hp := hp.keep (E1 := E1) (fun j g1 g2 => hfr93 j (by omega))
            have hsn := hsn.keep (E1 := E1) (fun j g1 g2 => hfr93 j (by omega))
            have h57 := (hfr93 57 (by decide)).trans h57
            have h58 := (hfr93 58 (by decide)).trans h58
            have h59 := (hfr93 59 (by decide)).trans h59
            have hA := (hfr93 60 (by decide)).trans hA
            have h61 := (hfr93 61 (by decide)).trans h61
            have h62 := (hfr93 62 (by decide)).trans h62
            have h63 := (hfr93 63 (by decide)).trans h63
            have hZ := (hfr93 64 (by decide)).trans hZ
            have hfm : ∀ j, 65 ≤ j → E1 j = E j := fun j hj => (hfr93 j (by omega)).trans (hfm j hj)
            have hHe : ∀ i, i < rcS (zh z) → N2 i = rcV (zh z) (zN z) (zn z) i ∧ MM2 i = rcV (zh z) (zMM z) (zM z) i := fun i hi => rec_eq hHe (hHe2 i hi) hi
            refine lv_aload_n S.1 S.2.1 dX6_setAngle_96 rfl (lv_at hl 1 rfl) ?_
            refine x_get S hK hP dX6_setAngle_97 hX (by decide) (RX6, TX6, 9) rfl hin6 0 (by decide) fl10 rfl ?_
            refine x_get S hK hP dX6_setAngle_100 hp.2.1 (by decide) (RX2, TX2, 2) rfl hin2 0 (by decide) fl90 rfl ?_
            refine lv_iconst (v := 4) S.1 S.2.1 dX6_setAngle_103 (by decide) ?_
            refine x_row S hK hP dX6_setAngle_104 hp 4 rfl (by omega) ?_
            refine lv_iload_n S.1 S.2.1 dX6_setAngle_105 rfl (lv_at hl 2 rfl) ?_
            refine lv_iload_n S.1 S.2.1 dX6_setAngle_106 rfl (lv_at hl 3 rfl) ?_
            refine x_phset S hK hJ hP hS dX6_setAngle_107 hp (w := 4) k rfl (by omega) (by omega) (fun H locs E1_1 hu hnew hP hS => ?_)
            have hX : E1_1 0 = .inr (6, [.ref (xad g 1), .ref (xad g 10), .int (bI (zf z)), .ref (xad g 19), .ref (xad g 57), .ref (xad g 59), .ref (xad g 60), .ref (xad g 61), .ref (xad g 64)]) := (hu _ (by omega)).trans hX
            have hp := hnew
            have hsn : ePh g E1_1 10 (zsn z) (zsM z) := hsn.keep (fun j h1 h2 => hu j (by omega))
            have h57 : E1_1 57 = .inr (4, [.ref (xad g 58), .int (nI (ztl z)), .int p0, .int ta]) := (hu _ (by omega)).trans h57
            have h58 : E1_1 58 = .inl (xC g, 60, .inl (ztf z)) := (hu _ (by omega)).trans h58
            have h59 : E1_1 59 = .inl (xI g, 6, .inl f6) := (hu _ (by omega)).trans h59
            have hA : E1_1 60 = .inr (0, [.ref (xad g 1), .int x1, .int x2, .int x3]) := (hu _ (by omega)).trans hA
            have h61 : E1_1 61 = .inr (5, [.ref (xad g 1), .ref (xad g 60), .ref (xad g 62), .ref (xad g 63)]) := (hu _ (by omega)).trans h61
            have h62 : E1_1 62 = .inl (xI g, 11, .inl f2) := (hu _ (by omega)).trans h62
            have h63 : E1_1 63 = .inl (xI g, 11, .inl f3) := (hu _ (by omega)).trans h63
            have hZ : E1_1 64 = .inr (3, [.ref (xad g 1), .int u1, .int u2, .int u3]) := (hu _ (by omega)).trans hZ
            have hfm : ∀ j, 65 ≤ j → E1_1 j = E j := fun j hj => (hu j (by omega)).trans (hfm j hj)
            have hH := hH.keep (E1 := E1_1) (fun j h1 h2 => hu j (by omega))
            refine lv_aload_n S.1 S.2.1 dX6_setAngle_108 rfl (lv_at hl 1 rfl) ?_
            refine x_get S hK hP dX6_setAngle_109 hX (by decide) (RX6, TX6, 9) rfl hin6 0 (by decide) fl10 rfl ?_
            refine x_get S hK hP dX6_setAngle_112 hp.2.1 (by decide) (RX2, TX2, 2) rfl hin2 0 (by decide) fl90 rfl ?_
            refine lv_iconst (v := 5) S.1 S.2.1 dX6_setAngle_115 (by decide) ?_
            refine x_row S hK hP dX6_setAngle_116 hp 5 rfl (by omega) ?_
            refine lv_iload_n S.1 S.2.1 dX6_setAngle_117 rfl (lv_at hl 2 rfl) ?_
            refine lv_iload_n S.1 S.2.1 dX6_setAngle_118 rfl (lv_at hl 4 rfl) ?_
            refine x_phset S hK hJ hP hS dX6_setAngle_119 hp (w := 5) k rfl (by omega) (by omega) (fun H locs E1_2 hu hnew hP hS => ?_)
            have hX : E1_2 0 = .inr (6, [.ref (xad g 1), .ref (xad g 10), .int (bI (zf z)), .ref (xad g 19), .ref (xad g 57), .ref (xad g 59), .ref (xad g 60), .ref (xad g 61), .ref (xad g 64)]) := (hu _ (by omega)).trans hX
            have hp := hnew
            have hsn : ePh g E1_2 10 (zsn z) (zsM z) := hsn.keep (fun j h1 h2 => hu j (by omega))
            have h57 : E1_2 57 = .inr (4, [.ref (xad g 58), .int (nI (ztl z)), .int p0, .int ta]) := (hu _ (by omega)).trans h57
            have h58 : E1_2 58 = .inl (xC g, 60, .inl (ztf z)) := (hu _ (by omega)).trans h58
            have h59 : E1_2 59 = .inl (xI g, 6, .inl f6) := (hu _ (by omega)).trans h59
            have hA : E1_2 60 = .inr (0, [.ref (xad g 1), .int x1, .int x2, .int x3]) := (hu _ (by omega)).trans hA
            have h61 : E1_2 61 = .inr (5, [.ref (xad g 1), .ref (xad g 60), .ref (xad g 62), .ref (xad g 63)]) := (hu _ (by omega)).trans h61
            have h62 : E1_2 62 = .inl (xI g, 11, .inl f2) := (hu _ (by omega)).trans h62
            have h63 : E1_2 63 = .inl (xI g, 11, .inl f3) := (hu _ (by omega)).trans h63
            have hZ : E1_2 64 = .inr (3, [.ref (xad g 1), .int u1, .int u2, .int u3]) := (hu _ (by omega)).trans hZ
            have hfm : ∀ j, 65 ≤ j → E1_2 j = E j := fun j hj => (hu j (by omega)).trans (hfm j hj)
            have hH := hH.keep (E1 := E1_2) (fun j h1 h2 => hu j (by omega))
            refine lv_iload S.1 S.2.1 dX6_setAngle_120 (lv_at hl 0 rfl) ?_
            exact x_iret S hr hlocks hP hS dX6_setAngle_122 (⟨_, Or.inr ⟨k, hk, rfl, Or.inr ⟨hok, Or.inr ⟨fun h => by first | exact c79 h.2 | exact c64 h.1, rfl, rfl⟩⟩⟩, sX.mk (z := wP (wR z) (zn z) (setM (setM (zM z) 4 k a) 5 k e5)) hX rfl hp hsn hH hHe h57 h58 h59 hA h61 h62 h63 hZ, hfm⟩)
          · skip
            refine lv_aload_n S.1 S.2.1 dX6_setAngle_67 rfl (lv_at hl 1 rfl) ?_
            refine x_get S hK hP dX6_setAngle_68 hX (by decide) (RX6, TX6, 9) rfl hin6 0 (by decide) fl10 rfl ?_
            refine x_get S hK hP dX6_setAngle_71 hp.2.1 (by decide) (RX2, TX2, 2) rfl hin2 0 (by decide) fl90 rfl ?_
            refine lv_iconst (v := 5) S.1 S.2.1 dX6_setAngle_74 (by decide) ?_
            refine x_row S hK hP dX6_setAngle_75 hp 5 rfl (by omega) ?_
            refine lv_iload_n S.1 S.2.1 dX6_setAngle_76 rfl (lv_at hl 2 rfl) ?_
            refine x_val S hK hP dX6_setAngle_77 hp (w := 5) k rfl (by omega) (by omega) ?_
            refine lv_iload_n S.1 S.2.1 dX6_setAngle_78 rfl (lv_at hl 4 rfl) ?_
            refine lv_icmp_ne (tgt := 85) S.1 S.2.1 dX6_setAngle_79 (by decide) (fun c79 => ?_) (fun c79 => ?_)
            · skip
              refine lv_aload_n S.1 S.2.1 dX6_setAngle_85 rfl (lv_at hl 1 rfl) ?_
              refine x_get S hK hP dX6_setAngle_86 hX (by decide) (RX6, TX6, 9) rfl hin6 3 (by decide) fl22 rfl ?_
              refine lv_aload_n S.1 S.2.1 dX6_setAngle_89 rfl (lv_at hl 1 rfl) ?_
              refine x_get S hK hP dX6_setAngle_90 hX (by decide) (RX6, TX6, 9) rfl hin6 0 (by decide) fl10 rfl ?_
              refine x_qv (va_runV (As := [.ref (xad g 1)]) (rest := []) S (c_X1_record l g hJ E hH hp) (cwV 1 S.2.2.2.2 gX6_setAngle_X1_record rfl rfl rfl (by decide +kernel) ⟨Nat.le_of_ble_eq_true rfl, Nat.le_of_ble_eq_true rfl⟩) (x_preV hK hP hH.2.1 (by decide) rfl) rfl rfl hl.1 rfl (lv_room (Nat.le_of_ble_eq_true rfl)) dX6_setAngle_93 ⟨Nat.le_of_ble_eq_true rfl, Nat.le_of_ble_eq_true rfl⟩) hS (fun E1_3 H locs hq93 hP hS => ?_)
              obtain ⟨⟨B2, N2, MM2, hH, hHe2⟩, hfr93⟩ := hq93
              have hX := (hfr93 0 (by decide)).trans hX
              have hp := hp.keep (E1 := E1_3) (fun j g1 g2 => hfr93 j (by omega))
              have hsn := hsn.keep (E1 := E1_3) (fun j g1 g2 => hfr93 j (by omega))
              have h57 := (hfr93 57 (by decide)).trans h57
              have h58 := (hfr93 58 (by decide)).trans h58
              have h59 := (hfr93 59 (by decide)).trans h59
              have hA := (hfr93 60 (by decide)).trans hA
              have h61 := (hfr93 61 (by decide)).trans h61
              have h62 := (hfr93 62 (by decide)).trans h62
              have h63 := (hfr93 63 (by decide)).trans h63
              have hZ := (hfr93 64 (by decide)).trans hZ
              have hfm : ∀ j, 65 ≤ j → E1_3 j = E j := fun j hj => (hfr93 j (by omega)).trans (hfm j hj)
              have hHe : ∀ i, i < rcS (zh z) → N2 i = rcV (zh z) (zN z) (zn z) i ∧ MM2 i = rcV (zh z) (zMM z) (zM z) i := fun i hi => rec_eq hHe (hHe2 i hi) hi
              refine lv_aload_n S.1 S.2.1 dX6_setAngle_96 rfl (lv_at hl 1 rfl) ?_
              refine x_get S hK hP dX6_setAngle_97 hX (by decide) (RX6, TX6, 9) rfl hin6 0 (by decide) fl10 rfl ?_
              refine x_get S hK hP dX6_setAngle_100 hp.2.1 (by decide) (RX2, TX2, 2) rfl hin2 0 (by decide) fl90 rfl ?_
              refine lv_iconst (v := 4) S.1 S.2.1 dX6_setAngle_103 (by decide) ?_
              refine x_row S hK hP dX6_setAngle_104 hp 4 rfl (by omega) ?_
              refine lv_iload_n S.1 S.2.1 dX6_setAngle_105 rfl (lv_at hl 2 rfl) ?_
              refine lv_iload_n S.1 S.2.1 dX6_setAngle_106 rfl (lv_at hl 3 rfl) ?_
              refine x_phset S hK hJ hP hS dX6_setAngle_107 hp (w := 4) k rfl (by omega) (by omega) (fun H locs E1_4 hu hnew hP hS => ?_)
              have hX : E1_4 0 = .inr (6, [.ref (xad g 1), .ref (xad g 10), .int (bI (zf z)), .ref (xad g 19), .ref (xad g 57), .ref (xad g 59), .ref (xad g 60), .ref (xad g 61), .ref (xad g 64)]) := (hu _ (by omega)).trans hX
              have hp := hnew
              have hsn : ePh g E1_4 10 (zsn z) (zsM z) := hsn.keep (fun j h1 h2 => hu j (by omega))
              have h57 : E1_4 57 = .inr (4, [.ref (xad g 58), .int (nI (ztl z)), .int p0, .int ta]) := (hu _ (by omega)).trans h57
              have h58 : E1_4 58 = .inl (xC g, 60, .inl (ztf z)) := (hu _ (by omega)).trans h58
              have h59 : E1_4 59 = .inl (xI g, 6, .inl f6) := (hu _ (by omega)).trans h59
              have hA : E1_4 60 = .inr (0, [.ref (xad g 1), .int x1, .int x2, .int x3]) := (hu _ (by omega)).trans hA
              have h61 : E1_4 61 = .inr (5, [.ref (xad g 1), .ref (xad g 60), .ref (xad g 62), .ref (xad g 63)]) := (hu _ (by omega)).trans h61
              have h62 : E1_4 62 = .inl (xI g, 11, .inl f2) := (hu _ (by omega)).trans h62
              have h63 : E1_4 63 = .inl (xI g, 11, .inl f3) := (hu _ (by omega)).trans h63
              have hZ : E1_4 64 = .inr (3, [.ref (xad g 1), .int u1, .int u2, .int u3]) := (hu _ (by omega)).trans hZ
              have hfm : ∀ j, 65 ≤ j → E1_4 j = E j := fun j hj => (hu j (by omega)).trans (hfm j hj)
              have hH := hH.keep (E1 := E1_4) (fun j h1 h2 => hu j (by omega))
              refine lv_aload_n S.1 S.2.1 dX6_setAngle_108 rfl (lv_at hl 1 rfl) ?_
              refine x_get S hK hP dX6_setAngle_109 hX (by decide) (RX6, TX6, 9) rfl hin6 0 (by decide) fl10 rfl ?_
              refine x_get S hK hP dX6_setAngle_112 hp.2.1 (by decide) (RX2, TX2, 2) rfl hin2 0 (by decide) fl90 rfl ?_
              refine lv_iconst (v := 5) S.1 S.2.1 dX6_setAngle_115 (by decide) ?_
              refine x_row S hK hP dX6_setAngle_116 hp 5 rfl (by omega) ?_
              refine lv_iload_n S.1 S.2.1 dX6_setAngle_117 rfl (lv_at hl 2 rfl) ?_
              refine lv_iload_n S.1 S.2.1 dX6_setAngle_118 rfl (lv_at hl 4 rfl) ?_
              refine x_phset S hK hJ hP hS dX6_setAngle_119 hp (w := 5) k rfl (by omega) (by omega) (fun H locs E1_5 hu hnew hP hS => ?_)
              have hX : E1_5 0 = .inr (6, [.ref (xad g 1), .ref (xad g 10), .int (bI (zf z)), .ref (xad g 19), .ref (xad g 57), .ref (xad g 59), .ref (xad g 60), .ref (xad g 61), .ref (xad g 64)]) := (hu _ (by omega)).trans hX
              have hp := hnew
              have hsn : ePh g E1_5 10 (zsn z) (zsM z) := hsn.keep (fun j h1 h2 => hu j (by omega))
              have h57 : E1_5 57 = .inr (4, [.ref (xad g 58), .int (nI (ztl z)), .int p0, .int ta]) := (hu _ (by omega)).trans h57
              have h58 : E1_5 58 = .inl (xC g, 60, .inl (ztf z)) := (hu _ (by omega)).trans h58
              have h59 : E1_5 59 = .inl (xI g, 6, .inl f6) := (hu _ (by omega)).trans h59
              have hA : E1_5 60 = .inr (0, [.ref (xad g 1), .int x1, .int x2, .int x3]) := (hu _ (by omega)).trans hA
              have h61 : E1_5 61 = .inr (5, [.ref (xad g 1), .ref (xad g 60), .ref (xad g 62), .ref (xad g 63)]) := (hu _ (by omega)).trans h61
              have h62 : E1_5 62 = .inl (xI g, 11, .inl f2) := (hu _ (by omega)).trans h62
              have h63 : E1_5 63 = .inl (xI g, 11, .inl f3) := (hu _ (by omega)).trans h63
              have hZ : E1_5 64 = .inr (3, [.ref (xad g 1), .int u1, .int u2, .int u3]) := (hu _ (by omega)).trans hZ
              have hfm : ∀ j, 65 ≤ j → E1_5 j = E j := fun j hj => (hu j (by omega)).trans (hfm j hj)
              have hH := hH.keep (E1 := E1_5) (fun j h1 h2 => hu j (by omega))
              refine lv_iload S.1 S.2.1 dX6_setAngle_120 (lv_at hl 0 rfl) ?_
              exact x_iret S hr hlocks hP hS dX6_setAngle_122 (⟨_, Or.inr ⟨k, hk, rfl, Or.inr ⟨hok, Or.inr ⟨fun h => by first | exact c79 h.2 | exact c64 h.1, rfl, rfl⟩⟩⟩, sX.mk (z := wP (wR z) (zn z) (setM (setM (zM z) 4 k a) 5 k e5)) hX rfl hp hsn hH hHe h57 h58 h59 hA h61 h62 h63 hZ, hfm⟩)
            · skip
              refine lv_bipush (v := (-5)) S.1 S.2.1 dX6_setAngle_82 (by decide) ?_
              exact x_iret S hr hlocks hP hS dX6_setAngle_84 (⟨z, Or.inr ⟨k, hk, rfl, Or.inr ⟨hok, Or.inl ⟨⟨c64, c79⟩, rfl, rfl⟩⟩⟩, sX.mk hX rfl hp hsn hH hHe h57 h58 h59 hA h61 h62 h63 hZ, hfm⟩)
        · skip
          refine lv_iload_n S.1 S.2.1 dX6_setAngle_41 rfl (lv_at hl 3 rfl) ?_
          refine lv_if_eq (tgt := 48) S.1 S.2.1 dX6_setAngle_42 (by decide) (fun c42 => ?_) (fun c42 => ?_)
          · skip
            have hok : angOk a e5 := ⟨hr18.t c21, hr28.t c31, fun h => by first | exact absurd h c38 | exact c42⟩
            refine lv_aload_n S.1 S.2.1 dX6_setAngle_48 rfl (lv_at hl 0 rfl) ?_
            refine x_get S hK hP dX6_setAngle_49 hX (by decide) (RX6, TX6, 9) rfl hin6 0 (by decide) fl10 rfl ?_
            refine x_get S hK hP dX6_setAngle_52 hp.2.1 (by decide) (RX2, TX2, 2) rfl hin2 0 (by decide) fl90 rfl ?_
            refine lv_iconst (v := 4) S.1 S.2.1 dX6_setAngle_55 (by decide) ?_
            refine x_row S hK hP dX6_setAngle_56 hp 4 rfl (by omega) ?_
            refine lv_iload_n S.1 S.2.1 dX6_setAngle_57 rfl (lv_at hl 1 rfl) ?_
            refine x_val S hK hP dX6_setAngle_58 hp (w := 4) k rfl (by omega) (by omega) ?_
            refine lv_istore (lv' := [(4, .int ((zM z) 4 k)), (0, .ref (xad g 0)), (1, .int (nI k)), (2, .int a), (3, .int e5)]) S.1 S.2.1 dX6_setAngle_59 hl (by decide) rfl (fun ls hl => ?_)
            refine lv_iload S.1 S.2.1 dX6_setAngle_61 (lv_at hl 0 rfl) ?_
            refine lv_iload_n S.1 S.2.1 dX6_setAngle_63 rfl (lv_at hl 3 rfl) ?_
            refine lv_icmp_ne (tgt := 85) S.1 S.2.1 dX6_setAngle_64 (by decide) (fun c64 => ?_) (fun c64 => ?_)
            · skip
              refine lv_aload_n S.1 S.2.1 dX6_setAngle_85 rfl (lv_at hl 1 rfl) ?_
              refine x_get S hK hP dX6_setAngle_86 hX (by decide) (RX6, TX6, 9) rfl hin6 3 (by decide) fl22 rfl ?_
              refine lv_aload_n S.1 S.2.1 dX6_setAngle_89 rfl (lv_at hl 1 rfl) ?_
              refine x_get S hK hP dX6_setAngle_90 hX (by decide) (RX6, TX6, 9) rfl hin6 0 (by decide) fl10 rfl ?_
              refine x_qv (va_runV (As := [.ref (xad g 1)]) (rest := []) S (c_X1_record l g hJ E hH hp) (cwV 1 S.2.2.2.2 gX6_setAngle_X1_record rfl rfl rfl (by decide +kernel) ⟨Nat.le_of_ble_eq_true rfl, Nat.le_of_ble_eq_true rfl⟩) (x_preV hK hP hH.2.1 (by decide) rfl) rfl rfl hl.1 rfl (lv_room (Nat.le_of_ble_eq_true rfl)) dX6_setAngle_93 ⟨Nat.le_of_ble_eq_true rfl, Nat.le_of_ble_eq_true rfl⟩) hS (fun E1_6 H locs hq93 hP hS => ?_)
              obtain ⟨⟨B2, N2, MM2, hH, hHe2⟩, hfr93⟩ := hq93
              have hX := (hfr93 0 (by decide)).trans hX
              have hp := hp.keep (E1 := E1_6) (fun j g1 g2 => hfr93 j (by omega))
              have hsn := hsn.keep (E1 := E1_6) (fun j g1 g2 => hfr93 j (by omega))
              have h57 := (hfr93 57 (by decide)).trans h57
              have h58 := (hfr93 58 (by decide)).trans h58
              have h59 := (hfr93 59 (by decide)).trans h59
              have hA := (hfr93 60 (by decide)).trans hA
              have h61 := (hfr93 61 (by decide)).trans h61
              have h62 := (hfr93 62 (by decide)).trans h62
              have h63 := (hfr93 63 (by decide)).trans h63
              have hZ := (hfr93 64 (by decide)).trans hZ
              have hfm : ∀ j, 65 ≤ j → E1_6 j = E j := fun j hj => (hfr93 j (by omega)).trans (hfm j hj)
              have hHe : ∀ i, i < rcS (zh z) → N2 i = rcV (zh z) (zN z) (zn z) i ∧ MM2 i = rcV (zh z) (zMM z) (zM z) i := fun i hi => rec_eq hHe (hHe2 i hi) hi
              refine lv_aload_n S.1 S.2.1 dX6_setAngle_96 rfl (lv_at hl 1 rfl) ?_
              refine x_get S hK hP dX6_setAngle_97 hX (by decide) (RX6, TX6, 9) rfl hin6 0 (by decide) fl10 rfl ?_
              refine x_get S hK hP dX6_setAngle_100 hp.2.1 (by decide) (RX2, TX2, 2) rfl hin2 0 (by decide) fl90 rfl ?_
              refine lv_iconst (v := 4) S.1 S.2.1 dX6_setAngle_103 (by decide) ?_
              refine x_row S hK hP dX6_setAngle_104 hp 4 rfl (by omega) ?_
              refine lv_iload_n S.1 S.2.1 dX6_setAngle_105 rfl (lv_at hl 2 rfl) ?_
              refine lv_iload_n S.1 S.2.1 dX6_setAngle_106 rfl (lv_at hl 3 rfl) ?_
              refine x_phset S hK hJ hP hS dX6_setAngle_107 hp (w := 4) k rfl (by omega) (by omega) (fun H locs E1_7 hu hnew hP hS => ?_)
              have hX : E1_7 0 = .inr (6, [.ref (xad g 1), .ref (xad g 10), .int (bI (zf z)), .ref (xad g 19), .ref (xad g 57), .ref (xad g 59), .ref (xad g 60), .ref (xad g 61), .ref (xad g 64)]) := (hu _ (by omega)).trans hX
              have hp := hnew
              have hsn : ePh g E1_7 10 (zsn z) (zsM z) := hsn.keep (fun j h1 h2 => hu j (by omega))
              have h57 : E1_7 57 = .inr (4, [.ref (xad g 58), .int (nI (ztl z)), .int p0, .int ta]) := (hu _ (by omega)).trans h57
              have h58 : E1_7 58 = .inl (xC g, 60, .inl (ztf z)) := (hu _ (by omega)).trans h58
              have h59 : E1_7 59 = .inl (xI g, 6, .inl f6) := (hu _ (by omega)).trans h59
              have hA : E1_7 60 = .inr (0, [.ref (xad g 1), .int x1, .int x2, .int x3]) := (hu _ (by omega)).trans hA
              have h61 : E1_7 61 = .inr (5, [.ref (xad g 1), .ref (xad g 60), .ref (xad g 62), .ref (xad g 63)]) := (hu _ (by omega)).trans h61
              have h62 : E1_7 62 = .inl (xI g, 11, .inl f2) := (hu _ (by omega)).trans h62
              have h63 : E1_7 63 = .inl (xI g, 11, .inl f3) := (hu _ (by omega)).trans h63
              have hZ : E1_7 64 = .inr (3, [.ref (xad g 1), .int u1, .int u2, .int u3]) := (hu _ (by omega)).trans hZ
              have hfm : ∀ j, 65 ≤ j → E1_7 j = E j := fun j hj => (hu j (by omega)).trans (hfm j hj)
              have hH := hH.keep (E1 := E1_7) (fun j h1 h2 => hu j (by omega))
              refine lv_aload_n S.1 S.2.1 dX6_setAngle_108 rfl (lv_at hl 1 rfl) ?_
              refine x_get S hK hP dX6_setAngle_109 hX (by decide) (RX6, TX6, 9) rfl hin6 0 (by decide) fl10 rfl ?_
              refine x_get S hK hP dX6_setAngle_112 hp.2.1 (by decide) (RX2, TX2, 2) rfl hin2 0 (by decide) fl90 rfl ?_
              refine lv_iconst (v := 5) S.1 S.2.1 dX6_setAngle_115 (by decide) ?_
              refine x_row S hK hP dX6_setAngle_116 hp 5 rfl (by omega) ?_
              refine lv_iload_n S.1 S.2.1 dX6_setAngle_117 rfl (lv_at hl 2 rfl) ?_
              refine lv_iload_n S.1 S.2.1 dX6_setAngle_118 rfl (lv_at hl 4 rfl) ?_
              refine x_phset S hK hJ hP hS dX6_setAngle_119 hp (w := 5) k rfl (by omega) (by omega) (fun H locs E1_8 hu hnew hP hS => ?_)
              have hX : E1_8 0 = .inr (6, [.ref (xad g 1), .ref (xad g 10), .int (bI (zf z)), .ref (xad g 19), .ref (xad g 57), .ref (xad g 59), .ref (xad g 60), .ref (xad g 61), .ref (xad g 64)]) := (hu _ (by omega)).trans hX
              have hp := hnew
              have hsn : ePh g E1_8 10 (zsn z) (zsM z) := hsn.keep (fun j h1 h2 => hu j (by omega))
              have h57 : E1_8 57 = .inr (4, [.ref (xad g 58), .int (nI (ztl z)), .int p0, .int ta]) := (hu _ (by omega)).trans h57
              have h58 : E1_8 58 = .inl (xC g, 60, .inl (ztf z)) := (hu _ (by omega)).trans h58
              have h59 : E1_8 59 = .inl (xI g, 6, .inl f6) := (hu _ (by omega)).trans h59
              have hA : E1_8 60 = .inr (0, [.ref (xad g 1), .int x1, .int x2, .int x3]) := (hu _ (by omega)).trans hA
              have h61 : E1_8 61 = .inr (5, [.ref (xad g 1), .ref (xad g 60), .ref (xad g 62), .ref (xad g 63)]) := (hu _ (by omega)).trans h61
              have h62 : E1_8 62 = .inl (xI g, 11, .inl f2) := (hu _ (by omega)).trans h62
              have h63 : E1_8 63 = .inl (xI g, 11, .inl f3) := (hu _ (by omega)).trans h63
              have hZ : E1_8 64 = .inr (3, [.ref (xad g 1), .int u1, .int u2, .int u3]) := (hu _ (by omega)).trans hZ
              have hfm : ∀ j, 65 ≤ j → E1_8 j = E j := fun j hj => (hu j (by omega)).trans (hfm j hj)
              have hH := hH.keep (E1 := E1_8) (fun j h1 h2 => hu j (by omega))
              refine lv_iload S.1 S.2.1 dX6_setAngle_120 (lv_at hl 0 rfl) ?_
              exact x_iret S hr hlocks hP hS dX6_setAngle_122 (⟨_, Or.inr ⟨k, hk, rfl, Or.inr ⟨hok, Or.inr ⟨fun h => by first | exact c79 h.2 | exact c64 h.1, rfl, rfl⟩⟩⟩, sX.mk (z := wP (wR z) (zn z) (setM (setM (zM z) 4 k a) 5 k e5)) hX rfl hp hsn hH hHe h57 h58 h59 hA h61 h62 h63 hZ, hfm⟩)
            · skip
              refine lv_aload_n S.1 S.2.1 dX6_setAngle_67 rfl (lv_at hl 1 rfl) ?_
              refine x_get S hK hP dX6_setAngle_68 hX (by decide) (RX6, TX6, 9) rfl hin6 0 (by decide) fl10 rfl ?_
              refine x_get S hK hP dX6_setAngle_71 hp.2.1 (by decide) (RX2, TX2, 2) rfl hin2 0 (by decide) fl90 rfl ?_
              refine lv_iconst (v := 5) S.1 S.2.1 dX6_setAngle_74 (by decide) ?_
              refine x_row S hK hP dX6_setAngle_75 hp 5 rfl (by omega) ?_
              refine lv_iload_n S.1 S.2.1 dX6_setAngle_76 rfl (lv_at hl 2 rfl) ?_
              refine x_val S hK hP dX6_setAngle_77 hp (w := 5) k rfl (by omega) (by omega) ?_
              refine lv_iload_n S.1 S.2.1 dX6_setAngle_78 rfl (lv_at hl 4 rfl) ?_
              refine lv_icmp_ne (tgt := 85) S.1 S.2.1 dX6_setAngle_79 (by decide) (fun c79 => ?_) (fun c79 => ?_)
              · skip
                refine lv_aload_n S.1 S.2.1 dX6_setAngle_85 rfl (lv_at hl 1 rfl) ?_
                refine x_get S hK hP dX6_setAngle_86 hX (by decide) (RX6, TX6, 9) rfl hin6 3 (by decide) fl22 rfl ?_
                refine lv_aload_n S.1 S.2.1 dX6_setAngle_89 rfl (lv_at hl 1 rfl) ?_
                refine x_get S hK hP dX6_setAngle_90 hX (by decide) (RX6, TX6, 9) rfl hin6 0 (by decide) fl10 rfl ?_
                refine x_qv (va_runV (As := [.ref (xad g 1)]) (rest := []) S (c_X1_record l g hJ E hH hp) (cwV 1 S.2.2.2.2 gX6_setAngle_X1_record rfl rfl rfl (by decide +kernel) ⟨Nat.le_of_ble_eq_true rfl, Nat.le_of_ble_eq_true rfl⟩) (x_preV hK hP hH.2.1 (by decide) rfl) rfl rfl hl.1 rfl (lv_room (Nat.le_of_ble_eq_true rfl)) dX6_setAngle_93 ⟨Nat.le_of_ble_eq_true rfl, Nat.le_of_ble_eq_true rfl⟩) hS (fun E1_9 H locs hq93 hP hS => ?_)
                obtain ⟨⟨B2, N2, MM2, hH, hHe2⟩, hfr93⟩ := hq93
                have hX := (hfr93 0 (by decide)).trans hX
                have hp := hp.keep (E1 := E1_9) (fun j g1 g2 => hfr93 j (by omega))
                have hsn := hsn.keep (E1 := E1_9) (fun j g1 g2 => hfr93 j (by omega))
                have h57 := (hfr93 57 (by decide)).trans h57
                have h58 := (hfr93 58 (by decide)).trans h58
                have h59 := (hfr93 59 (by decide)).trans h59
                have hA := (hfr93 60 (by decide)).trans hA
                have h61 := (hfr93 61 (by decide)).trans h61
                have h62 := (hfr93 62 (by decide)).trans h62
                have h63 := (hfr93 63 (by decide)).trans h63
                have hZ := (hfr93 64 (by decide)).trans hZ
                have hfm : ∀ j, 65 ≤ j → E1_9 j = E j := fun j hj => (hfr93 j (by omega)).trans (hfm j hj)
                have hHe : ∀ i, i < rcS (zh z) → N2 i = rcV (zh z) (zN z) (zn z) i ∧ MM2 i = rcV (zh z) (zMM z) (zM z) i := fun i hi => rec_eq hHe (hHe2 i hi) hi
                refine lv_aload_n S.1 S.2.1 dX6_setAngle_96 rfl (lv_at hl 1 rfl) ?_
                refine x_get S hK hP dX6_setAngle_97 hX (by decide) (RX6, TX6, 9) rfl hin6 0 (by decide) fl10 rfl ?_
                refine x_get S hK hP dX6_setAngle_100 hp.2.1 (by decide) (RX2, TX2, 2) rfl hin2 0 (by decide) fl90 rfl ?_
                refine lv_iconst (v := 4) S.1 S.2.1 dX6_setAngle_103 (by decide) ?_
                refine x_row S hK hP dX6_setAngle_104 hp 4 rfl (by omega) ?_
                refine lv_iload_n S.1 S.2.1 dX6_setAngle_105 rfl (lv_at hl 2 rfl) ?_
                refine lv_iload_n S.1 S.2.1 dX6_setAngle_106 rfl (lv_at hl 3 rfl) ?_
                refine x_phset S hK hJ hP hS dX6_setAngle_107 hp (w := 4) k rfl (by omega) (by omega) (fun H locs E1_10 hu hnew hP hS => ?_)
                have hX : E1_10 0 = .inr (6, [.ref (xad g 1), .ref (xad g 10), .int (bI (zf z)), .ref (xad g 19), .ref (xad g 57), .ref (xad g 59), .ref (xad g 60), .ref (xad g 61), .ref (xad g 64)]) := (hu _ (by omega)).trans hX
                have hp := hnew
                have hsn : ePh g E1_10 10 (zsn z) (zsM z) := hsn.keep (fun j h1 h2 => hu j (by omega))
                have h57 : E1_10 57 = .inr (4, [.ref (xad g 58), .int (nI (ztl z)), .int p0, .int ta]) := (hu _ (by omega)).trans h57
                have h58 : E1_10 58 = .inl (xC g, 60, .inl (ztf z)) := (hu _ (by omega)).trans h58
                have h59 : E1_10 59 = .inl (xI g, 6, .inl f6) := (hu _ (by omega)).trans h59
                have hA : E1_10 60 = .inr (0, [.ref (xad g 1), .int x1, .int x2, .int x3]) := (hu _ (by omega)).trans hA
                have h61 : E1_10 61 = .inr (5, [.ref (xad g 1), .ref (xad g 60), .ref (xad g 62), .ref (xad g 63)]) := (hu _ (by omega)).trans h61
                have h62 : E1_10 62 = .inl (xI g, 11, .inl f2) := (hu _ (by omega)).trans h62
                have h63 : E1_10 63 = .inl (xI g, 11, .inl f3) := (hu _ (by omega)).trans h63
                have hZ : E1_10 64 = .inr (3, [.ref (xad g 1), .int u1, .int u2, .int u3]) := (hu _ (by omega)).trans hZ
                have hfm : ∀ j, 65 ≤ j → E1_10 j = E j := fun j hj => (hu j (by omega)).trans (hfm j hj)
                have hH := hH.keep (E1 := E1_10) (fun j h1 h2 => hu j (by omega))
                refine lv_aload_n S.1 S.2.1 dX6_setAngle_108 rfl (lv_at hl 1 rfl) ?_
                refine x_get S hK hP dX6_setAngle_109 hX (by decide) (RX6, TX6, 9) rfl hin6 0 (by decide) fl10 rfl ?_
                refine x_get S hK hP dX6_setAngle_112 hp.2.1 (by decide) (RX2, TX2, 2) rfl hin2 0 (by decide) fl90 rfl ?_
                refine lv_iconst (v := 5) S.1 S.2.1 dX6_setAngle_115 (by decide) ?_
                refine x_row S hK hP dX6_setAngle_116 hp 5 rfl (by omega) ?_
                refine lv_iload_n S.1 S.2.1 dX6_setAngle_117 rfl (lv_at hl 2 rfl) ?_
                refine lv_iload_n S.1 S.2.1 dX6_setAngle_118 rfl (lv_at hl 4 rfl) ?_
                refine x_phset S hK hJ hP hS dX6_setAngle_119 hp (w := 5) k rfl (by omega) (by omega) (fun H locs E1_11 hu hnew hP hS => ?_)
                have hX : E1_11 0 = .inr (6, [.ref (xad g 1), .ref (xad g 10), .int (bI (zf z)), .ref (xad g 19), .ref (xad g 57), .ref (xad g 59), .ref (xad g 60), .ref (xad g 61), .ref (xad g 64)]) := (hu _ (by omega)).trans hX
                have hp := hnew
                have hsn : ePh g E1_11 10 (zsn z) (zsM z) := hsn.keep (fun j h1 h2 => hu j (by omega))
                have h57 : E1_11 57 = .inr (4, [.ref (xad g 58), .int (nI (ztl z)), .int p0, .int ta]) := (hu _ (by omega)).trans h57
                have h58 : E1_11 58 = .inl (xC g, 60, .inl (ztf z)) := (hu _ (by omega)).trans h58
                have h59 : E1_11 59 = .inl (xI g, 6, .inl f6) := (hu _ (by omega)).trans h59
                have hA : E1_11 60 = .inr (0, [.ref (xad g 1), .int x1, .int x2, .int x3]) := (hu _ (by omega)).trans hA
                have h61 : E1_11 61 = .inr (5, [.ref (xad g 1), .ref (xad g 60), .ref (xad g 62), .ref (xad g 63)]) := (hu _ (by omega)).trans h61
                have h62 : E1_11 62 = .inl (xI g, 11, .inl f2) := (hu _ (by omega)).trans h62
                have h63 : E1_11 63 = .inl (xI g, 11, .inl f3) := (hu _ (by omega)).trans h63
                have hZ : E1_11 64 = .inr (3, [.ref (xad g 1), .int u1, .int u2, .int u3]) := (hu _ (by omega)).trans hZ
                have hfm : ∀ j, 65 ≤ j → E1_11 j = E j := fun j hj => (hu j (by omega)).trans (hfm j hj)
                have hH := hH.keep (E1 := E1_11) (fun j h1 h2 => hu j (by omega))
                refine lv_iload S.1 S.2.1 dX6_setAngle_120 (lv_at hl 0 rfl) ?_
                exact x_iret S hr hlocks hP hS dX6_setAngle_122 (⟨_, Or.inr ⟨k, hk, rfl, Or.inr ⟨hok, Or.inr ⟨fun h => by first | exact c79 h.2 | exact c64 h.1, rfl, rfl⟩⟩⟩, sX.mk (z := wP (wR z) (zn z) (setM (setM (zM z) 4 k a) 5 k e5)) hX rfl hp hsn hH hHe h57 h58 h59 hA h61 h62 h63 hZ, hfm⟩)
              · skip
                refine lv_bipush (v := (-5)) S.1 S.2.1 dX6_setAngle_82 (by decide) ?_
                exact x_iret S hr hlocks hP hS dX6_setAngle_84 (⟨z, Or.inr ⟨k, hk, rfl, Or.inr ⟨hok, Or.inl ⟨⟨c64, c79⟩, rfl, rfl⟩⟩⟩, sX.mk hX rfl hp hsn hH hHe h57 h58 h59 hA h61 h62 h63 hZ, hfm⟩)
          · skip
            refine lv_bipush (v := (-2)) S.1 S.2.1 dX6_setAngle_45 (by decide) ?_
            exact x_iret S hr hlocks hP hS dX6_setAngle_47 (⟨z, Or.inr ⟨k, hk, rfl, Or.inl ⟨fun h => by first | exact c42 (h.2.2 c38) | exact hr28.f c31 h.2.1 | exact hr18.f c21 h.1, rfl, rfl⟩⟩, sX.mk hX rfl hp hsn hH hHe h57 h58 h59 hA h61 h62 h63 hZ, hfm⟩)
  · skip
    refine lv_iconst (v := (-1)) S.1 S.2.1 dX6_setAngle_11 (by decide) ?_
    exact x_iret S hr hlocks hP hS dX6_setAngle_12 (⟨z, Or.inl ⟨hr5.f c8, rfl, rfl⟩, sX.mk hX rfl hp hsn hH hHe h57 h58 h59 hA h61 h62 h63 hZ, hfm⟩)
/-- the mask of those that the best arc misses; 0 if there is none -/
def msk (n : Nat) (M : Nat → Nat → Int32) (v : Nat) : Prop := ((∀ i j k, ¬ trio (pU M) n i j k) ∧ v = 0) ∨ ∃ i j k, isBest M (pU M) n i j k ∧ v = mk (pM M (pU M) i j k) n
theorem msk.uniq {n : Nat} {M : Nat → Nat → Int32} {v v' : Nat} (hn : n ≤ 10) (h : msk n M v) (h' : msk n M v') : v = v' := by
  rcases h with ⟨a1, a2⟩ | ⟨i, j, k, a1, a2⟩ <;> rcases h' with ⟨b1, b2⟩ | ⟨i', j', k', b1, b2⟩
  · rw [a2, b2]
  · exact absurd b1.1 (a1 _ _ _)
  · exact absurd a1.1 (b1 _ _ _)
  · obtain ⟨rfl, rfl, rfl⟩ := isBest.uniq hn a1 b1
    rw [a2, b2]
theorem msk.lt {n : Nat} {M : Nat → Nat → Int32} {v : Nat} (hn : n ≤ 10) (h : msk n M v) : v < 1024 := by
  rcases h with ⟨a1, a2⟩ | ⟨i, j, k, a1, a2⟩
  · omega
  · rw [a2]
    exact mk_lt10 _ hn
set_option maxHeartbeats 4000000 in
set_option maxRecDepth 100000 in
theorem c_X6_missedByBest (l : Launch) (g : xG) (hJ : xJ (xad g)) (E : Nat → va_E) {hf : Int32} (hX : E 0 = .inr (6, [.ref (xad g 1), .ref (xad g 10), .int hf, .ref (xad g 19), .ref (xad g 57), .ref (xad g 59), .ref (xad g 60), .ref (xad g 61), .ref (xad g 64)])) {n : Nat} {M : Nat → Nat → Int32} (hp : ePh g E 1 n M) (hv : vld n M) {x1 x2 x3 : Int32} (hA : E 60 = .inr (0, [.ref (xad g 1), .int x1, .int x2, .int x3]))  : Met l yX6_missedByBest wsX6_missedByBest ({ frames := 3, cells := 0, slots := 0, locals := 101 }) (xPc g [.ref (xad g 0)] E) (xQi g (fun r E1 => ∃ v, msk n M v ∧ r = nI v ∧ (∀ j, j ≠ 60 → E1 j = E j) ∧ ∃ a b c, E1 60 = .inr (0, [.ref (xad g 1), .int a, .int b, .int c]))) 0 0 (xA (xad g)) := by
  refine x_met (ws' := _) (by decide) rfl (Nat.le_of_ble_eq_true rfl) ?_
  intro pz ez s m below meth cz ls S hr hlocks hP hK hl
  have hl : lv_has ls 2 [(0, .ref (xad g 0))] := hl
  have hS : va_S (xA (xad g)) s.heap s.heap [] := va_S.rf
  have hin6 : ∀ w ∈ u_ws RX6 TX6 9, w ∈ wsX6_missedByBest := by decide +kernel
  have fl10 : Cond.fieldLink RX6 10 "DiscArcs" "photos" "LDiscArcs$Photos;" ∈ wsX6_missedByBest := by decide +kernel
  have fl42 : Cond.fieldLink RX6 42 "DiscArcs" "curve" "LDiscArcs$Arc;" ∈ wsX6_missedByBest := by decide +kernel
  have h0 := hp.1
  refine lv_aload_n S.1 S.2.1 dX6_missedByBest_0 rfl (lv_at hl 0 rfl) ?_
  refine x_get S hK hP dX6_missedByBest_1 hX (by decide) (RX6, TX6, 9) rfl hin6 0 (by decide) fl10 rfl ?_
  refine x_si (va_runV (As := []) (rest := []) S (c_X2_usable l g E hp) (cwV 0 S.2.2.2.2 gX6_missedByBest_X2_usable rfl rfl rfl (by decide +kernel) ⟨Nat.le_of_ble_eq_true rfl, Nat.le_of_ble_eq_true rfl⟩) (x_preV hK hP hp.2.1 (by decide) rfl) rfl rfl hl.1 rfl (lv_room (Nat.le_of_ble_eq_true rfl)) dX6_missedByBest_4 ⟨Nat.le_of_ble_eq_true rfl, Nat.le_of_ble_eq_true rfl⟩) (fun r4 hr4 => ?_)
  subst hr4
  refine lv_istore_n (lv' := [(1, .int (nI (mk (pU M) n))), (0, .ref (xad g 0))]) S.1 S.2.1 dX6_missedByBest_7 rfl hl (by decide) rfl (fun ls hl => ?_)
  refine lv_aload_n S.1 S.2.1 dX6_missedByBest_8 rfl (lv_at hl 1 rfl) ?_
  refine x_get S hK hP dX6_missedByBest_9 hX (by decide) (RX6, TX6, 9) rfl hin6 6 (by decide) fl42 rfl ?_
  refine lv_iload_n S.1 S.2.1 dX6_missedByBest_12 rfl (lv_at hl 0 rfl) ?_
  refine x_qi (va_runV (As := [.int (nI (mk (pU M) n))]) (rest := []) S (c_X0_layBest l g hJ E hp hA hv (pU M)) (cwV 1 S.2.2.2.2 gX6_missedByBest_X0_layBest rfl rfl rfl (by decide +kernel) ⟨Nat.le_of_ble_eq_true rfl, Nat.le_of_ble_eq_true rfl⟩) (x_preV hK hP hA (by decide) rfl) rfl rfl hl.1 rfl (lv_room (Nat.le_of_ble_eq_true rfl)) dX6_missedByBest_13 ⟨Nat.le_of_ble_eq_true rfl, Nat.le_of_ble_eq_true rfl⟩) hS (fun r13 E1 H locs hq13 hP hS => ?_)
  obtain ⟨hfr13, hor⟩ := hq13
  have hX := (hfr13 0 (by decide)).trans hX
  have hp := hp.keep (E1 := E1) (fun j g1 g2 => hfr13 j (by omega))
  refine lv_if_eq (tgt := 30) S.1 S.2.1 dX6_missedByBest_16 (by decide) (fun c16 => ?_) (fun c16 => ?_)
  · skip
    refine lv_iconst (v := 0) S.1 S.2.1 dX6_missedByBest_30 (by decide) ?_
    exact x_iret S hr hlocks hP hS dX6_missedByBest_31 (by rcases hor with ⟨h1, -⟩ | ⟨-, hno, a, b, c9, hA⟩; rw [h1] at c16; exact absurd c16 (by decide); exact ⟨0, Or.inl ⟨hno, rfl⟩, rfl, hfr13, a, b, c9, hA⟩)
  · skip
    obtain ⟨i, j, k, hb, hA⟩ : ∃ i j k, isBest M (pU M) n i j k ∧ E1 60 = .inr (0, [.ref (xad g 1), .int (nI i), .int (nI j), .int (nI k)]) := by rcases hor with ⟨-, h⟩ | ⟨h0, -⟩; exact h; exact absurd h0 c16
    obtain ⟨g1, g2, g3, -⟩ := id hb.1
    refine lv_aload_n S.1 S.2.1 dX6_missedByBest_19 rfl (lv_at hl 1 rfl) ?_
    refine x_get S hK hP dX6_missedByBest_20 hX (by decide) (RX6, TX6, 9) rfl hin6 6 (by decide) fl42 rfl ?_
    refine lv_iload_n S.1 S.2.1 dX6_missedByBest_23 rfl (lv_at hl 0 rfl) ?_
    refine x_si (va_runV (As := [.int (nI (mk (pU M) n))]) (rest := []) S (c_X0_missedOf l g E1 hp hA (i := i) (j := j) (k := k) (by omega) (by omega) g3 (P := pU M) (lo_pos hv g1 g2 g3)) (cwV 1 S.2.2.2.2 gX6_missedByBest_X0_missedOf rfl rfl rfl (by decide +kernel) ⟨Nat.le_of_ble_eq_true rfl, Nat.le_of_ble_eq_true rfl⟩) (x_preV hK hP hA (by decide) rfl) rfl rfl hl.1 rfl (lv_room (Nat.le_of_ble_eq_true rfl)) dX6_missedByBest_24 ⟨Nat.le_of_ble_eq_true rfl, Nat.le_of_ble_eq_true rfl⟩) (fun r24 hr24 => ?_)
    refine lv_goto (tgt := 31) S.1 S.2.1 dX6_missedByBest_27 (by decide) ?_
    exact x_iret S hr hlocks hP hS dX6_missedByBest_31 (⟨_, Or.inr ⟨i, j, k, hb, rfl⟩, hr24, hfr13, _, _, _, hA⟩)
def sp_move (z : xS) (x a b r : Int32) (z' : xS) : Prop := (¬ held (zn z) x ∧ r = -1 ∧ z' = z) ∨ ∃ k, k < zn z ∧ x = nI k ∧ ((¬ ((-400 ≤ a ∧ a ≤ 400) ∧ (-400 ≤ b ∧ b ≤ 400)) ∧ r = -2 ∧ z' = z) ∨ (((-400 ≤ a ∧ a ≤ 400) ∧ (-400 ≤ b ∧ b ≤ 400)) ∧ ((zM z 1 k = a ∧ zM z 2 k = b) ∧ r = -5 ∧ z' = z ∨ (¬ (zM z 1 k = a ∧ zM z 2 k = b) ∧ (∃ v, msk (zn z) (setM (setM (zM z) 1 k a) 2 k b) v ∧ r = nI (pop v)) ∧ z' = wP (wR z) (zn z) (setM (setM (zM z) 1 k a) 2 k b)))))
theorem vld.set {n k w : Nat} {M : Nat → Nat → Int32} {x : Int32} (hv : vld n M) (hw : (w = 1 ∧ -400 ≤ x.toInt ∧ x.toInt ≤ 400) ∨ (w = 2 ∧ -400 ≤ x.toInt ∧ x.toInt ≤ 400) ∨ (w = 4 ∧ 0 ≤ x.toInt ∧ x.toInt ≤ 360) ∨ (w = 5 ∧ 0 ≤ x.toInt ∧ x.toInt ≤ 60) ∨ (w = 6 ∧ (x = 0 ∨ x = 1))) : vld n (setM M w k x) := by
  obtain ⟨h1, h2⟩ := hv
  have e : ∀ v j, ¬ (v = w ∧ j = k) → setM M w k x v j = M v j := fun v j h => if_neg h
  refine ⟨fun j hj => ?_, fun i j hij hj => ?_⟩
  · obtain ⟨a1, a2, a3, a4, a5, a6, a7⟩ := h1 j hj
    by_cases ej : j = k
    · subst ej
      have es : setM M w j x w j = x := if_pos ⟨rfl, rfl⟩
      rcases hw with ⟨rfl, w1, w2⟩ | ⟨rfl, w1, w2⟩ | ⟨rfl, w1, w2⟩ | ⟨rfl, w1, w2⟩ | ⟨rfl, w1⟩
      · rw [es, e 0 j (by omega), e 2 j (by omega), e 3 j (by omega), e 4 j (by omega), e 5 j (by omega), e 6 j (by omega)]
        exact ⟨a1, ⟨w1, w2⟩, a3, a4, a5, a6, a7⟩
      · rw [es, e 0 j (by omega), e 1 j (by omega), e 3 j (by omega), e 4 j (by omega), e 5 j (by omega), e 6 j (by omega)]
        exact ⟨a1, a2, ⟨w1, w2⟩, a4, a5, a6, a7⟩
      · rw [es, e 0 j (by omega), e 1 j (by omega), e 2 j (by omega), e 3 j (by omega), e 5 j (by omega), e 6 j (by omega)]
        exact ⟨a1, a2, a3, a4, ⟨w1, w2⟩, a6, a7⟩
      · rw [es, e 0 j (by omega), e 1 j (by omega), e 2 j (by omega), e 3 j (by omega), e 4 j (by omega), e 6 j (by omega)]
        exact ⟨a1, a2, a3, a4, a5, ⟨w1, w2⟩, a7⟩
      · rw [es, e 0 j (by omega), e 1 j (by omega), e 2 j (by omega), e 3 j (by omega), e 4 j (by omega), e 5 j (by omega)]
        exact ⟨a1, a2, a3, a4, a5, a6, w1⟩
    · rw [e 0 j (fun h => ej h.2), e 1 j (fun h => ej h.2), e 2 j (fun h => ej h.2), e 3 j (fun h => ej h.2), e 4 j (fun h => ej h.2), e 5 j (fun h => ej h.2), e 6 j (fun h => ej h.2)]
      exact ⟨a1, a2, a3, a4, a5, a6, a7⟩
  · rw [e 0 i (by omega), e 0 j (by omega)]
    exact h2 i j hij hj
theorem rng_toInt {x lo hi : Int32} (h : lo ≤ x ∧ x ≤ hi) : lo.toInt ≤ x.toInt ∧ x.toInt ≤ hi.toInt := ⟨I_le.mp h.1, I_le.mp h.2⟩
set_option maxHeartbeats 4000000 in
set_option maxRecDepth 100000 in
theorem c_X6_move (l : Launch) (g : xG) (hJ : xJ (xad g)) (E : Nat → va_E) {z : xS} (hz : sX g E z) (hv : vS z) (x a b : Int32) : Met l yX6_move wsX6_move ({ frames := 4, cells := 0, slots := 0, locals := 122 }) (xPc g [.ref (xad g 0), .int x, .int a, .int b] E) (xQi g (fun r E1 => ∃ z1, sp_move z x a b r z1 ∧ sX g E1 z1 ∧ ∀ j, 65 ≤ j → E1 j = E j)) 0 0 (xA (xad g)) := by
  refine x_met (ws' := _) (by decide) rfl (Nat.le_of_ble_eq_true rfl) ?_
  intro pz ez s m below meth cz ls S hr hlocks hP hK hl
  have hl : lv_has ls 4 [(0, .ref (xad g 0)), (1, .int x), (2, .int a), (3, .int b)] := hl
  have hS : va_S (xA (xad g)) s.heap s.heap [] := va_S.rf
  have hin2 : ∀ w ∈ u_ws RX2 TX2 2, w ∈ wsX6_move := by decide +kernel
  have hin6 : ∀ w ∈ u_ws RX6 TX6 9, w ∈ wsX6_move := by decide +kernel
  have fl10 : Cond.fieldLink RX6 10 "DiscArcs" "photos" "LDiscArcs$Photos;" ∈ wsX6_move := by decide +kernel
  have fl22 : Cond.fieldLink RX6 22 "DiscArcs" "history" "LDiscArcs$History;" ∈ wsX6_move := by decide +kernel
  have fl90 : Cond.fieldLink RX6 90 "DiscArcs$Photos" "rows" "[[I" ∈ wsX6_move := by decide +kernel
  obtain ⟨hX, hp, hsn, ⟨B, N, MM, hH, hHe⟩, ⟨p0, ta, h57⟩, h58, ⟨f6, h59⟩, ⟨x1, x2, x3, hA⟩, h61, ⟨f2, h62⟩, ⟨f3, h63⟩, u1, u2, u3, hZ⟩ := hz
  have h0 := hp.1
  have hv1 := hv.1.2
  have hfm : ∀ j, 65 ≤ j → E j = E j := fun _ _ => rfl
  refine lv_aload_n S.1 S.2.1 dX6_move_0 rfl (lv_at hl 0 rfl) ?_
  refine x_get S hK hP dX6_move_1 hX (by decide) (RX6, TX6, 9) rfl hin6 0 (by decide) fl10 rfl ?_
  refine lv_iload_n S.1 S.2.1 dX6_move_4 rfl (lv_at hl 1 rfl) ?_
  refine x_si (va_runV (As := [.int x]) (rest := []) S (c_X2_holds l g E hp x) (cwV 1 S.2.2.2.2 gX6_move_X2_holds rfl rfl rfl (by decide +kernel) ⟨Nat.le_of_ble_eq_true rfl, Nat.le_of_ble_eq_true rfl⟩) (x_preV hK hP hp.2.1 (by decide) rfl) rfl rfl hl.1 rfl (lv_room (Nat.le_of_ble_eq_true rfl)) dX6_move_5 ⟨Nat.le_of_ble_eq_true rfl, Nat.le_of_ble_eq_true rfl⟩) (fun r5 hr5 => ?_)
  refine lv_if_ne (tgt := 13) S.1 S.2.1 dX6_move_8 (by decide) (fun c8 => ?_) (fun c8 => ?_)
  · skip
    obtain ⟨k, hk, rfl⟩ := hr5.t c8
    refine lv_iload_n S.1 S.2.1 dX6_move_13 rfl (lv_at hl 2 rfl) ?_
    refine lv_sipush (v := (-400)) S.1 S.2.1 dX6_move_14 (by decide) ?_
    refine lv_sipush (v := 400) S.1 S.2.1 dX6_move_17 (by decide) ?_
    refine x_si (va_runS (As := [.int a, .int (-400), .int 400]) (rest := []) S (c_X6_isWithin l g E a (-400) 400) (va_cwS 3 S.2.2.2.2 gX6_move_X6_isWithin rfl rfl rfl (by decide +kernel) ⟨Nat.le_of_ble_eq_true rfl, Nat.le_of_ble_eq_true rfl⟩) (x_preS hK hP) rfl rfl hl.1 rfl (lv_room (Nat.le_of_ble_eq_true rfl)) dX6_move_20 ⟨Nat.le_of_ble_eq_true rfl, Nat.le_of_ble_eq_true rfl⟩) (fun r20 hr20 => ?_)
    refine lv_if_eq (tgt := 39) S.1 S.2.1 dX6_move_23 (by decide) (fun c23 => ?_) (fun c23 => ?_)
    · skip
      refine lv_bipush (v := (-2)) S.1 S.2.1 dX6_move_39 (by decide) ?_
      exact x_iret S hr hlocks hP hS dX6_move_41 (⟨z, Or.inr ⟨k, hk, rfl, Or.inl ⟨fun h => by first | exact hr33.f c36 h.2 | exact hr20.f c23 h.1, rfl, rfl⟩⟩, sX.mk hX rfl hp hsn hH hHe h57 h58 h59 hA h61 h62 h63 hZ, hfm⟩)
    · skip
      refine lv_iload_n S.1 S.2.1 dX6_move_26 rfl (lv_at hl 3 rfl) ?_
      refine lv_sipush (v := (-400)) S.1 S.2.1 dX6_move_27 (by decide) ?_
      refine lv_sipush (v := 400) S.1 S.2.1 dX6_move_30 (by decide) ?_
      refine x_si (va_runS (As := [.int b, .int (-400), .int 400]) (rest := []) S (c_X6_isWithin l g E b (-400) 400) (va_cwS 3 S.2.2.2.2 gX6_move_X6_isWithin rfl rfl rfl (by decide +kernel) ⟨Nat.le_of_ble_eq_true rfl, Nat.le_of_ble_eq_true rfl⟩) (x_preS hK hP) rfl rfl hl.1 rfl (lv_room (Nat.le_of_ble_eq_true rfl)) dX6_move_33 ⟨Nat.le_of_ble_eq_true rfl, Nat.le_of_ble_eq_true rfl⟩) (fun r33 hr33 => ?_)
      refine lv_if_ne (tgt := 42) S.1 S.2.1 dX6_move_36 (by decide) (fun c36 => ?_) (fun c36 => ?_)
      · skip
        have hoa := hr20.t c23
        have hob := hr33.t c36
        refine lv_aload_n S.1 S.2.1 dX6_move_42 rfl (lv_at hl 0 rfl) ?_
        refine x_get S hK hP dX6_move_43 hX (by decide) (RX6, TX6, 9) rfl hin6 0 (by decide) fl10 rfl ?_
        refine x_get S hK hP dX6_move_46 hp.2.1 (by decide) (RX2, TX2, 2) rfl hin2 0 (by decide) fl90 rfl ?_
        refine lv_iconst (v := 1) S.1 S.2.1 dX6_move_49 (by decide) ?_
        refine x_row S hK hP dX6_move_50 hp 1 rfl (by omega) ?_
        refine lv_iload_n S.1 S.2.1 dX6_move_51 rfl (lv_at hl 1 rfl) ?_
        refine x_val S hK hP dX6_move_52 hp (w := 1) k rfl (by omega) hk ?_
        refine lv_iload_n S.1 S.2.1 dX6_move_53 rfl (lv_at hl 2 rfl) ?_
        refine lv_icmp_ne (tgt := 75) S.1 S.2.1 dX6_move_54 (by decide) (fun c54 => ?_) (fun c54 => ?_)
        · skip
          refine lv_aload_n S.1 S.2.1 dX6_move_75 rfl (lv_at hl 0 rfl) ?_
          refine x_get S hK hP dX6_move_76 hX (by decide) (RX6, TX6, 9) rfl hin6 3 (by decide) fl22 rfl ?_
          refine lv_aload_n S.1 S.2.1 dX6_move_79 rfl (lv_at hl 0 rfl) ?_
          refine x_get S hK hP dX6_move_80 hX (by decide) (RX6, TX6, 9) rfl hin6 0 (by decide) fl10 rfl ?_
          refine x_qv (va_runV (As := [.ref (xad g 1)]) (rest := []) S (c_X1_record l g hJ E hH hp) (cwV 1 S.2.2.2.2 gX6_move_X1_record rfl rfl rfl (by decide +kernel) ⟨Nat.le_of_ble_eq_true rfl, Nat.le_of_ble_eq_true rfl⟩) (x_preV hK hP hH.2.1 (by decide) rfl) rfl rfl hl.1 rfl (lv_room (Nat.le_of_ble_eq_true rfl)) dX6_move_83 ⟨Nat.le_of_ble_eq_true rfl, Nat.le_of_ble_eq_true rfl⟩) hS (fun E1 H locs hq83 hP hS => ?_)
          obtain ⟨⟨B2, N2, MM2, hH, hHe2⟩, hfr83⟩ := hq83
          have hX := (hfr83 0 (by decide)).trans hX
          have hp := hp.keep (E1 := E1) (fun j g1 g2 => hfr83 j (by omega))
          have hsn := hsn.keep (E1 := E1) (fun j g1 g2 => hfr83 j (by omega))
          have h57 := (hfr83 57 (by decide)).trans h57
          have h58 := (hfr83 58 (by decide)).trans h58
          have h59 := (hfr83 59 (by decide)).trans h59
          have hA := (hfr83 60 (by decide)).trans hA
          have h61 := (hfr83 61 (by decide)).trans h61
          have h62 := (hfr83 62 (by decide)).trans h62
          have h63 := (hfr83 63 (by decide)).trans h63
          have hZ := (hfr83 64 (by decide)).trans hZ
          have hfm : ∀ j, 65 ≤ j → E1 j = E j := fun j hj => (hfr83 j (by omega)).trans (hfm j hj)
          have hHe : ∀ i, i < rcS (zh z) → N2 i = rcV (zh z) (zN z) (zn z) i ∧ MM2 i = rcV (zh z) (zMM z) (zM z) i := fun i hi => rec_eq hHe (hHe2 i hi) hi
          refine lv_aload_n S.1 S.2.1 dX6_move_86 rfl (lv_at hl 0 rfl) ?_
          refine x_get S hK hP dX6_move_87 hX (by decide) (RX6, TX6, 9) rfl hin6 0 (by decide) fl10 rfl ?_
          refine x_get S hK hP dX6_move_90 hp.2.1 (by decide) (RX2, TX2, 2) rfl hin2 0 (by decide) fl90 rfl ?_
          refine lv_iconst (v := 1) S.1 S.2.1 dX6_move_93 (by decide) ?_
          refine x_row S hK hP dX6_move_94 hp 1 rfl (by omega) ?_
          refine lv_iload_n S.1 S.2.1 dX6_move_95 rfl (lv_at hl 1 rfl) ?_
          refine lv_iload_n S.1 S.2.1 dX6_move_96 rfl (lv_at hl 2 rfl) ?_
          refine x_phset S hK hJ hP hS dX6_move_97 hp (w := 1) k rfl (by omega) hk (fun H locs E1_1 hu hnew hP hS => ?_)
          have hX : E1_1 0 = .inr (6, [.ref (xad g 1), .ref (xad g 10), .int (bI (zf z)), .ref (xad g 19), .ref (xad g 57), .ref (xad g 59), .ref (xad g 60), .ref (xad g 61), .ref (xad g 64)]) := (hu _ (by omega)).trans hX
          have hp := hnew
          have hsn : ePh g E1_1 10 (zsn z) (zsM z) := hsn.keep (fun j h1 h2 => hu j (by omega))
          have h57 : E1_1 57 = .inr (4, [.ref (xad g 58), .int (nI (ztl z)), .int p0, .int ta]) := (hu _ (by omega)).trans h57
          have h58 : E1_1 58 = .inl (xC g, 60, .inl (ztf z)) := (hu _ (by omega)).trans h58
          have h59 : E1_1 59 = .inl (xI g, 6, .inl f6) := (hu _ (by omega)).trans h59
          have hA : E1_1 60 = .inr (0, [.ref (xad g 1), .int x1, .int x2, .int x3]) := (hu _ (by omega)).trans hA
          have h61 : E1_1 61 = .inr (5, [.ref (xad g 1), .ref (xad g 60), .ref (xad g 62), .ref (xad g 63)]) := (hu _ (by omega)).trans h61
          have h62 : E1_1 62 = .inl (xI g, 11, .inl f2) := (hu _ (by omega)).trans h62
          have h63 : E1_1 63 = .inl (xI g, 11, .inl f3) := (hu _ (by omega)).trans h63
          have hZ : E1_1 64 = .inr (3, [.ref (xad g 1), .int u1, .int u2, .int u3]) := (hu _ (by omega)).trans hZ
          have hfm : ∀ j, 65 ≤ j → E1_1 j = E j := fun j hj => (hu j (by omega)).trans (hfm j hj)
          have hH := hH.keep (E1 := E1_1) (fun j h1 h2 => hu j (by omega))
          refine lv_aload_n S.1 S.2.1 dX6_move_98 rfl (lv_at hl 0 rfl) ?_
          refine x_get S hK hP dX6_move_99 hX (by decide) (RX6, TX6, 9) rfl hin6 0 (by decide) fl10 rfl ?_
          refine x_get S hK hP dX6_move_102 hp.2.1 (by decide) (RX2, TX2, 2) rfl hin2 0 (by decide) fl90 rfl ?_
          refine lv_iconst (v := 2) S.1 S.2.1 dX6_move_105 (by decide) ?_
          refine x_row S hK hP dX6_move_106 hp 2 rfl (by omega) ?_
          refine lv_iload_n S.1 S.2.1 dX6_move_107 rfl (lv_at hl 1 rfl) ?_
          refine lv_iload_n S.1 S.2.1 dX6_move_108 rfl (lv_at hl 3 rfl) ?_
          refine x_phset S hK hJ hP hS dX6_move_109 hp (w := 2) k rfl (by omega) hk (fun H locs E1_2 hu hnew hP hS => ?_)
          have hX : E1_2 0 = .inr (6, [.ref (xad g 1), .ref (xad g 10), .int (bI (zf z)), .ref (xad g 19), .ref (xad g 57), .ref (xad g 59), .ref (xad g 60), .ref (xad g 61), .ref (xad g 64)]) := (hu _ (by omega)).trans hX
          have hp := hnew
          have hsn : ePh g E1_2 10 (zsn z) (zsM z) := hsn.keep (fun j h1 h2 => hu j (by omega))
          have h57 : E1_2 57 = .inr (4, [.ref (xad g 58), .int (nI (ztl z)), .int p0, .int ta]) := (hu _ (by omega)).trans h57
          have h58 : E1_2 58 = .inl (xC g, 60, .inl (ztf z)) := (hu _ (by omega)).trans h58
          have h59 : E1_2 59 = .inl (xI g, 6, .inl f6) := (hu _ (by omega)).trans h59
          have hA : E1_2 60 = .inr (0, [.ref (xad g 1), .int x1, .int x2, .int x3]) := (hu _ (by omega)).trans hA
          have h61 : E1_2 61 = .inr (5, [.ref (xad g 1), .ref (xad g 60), .ref (xad g 62), .ref (xad g 63)]) := (hu _ (by omega)).trans h61
          have h62 : E1_2 62 = .inl (xI g, 11, .inl f2) := (hu _ (by omega)).trans h62
          have h63 : E1_2 63 = .inl (xI g, 11, .inl f3) := (hu _ (by omega)).trans h63
          have hZ : E1_2 64 = .inr (3, [.ref (xad g 1), .int u1, .int u2, .int u3]) := (hu _ (by omega)).trans hZ
          have hfm : ∀ j, 65 ≤ j → E1_2 j = E j := fun j hj => (hu j (by omega)).trans (hfm j hj)
          have hH := hH.keep (E1 := E1_2) (fun j h1 h2 => hu j (by omega))
          refine lv_aload_n S.1 S.2.1 dX6_move_110 rfl (lv_at hl 0 rfl) ?_
          refine x_qi (va_runV (As := []) (rest := []) S (c_X6_missedByBest l g hJ E1_2 hX hp ((hv1.set (w := 1) (k := k) (x := a) (Or.inl ⟨rfl, (rng_toInt hoa).1, (rng_toInt hoa).2⟩)).set (w := 2) (k := k) (x := b) (Or.inr (Or.inl ⟨rfl, (rng_toInt hob).1, (rng_toInt hob).2⟩))) hA) (cwV 0 S.2.2.2.2 gX6_move_X6_missedByBest rfl rfl rfl (by decide +kernel) ⟨Nat.le_of_ble_eq_true rfl, Nat.le_of_ble_eq_true rfl⟩) (x_preV hK hP hX (by decide) rfl) rfl rfl hl.1 rfl (lv_room (Nat.le_of_ble_eq_true rfl)) dX6_move_111 ⟨Nat.le_of_ble_eq_true rfl, Nat.le_of_ble_eq_true rfl⟩) hS (fun r111 E1_3 H locs hq111 hP hS => ?_)
          obtain ⟨v, hmv, hr111, hfr111, y1, y2, y3, hA⟩ := hq111
          have hX := (hfr111 0 (by decide)).trans hX
          have hp := hp.keep (E1 := E1_3) (fun j g1 g2 => hfr111 j (by omega))
          have hsn := hsn.keep (E1 := E1_3) (fun j g1 g2 => hfr111 j (by omega))
          have h57 := (hfr111 57 (by decide)).trans h57
          have h58 := (hfr111 58 (by decide)).trans h58
          have h59 := (hfr111 59 (by decide)).trans h59
          have h61 := (hfr111 61 (by decide)).trans h61
          have h62 := (hfr111 62 (by decide)).trans h62
          have h63 := (hfr111 63 (by decide)).trans h63
          have hZ := (hfr111 64 (by decide)).trans hZ
          have hfm : ∀ j, 65 ≤ j → E1_3 j = E j := fun j hj => (hfr111 j (by omega)).trans (hfm j hj)
          have hH := hH.keep (E1 := E1_3) (fun j g1 g2 => hfr111 j (by omega))
          subst hr111
          refine x_si (va_runS (As := [.int (nI v)]) (rest := []) S (c_J6_bitCount_0f7a4 l g E1_3 (nI v)) (va_cwS 1 S.2.2.2.2 gX6_move_J6_bitCount_0f7a4 rfl rfl rfl (by decide +kernel) ⟨Nat.le_of_ble_eq_true rfl, Nat.le_of_ble_eq_true rfl⟩) (x_preS hK hP) rfl rfl hl.1 rfl (lv_room (Nat.le_of_ble_eq_true rfl)) dX6_move_114 ⟨Nat.le_of_ble_eq_true rfl, Nat.le_of_ble_eq_true rfl⟩) (fun r114 hr114 => ?_)
          rw [bc_all v (hmv.lt h0.2)] at hr114
          exact x_iret S hr hlocks hP hS dX6_move_117 (⟨_, Or.inr ⟨k, hk, rfl, Or.inr ⟨⟨hoa, hob⟩, Or.inr ⟨fun h => by first | exact c69 h.2 | exact c54 h.1, ⟨v, hmv, hr114⟩, rfl⟩⟩⟩, sX.mk (z := wP (wR z) (zn z) (setM (setM (zM z) 1 k a) 2 k b)) hX rfl hp hsn hH hHe h57 h58 h59 hA h61 h62 h63 hZ, hfm⟩)
        · skip
          refine lv_aload_n S.1 S.2.1 dX6_move_57 rfl (lv_at hl 0 rfl) ?_
          refine x_get S hK hP dX6_move_58 hX (by decide) (RX6, TX6, 9) rfl hin6 0 (by decide) fl10 rfl ?_
          refine x_get S hK hP dX6_move_61 hp.2.1 (by decide) (RX2, TX2, 2) rfl hin2 0 (by decide) fl90 rfl ?_
          refine lv_iconst (v := 2) S.1 S.2.1 dX6_move_64 (by decide) ?_
          refine x_row S hK hP dX6_move_65 hp 2 rfl (by omega) ?_
          refine lv_iload_n S.1 S.2.1 dX6_move_66 rfl (lv_at hl 1 rfl) ?_
          refine x_val S hK hP dX6_move_67 hp (w := 2) k rfl (by omega) hk ?_
          refine lv_iload_n S.1 S.2.1 dX6_move_68 rfl (lv_at hl 3 rfl) ?_
          refine lv_icmp_ne (tgt := 75) S.1 S.2.1 dX6_move_69 (by decide) (fun c69 => ?_) (fun c69 => ?_)
          · skip
            refine lv_aload_n S.1 S.2.1 dX6_move_75 rfl (lv_at hl 0 rfl) ?_
            refine x_get S hK hP dX6_move_76 hX (by decide) (RX6, TX6, 9) rfl hin6 3 (by decide) fl22 rfl ?_
            refine lv_aload_n S.1 S.2.1 dX6_move_79 rfl (lv_at hl 0 rfl) ?_
            refine x_get S hK hP dX6_move_80 hX (by decide) (RX6, TX6, 9) rfl hin6 0 (by decide) fl10 rfl ?_
            refine x_qv (va_runV (As := [.ref (xad g 1)]) (rest := []) S (c_X1_record l g hJ E hH hp) (cwV 1 S.2.2.2.2 gX6_move_X1_record rfl rfl rfl (by decide +kernel) ⟨Nat.le_of_ble_eq_true rfl, Nat.le_of_ble_eq_true rfl⟩) (x_preV hK hP hH.2.1 (by decide) rfl) rfl rfl hl.1 rfl (lv_room (Nat.le_of_ble_eq_true rfl)) dX6_move_83 ⟨Nat.le_of_ble_eq_true rfl, Nat.le_of_ble_eq_true rfl⟩) hS (fun E1_4 H locs hq83 hP hS => ?_)
            obtain ⟨⟨B2, N2, MM2, hH, hHe2⟩, hfr83⟩ := hq83
            have hX := (hfr83 0 (by decide)).trans hX
            have hp := hp.keep (E1 := E1_4) (fun j g1 g2 => hfr83 j (by omega))
            have hsn := hsn.keep (E1 := E1_4) (fun j g1 g2 => hfr83 j (by omega))
            have h57 := (hfr83 57 (by decide)).trans h57
            have h58 := (hfr83 58 (by decide)).trans h58
            have h59 := (hfr83 59 (by decide)).trans h59
            have hA := (hfr83 60 (by decide)).trans hA
            have h61 := (hfr83 61 (by decide)).trans h61
            have h62 := (hfr83 62 (by decide)).trans h62
            have h63 := (hfr83 63 (by decide)).trans h63
            have hZ := (hfr83 64 (by decide)).trans hZ
            have hfm : ∀ j, 65 ≤ j → E1_4 j = E j := fun j hj => (hfr83 j (by omega)).trans (hfm j hj)
            have hHe : ∀ i, i < rcS (zh z) → N2 i = rcV (zh z) (zN z) (zn z) i ∧ MM2 i = rcV (zh z) (zMM z) (zM z) i := fun i hi => rec_eq hHe (hHe2 i hi) hi
            refine lv_aload_n S.1 S.2.1 dX6_move_86 rfl (lv_at hl 0 rfl) ?_
            refine x_get S hK hP dX6_move_87 hX (by decide) (RX6, TX6, 9) rfl hin6 0 (by decide) fl10 rfl ?_
            refine x_get S hK hP dX6_move_90 hp.2.1 (by decide) (RX2, TX2, 2) rfl hin2 0 (by decide) fl90 rfl ?_
            refine lv_iconst (v := 1) S.1 S.2.1 dX6_move_93 (by decide) ?_
            refine x_row S hK hP dX6_move_94 hp 1 rfl (by omega) ?_
            refine lv_iload_n S.1 S.2.1 dX6_move_95 rfl (lv_at hl 1 rfl) ?_
            refine lv_iload_n S.1 S.2.1 dX6_move_96 rfl (lv_at hl 2 rfl) ?_
            refine x_phset S hK hJ hP hS dX6_move_97 hp (w := 1) k rfl (by omega) hk (fun H locs E1_5 hu hnew hP hS => ?_)
            have hX : E1_5 0 = .inr (6, [.ref (xad g 1), .ref (xad g 10), .int (bI (zf z)), .ref (xad g 19), .ref (xad g 57), .ref (xad g 59), .ref (xad g 60), .ref (xad g 61), .ref (xad g 64)]) := (hu _ (by omega)).trans hX
            have hp := hnew
            have hsn : ePh g E1_5 10 (zsn z) (zsM z) := hsn.keep (fun j h1 h2 => hu j (by omega))
            have h57 : E1_5 57 = .inr (4, [.ref (xad g 58), .int (nI (ztl z)), .int p0, .int ta]) := (hu _ (by omega)).trans h57
            have h58 : E1_5 58 = .inl (xC g, 60, .inl (ztf z)) := (hu _ (by omega)).trans h58
            have h59 : E1_5 59 = .inl (xI g, 6, .inl f6) := (hu _ (by omega)).trans h59
            have hA : E1_5 60 = .inr (0, [.ref (xad g 1), .int x1, .int x2, .int x3]) := (hu _ (by omega)).trans hA
            have h61 : E1_5 61 = .inr (5, [.ref (xad g 1), .ref (xad g 60), .ref (xad g 62), .ref (xad g 63)]) := (hu _ (by omega)).trans h61
            have h62 : E1_5 62 = .inl (xI g, 11, .inl f2) := (hu _ (by omega)).trans h62
            have h63 : E1_5 63 = .inl (xI g, 11, .inl f3) := (hu _ (by omega)).trans h63
            have hZ : E1_5 64 = .inr (3, [.ref (xad g 1), .int u1, .int u2, .int u3]) := (hu _ (by omega)).trans hZ
            have hfm : ∀ j, 65 ≤ j → E1_5 j = E j := fun j hj => (hu j (by omega)).trans (hfm j hj)
            have hH := hH.keep (E1 := E1_5) (fun j h1 h2 => hu j (by omega))
            refine lv_aload_n S.1 S.2.1 dX6_move_98 rfl (lv_at hl 0 rfl) ?_
            refine x_get S hK hP dX6_move_99 hX (by decide) (RX6, TX6, 9) rfl hin6 0 (by decide) fl10 rfl ?_
            refine x_get S hK hP dX6_move_102 hp.2.1 (by decide) (RX2, TX2, 2) rfl hin2 0 (by decide) fl90 rfl ?_
            refine lv_iconst (v := 2) S.1 S.2.1 dX6_move_105 (by decide) ?_
            refine x_row S hK hP dX6_move_106 hp 2 rfl (by omega) ?_
            refine lv_iload_n S.1 S.2.1 dX6_move_107 rfl (lv_at hl 1 rfl) ?_
            refine lv_iload_n S.1 S.2.1 dX6_move_108 rfl (lv_at hl 3 rfl) ?_
            refine x_phset S hK hJ hP hS dX6_move_109 hp (w := 2) k rfl (by omega) hk (fun H locs E1_6 hu hnew hP hS => ?_)
            have hX : E1_6 0 = .inr (6, [.ref (xad g 1), .ref (xad g 10), .int (bI (zf z)), .ref (xad g 19), .ref (xad g 57), .ref (xad g 59), .ref (xad g 60), .ref (xad g 61), .ref (xad g 64)]) := (hu _ (by omega)).trans hX
            have hp := hnew
            have hsn : ePh g E1_6 10 (zsn z) (zsM z) := hsn.keep (fun j h1 h2 => hu j (by omega))
            have h57 : E1_6 57 = .inr (4, [.ref (xad g 58), .int (nI (ztl z)), .int p0, .int ta]) := (hu _ (by omega)).trans h57
            have h58 : E1_6 58 = .inl (xC g, 60, .inl (ztf z)) := (hu _ (by omega)).trans h58
            have h59 : E1_6 59 = .inl (xI g, 6, .inl f6) := (hu _ (by omega)).trans h59
            have hA : E1_6 60 = .inr (0, [.ref (xad g 1), .int x1, .int x2, .int x3]) := (hu _ (by omega)).trans hA
            have h61 : E1_6 61 = .inr (5, [.ref (xad g 1), .ref (xad g 60), .ref (xad g 62), .ref (xad g 63)]) := (hu _ (by omega)).trans h61
            have h62 : E1_6 62 = .inl (xI g, 11, .inl f2) := (hu _ (by omega)).trans h62
            have h63 : E1_6 63 = .inl (xI g, 11, .inl f3) := (hu _ (by omega)).trans h63
            have hZ : E1_6 64 = .inr (3, [.ref (xad g 1), .int u1, .int u2, .int u3]) := (hu _ (by omega)).trans hZ
            have hfm : ∀ j, 65 ≤ j → E1_6 j = E j := fun j hj => (hu j (by omega)).trans (hfm j hj)
            have hH := hH.keep (E1 := E1_6) (fun j h1 h2 => hu j (by omega))
            refine lv_aload_n S.1 S.2.1 dX6_move_110 rfl (lv_at hl 0 rfl) ?_
            refine x_qi (va_runV (As := []) (rest := []) S (c_X6_missedByBest l g hJ E1_6 hX hp ((hv1.set (w := 1) (k := k) (x := a) (Or.inl ⟨rfl, (rng_toInt hoa).1, (rng_toInt hoa).2⟩)).set (w := 2) (k := k) (x := b) (Or.inr (Or.inl ⟨rfl, (rng_toInt hob).1, (rng_toInt hob).2⟩))) hA) (cwV 0 S.2.2.2.2 gX6_move_X6_missedByBest rfl rfl rfl (by decide +kernel) ⟨Nat.le_of_ble_eq_true rfl, Nat.le_of_ble_eq_true rfl⟩) (x_preV hK hP hX (by decide) rfl) rfl rfl hl.1 rfl (lv_room (Nat.le_of_ble_eq_true rfl)) dX6_move_111 ⟨Nat.le_of_ble_eq_true rfl, Nat.le_of_ble_eq_true rfl⟩) hS (fun r111 E1_7 H locs hq111 hP hS => ?_)
            obtain ⟨v, hmv, hr111, hfr111, y1, y2, y3, hA⟩ := hq111
            have hX := (hfr111 0 (by decide)).trans hX
            have hp := hp.keep (E1 := E1_7) (fun j g1 g2 => hfr111 j (by omega))
            have hsn := hsn.keep (E1 := E1_7) (fun j g1 g2 => hfr111 j (by omega))
            have h57 := (hfr111 57 (by decide)).trans h57
            have h58 := (hfr111 58 (by decide)).trans h58
            have h59 := (hfr111 59 (by decide)).trans h59
            have h61 := (hfr111 61 (by decide)).trans h61
            have h62 := (hfr111 62 (by decide)).trans h62
            have h63 := (hfr111 63 (by decide)).trans h63
            have hZ := (hfr111 64 (by decide)).trans hZ
            have hfm : ∀ j, 65 ≤ j → E1_7 j = E j := fun j hj => (hfr111 j (by omega)).trans (hfm j hj)
            have hH := hH.keep (E1 := E1_7) (fun j g1 g2 => hfr111 j (by omega))
            subst hr111
            refine x_si (va_runS (As := [.int (nI v)]) (rest := []) S (c_J6_bitCount_0f7a4 l g E1_7 (nI v)) (va_cwS 1 S.2.2.2.2 gX6_move_J6_bitCount_0f7a4 rfl rfl rfl (by decide +kernel) ⟨Nat.le_of_ble_eq_true rfl, Nat.le_of_ble_eq_true rfl⟩) (x_preS hK hP) rfl rfl hl.1 rfl (lv_room (Nat.le_of_ble_eq_true rfl)) dX6_move_114 ⟨Nat.le_of_ble_eq_true rfl, Nat.le_of_ble_eq_true rfl⟩) (fun r114 hr114 => ?_)
            rw [bc_all v (hmv.lt h0.2)] at hr114
            exact x_iret S hr hlocks hP hS dX6_move_117 (⟨_, Or.inr ⟨k, hk, rfl, Or.inr ⟨⟨hoa, hob⟩, Or.inr ⟨fun h => by first | exact c69 h.2 | exact c54 h.1, ⟨v, hmv, hr114⟩, rfl⟩⟩⟩, sX.mk (z := wP (wR z) (zn z) (setM (setM (zM z) 1 k a) 2 k b)) hX rfl hp hsn hH hHe h57 h58 h59 hA h61 h62 h63 hZ, hfm⟩)
          · skip
            refine lv_bipush (v := (-5)) S.1 S.2.1 dX6_move_72 (by decide) ?_
            exact x_iret S hr hlocks hP hS dX6_move_74 (⟨z, Or.inr ⟨k, hk, rfl, Or.inr ⟨⟨hoa, hob⟩, Or.inl ⟨⟨c54, c69⟩, rfl, rfl⟩⟩⟩, sX.mk hX rfl hp hsn hH hHe h57 h58 h59 hA h61 h62 h63 hZ, hfm⟩)
      · skip
        refine lv_bipush (v := (-2)) S.1 S.2.1 dX6_move_39 (by decide) ?_
        exact x_iret S hr hlocks hP hS dX6_move_41 (⟨z, Or.inr ⟨k, hk, rfl, Or.inl ⟨fun h => by first | exact hr33.f c36 h.2 | exact hr20.f c23 h.1, rfl, rfl⟩⟩, sX.mk hX rfl hp hsn hH hHe h57 h58 h59 hA h61 h62 h63 hZ, hfm⟩)
  · skip
    refine lv_iconst (v := (-1)) S.1 S.2.1 dX6_move_11 (by decide) ?_
    exact x_iret S hr hlocks hP hS dX6_move_12 (⟨z, Or.inl ⟨hr5.f c8, rfl, rfl⟩, sX.mk hX rfl hp hsn hH hHe h57 h58 h59 hA h61 h62 h63 hZ, hfm⟩)
def sp_setAside (z : xS) (x : Int32) (b : Bool) (r : Int32) (z' : xS) : Prop := (¬ held (zn z) x ∧ r = -1 ∧ z' = z) ∨ ∃ k, k < zn z ∧ x = nI k ∧ ((¬ pU (zM z) k = b ∧ r = -5 ∧ z' = z) ∨ (pU (zM z) k = b ∧ r = nI (cnt (pU (setM (zM z) 6 k (bI b))) (zn z)) ∧ z' = wP (wR z) (zn z) (setM (zM z) 6 k (bI b))))
theorem xb_bI {b b' : Bool} {r : Int32} (h : xb (b' = true) r) : r = bI b ↔ b' = b := by
  cases b' <;> cases b
  · exact ⟨fun _ => rfl, fun _ => (h.eq (xb.zero (by simp)))⟩
  · exact ⟨fun e => by rw [e] at h; exact absurd (h.t (by decide)) (by simp), fun e => by cases e⟩
  · exact ⟨fun e => by rw [e] at h; exact absurd rfl (h.f rfl), fun e => by cases e⟩
  · exact ⟨fun _ => rfl, fun _ => (h.eq (xb.one rfl))⟩
set_option maxHeartbeats 4000000 in
set_option maxRecDepth 100000 in
theorem c_X6_setAside (l : Launch) (g : xG) (hJ : xJ (xad g)) (E : Nat → va_E) {z : xS} (hz : sX g E z) (hv : vS z) (x : Int32) (b : Bool) : Met l yX6_setAside wsX6_setAside ({ frames := 3, cells := 0, slots := 0, locals := 103 }) (xPc g [.ref (xad g 0), .int x, .int (bI b)] E) (xQi g (fun r E1 => ∃ z1, sp_setAside z x b r z1 ∧ sX g E1 z1 ∧ ∀ j, 65 ≤ j → E1 j = E j)) 0 0 (xA (xad g)) := by
  refine x_met (ws' := _) (by decide) rfl (Nat.le_of_ble_eq_true rfl) ?_
  intro pz ez s m below meth cz ls S hr hlocks hP hK hl
  have hl : lv_has ls 3 [(0, .ref (xad g 0)), (1, .int x), (2, .int (bI b))] := hl
  have hS : va_S (xA (xad g)) s.heap s.heap [] := va_S.rf
  have hin2 : ∀ w ∈ u_ws RX2 TX2 2, w ∈ wsX6_setAside := by decide +kernel
  have hin6 : ∀ w ∈ u_ws RX6 TX6 9, w ∈ wsX6_setAside := by decide +kernel
  have fl10 : Cond.fieldLink RX6 10 "DiscArcs" "photos" "LDiscArcs$Photos;" ∈ wsX6_setAside := by decide +kernel
  have fl22 : Cond.fieldLink RX6 22 "DiscArcs" "history" "LDiscArcs$History;" ∈ wsX6_setAside := by decide +kernel
  have fl90 : Cond.fieldLink RX6 90 "DiscArcs$Photos" "rows" "[[I" ∈ wsX6_setAside := by decide +kernel
  obtain ⟨hX, hp, hsn, ⟨B, N, MM, hH, hHe⟩, ⟨p0, ta, h57⟩, h58, ⟨f6, h59⟩, ⟨x1, x2, x3, hA⟩, h61, ⟨f2, h62⟩, ⟨f3, h63⟩, u1, u2, u3, hZ⟩ := hz
  have h0 := hp.1
  have hv1 := hv.1.2
  have hfm : ∀ j, 65 ≤ j → E j = E j := fun _ _ => rfl
  refine lv_aload_n S.1 S.2.1 dX6_setAside_0 rfl (lv_at hl 0 rfl) ?_
  refine x_get S hK hP dX6_setAside_1 hX (by decide) (RX6, TX6, 9) rfl hin6 0 (by decide) fl10 rfl ?_
  refine lv_iload_n S.1 S.2.1 dX6_setAside_4 rfl (lv_at hl 1 rfl) ?_
  refine x_si (va_runV (As := [.int x]) (rest := []) S (c_X2_holds l g E hp x) (cwV 1 S.2.2.2.2 gX6_setAside_X2_holds rfl rfl rfl (by decide +kernel) ⟨Nat.le_of_ble_eq_true rfl, Nat.le_of_ble_eq_true rfl⟩) (x_preV hK hP hp.2.1 (by decide) rfl) rfl rfl hl.1 rfl (lv_room (Nat.le_of_ble_eq_true rfl)) dX6_setAside_5 ⟨Nat.le_of_ble_eq_true rfl, Nat.le_of_ble_eq_true rfl⟩) (fun r5 hr5 => ?_)
  refine lv_if_ne (tgt := 13) S.1 S.2.1 dX6_setAside_8 (by decide) (fun c8 => ?_) (fun c8 => ?_)
  · skip
    obtain ⟨k, hk, rfl⟩ := hr5.t c8
    refine lv_aload_n S.1 S.2.1 dX6_setAside_13 rfl (lv_at hl 0 rfl) ?_
    refine x_get S hK hP dX6_setAside_14 hX (by decide) (RX6, TX6, 9) rfl hin6 0 (by decide) fl10 rfl ?_
    refine lv_iload_n S.1 S.2.1 dX6_setAside_17 rfl (lv_at hl 1 rfl) ?_
    refine x_si (va_runV (As := [.int (nI k)]) (rest := []) S (c_X2_isUsable l g E hp hk) (cwV 1 S.2.2.2.2 gX6_setAside_X2_isUsable rfl rfl rfl (by decide +kernel) ⟨Nat.le_of_ble_eq_true rfl, Nat.le_of_ble_eq_true rfl⟩) (x_preV hK hP hp.2.1 (by decide) rfl) rfl rfl hl.1 rfl (lv_room (Nat.le_of_ble_eq_true rfl)) dX6_setAside_18 ⟨Nat.le_of_ble_eq_true rfl, Nat.le_of_ble_eq_true rfl⟩) (fun r18 hr18 => ?_)
    refine lv_iload_n S.1 S.2.1 dX6_setAside_21 rfl (lv_at hl 2 rfl) ?_
    refine lv_icmp_eq (tgt := 28) S.1 S.2.1 dX6_setAside_22 (by decide) (fun c22 => ?_) (fun c22 => ?_)
    · skip
      refine lv_aload_n S.1 S.2.1 dX6_setAside_28 rfl (lv_at hl 0 rfl) ?_
      refine x_get S hK hP dX6_setAside_29 hX (by decide) (RX6, TX6, 9) rfl hin6 3 (by decide) fl22 rfl ?_
      refine lv_aload_n S.1 S.2.1 dX6_setAside_32 rfl (lv_at hl 0 rfl) ?_
      refine x_get S hK hP dX6_setAside_33 hX (by decide) (RX6, TX6, 9) rfl hin6 0 (by decide) fl10 rfl ?_
      refine x_qv (va_runV (As := [.ref (xad g 1)]) (rest := []) S (c_X1_record l g hJ E hH hp) (cwV 1 S.2.2.2.2 gX6_setAside_X1_record rfl rfl rfl (by decide +kernel) ⟨Nat.le_of_ble_eq_true rfl, Nat.le_of_ble_eq_true rfl⟩) (x_preV hK hP hH.2.1 (by decide) rfl) rfl rfl hl.1 rfl (lv_room (Nat.le_of_ble_eq_true rfl)) dX6_setAside_36 ⟨Nat.le_of_ble_eq_true rfl, Nat.le_of_ble_eq_true rfl⟩) hS (fun E1 H locs hq36 hP hS => ?_)
      obtain ⟨⟨B2, N2, MM2, hH, hHe2⟩, hfr36⟩ := hq36
      have hX := (hfr36 0 (by decide)).trans hX
      have hp := hp.keep (E1 := E1) (fun j g1 g2 => hfr36 j (by omega))
      have hsn := hsn.keep (E1 := E1) (fun j g1 g2 => hfr36 j (by omega))
      have h57 := (hfr36 57 (by decide)).trans h57
      have h58 := (hfr36 58 (by decide)).trans h58
      have h59 := (hfr36 59 (by decide)).trans h59
      have hA := (hfr36 60 (by decide)).trans hA
      have h61 := (hfr36 61 (by decide)).trans h61
      have h62 := (hfr36 62 (by decide)).trans h62
      have h63 := (hfr36 63 (by decide)).trans h63
      have hZ := (hfr36 64 (by decide)).trans hZ
      have hfm : ∀ j, 65 ≤ j → E1 j = E j := fun j hj => (hfr36 j (by omega)).trans (hfm j hj)
      have hHe : ∀ i, i < rcS (zh z) → N2 i = rcV (zh z) (zN z) (zn z) i ∧ MM2 i = rcV (zh z) (zMM z) (zM z) i := fun i hi => rec_eq hHe (hHe2 i hi) hi
      refine lv_aload_n S.1 S.2.1 dX6_setAside_39 rfl (lv_at hl 0 rfl) ?_
      refine x_get S hK hP dX6_setAside_40 hX (by decide) (RX6, TX6, 9) rfl hin6 0 (by decide) fl10 rfl ?_
      refine x_get S hK hP dX6_setAside_43 hp.2.1 (by decide) (RX2, TX2, 2) rfl hin2 0 (by decide) fl90 rfl ?_
      refine lv_bipush (v := 6) S.1 S.2.1 dX6_setAside_46 (by decide) ?_
      refine x_row S hK hP dX6_setAside_48 hp 6 rfl (by omega) ?_
      refine lv_iload_n S.1 S.2.1 dX6_setAside_49 rfl (lv_at hl 1 rfl) ?_
      refine lv_iload_n S.1 S.2.1 dX6_setAside_50 rfl (lv_at hl 2 rfl) ?_
      refine lv_if_eq (tgt := 58) S.1 S.2.1 dX6_setAside_51 (by decide) (fun c51 => ?_) (fun c51 => ?_)
      · skip
        refine lv_iconst (v := 0) S.1 S.2.1 dX6_setAside_58 (by decide) ?_
        refine W.eq (g2 := F0 m 59 ls [.int (bI b), .int (nI k), .ref (xad g (1 + 2 + 6))]) (by rw [show bI b = 0 by exact c51]) ?_
        refine x_phset S hK hJ hP hS dX6_setAside_59 hp (w := 6) k rfl (by omega) hk (fun H locs E1_1 hu hnew hP hS => ?_)
        have hX : E1_1 0 = .inr (6, [.ref (xad g 1), .ref (xad g 10), .int (bI (zf z)), .ref (xad g 19), .ref (xad g 57), .ref (xad g 59), .ref (xad g 60), .ref (xad g 61), .ref (xad g 64)]) := (hu _ (by omega)).trans hX
        have hp := hnew
        have hsn : ePh g E1_1 10 (zsn z) (zsM z) := hsn.keep (fun j h1 h2 => hu j (by omega))
        have h57 : E1_1 57 = .inr (4, [.ref (xad g 58), .int (nI (ztl z)), .int p0, .int ta]) := (hu _ (by omega)).trans h57
        have h58 : E1_1 58 = .inl (xC g, 60, .inl (ztf z)) := (hu _ (by omega)).trans h58
        have h59 : E1_1 59 = .inl (xI g, 6, .inl f6) := (hu _ (by omega)).trans h59
        have hA : E1_1 60 = .inr (0, [.ref (xad g 1), .int x1, .int x2, .int x3]) := (hu _ (by omega)).trans hA
        have h61 : E1_1 61 = .inr (5, [.ref (xad g 1), .ref (xad g 60), .ref (xad g 62), .ref (xad g 63)]) := (hu _ (by omega)).trans h61
        have h62 : E1_1 62 = .inl (xI g, 11, .inl f2) := (hu _ (by omega)).trans h62
        have h63 : E1_1 63 = .inl (xI g, 11, .inl f3) := (hu _ (by omega)).trans h63
        have hZ : E1_1 64 = .inr (3, [.ref (xad g 1), .int u1, .int u2, .int u3]) := (hu _ (by omega)).trans hZ
        have hfm : ∀ j, 65 ≤ j → E1_1 j = E j := fun j hj => (hu j (by omega)).trans (hfm j hj)
        have hH := hH.keep (E1 := E1_1) (fun j h1 h2 => hu j (by omega))
        refine lv_aload_n S.1 S.2.1 dX6_setAside_60 rfl (lv_at hl 0 rfl) ?_
        refine x_get S hK hP dX6_setAside_61 hX (by decide) (RX6, TX6, 9) rfl hin6 0 (by decide) fl10 rfl ?_
        refine x_si (va_runV (As := []) (rest := []) S (c_X2_usable l g E1_1 hp) (cwV 0 S.2.2.2.2 gX6_setAside_X2_usable rfl rfl rfl (by decide +kernel) ⟨Nat.le_of_ble_eq_true rfl, Nat.le_of_ble_eq_true rfl⟩) (x_preV hK hP hp.2.1 (by decide) rfl) rfl rfl hl.1 rfl (lv_room (Nat.le_of_ble_eq_true rfl)) dX6_setAside_64 ⟨Nat.le_of_ble_eq_true rfl, Nat.le_of_ble_eq_true rfl⟩) (fun r64 hr64 => ?_)
        subst hr64
        refine x_si (va_runS (As := [.int (nI (mk (pU (setM (zM z) 6 k (bI b))) (zn z)))]) (rest := []) S (c_J6_bitCount_0f7a4 l g E1_1 (nI (mk (pU (setM (zM z) 6 k (bI b))) (zn z)))) (va_cwS 1 S.2.2.2.2 gX6_setAside_J6_bitCount_0f7a4 rfl rfl rfl (by decide +kernel) ⟨Nat.le_of_ble_eq_true rfl, Nat.le_of_ble_eq_true rfl⟩) (x_preS hK hP) rfl rfl hl.1 rfl (lv_room (Nat.le_of_ble_eq_true rfl)) dX6_setAside_67 ⟨Nat.le_of_ble_eq_true rfl, Nat.le_of_ble_eq_true rfl⟩) (fun r67 hr67 => ?_)
        rw [bc_mk h0.2] at hr67
        exact x_iret S hr hlocks hP hS dX6_setAside_70 (⟨_, Or.inr ⟨k, hk, rfl, Or.inr ⟨(xb_bI hr18).mp c22, hr67, rfl⟩⟩, sX.mk (z := wP (wR z) (zn z) (setM (zM z) 6 k (bI b))) hX rfl hp hsn hH hHe h57 h58 h59 hA h61 h62 h63 hZ, hfm⟩)
      · skip
        refine lv_iconst (v := 1) S.1 S.2.1 dX6_setAside_54 (by decide) ?_
        refine lv_goto (tgt := 59) S.1 S.2.1 dX6_setAside_55 (by decide) ?_
        refine W.eq (g2 := F0 m 59 ls [.int (bI b), .int (nI k), .ref (xad g (1 + 2 + 6))]) (by rw [show bI b = 1 by rcases h9 : b with _ | _; exact absurd (by rw [h9]; rfl) c51; rfl]) ?_
        refine x_phset S hK hJ hP hS dX6_setAside_59 hp (w := 6) k rfl (by omega) hk (fun H locs E1_2 hu hnew hP hS => ?_)
        have hX : E1_2 0 = .inr (6, [.ref (xad g 1), .ref (xad g 10), .int (bI (zf z)), .ref (xad g 19), .ref (xad g 57), .ref (xad g 59), .ref (xad g 60), .ref (xad g 61), .ref (xad g 64)]) := (hu _ (by omega)).trans hX
        have hp := hnew
        have hsn : ePh g E1_2 10 (zsn z) (zsM z) := hsn.keep (fun j h1 h2 => hu j (by omega))
        have h57 : E1_2 57 = .inr (4, [.ref (xad g 58), .int (nI (ztl z)), .int p0, .int ta]) := (hu _ (by omega)).trans h57
        have h58 : E1_2 58 = .inl (xC g, 60, .inl (ztf z)) := (hu _ (by omega)).trans h58
        have h59 : E1_2 59 = .inl (xI g, 6, .inl f6) := (hu _ (by omega)).trans h59
        have hA : E1_2 60 = .inr (0, [.ref (xad g 1), .int x1, .int x2, .int x3]) := (hu _ (by omega)).trans hA
        have h61 : E1_2 61 = .inr (5, [.ref (xad g 1), .ref (xad g 60), .ref (xad g 62), .ref (xad g 63)]) := (hu _ (by omega)).trans h61
        have h62 : E1_2 62 = .inl (xI g, 11, .inl f2) := (hu _ (by omega)).trans h62
        have h63 : E1_2 63 = .inl (xI g, 11, .inl f3) := (hu _ (by omega)).trans h63
        have hZ : E1_2 64 = .inr (3, [.ref (xad g 1), .int u1, .int u2, .int u3]) := (hu _ (by omega)).trans hZ
        have hfm : ∀ j, 65 ≤ j → E1_2 j = E j := fun j hj => (hu j (by omega)).trans (hfm j hj)
        have hH := hH.keep (E1 := E1_2) (fun j h1 h2 => hu j (by omega))
        refine lv_aload_n S.1 S.2.1 dX6_setAside_60 rfl (lv_at hl 0 rfl) ?_
        refine x_get S hK hP dX6_setAside_61 hX (by decide) (RX6, TX6, 9) rfl hin6 0 (by decide) fl10 rfl ?_
        refine x_si (va_runV (As := []) (rest := []) S (c_X2_usable l g E1_2 hp) (cwV 0 S.2.2.2.2 gX6_setAside_X2_usable rfl rfl rfl (by decide +kernel) ⟨Nat.le_of_ble_eq_true rfl, Nat.le_of_ble_eq_true rfl⟩) (x_preV hK hP hp.2.1 (by decide) rfl) rfl rfl hl.1 rfl (lv_room (Nat.le_of_ble_eq_true rfl)) dX6_setAside_64 ⟨Nat.le_of_ble_eq_true rfl, Nat.le_of_ble_eq_true rfl⟩) (fun r64 hr64 => ?_)
        subst hr64
        refine x_si (va_runS (As := [.int (nI (mk (pU (setM (zM z) 6 k (bI b))) (zn z)))]) (rest := []) S (c_J6_bitCount_0f7a4 l g E1_2 (nI (mk (pU (setM (zM z) 6 k (bI b))) (zn z)))) (va_cwS 1 S.2.2.2.2 gX6_setAside_J6_bitCount_0f7a4 rfl rfl rfl (by decide +kernel) ⟨Nat.le_of_ble_eq_true rfl, Nat.le_of_ble_eq_true rfl⟩) (x_preS hK hP) rfl rfl hl.1 rfl (lv_room (Nat.le_of_ble_eq_true rfl)) dX6_setAside_67 ⟨Nat.le_of_ble_eq_true rfl, Nat.le_of_ble_eq_true rfl⟩) (fun r67 hr67 => ?_)
        rw [bc_mk h0.2] at hr67
        exact x_iret S hr hlocks hP hS dX6_setAside_70 (⟨_, Or.inr ⟨k, hk, rfl, Or.inr ⟨(xb_bI hr18).mp c22, hr67, rfl⟩⟩, sX.mk (z := wP (wR z) (zn z) (setM (zM z) 6 k (bI b))) hX rfl hp hsn hH hHe h57 h58 h59 hA h61 h62 h63 hZ, hfm⟩)
    · skip
      refine lv_bipush (v := (-5)) S.1 S.2.1 dX6_setAside_25 (by decide) ?_
      exact x_iret S hr hlocks hP hS dX6_setAside_27 (⟨z, Or.inr ⟨k, hk, rfl, Or.inl ⟨fun h => c22 ((xb_bI hr18).mpr h), rfl, rfl⟩⟩, sX.mk hX rfl hp hsn hH hHe h57 h58 h59 hA h61 h62 h63 hZ, hfm⟩)
  · skip
    refine lv_iconst (v := (-1)) S.1 S.2.1 dX6_setAside_11 (by decide) ?_
    exact x_iret S hr hlocks hP hS dX6_setAside_12 (⟨z, Or.inl ⟨hr5.f c8, rfl, rfl⟩, sX.mk hX rfl hp hsn hH hHe h57 h58 h59 hA h61 h62 h63 hZ, hfm⟩)
/-! SPIN.search; DISCARCS: the other acts -/
theorem mk_no {P : Nat → Bool} {n : Nat} (h : mk P n = 0) {k : Nat} (hk : k < n) : ¬ P k = true := by
  intro hp
  have h1 := mk_tb P n k
  rw [h, hp] at h1
  simp [hk] at h1
theorem mk_ex {P : Nat → Bool} {n : Nat} (h : ¬ mk P n = 0) : ∃ k, k < n ∧ P k = true := by
  refine Classical.byContradiction fun hno => h ?_
  rw [← mk_0 (n := n)]
  refine mk_congr fun i hi => ?_
  cases hp : P i
  · rfl
  · exact absurd ⟨i, hi, hp⟩ hno
theorem ordT_p {i : Nat} (h1 : 1 ≤ i) (h2 : i ≤ 180) : ordT (nI i).toInt = 2 * (i : Int) - 1 := by
  rw [nI_Z (by omega)]
  unfold ordT
  rw [if_pos (by omega)]
theorem nI_negZ {i : Nat} (h2 : i ≤ 180) : (-(nI i)).toInt = -(i : Int) := by
  rw [I_neg (by rw [nI_Z (by omega)]; omega), nI_Z (by omega)]
theorem ordT_n {i : Nat} (h2 : i ≤ 180) : ordT (-(nI i)).toInt = 2 * (i : Int) := by
  rw [nI_negZ h2]
  unfold ordT
  rw [if_neg (by omega)]
  omega
set_option maxHeartbeats 4000000 in
set_option maxRecDepth 100000 in
/-- Spin.search -/
theorem c_X3_search (l : Launch) (g : xG) (hJ : xJ (xad g)) (E : Nat → va_E) {u1 u2 u3 : Int32} (hZ : E 64 = .inr (3, [.ref (xad g 1), .int u1, .int u2, .int u3])) {n : Nat} {M : Nat → Nat → Int32} (hp : ePh g E 1 n M) (hv : vld n M) : Met l yX3_search wsX3_search ({ frames := 6, cells := 0, slots := 0, locals := 142 }) (xPc g [.ref (xad g 64)] E) (xQi g (fun r E1 => (∀ j, j ≠ 64 → E1 j = E j) ∧ ((r = 0 ∧ (∀ k, k < n → ¬ pK M k = true) ∧ ∃ a b c : Int32, E1 64 = .inr (3, [.ref (xad g 1), .int a, .int b, .int c])) ∨ (r = 1 ∧ (∃ k, k < n ∧ pK M k = true) ∧ ∃ T B : Int32, isSpin M n T.toInt B.toInt ∧ E1 64 = .inr (3, [.ref (xad g 1), .int T, .int B, .int (nI (mk (pF M T.toInt B.toInt) n))]))))) 0 0 (xA (xad g)) := by
  refine x_met (ws' := _) (by decide) rfl (Nat.le_of_ble_eq_true rfl) ?_
  intro pz ez s m below meth cz ls S hr hlocks hP hK hl
  have hl : lv_has ls 3 [(0, .ref (xad g 64))] := hl
  have hS : va_S (xA (xad g)) s.heap s.heap [] := va_S.rf
  have hin3 : ∀ w ∈ u_ws RX3 TX3 4, w ∈ wsX3_search := by decide +kernel
  have fl9 : Cond.fieldLink RX3 9 "DiscArcs$Spin" "photos" "LDiscArcs$Photos;" ∈ wsX3_search := by decide +kernel
  have fl50 : Cond.fieldLink RX3 50 "DiscArcs$Spin" "turn" "I" ∈ wsX3_search := by decide +kernel
  have fl53 : Cond.fieldLink RX3 53 "DiscArcs$Spin" "beginning" "I" ∈ wsX3_search := by decide +kernel
  have fl56 : Cond.fieldLink RX3 56 "DiscArcs$Spin" "fitted" "I" ∈ wsX3_search := by decide +kernel
  have h0 := hp.1
  have hfr : ∀ j, j ≠ 64 → E j = E j := fun _ _ => rfl
  refine lv_aload_n S.1 S.2.1 dX3_search_0 rfl (lv_at hl 0 rfl) ?_
  refine lv_iconst (v := 0) S.1 S.2.1 dX3_search_1 (by decide) ?_
  refine x_put S hK hJ hP hS dX3_search_2 hZ (by decide) (RX3, TX3, 4) rfl hin3 tyX3 tyX3_ok nmX3 1 (by decide) fl50 rfl rfl rfl (Nat.le_of_ble_eq_true rfl) (fun H locs E1 hu hP hS => ?_)
  have hZ : E1 64 = .inr (3, [.ref (xad g 1), .int 0, .int u2, .int u3]) := hu.1
  have hp : ePh g E1 1 n M := hp.keep (fun j h1 h2 => hu.2 j (by omega))
  have hfr : ∀ j, j ≠ 64 → E1 j = E j := fun j hj => (hu.2 j (by omega)).trans (hfr j hj)
  refine lv_aload_n S.1 S.2.1 dX3_search_5 rfl (lv_at hl 0 rfl) ?_
  refine lv_iconst (v := 0) S.1 S.2.1 dX3_search_6 (by decide) ?_
  refine x_put S hK hJ hP hS dX3_search_7 hZ (by decide) (RX3, TX3, 4) rfl hin3 tyX3 tyX3_ok nmX3 2 (by decide) fl53 rfl rfl rfl (Nat.le_of_ble_eq_true rfl) (fun H locs E1_1 hu hP hS => ?_)
  have hZ : E1_1 64 = .inr (3, [.ref (xad g 1), .int 0, .int 0, .int u3]) := hu.1
  have hp : ePh g E1_1 1 n M := hp.keep (fun j h1 h2 => hu.2 j (by omega))
  have hfr : ∀ j, j ≠ 64 → E1_1 j = E j := fun j hj => (hu.2 j (by omega)).trans (hfr j hj)
  refine lv_aload_n S.1 S.2.1 dX3_search_10 rfl (lv_at hl 0 rfl) ?_
  refine lv_iconst (v := 0) S.1 S.2.1 dX3_search_11 (by decide) ?_
  refine x_put S hK hJ hP hS dX3_search_12 hZ (by decide) (RX3, TX3, 4) rfl hin3 tyX3 tyX3_ok nmX3 3 (by decide) fl56 rfl rfl rfl (Nat.le_of_ble_eq_true rfl) (fun H locs E1_2 hu hP hS => ?_)
  have hZ : E1_2 64 = .inr (3, [.ref (xad g 1), .int 0, .int 0, .int 0]) := hu.1
  have hp : ePh g E1_2 1 n M := hp.keep (fun j h1 h2 => hu.2 j (by omega))
  have hfr : ∀ j, j ≠ 64 → E1_2 j = E j := fun j hj => (hu.2 j (by omega)).trans (hfr j hj)
  refine lv_aload_n S.1 S.2.1 dX3_search_15 rfl (lv_at hl 0 rfl) ?_
  refine x_get S hK hP dX3_search_16 hZ (by decide) (RX3, TX3, 4) rfl hin3 0 (by decide) fl9 rfl ?_
  refine x_si (va_runV (As := []) (rest := []) S (c_X2_marked l g E1_2 hp) (cwV 0 S.2.2.2.2 gX3_search_X2_marked rfl rfl rfl (by decide +kernel) ⟨Nat.le_of_ble_eq_true rfl, Nat.le_of_ble_eq_true rfl⟩) (x_preV hK hP hp.2.1 (by decide) rfl) rfl rfl hl.1 rfl (lv_room (Nat.le_of_ble_eq_true rfl)) dX3_search_19 ⟨Nat.le_of_ble_eq_true rfl, Nat.le_of_ble_eq_true rfl⟩) (fun r19 hr19 => ?_)
  refine lv_istore_n (lv' := [(1, .int r19), (0, .ref (xad g 64))]) S.1 S.2.1 dX3_search_22 rfl hl (by decide) rfl (fun ls hl => ?_)
  refine lv_iload_n S.1 S.2.1 dX3_search_23 rfl (lv_at hl 0 rfl) ?_
  refine lv_if_ne (tgt := 29) S.1 S.2.1 dX3_search_24 (by decide) (fun c24 => ?_) (fun c24 => ?_)
  · skip
    have hZ : E1_2 64 = .inr (3, [.ref (xad g 1), .int 0, .int 0, .int (nI (mk (fun _ => false) n))]) := by rw [mk_0]; exact hZ
    refine lv_aload_n S.1 S.2.1 dX3_search_29 rfl (lv_at hl 1 rfl) ?_
    refine lv_iconst (v := 0) S.1 S.2.1 dX3_search_30 (by decide) ?_
    refine x_qv (va_runV (As := [.int 0]) (rest := []) S (c_X3_tryTurn l g hJ E1_2 hZ hp hv (t := 0) (PF := fun _ => false) (by decide) (Or.inl ⟨by decide, by decide, by decide, rfl⟩)) (cwV 1 S.2.2.2.2 gX3_search_X3_tryTurn rfl rfl rfl (by decide +kernel) ⟨Nat.le_of_ble_eq_true rfl, Nat.le_of_ble_eq_true rfl⟩) (x_preV hK hP hZ (by decide) rfl) rfl rfl hl.1 rfl (lv_room (Nat.le_of_ble_eq_true rfl)) dX3_search_31 ⟨Nat.le_of_ble_eq_true rfl, Nat.le_of_ble_eq_true rfl⟩) hS (fun E1_3 H locs hq31 hP hS => ?_)
    obtain ⟨hfr31, T0, B0, hZ, hq31⟩ := hq31
    have hp : ePh g E1_3 1 n M := hp.keep (fun j h1 h2 => hfr31 j (by omega))
    have hfr : ∀ j, j ≠ 64 → E1_3 j = E j := fun j hj => (hfr31 j hj).trans (hfr j hj)
    refine lv_iconst (v := 1) S.1 S.2.1 dX3_search_34 (by decide) ?_
    refine lv_istore_n (lv' := [(2, .int 1), (1, .int r19), (0, .ref (xad g 64))]) S.1 S.2.1 dX3_search_35 rfl hl (by decide) rfl (fun ls hl => ?_)
    have loop36 : ∀ (d : Nat) (i : Nat) (o : Int) (T2 : Int32) (B2 : Int32) (EL : Nat → va_E) (H : Heap) (locs : List Loc), (h1 : 1 ≤ i) → (hi : i ≤ 181) → (ho : (i ≤ 180 ∧ o = 2 * (i : Int) - 1) ∨ (i = 181 ∧ o = 360)) → (hq : spTo M n o T2.toInt B2.toInt) → (182 - i) < d → (hZ : EL 64 = .inr (3, [.ref (xad g 1), .int T2, .int B2, .int (nI (mk (pF M T2.toInt B2.toInt) n))])) → (hp : ePh g EL 1 n M) → (hfr : ∀ j, j ≠ 64 → EL j = E j) → xP g EL H → va_S (xA (xad g)) s.heap H locs → ∀ ls : Array Slot, lv_has ls 3 [(2, .int (nI i)), (1, .int r19), (0, .ref (xad g 64))] → W pz l ez ({ frames := 6, cells := 0, slots := 0, locals := 142 }) s m ([.ref (xad g 64)] : List Value).toArray below meth cz H locs 0 0 (MQ below (xQi g (fun r E1 => (∀ j, j ≠ 64 → E1 j = E j) ∧ ((r = 0 ∧ (∀ k, k < n → ¬ pK M k = true) ∧ ∃ a b c : Int32, E1 64 = .inr (3, [.ref (xad g 1), .int a, .int b, .int c])) ∨ (r = 1 ∧ (∃ k, k < n ∧ pK M k = true) ∧ ∃ T B : Int32, isSpin M n T.toInt B.toInt ∧ E1 64 = .inr (3, [.ref (xad g 1), .int T, .int B, .int (nI (mk (pF M T.toInt B.toInt) n))]))))) ([.ref (xad g 64)] : List Value).toArray s 0 0 (xA (xad g))) (F0 m 36 ls []) := by
      intro d
      induction d with
      | zero => intro i o T2 B2 EL H locs h1 hi ho hq hd; exact absurd hd (Nat.not_lt_zero _)
      | succ d ih36 =>
        intro i o T2 B2 EL H locs h1 hi ho hq hd hZ hp hfr hP hS ls hl
        refine lv_iload_n S.1 S.2.1 dX3_search_36 rfl (lv_at hl 0 rfl) ?_
        refine lv_sipush (v := 180) S.1 S.2.1 dX3_search_37 (by decide) ?_
        refine lv_icmp_gt (tgt := 75) S.1 S.2.1 dX3_search_40 (by decide) (fun c40 => ?_) (fun c40 => ?_)
        · skip
          refine lv_iconst (v := 1) S.1 S.2.1 dX3_search_75 (by decide) ?_
          exact x_zret S hr hlocks hP hS dX3_search_76 rfl (⟨hfr, Or.inr ⟨rfl, mk_ex (fun h => c24 (by rw [hr19, h]; rfl)), T2, B2, by first | exact hq.all (nI_inj (by have := mk_lt10 (pF M T2.toInt B2.toInt) h0.2; omega) (by have := mk_lt10 (pK M) h0.2; omega) (c48.trans hr19)) | exact hq.done (by have := (nI_ltI (a := 180) (by decide) (by omega)).mp c40; omega), hZ⟩⟩)
        · skip
          have hi18 : i ≤ 180 := Nat.not_lt.mp (fun h => c40 ((nI_ltI (a := 180) (by decide) (by omega)).mpr h))
          refine lv_aload_n S.1 S.2.1 dX3_search_43 rfl (lv_at hl 2 rfl) ?_
          refine x_get S hK hP dX3_search_44 hZ (by decide) (RX3, TX3, 4) rfl hin3 3 (by decide) fl56 rfl ?_
          refine lv_iload_n S.1 S.2.1 dX3_search_47 rfl (lv_at hl 1 rfl) ?_
          refine lv_icmp_eq (tgt := 75) S.1 S.2.1 dX3_search_48 (by decide) (fun c48 => ?_) (fun c48 => ?_)
          · skip
            refine lv_iconst (v := 1) S.1 S.2.1 dX3_search_75 (by decide) ?_
            exact x_zret S hr hlocks hP hS dX3_search_76 rfl (⟨hfr, Or.inr ⟨rfl, mk_ex (fun h => c24 (by rw [hr19, h]; rfl)), T2, B2, by first | exact hq.all (nI_inj (by have := mk_lt10 (pF M T2.toInt B2.toInt) h0.2; omega) (by have := mk_lt10 (pK M) h0.2; omega) (c48.trans hr19)) | exact hq.done (by have := (nI_ltI (a := 180) (by decide) (by omega)).mp c40; omega), hZ⟩⟩)
          · skip
            refine lv_aload_n S.1 S.2.1 dX3_search_51 rfl (lv_at hl 2 rfl) ?_
            refine lv_iload_n S.1 S.2.1 dX3_search_52 rfl (lv_at hl 0 rfl) ?_
            refine x_qv (va_runV (As := [.int (nI i)]) (rest := []) S (c_X3_tryTurn l g hJ EL hZ hp hv (t := nI i) (by rw [nI_Z (by omega)]; omega) (Or.inr ⟨by rw [ordT_p h1 (by omega)]; rcases ho with ⟨-, ho⟩ | ⟨h9, -⟩; rw [← ho]; exact hq; omega, rfl⟩)) (cwV 1 S.2.2.2.2 gX3_search_X3_tryTurn rfl rfl rfl (by decide +kernel) ⟨Nat.le_of_ble_eq_true rfl, Nat.le_of_ble_eq_true rfl⟩) (x_preV hK hP hZ (by decide) rfl) rfl rfl hl.1 rfl (lv_room (Nat.le_of_ble_eq_true rfl)) dX3_search_53 ⟨Nat.le_of_ble_eq_true rfl, Nat.le_of_ble_eq_true rfl⟩) hS (fun E1_4 H locs hq53 hP hS => ?_)
            obtain ⟨hfr53, T3, B3, hZ, hq53⟩ := hq53
            have hp : ePh g E1_4 1 n M := hp.keep (fun j h1 h2 => hfr53 j (by omega))
            have hfr : ∀ j, j ≠ 64 → E1_4 j = E j := fun j hj => (hfr53 j hj).trans (hfr j hj)
            refine lv_iload_n S.1 S.2.1 dX3_search_56 rfl (lv_at hl 0 rfl) ?_
            refine lv_sipush (v := 180) S.1 S.2.1 dX3_search_57 (by decide) ?_
            refine lv_icmp_ge (tgt := 69) S.1 S.2.1 dX3_search_60 (by decide) (fun c60 => ?_) (fun c60 => ?_)
            · skip
              refine lv_iinc (v := nI (i + 1)) (lv' := [(2, .int (nI (i + 1))), (1, .int r19), (0, .ref (xad g 64))]) S.1 S.2.1 dX3_search_69 hl (k := 0) rfl (show nI i + Int32.ofInt 1 = _ from nI_1 _) (by decide) rfl (fun ls hl => ?_)
              refine lv_goto (tgt := 36) S.1 S.2.1 dX3_search_72 (by decide) ?_
              exact ih36 (i + 1) 360 T3 B3 _ _ _ (by omega) (by omega) (by have := (nI_leI (a := 180) (by decide) (by omega)).mp c60; omega) (by have h9 := (nI_leI (a := 180) (by decide) (by omega)).mp c60; rw [ordT_p h1 (by omega)] at hq53; rw [show (360 : Int) = 2 * (i : Int) - 1 + 1 by omega]; exact hq53) (by omega) hZ hp hfr hP hS ls (lv_sub hl [0, 1, 2] rfl)
            · skip
              have hi179 : i < 180 := Nat.not_le.mp (fun h => c60 ((nI_leI (a := 180) (by decide) (by omega)).mpr h))
              refine lv_aload_n S.1 S.2.1 dX3_search_63 rfl (lv_at hl 2 rfl) ?_
              refine lv_iload_n S.1 S.2.1 dX3_search_64 rfl (lv_at hl 0 rfl) ?_
              refine lv_ineg S.1 S.2.1 dX3_search_65 ?_
              refine x_qv (va_runV (As := [.int (-(nI i))]) (rest := []) S (c_X3_tryTurn l g hJ E1_4 hZ hp hv (t := -(nI i)) (by rw [nI_negZ (by omega)]; omega) (Or.inr ⟨by rw [ordT_n (by omega)]; rw [ordT_p h1 (by omega)] at hq53; rw [show 2 * (i : Int) = 2 * (i : Int) - 1 + 1 by omega]; exact hq53, rfl⟩)) (cwV 1 S.2.2.2.2 gX3_search_X3_tryTurn rfl rfl rfl (by decide +kernel) ⟨Nat.le_of_ble_eq_true rfl, Nat.le_of_ble_eq_true rfl⟩) (x_preV hK hP hZ (by decide) rfl) rfl rfl hl.1 rfl (lv_room (Nat.le_of_ble_eq_true rfl)) dX3_search_66 ⟨Nat.le_of_ble_eq_true rfl, Nat.le_of_ble_eq_true rfl⟩) hS (fun E1_5 H locs hq66 hP hS => ?_)
              obtain ⟨hfr66, T4, B4, hZ, hq66⟩ := hq66
              have hp : ePh g E1_5 1 n M := hp.keep (fun j h1 h2 => hfr66 j (by omega))
              have hfr : ∀ j, j ≠ 64 → E1_5 j = E j := fun j hj => (hfr66 j hj).trans (hfr j hj)
              refine lv_iinc (v := nI (i + 1)) (lv' := [(2, .int (nI (i + 1))), (1, .int r19), (0, .ref (xad g 64))]) S.1 S.2.1 dX3_search_69 hl (k := 0) rfl (show nI i + Int32.ofInt 1 = _ from nI_1 _) (by decide) rfl (fun ls hl => ?_)
              refine lv_goto (tgt := 36) S.1 S.2.1 dX3_search_72 (by decide) ?_
              exact ih36 (i + 1) (2 * (i : Int) + 1) T4 B4 _ _ _ (by omega) (by omega) (by omega) (by rw [ordT_n (by omega)] at hq66; exact hq66) (by omega) hZ hp hfr hP hS ls (lv_sub hl [0, 1, 2] rfl)
    exact loop36 _ 1 1 T0 B0 _ _ _ (by decide) (by decide) (by omega) (by rw [show ordT (0 : Int32).toInt + 1 = 1 by decide] at hq31; exact hq31) (Nat.lt_succ_self _) hZ hp hfr hP hS ls (lv_sub hl [0, 1, 2] rfl)
  · skip
    refine lv_iconst (v := 0) S.1 S.2.1 dX3_search_27 (by decide) ?_
    exact x_zret S hr hlocks hP hS dX3_search_28 rfl (⟨hfr, Or.inl ⟨rfl, fun k hk => mk_no ((nI_mk0 h0.2).mp (hr19.symm.trans c24)) hk, _, _, _, hZ⟩⟩)
/-- those of a set are set aside, as far as a place  -/
def drM (M : Nat → Nat → Int32) (Q : Nat → Bool) (q : Nat) : Nat → Nat → Int32 := fun w k => if w = 6 ∧ k < q ∧ Q k = true then 1 else M w k
theorem drM_set {M : Nat → Nat → Int32} {Q : Nat → Bool} {q : Nat} (h : Q q = true) : setM (drM M Q q) 6 q 1 = drM M Q (q + 1) := by
  funext w k
  unfold setM drM
  by_cases e : w = 6 ∧ k = q
  · rw [if_pos e, if_pos ⟨e.1, by omega, by rw [e.2]; exact h⟩]
  · rw [if_neg e]
    by_cases e2 : w = 6 ∧ k < q ∧ Q k = true
    · rw [if_pos e2, if_pos ⟨e2.1, by omega, e2.2.2⟩]
    · rw [if_neg e2, if_neg (fun h2 => e2 ⟨h2.1, by have : ¬ k = q := fun h3 => e ⟨h2.1, h3⟩; omega, h2.2.2⟩)]
theorem drM_skip {M : Nat → Nat → Int32} {Q : Nat → Bool} {q : Nat} (h : ¬ Q q = true) : drM M Q q = drM M Q (q + 1) := by
  funext w k
  unfold drM
  by_cases e2 : w = 6 ∧ k < q ∧ Q k = true
  · rw [if_pos e2, if_pos ⟨e2.1, by omega, e2.2.2⟩]
  · rw [if_neg e2, if_neg (fun h2 => e2 ⟨h2.1, by have : ¬ k = q := fun h3 => h (h3 ▸ h2.2.2); omega, h2.2.2⟩)]
theorem drM_0 {M : Nat → Nat → Int32} {Q : Nat → Bool} : drM M Q 0 = M := by
  funext w k
  unfold drM
  rw [if_neg (fun h => absurd h.2.1 (Nat.not_lt_zero _))]
def sp_dropMissed (z : xS) (r : Int32) (z' : xS) : Prop := ((∀ i j k, ¬ trio (pU (zM z)) (zn z) i j k) ∧ r = -4 ∧ z' = z) ∨ ∃ i j k, isBest (zM z) (pU (zM z)) (zn z) i j k ∧ ((mk (pM (zM z) (pU (zM z)) i j k) (zn z) = 0 ∧ r = -5 ∧ z' = z) ∨ (¬ mk (pM (zM z) (pU (zM z)) i j k) (zn z) = 0 ∧ r = nI (cnt (pM (zM z) (pU (zM z)) i j k) (zn z)) ∧ z' = wP (wR z) (zn z) (drM (zM z) (pM (zM z) (pU (zM z)) i j k) (zn z))))
set_option maxHeartbeats 4000000 in
set_option maxRecDepth 100000 in
theorem c_X6_dropMissed (l : Launch) (g : xG) (hJ : xJ (xad g)) (E : Nat → va_E) {z : xS} (hz : sX g E z) (hv : vS z)  : Met l yX6_dropMissed wsX6_dropMissed ({ frames := 3, cells := 0, slots := 0, locals := 103 }) (xPc g [.ref (xad g 0)] E) (xQi g (fun r E1 => ∃ z1, sp_dropMissed z r z1 ∧ sX g E1 z1 ∧ ∀ j, 65 ≤ j → E1 j = E j)) 0 0 (xA (xad g)) := by
  refine x_met (ws' := _) (by decide) rfl (Nat.le_of_ble_eq_true rfl) ?_
  intro pz ez s m below meth cz ls S hr hlocks hP hK hl
  have hl : lv_has ls 4 [(0, .ref (xad g 0))] := hl
  have hS : va_S (xA (xad g)) s.heap s.heap [] := va_S.rf
  have hin2 : ∀ w ∈ u_ws RX2 TX2 2, w ∈ wsX6_dropMissed := by decide +kernel
  have hin6 : ∀ w ∈ u_ws RX6 TX6 9, w ∈ wsX6_dropMissed := by decide +kernel
  have fl10 : Cond.fieldLink RX6 10 "DiscArcs" "photos" "LDiscArcs$Photos;" ∈ wsX6_dropMissed := by decide +kernel
  have fl22 : Cond.fieldLink RX6 22 "DiscArcs" "history" "LDiscArcs$History;" ∈ wsX6_dropMissed := by decide +kernel
  have fl42 : Cond.fieldLink RX6 42 "DiscArcs" "curve" "LDiscArcs$Arc;" ∈ wsX6_dropMissed := by decide +kernel
  have fl90 : Cond.fieldLink RX6 90 "DiscArcs$Photos" "rows" "[[I" ∈ wsX6_dropMissed := by decide +kernel
  have fl118 : Cond.fieldLink RX6 118 "DiscArcs$Photos" "size" "I" ∈ wsX6_dropMissed := by decide +kernel
  obtain ⟨hX, hp, hsn, ⟨B, N, MM, hH, hHe⟩, ⟨p0, ta, h57⟩, h58, ⟨f6, h59⟩, ⟨x1, x2, x3, hA⟩, h61, ⟨f2, h62⟩, ⟨f3, h63⟩, u1, u2, u3, hZ⟩ := hz
  have h0 := hp.1
  have hv1 := hv.1.2
  have hfm : ∀ j, 65 ≤ j → E j = E j := fun _ _ => rfl
  refine lv_aload_n S.1 S.2.1 dX6_dropMissed_0 rfl (lv_at hl 0 rfl) ?_
  refine x_get S hK hP dX6_dropMissed_1 hX (by decide) (RX6, TX6, 9) rfl hin6 0 (by decide) fl10 rfl ?_
  refine x_si (va_runV (As := []) (rest := []) S (c_X2_usable l g E hp) (cwV 0 S.2.2.2.2 gX6_dropMissed_X2_usable rfl rfl rfl (by decide +kernel) ⟨Nat.le_of_ble_eq_true rfl, Nat.le_of_ble_eq_true rfl⟩) (x_preV hK hP hp.2.1 (by decide) rfl) rfl rfl hl.1 rfl (lv_room (Nat.le_of_ble_eq_true rfl)) dX6_dropMissed_4 ⟨Nat.le_of_ble_eq_true rfl, Nat.le_of_ble_eq_true rfl⟩) (fun r4 hr4 => ?_)
  subst hr4
  refine lv_istore_n (lv' := [(1, .int (nI (mk (pU (zM z)) (zn z)))), (0, .ref (xad g 0))]) S.1 S.2.1 dX6_dropMissed_7 rfl hl (by decide) rfl (fun ls hl => ?_)
  refine lv_aload_n S.1 S.2.1 dX6_dropMissed_8 rfl (lv_at hl 1 rfl) ?_
  refine x_get S hK hP dX6_dropMissed_9 hX (by decide) (RX6, TX6, 9) rfl hin6 6 (by decide) fl42 rfl ?_
  refine lv_iload_n S.1 S.2.1 dX6_dropMissed_12 rfl (lv_at hl 0 rfl) ?_
  refine x_qi (va_runV (As := [.int (nI (mk (pU (zM z)) (zn z)))]) (rest := []) S (c_X0_layBest l g hJ E hp hA hv1 (pU (zM z))) (cwV 1 S.2.2.2.2 gX6_dropMissed_X0_layBest rfl rfl rfl (by decide +kernel) ⟨Nat.le_of_ble_eq_true rfl, Nat.le_of_ble_eq_true rfl⟩) (x_preV hK hP hA (by decide) rfl) rfl rfl hl.1 rfl (lv_room (Nat.le_of_ble_eq_true rfl)) dX6_dropMissed_13 ⟨Nat.le_of_ble_eq_true rfl, Nat.le_of_ble_eq_true rfl⟩) hS (fun r13 E1 H locs hq13 hP hS => ?_)
  obtain ⟨hfr13, hor⟩ := hq13
  have hX := (hfr13 0 (by decide)).trans hX
  have hp := hp.keep (E1 := E1) (fun j g1 g2 => hfr13 j (by omega))
  have hsn := hsn.keep (E1 := E1) (fun j g1 g2 => hfr13 j (by omega))
  have hH := hH.keep (E1 := E1) (fun j g1 g2 => hfr13 j (by omega))
  have h57 := (hfr13 57 (by decide)).trans h57
  have h58 := (hfr13 58 (by decide)).trans h58
  have h59 := (hfr13 59 (by decide)).trans h59
  have h61 := (hfr13 61 (by decide)).trans h61
  have h62 := (hfr13 62 (by decide)).trans h62
  have h63 := (hfr13 63 (by decide)).trans h63
  have hZ := (hfr13 64 (by decide)).trans hZ
  have hfm : ∀ j, 65 ≤ j → E1 j = E j := fun j hj => (hfr13 j (by omega)).trans (hfm j hj)
  refine lv_if_ne (tgt := 22) S.1 S.2.1 dX6_dropMissed_16 (by decide) (fun c16 => ?_) (fun c16 => ?_)
  · skip
    obtain ⟨i, j, k, hb, hA⟩ : ∃ i j k, isBest (zM z) (pU (zM z)) (zn z) i j k ∧ E1 60 = .inr (0, [.ref (xad g 1), .int (nI i), .int (nI j), .int (nI k)]) := by rcases hor with ⟨-, h⟩ | ⟨h0, -⟩; exact h; exact absurd h0 c16
    obtain ⟨g1, g2, g3, -⟩ := id hb.1
    refine lv_aload_n S.1 S.2.1 dX6_dropMissed_22 rfl (lv_at hl 1 rfl) ?_
    refine x_get S hK hP dX6_dropMissed_23 hX (by decide) (RX6, TX6, 9) rfl hin6 6 (by decide) fl42 rfl ?_
    refine lv_iload_n S.1 S.2.1 dX6_dropMissed_26 rfl (lv_at hl 0 rfl) ?_
    refine x_si (va_runV (As := [.int (nI (mk (pU (zM z)) (zn z)))]) (rest := []) S (c_X0_missedOf l g E1 hp hA (i := i) (j := j) (k := k) (by omega) (by omega) g3 (P := pU (zM z)) (lo_pos hv1 g1 g2 g3)) (cwV 1 S.2.2.2.2 gX6_dropMissed_X0_missedOf rfl rfl rfl (by decide +kernel) ⟨Nat.le_of_ble_eq_true rfl, Nat.le_of_ble_eq_true rfl⟩) (x_preV hK hP hA (by decide) rfl) rfl rfl hl.1 rfl (lv_room (Nat.le_of_ble_eq_true rfl)) dX6_dropMissed_27 ⟨Nat.le_of_ble_eq_true rfl, Nat.le_of_ble_eq_true rfl⟩) (fun r27 hr27 => ?_)
    subst hr27
    refine lv_istore_n (lv' := [(2, .int (nI (mk (pM (zM z) (pU (zM z)) i j k) (zn z)))), (1, .int (nI (mk (pU (zM z)) (zn z)))), (0, .ref (xad g 0))]) S.1 S.2.1 dX6_dropMissed_30 rfl hl (by decide) rfl (fun ls hl => ?_)
    refine lv_iload_n S.1 S.2.1 dX6_dropMissed_31 rfl (lv_at hl 0 rfl) ?_
    refine lv_if_ne (tgt := 38) S.1 S.2.1 dX6_dropMissed_32 (by decide) (fun c32 => ?_) (fun c32 => ?_)
    · skip
      refine lv_aload_n S.1 S.2.1 dX6_dropMissed_38 rfl (lv_at hl 2 rfl) ?_
      refine x_get S hK hP dX6_dropMissed_39 hX (by decide) (RX6, TX6, 9) rfl hin6 3 (by decide) fl22 rfl ?_
      refine lv_aload_n S.1 S.2.1 dX6_dropMissed_42 rfl (lv_at hl 2 rfl) ?_
      refine x_get S hK hP dX6_dropMissed_43 hX (by decide) (RX6, TX6, 9) rfl hin6 0 (by decide) fl10 rfl ?_
      refine x_qv (va_runV (As := [.ref (xad g 1)]) (rest := []) S (c_X1_record l g hJ E1 hH hp) (cwV 1 S.2.2.2.2 gX6_dropMissed_X1_record rfl rfl rfl (by decide +kernel) ⟨Nat.le_of_ble_eq_true rfl, Nat.le_of_ble_eq_true rfl⟩) (x_preV hK hP hH.2.1 (by decide) rfl) rfl rfl hl.1 rfl (lv_room (Nat.le_of_ble_eq_true rfl)) dX6_dropMissed_46 ⟨Nat.le_of_ble_eq_true rfl, Nat.le_of_ble_eq_true rfl⟩) hS (fun E1_1 H locs hq46 hP hS => ?_)
      obtain ⟨⟨B2, N2, MM2, hH, hHe2⟩, hfr46⟩ := hq46
      have hX := (hfr46 0 (by decide)).trans hX
      have hp := hp.keep (E1 := E1_1) (fun j g1 g2 => hfr46 j (by omega))
      have hsn := hsn.keep (E1 := E1_1) (fun j g1 g2 => hfr46 j (by omega))
      have h57 := (hfr46 57 (by decide)).trans h57
      have h58 := (hfr46 58 (by decide)).trans h58
      have h59 := (hfr46 59 (by decide)).trans h59
      have h61 := (hfr46 61 (by decide)).trans h61
      have h62 := (hfr46 62 (by decide)).trans h62
      have h63 := (hfr46 63 (by decide)).trans h63
      have hZ := (hfr46 64 (by decide)).trans hZ
      have hfm : ∀ j, 65 ≤ j → E1_1 j = E j := fun j hj => (hfr46 j (by omega)).trans (hfm j hj)
      have hA := (hfr46 60 (by decide)).trans hA
      have hHe : ∀ i, i < rcS (zh z) → N2 i = rcV (zh z) (zN z) (zn z) i ∧ MM2 i = rcV (zh z) (zMM z) (zM z) i := fun i hi => rec_eq hHe (hHe2 i hi) hi
      refine lv_iconst (v := 0) S.1 S.2.1 dX6_dropMissed_49 (by decide) ?_
      refine lv_istore_n (lv' := [(3, .int 0), (2, .int (nI (mk (pM (zM z) (pU (zM z)) i j k) (zn z)))), (1, .int (nI (mk (pU (zM z)) (zn z)))), (0, .ref (xad g 0))]) S.1 S.2.1 dX6_dropMissed_50 rfl hl (by decide) rfl (fun ls hl => ?_)
      have loop51 : ∀ (d : Nat) (q : Nat) (EL : Nat → va_E) (H : Heap) (locs : List Loc), (hq : q ≤ zn z) → (zn z - q) < d → (hX : EL 0 = .inr (6, [.ref (xad g 1), .ref (xad g 10), .int (bI (zf z)), .ref (xad g 19), .ref (xad g 57), .ref (xad g 59), .ref (xad g 60), .ref (xad g 61), .ref (xad g 64)])) → (hp : ePh g EL 1 (zn z) (drM (zM z) (pM (zM z) (pU (zM z)) i j k) q)) → (hsn : ePh g EL 10 (zsn z) (zsM z)) → (hH : eHi g EL (rcS (zh z)) B2 N2 MM2) → (h57 : EL 57 = .inr (4, [.ref (xad g 58), .int (nI (ztl z)), .int p0, .int ta])) → (h58 : EL 58 = .inl (xC g, 60, .inl (ztf z))) → (h59 : EL 59 = .inl (xI g, 6, .inl f6)) → (hA : EL 60 = .inr (0, [.ref (xad g 1), .int (nI i), .int (nI j), .int (nI k)])) → (h61 : EL 61 = .inr (5, [.ref (xad g 1), .ref (xad g 60), .ref (xad g 62), .ref (xad g 63)])) → (h62 : EL 62 = .inl (xI g, 11, .inl f2)) → (h63 : EL 63 = .inl (xI g, 11, .inl f3)) → (hZ : EL 64 = .inr (3, [.ref (xad g 1), .int u1, .int u2, .int u3])) → (hfm : ∀ j, 65 ≤ j → EL j = E j) → xP g EL H → va_S (xA (xad g)) s.heap H locs → ∀ ls : Array Slot, lv_has ls 4 [(3, .int (nI q)), (2, .int (nI (mk (pM (zM z) (pU (zM z)) i j k) (zn z)))), (1, .int (nI (mk (pU (zM z)) (zn z)))), (0, .ref (xad g 0))] → W pz l ez ({ frames := 3, cells := 0, slots := 0, locals := 103 }) s m ([.ref (xad g 0)] : List Value).toArray below meth cz H locs 0 0 (MQ below (xQi g (fun r E1 => ∃ z1, sp_dropMissed z r z1 ∧ sX g E1 z1 ∧ ∀ j, 65 ≤ j → E1 j = E j)) ([.ref (xad g 0)] : List Value).toArray s 0 0 (xA (xad g))) (F0 m 51 ls []) := by
        intro d
        induction d with
        | zero => intro q EL H locs hq hd; exact absurd hd (Nat.not_lt_zero _)
        | succ d ih51 =>
          intro q EL H locs hq hd hX hp hsn hH h57 h58 h59 hA h61 h62 h63 hZ hfm hP hS ls hl
          refine lv_iload_n S.1 S.2.1 dX6_dropMissed_51 rfl (lv_at hl 0 rfl) ?_
          refine lv_aload_n S.1 S.2.1 dX6_dropMissed_52 rfl (lv_at hl 3 rfl) ?_
          refine x_get S hK hP dX6_dropMissed_53 hX (by decide) (RX6, TX6, 9) rfl hin6 0 (by decide) fl10 rfl ?_
          refine x_get S hK hP dX6_dropMissed_56 hp.2.1 (by decide) (RX2, TX2, 2) rfl hin2 1 (by decide) fl118 rfl ?_
          refine lv_icmp_ge (tgt := 89) S.1 S.2.1 dX6_dropMissed_59 (by decide) (fun c59 => ?_) (fun c59 => ?_)
          · skip
            have hqe : q = zn z := Nat.le_antisymm hq ((nI_leI (by omega) (by omega)).mp c59)
            subst hqe
            refine lv_iload_n S.1 S.2.1 dX6_dropMissed_89 rfl (lv_at hl 1 rfl) ?_
            refine x_si (va_runS (As := [.int (nI (mk (pM (zM z) (pU (zM z)) i j k) (zn z)))]) (rest := []) S (c_J6_bitCount_0f7a4 l g EL (nI (mk (pM (zM z) (pU (zM z)) i j k) (zn z)))) (va_cwS 1 S.2.2.2.2 gX6_dropMissed_J6_bitCount_0f7a4 rfl rfl rfl (by decide +kernel) ⟨Nat.le_of_ble_eq_true rfl, Nat.le_of_ble_eq_true rfl⟩) (x_preS hK hP) rfl rfl hl.1 rfl (lv_room (Nat.le_of_ble_eq_true rfl)) dX6_dropMissed_90 ⟨Nat.le_of_ble_eq_true rfl, Nat.le_of_ble_eq_true rfl⟩) (fun r90 hr90 => ?_)
            rw [bc_mk h0.2] at hr90
            exact x_iret S hr hlocks hP hS dX6_dropMissed_93 (⟨_, Or.inr ⟨i, j, k, hb, Or.inr ⟨fun h => c32 (by rw [h]; rfl), hr90, rfl⟩⟩, sX.mk (z := wP (wR z) (zn z) (drM (zM z) (pM (zM z) (pU (zM z)) i j k) (zn z))) hX rfl hp hsn hH hHe h57 h58 h59 hA h61 h62 h63 hZ, hfm⟩)
          · skip
            have hqn : q < zn z := (Nat.not_le.mp (fun h => c59 ((nI_leI (by omega) (by omega)).mpr h)))
            refine lv_iload_n S.1 S.2.1 dX6_dropMissed_62 rfl (lv_at hl 1 rfl) ?_
            refine lv_iload_n S.1 S.2.1 dX6_dropMissed_63 rfl (lv_at hl 0 rfl) ?_
            refine x_si (va_runS (As := [.int (nI (mk (pM (zM z) (pU (zM z)) i j k) (zn z))), .int (nI q)]) (rest := []) S (c_X6_isIn l g EL (mk_lt10 (pM (zM z) (pU (zM z)) i j k) h0.2) (show q < 10 by omega)) (va_cwS 2 S.2.2.2.2 gX6_dropMissed_X6_isIn rfl rfl rfl (by decide +kernel) ⟨Nat.le_of_ble_eq_true rfl, Nat.le_of_ble_eq_true rfl⟩) (x_preS hK hP) rfl rfl hl.1 rfl (lv_room (Nat.le_of_ble_eq_true rfl)) dX6_dropMissed_64 ⟨Nat.le_of_ble_eq_true rfl, Nat.le_of_ble_eq_true rfl⟩) (fun r64 hr64 => ?_)
            refine lv_if_eq (tgt := 83) S.1 S.2.1 dX6_dropMissed_67 (by decide) (fun c67 => ?_) (fun c67 => ?_)
            · skip
              refine lv_iinc (v := nI (q + 1)) (lv' := [(3, .int (nI (q + 1))), (2, .int (nI (mk (pM (zM z) (pU (zM z)) i j k) (zn z)))), (1, .int (nI (mk (pU (zM z)) (zn z)))), (0, .ref (xad g 0))]) S.1 S.2.1 dX6_dropMissed_83 hl (k := 0) rfl (show nI q + Int32.ofInt 1 = _ from nI_1 _) (by decide) rfl (fun ls hl => ?_)
              refine lv_goto (tgt := 51) S.1 S.2.1 dX6_dropMissed_86 (by decide) ?_
              exact ih51 (q + 1) _ _ _ (by omega) (by omega) hX (by rw [← drM_skip (fun h => hr64.f c67 ((mk_in hqn).trans h))]; exact hp) hsn hH h57 h58 h59 hA h61 h62 h63 hZ hfm hP hS ls (lv_sub hl [0, 1, 2, 3] rfl)
            · skip
              refine lv_aload_n S.1 S.2.1 dX6_dropMissed_70 rfl (lv_at hl 3 rfl) ?_
              refine x_get S hK hP dX6_dropMissed_71 hX (by decide) (RX6, TX6, 9) rfl hin6 0 (by decide) fl10 rfl ?_
              refine x_get S hK hP dX6_dropMissed_74 hp.2.1 (by decide) (RX2, TX2, 2) rfl hin2 0 (by decide) fl90 rfl ?_
              refine lv_bipush (v := 6) S.1 S.2.1 dX6_dropMissed_77 (by decide) ?_
              refine x_row S hK hP dX6_dropMissed_79 hp 6 rfl (by omega) ?_
              refine lv_iload_n S.1 S.2.1 dX6_dropMissed_80 rfl (lv_at hl 0 rfl) ?_
              refine lv_iconst (v := 1) S.1 S.2.1 dX6_dropMissed_81 (by decide) ?_
              refine x_phset S hK hJ hP hS dX6_dropMissed_82 hp (w := 6) q rfl (by omega) hqn (fun H locs E1_2 hu hnew hP hS => ?_)
              have hX : E1_2 0 = .inr (6, [.ref (xad g 1), .ref (xad g 10), .int (bI (zf z)), .ref (xad g 19), .ref (xad g 57), .ref (xad g 59), .ref (xad g 60), .ref (xad g 61), .ref (xad g 64)]) := (hu _ (by omega)).trans hX
              have hp := hnew
              have hsn : ePh g E1_2 10 (zsn z) (zsM z) := hsn.keep (fun j h1 h2 => hu j (by omega))
              have hH := hH.keep (E1 := E1_2) (fun j h1 h2 => hu j (by omega))
              have h57 : E1_2 57 = .inr (4, [.ref (xad g 58), .int (nI (ztl z)), .int p0, .int ta]) := (hu _ (by omega)).trans h57
              have h58 : E1_2 58 = .inl (xC g, 60, .inl (ztf z)) := (hu _ (by omega)).trans h58
              have h59 : E1_2 59 = .inl (xI g, 6, .inl f6) := (hu _ (by omega)).trans h59
              have hA : E1_2 60 = .inr (0, [.ref (xad g 1), .int (nI i), .int (nI j), .int (nI k)]) := (hu _ (by omega)).trans hA
              have h61 : E1_2 61 = .inr (5, [.ref (xad g 1), .ref (xad g 60), .ref (xad g 62), .ref (xad g 63)]) := (hu _ (by omega)).trans h61
              have h62 : E1_2 62 = .inl (xI g, 11, .inl f2) := (hu _ (by omega)).trans h62
              have h63 : E1_2 63 = .inl (xI g, 11, .inl f3) := (hu _ (by omega)).trans h63
              have hZ : E1_2 64 = .inr (3, [.ref (xad g 1), .int u1, .int u2, .int u3]) := (hu _ (by omega)).trans hZ
              have hfm : ∀ j, 65 ≤ j → E1_2 j = E j := fun j hj => (hu j (by omega)).trans (hfm j hj)
              refine lv_iinc (v := nI (q + 1)) (lv' := [(3, .int (nI (q + 1))), (2, .int (nI (mk (pM (zM z) (pU (zM z)) i j k) (zn z)))), (1, .int (nI (mk (pU (zM z)) (zn z)))), (0, .ref (xad g 0))]) S.1 S.2.1 dX6_dropMissed_83 hl (k := 0) rfl (show nI q + Int32.ofInt 1 = _ from nI_1 _) (by decide) rfl (fun ls hl => ?_)
              refine lv_goto (tgt := 51) S.1 S.2.1 dX6_dropMissed_86 (by decide) ?_
              exact ih51 (q + 1) _ _ _ (by omega) (by omega) hX (by rw [← drM_set ((mk_in hqn).symm.trans (hr64.t c67))]; exact hp) hsn hH h57 h58 h59 hA h61 h62 h63 hZ hfm hP hS ls (lv_sub hl [0, 1, 2, 3] rfl)
      exact loop51 _ 0 _ _ _ (Nat.zero_le _) (Nat.lt_succ_self _) hX (by rw [drM_0]; exact hp) hsn hH h57 h58 h59 hA h61 h62 h63 hZ hfm hP hS ls (lv_sub hl [0, 1, 2, 3] rfl)
    · skip
      refine lv_bipush (v := (-5)) S.1 S.2.1 dX6_dropMissed_35 (by decide) ?_
      exact x_iret S hr hlocks hP hS dX6_dropMissed_37 (⟨z, Or.inr ⟨i, j, k, hb, Or.inl ⟨(nI_mk0 h0.2).mp c32, rfl, rfl⟩⟩, sX.mk hX rfl hp hsn hH hHe h57 h58 h59 hA h61 h62 h63 hZ, hfm⟩)
  · skip
    refine lv_bipush (v := (-4)) S.1 S.2.1 dX6_dropMissed_19 (by decide) ?_
    exact x_iret S hr hlocks hP hS dX6_dropMissed_21 (by rcases hor with ⟨h1, -⟩ | ⟨-, hno, y1, y2, y3, hA⟩; rw [h1] at c16; exact absurd c16 (by decide); exact ⟨z, Or.inl ⟨hno, rfl, rfl⟩, sX.mk hX rfl hp hsn hH hHe h57 h58 h59 hA h61 h62 h63 hZ, hfm⟩)
def sp_remove (z : xS) (x r : Int32) (z' : xS) : Prop := (¬ held (zn z) x ∧ r = -1 ∧ z' = z) ∨ ∃ k, k < zn z ∧ x = nI k ∧ r = nI (zn z - 1) ∧ z' = wP (wR z) (zn z - 1) (delM (zM z) k)
def sp_type (z : xS) (x r : Int32) (z' : xS) : Prop := (ztl z = 60 ∧ r = -3 ∧ z' = z) ∨ (ztl z < 60 ∧ r = nI (ztl z + 1) ∧ z' = wT z (ztl z + 1) (upd (ztf z) (ztl z) (vp_nar .char x)))
def sp_clearText (z : xS) (r : Int32) (z' : xS) : Prop := r = nI (ztl z) ∧ z' = wT z 0 (ztf z)
def sp_undo (z : xS) (r : Int32) (z' : xS) : Prop := (zh z = 0 ∧ r = -5 ∧ z' = z) ∨ (0 < zh z ∧ r = nI (zh z - 1) ∧ z' = wP (wH z (zh z - 1)) (zN z (zh z - 1)) (zMM z (zh z - 1)))
def sp_keep (z : xS) (r : Int32) (z' : xS) : Prop := r = nI (zn z) ∧ z' = wS z
def sp_restore (z : xS) (r : Int32) (z' : xS) : Prop := (zf z = false ∧ r = -5 ∧ z' = z) ∨ (zf z = true ∧ r = nI (zsn z) ∧ z' = wP (wR z) (zsn z) (zsM z))
set_option maxHeartbeats 4000000 in
set_option maxRecDepth 100000 in
theorem c_X6_remove (l : Launch) (g : xG) (hJ : xJ (xad g)) (E : Nat → va_E) {z : xS} (hz : sX g E z) (hv : vS z) (x : Int32) : Met l yX6_remove wsX6_remove ({ frames := 3, cells := 0, slots := 0, locals := 103 }) (xPc g [.ref (xad g 0), .int x] E) (xQi g (fun r E1 => ∃ z1, sp_remove z x r z1 ∧ sX g E1 z1 ∧ ∀ j, 65 ≤ j → E1 j = E j)) 0 0 (xA (xad g)) := by
  refine x_met (ws' := _) (by decide) rfl (Nat.le_of_ble_eq_true rfl) ?_
  intro pz ez s m below meth cz ls S hr hlocks hP hK hl
  have hl : lv_has ls 2 [(0, .ref (xad g 0)), (1, .int x)] := hl
  have hS : va_S (xA (xad g)) s.heap s.heap [] := va_S.rf
  have hin2 : ∀ w ∈ u_ws RX2 TX2 2, w ∈ wsX6_remove := by decide +kernel
  have hin6 : ∀ w ∈ u_ws RX6 TX6 9, w ∈ wsX6_remove := by decide +kernel
  have fl10 : Cond.fieldLink RX6 10 "DiscArcs" "photos" "LDiscArcs$Photos;" ∈ wsX6_remove := by decide +kernel
  have fl22 : Cond.fieldLink RX6 22 "DiscArcs" "history" "LDiscArcs$History;" ∈ wsX6_remove := by decide +kernel
  have fl118 : Cond.fieldLink RX6 118 "DiscArcs$Photos" "size" "I" ∈ wsX6_remove := by decide +kernel
  obtain ⟨hX, hp, hsn, ⟨B, N, MM, hH, hHe⟩, ⟨p0, ta, h57⟩, h58, ⟨f6, h59⟩, ⟨x1, x2, x3, hA⟩, h61, ⟨f2, h62⟩, ⟨f3, h63⟩, u1, u2, u3, hZ⟩ := hz
  have h0 := hp.1
  have hv1 := hv.1.2
  have hfm : ∀ j, 65 ≤ j → E j = E j := fun _ _ => rfl
  refine lv_aload_n S.1 S.2.1 dX6_remove_0 rfl (lv_at hl 0 rfl) ?_
  refine x_get S hK hP dX6_remove_1 hX (by decide) (RX6, TX6, 9) rfl hin6 0 (by decide) fl10 rfl ?_
  refine lv_iload_n S.1 S.2.1 dX6_remove_4 rfl (lv_at hl 1 rfl) ?_
  refine x_si (va_runV (As := [.int x]) (rest := []) S (c_X2_holds l g E hp x) (cwV 1 S.2.2.2.2 gX6_remove_X2_holds rfl rfl rfl (by decide +kernel) ⟨Nat.le_of_ble_eq_true rfl, Nat.le_of_ble_eq_true rfl⟩) (x_preV hK hP hp.2.1 (by decide) rfl) rfl rfl hl.1 rfl (lv_room (Nat.le_of_ble_eq_true rfl)) dX6_remove_5 ⟨Nat.le_of_ble_eq_true rfl, Nat.le_of_ble_eq_true rfl⟩) (fun r5 hr5 => ?_)
  refine lv_if_ne (tgt := 13) S.1 S.2.1 dX6_remove_8 (by decide) (fun c8 => ?_) (fun c8 => ?_)
  · skip
    obtain ⟨k, hk, rfl⟩ := hr5.t c8
    refine lv_aload_n S.1 S.2.1 dX6_remove_13 rfl (lv_at hl 0 rfl) ?_
    refine x_get S hK hP dX6_remove_14 hX (by decide) (RX6, TX6, 9) rfl hin6 3 (by decide) fl22 rfl ?_
    refine lv_aload_n S.1 S.2.1 dX6_remove_17 rfl (lv_at hl 0 rfl) ?_
    refine x_get S hK hP dX6_remove_18 hX (by decide) (RX6, TX6, 9) rfl hin6 0 (by decide) fl10 rfl ?_
    refine x_qv (va_runV (As := [.ref (xad g 1)]) (rest := []) S (c_X1_record l g hJ E hH hp) (cwV 1 S.2.2.2.2 gX6_remove_X1_record rfl rfl rfl (by decide +kernel) ⟨Nat.le_of_ble_eq_true rfl, Nat.le_of_ble_eq_true rfl⟩) (x_preV hK hP hH.2.1 (by decide) rfl) rfl rfl hl.1 rfl (lv_room (Nat.le_of_ble_eq_true rfl)) dX6_remove_21 ⟨Nat.le_of_ble_eq_true rfl, Nat.le_of_ble_eq_true rfl⟩) hS (fun E1 H locs hq21 hP hS => ?_)
    obtain ⟨⟨B2, N2, MM2, hH, hHe2⟩, hfr21⟩ := hq21
    have hX := (hfr21 0 (by decide)).trans hX
    have hp := hp.keep (E1 := E1) (fun j g1 g2 => hfr21 j (by omega))
    have hsn := hsn.keep (E1 := E1) (fun j g1 g2 => hfr21 j (by omega))
    have h57 := (hfr21 57 (by decide)).trans h57
    have h58 := (hfr21 58 (by decide)).trans h58
    have h59 := (hfr21 59 (by decide)).trans h59
    have hA := (hfr21 60 (by decide)).trans hA
    have h61 := (hfr21 61 (by decide)).trans h61
    have h62 := (hfr21 62 (by decide)).trans h62
    have h63 := (hfr21 63 (by decide)).trans h63
    have hZ := (hfr21 64 (by decide)).trans hZ
    have hfm : ∀ j, 65 ≤ j → E1 j = E j := fun j hj => (hfr21 j (by omega)).trans (hfm j hj)
    have hHe : ∀ i, i < rcS (zh z) → N2 i = rcV (zh z) (zN z) (zn z) i ∧ MM2 i = rcV (zh z) (zMM z) (zM z) i := fun i hi => rec_eq hHe (hHe2 i hi) hi
    refine lv_aload_n S.1 S.2.1 dX6_remove_24 rfl (lv_at hl 0 rfl) ?_
    refine x_get S hK hP dX6_remove_25 hX (by decide) (RX6, TX6, 9) rfl hin6 0 (by decide) fl10 rfl ?_
    refine lv_iload_n S.1 S.2.1 dX6_remove_28 rfl (lv_at hl 1 rfl) ?_
    refine x_qv (va_runV (As := [.int (nI k)]) (rest := []) S (c_X2_delete l g hJ E1 hp hk) (cwV 1 S.2.2.2.2 gX6_remove_X2_delete rfl rfl rfl (by decide +kernel) ⟨Nat.le_of_ble_eq_true rfl, Nat.le_of_ble_eq_true rfl⟩) (x_preV hK hP hp.2.1 (by decide) rfl) rfl rfl hl.1 rfl (lv_room (Nat.le_of_ble_eq_true rfl)) dX6_remove_29 ⟨Nat.le_of_ble_eq_true rfl, Nat.le_of_ble_eq_true rfl⟩) hS (fun E1_1 H locs hq29 hP hS => ?_)
    obtain ⟨hp, hfr29⟩ := hq29
    have hX := (hfr29 0 (by decide)).trans hX
    have hsn := hsn.keep (E1 := E1_1) (fun j g1 g2 => hfr29 j (by omega))
    have h57 := (hfr29 57 (by decide)).trans h57
    have h58 := (hfr29 58 (by decide)).trans h58
    have h59 := (hfr29 59 (by decide)).trans h59
    have hA := (hfr29 60 (by decide)).trans hA
    have h61 := (hfr29 61 (by decide)).trans h61
    have h62 := (hfr29 62 (by decide)).trans h62
    have h63 := (hfr29 63 (by decide)).trans h63
    have hZ := (hfr29 64 (by decide)).trans hZ
    have hfm : ∀ j, 65 ≤ j → E1_1 j = E j := fun j hj => (hfr29 j (by omega)).trans (hfm j hj)
    have hH := hH.keep (E1 := E1_1) (fun j g1 g2 => hfr29 j (by omega))
    refine lv_aload_n S.1 S.2.1 dX6_remove_32 rfl (lv_at hl 0 rfl) ?_
    refine x_get S hK hP dX6_remove_33 hX (by decide) (RX6, TX6, 9) rfl hin6 0 (by decide) fl10 rfl ?_
    refine x_get S hK hP dX6_remove_36 hp.2.1 (by decide) (RX2, TX2, 2) rfl hin2 1 (by decide) fl118 rfl ?_
    exact x_iret S hr hlocks hP hS dX6_remove_39 (⟨_, Or.inr ⟨k, hk, rfl, rfl, rfl⟩, sX.mk (z := wP (wR z) (zn z - 1) (delM (zM z) k)) hX rfl hp hsn hH hHe h57 h58 h59 hA h61 h62 h63 hZ, hfm⟩)
  · skip
    refine lv_iconst (v := (-1)) S.1 S.2.1 dX6_remove_11 (by decide) ?_
    exact x_iret S hr hlocks hP hS dX6_remove_12 (⟨z, Or.inl ⟨hr5.f c8, rfl, rfl⟩, sX.mk hX rfl hp hsn hH hHe h57 h58 h59 hA h61 h62 h63 hZ, hfm⟩)
set_option maxHeartbeats 4000000 in
set_option maxRecDepth 100000 in
theorem c_X6_undo (l : Launch) (g : xG) (hJ : xJ (xad g)) (E : Nat → va_E) {z : xS} (hz : sX g E z) (hv : vS z)  : Met l yX6_undo wsX6_undo ({ frames := 3, cells := 0, slots := 0, locals := 103 }) (xPc g [.ref (xad g 0)] E) (xQi g (fun r E1 => ∃ z1, sp_undo z r z1 ∧ sX g E1 z1 ∧ ∀ j, 65 ≤ j → E1 j = E j)) 0 0 (xA (xad g)) := by
  refine x_met (ws' := _) (by decide) rfl (Nat.le_of_ble_eq_true rfl) ?_
  intro pz ez s m below meth cz ls S hr hlocks hP hK hl
  have hl : lv_has ls 1 [(0, .ref (xad g 0))] := hl
  have hS : va_S (xA (xad g)) s.heap s.heap [] := va_S.rf
  have hin1 : ∀ w ∈ u_ws RX1 TX1 2, w ∈ wsX6_undo := by decide +kernel
  have hin6 : ∀ w ∈ u_ws RX6 TX6 9, w ∈ wsX6_undo := by decide +kernel
  have fl10 : Cond.fieldLink RX6 10 "DiscArcs" "photos" "LDiscArcs$Photos;" ∈ wsX6_undo := by decide +kernel
  have fl22 : Cond.fieldLink RX6 22 "DiscArcs" "history" "LDiscArcs$History;" ∈ wsX6_undo := by decide +kernel
  have fl140 : Cond.fieldLink RX6 140 "DiscArcs$History" "size" "I" ∈ wsX6_undo := by decide +kernel
  obtain ⟨hX, hp, hsn, ⟨B, N, MM, hH, hHe⟩, ⟨p0, ta, h57⟩, h58, ⟨f6, h59⟩, ⟨x1, x2, x3, hA⟩, h61, ⟨f2, h62⟩, ⟨f3, h63⟩, u1, u2, u3, hZ⟩ := id hz
  have h0 := hp.1
  have hv1 := hv.1.2
  have hfm : ∀ j, 65 ≤ j → E j = E j := fun _ _ => rfl
  have hfm0 := hfm
  refine lv_aload_n S.1 S.2.1 dX6_undo_0 rfl (lv_at hl 0 rfl) ?_
  refine x_get S hK hP dX6_undo_1 hX (by decide) (RX6, TX6, 9) rfl hin6 3 (by decide) fl22 rfl ?_
  refine lv_aload_n S.1 S.2.1 dX6_undo_4 rfl (lv_at hl 0 rfl) ?_
  refine x_get S hK hP dX6_undo_5 hX (by decide) (RX6, TX6, 9) rfl hin6 0 (by decide) fl10 rfl ?_
  refine x_qi (va_runV (As := [.ref (xad g 1)]) (rest := []) S (c_X1_takeBack l g hJ E hH hp.ps) (cwV 1 S.2.2.2.2 gX6_undo_X1_takeBack rfl rfl rfl (by decide +kernel) ⟨Nat.le_of_ble_eq_true rfl, Nat.le_of_ble_eq_true rfl⟩) (x_preV hK hP hH.2.1 (by decide) rfl) rfl rfl hl.1 rfl (lv_room (Nat.le_of_ble_eq_true rfl)) dX6_undo_8 ⟨Nat.le_of_ble_eq_true rfl, Nat.le_of_ble_eq_true rfl⟩) hS (fun r8 E1 H locs hq8 hP hS => ?_)
  obtain ⟨hfr8, hor⟩ := hq8
  have hX := (hfr8 0 (by decide) (by decide)).trans hX
  have hsn := hsn.keep (E1 := E1) (fun j g1 g2 => hfr8 j (by omega) (by omega))
  have h57 := (hfr8 57 (by decide) (by decide)).trans h57
  have h58 := (hfr8 58 (by decide) (by decide)).trans h58
  have h59 := (hfr8 59 (by decide) (by decide)).trans h59
  have hA := (hfr8 60 (by decide) (by decide)).trans hA
  have h61 := (hfr8 61 (by decide) (by decide)).trans h61
  have h62 := (hfr8 62 (by decide) (by decide)).trans h62
  have h63 := (hfr8 63 (by decide) (by decide)).trans h63
  have hZ := (hfr8 64 (by decide) (by decide)).trans hZ
  have hfm : ∀ j, 65 ≤ j → E1 j = E j := fun j hj => (hfr8 j (by omega) (by omega)).trans (hfm j hj)
  refine lv_if_eq (tgt := 24) S.1 S.2.1 dX6_undo_11 (by decide) (fun c11 => ?_) (fun c11 => ?_)
  · skip
    refine lv_bipush (v := (-5)) S.1 S.2.1 dX6_undo_24 (by decide) ?_
    exact x_iret S hr hlocks hP hS dX6_undo_26 (by rcases hor with ⟨-, h1, h2⟩ | ⟨h1, -⟩; subst h2; exact ⟨z, Or.inl ⟨h1, rfl, rfl⟩, hz, hfm0⟩; rw [h1] at c11; exact absurd c11 (by decide))
  · skip
    obtain ⟨hs0, hp, hH⟩ : 0 < zh z ∧ ePh g E1 1 (zN z (zh z - 1)) (zMM z (zh z - 1)) ∧ eHi g E1 (zh z - 1) B N MM := by
      rcases hor with ⟨h1, -⟩ | ⟨-, h2, h3, h4⟩
      · exact absurd h1 c11
      · rw [← (hHe (zh z - 1) (by omega)).1, ← (hHe (zh z - 1) (by omega)).2]; exact ⟨h2, h3, h4⟩
    have hHe2 : ∀ i, i < zh z - 1 → N i = zN z i ∧ MM i = zMM z i := fun i hi => hHe i (by omega)
    refine lv_aload_n S.1 S.2.1 dX6_undo_14 rfl (lv_at hl 0 rfl) ?_
    refine x_get S hK hP dX6_undo_15 hX (by decide) (RX6, TX6, 9) rfl hin6 3 (by decide) fl22 rfl ?_
    refine x_get S hK hP dX6_undo_18 hH.2.1 (by decide) (RX1, TX1, 2) rfl hin1 1 (by decide) fl140 rfl ?_
    refine lv_goto (tgt := 26) S.1 S.2.1 dX6_undo_21 (by decide) ?_
    exact x_iret S hr hlocks hP hS dX6_undo_26 (⟨_, Or.inr ⟨hs0, rfl, rfl⟩, sX.mk (z := wP (wH z (zh z - 1)) (zN z (zh z - 1)) (zMM z (zh z - 1))) hX rfl hp hsn hH hHe2 h57 h58 h59 hA h61 h62 h63 hZ, hfm⟩)
set_option maxHeartbeats 4000000 in
set_option maxRecDepth 100000 in
theorem c_X6_restore (l : Launch) (g : xG) (hJ : xJ (xad g)) (E : Nat → va_E) {z : xS} (hz : sX g E z) (hv : vS z)  : Met l yX6_restore wsX6_restore ({ frames := 3, cells := 0, slots := 0, locals := 103 }) (xPc g [.ref (xad g 0)] E) (xQi g (fun r E1 => ∃ z1, sp_restore z r z1 ∧ sX g E1 z1 ∧ ∀ j, 65 ≤ j → E1 j = E j)) 0 0 (xA (xad g)) := by
  refine x_met (ws' := _) (by decide) rfl (Nat.le_of_ble_eq_true rfl) ?_
  intro pz ez s m below meth cz ls S hr hlocks hP hK hl
  have hl : lv_has ls 1 [(0, .ref (xad g 0))] := hl
  have hS : va_S (xA (xad g)) s.heap s.heap [] := va_S.rf
  have hin2 : ∀ w ∈ u_ws RX2 TX2 2, w ∈ wsX6_restore := by decide +kernel
  have hin6 : ∀ w ∈ u_ws RX6 TX6 9, w ∈ wsX6_restore := by decide +kernel
  have fl10 : Cond.fieldLink RX6 10 "DiscArcs" "photos" "LDiscArcs$Photos;" ∈ wsX6_restore := by decide +kernel
  have fl16 : Cond.fieldLink RX6 16 "DiscArcs" "snapshot" "LDiscArcs$Photos;" ∈ wsX6_restore := by decide +kernel
  have fl22 : Cond.fieldLink RX6 22 "DiscArcs" "history" "LDiscArcs$History;" ∈ wsX6_restore := by decide +kernel
  have fl118 : Cond.fieldLink RX6 118 "DiscArcs$Photos" "size" "I" ∈ wsX6_restore := by decide +kernel
  have fl144 : Cond.fieldLink RX6 144 "DiscArcs" "hasSnapshot" "Z" ∈ wsX6_restore := by decide +kernel
  obtain ⟨hX, hp, hsn, ⟨B, N, MM, hH, hHe⟩, ⟨p0, ta, h57⟩, h58, ⟨f6, h59⟩, ⟨x1, x2, x3, hA⟩, h61, ⟨f2, h62⟩, ⟨f3, h63⟩, u1, u2, u3, hZ⟩ := hz
  have h0 := hp.1
  have hv1 := hv.1.2
  have hfm : ∀ j, 65 ≤ j → E j = E j := fun _ _ => rfl
  refine lv_aload_n S.1 S.2.1 dX6_restore_0 rfl (lv_at hl 0 rfl) ?_
  refine x_get S hK hP dX6_restore_1 hX (by decide) (RX6, TX6, 9) rfl hin6 2 (by decide) fl144 rfl ?_
  refine lv_if_ne (tgt := 10) S.1 S.2.1 dX6_restore_4 (by decide) (fun c4 => ?_) (fun c4 => ?_)
  · skip
    refine lv_aload_n S.1 S.2.1 dX6_restore_10 rfl (lv_at hl 0 rfl) ?_
    refine x_get S hK hP dX6_restore_11 hX (by decide) (RX6, TX6, 9) rfl hin6 3 (by decide) fl22 rfl ?_
    refine lv_aload_n S.1 S.2.1 dX6_restore_14 rfl (lv_at hl 0 rfl) ?_
    refine x_get S hK hP dX6_restore_15 hX (by decide) (RX6, TX6, 9) rfl hin6 0 (by decide) fl10 rfl ?_
    refine x_qv (va_runV (As := [.ref (xad g 1)]) (rest := []) S (c_X1_record l g hJ E hH hp) (cwV 1 S.2.2.2.2 gX6_restore_X1_record rfl rfl rfl (by decide +kernel) ⟨Nat.le_of_ble_eq_true rfl, Nat.le_of_ble_eq_true rfl⟩) (x_preV hK hP hH.2.1 (by decide) rfl) rfl rfl hl.1 rfl (lv_room (Nat.le_of_ble_eq_true rfl)) dX6_restore_18 ⟨Nat.le_of_ble_eq_true rfl, Nat.le_of_ble_eq_true rfl⟩) hS (fun E1 H locs hq18 hP hS => ?_)
    obtain ⟨⟨B2, N2, MM2, hH, hHe2⟩, hfr18⟩ := hq18
    have hX := (hfr18 0 (by decide)).trans hX
    have hp := hp.keep (E1 := E1) (fun j g1 g2 => hfr18 j (by omega))
    have hsn := hsn.keep (E1 := E1) (fun j g1 g2 => hfr18 j (by omega))
    have h57 := (hfr18 57 (by decide)).trans h57
    have h58 := (hfr18 58 (by decide)).trans h58
    have h59 := (hfr18 59 (by decide)).trans h59
    have hA := (hfr18 60 (by decide)).trans hA
    have h61 := (hfr18 61 (by decide)).trans h61
    have h62 := (hfr18 62 (by decide)).trans h62
    have h63 := (hfr18 63 (by decide)).trans h63
    have hZ := (hfr18 64 (by decide)).trans hZ
    have hfm : ∀ j, 65 ≤ j → E1 j = E j := fun j hj => (hfr18 j (by omega)).trans (hfm j hj)
    have hHe : ∀ i, i < rcS (zh z) → N2 i = rcV (zh z) (zN z) (zn z) i ∧ MM2 i = rcV (zh z) (zMM z) (zM z) i := fun i hi => rec_eq hHe (hHe2 i hi) hi
    refine lv_aload_n S.1 S.2.1 dX6_restore_21 rfl (lv_at hl 0 rfl) ?_
    refine x_get S hK hP dX6_restore_22 hX (by decide) (RX6, TX6, 9) rfl hin6 0 (by decide) fl10 rfl ?_
    refine lv_aload_n S.1 S.2.1 dX6_restore_25 rfl (lv_at hl 0 rfl) ?_
    refine x_get S hK hP dX6_restore_26 hX (by decide) (RX6, TX6, 9) rfl hin6 1 (by decide) fl16 rfl ?_
    refine x_qv (va_runV (As := [.ref (xad g 10)]) (rest := []) S (c_X2_copyFrom l g hJ E1 hp.ps hsn (by omega)) (cwV 1 S.2.2.2.2 gX6_restore_X2_copyFrom rfl rfl rfl (by decide +kernel) ⟨Nat.le_of_ble_eq_true rfl, Nat.le_of_ble_eq_true rfl⟩) (x_preV hK hP hp.2.1 (by decide) rfl) rfl rfl hl.1 rfl (lv_room (Nat.le_of_ble_eq_true rfl)) dX6_restore_29 ⟨Nat.le_of_ble_eq_true rfl, Nat.le_of_ble_eq_true rfl⟩) hS (fun E1_1 H locs hq29 hP hS => ?_)
    obtain ⟨hp, hfr29⟩ := hq29
    have hX := (hfr29 0 (by decide)).trans hX
    have hsn := hsn.keep (E1 := E1_1) (fun j g1 g2 => hfr29 j (by omega))
    have h57 := (hfr29 57 (by decide)).trans h57
    have h58 := (hfr29 58 (by decide)).trans h58
    have h59 := (hfr29 59 (by decide)).trans h59
    have hA := (hfr29 60 (by decide)).trans hA
    have h61 := (hfr29 61 (by decide)).trans h61
    have h62 := (hfr29 62 (by decide)).trans h62
    have h63 := (hfr29 63 (by decide)).trans h63
    have hZ := (hfr29 64 (by decide)).trans hZ
    have hfm : ∀ j, 65 ≤ j → E1_1 j = E j := fun j hj => (hfr29 j (by omega)).trans (hfm j hj)
    have hH := hH.keep (E1 := E1_1) (fun j g1 g2 => hfr29 j (by omega))
    refine lv_aload_n S.1 S.2.1 dX6_restore_32 rfl (lv_at hl 0 rfl) ?_
    refine x_get S hK hP dX6_restore_33 hX (by decide) (RX6, TX6, 9) rfl hin6 0 (by decide) fl10 rfl ?_
    refine x_get S hK hP dX6_restore_36 hp.2.1 (by decide) (RX2, TX2, 2) rfl hin2 1 (by decide) fl118 rfl ?_
    exact x_iret S hr hlocks hP hS dX6_restore_39 (⟨_, Or.inr ⟨by have : ¬ zf z = false := fun h => c4 (bI_0.mpr h); simpa using this, rfl, rfl⟩, sX.mk (z := wP (wR z) (zsn z) (zsM z)) hX rfl hp hsn hH hHe h57 h58 h59 hA h61 h62 h63 hZ, hfm⟩)
  · skip
    refine lv_bipush (v := (-5)) S.1 S.2.1 dX6_restore_7 (by decide) ?_
    exact x_iret S hr hlocks hP hS dX6_restore_9 (⟨z, Or.inl ⟨bI_0.mp c4, rfl, rfl⟩, sX.mk hX rfl hp hsn hH hHe h57 h58 h59 hA h61 h62 h63 hZ, hfm⟩)
