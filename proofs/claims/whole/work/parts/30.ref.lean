/-! THE REFERENCE: its object at 65, its photos at 66; what is read -/
abbrev mO (g : xG) (kp fi hi od bs bb bf ty at9 nu : Int32) : va_E := .inr (7, [.ref (xad g 66), .ref (xad g 67), .int kp, .ref (xad g 68), .int fi, .ref (xad g 69), .int hi, .ref (xad g 70), .ref (xad g 71), .ref (xad g 72), .int od, .int bs, .int bb, .int bf, .int ty, .ref (xad g 73), .int at9, .int nu, .ref (xad g 74)])
/-- n photos in rows of 7 numbers from o on; how many they are is told at o + 70 -/
def nH (f : Nat → Int32) (o n : Nat) (M : Nat → Nat → Int32) : Prop := n ≤ 10 ∧ f (o + 70) = nI n ∧ ∀ k w, k < n → w < 7 → f (o + 7 * k + w) = M w k
theorem nH.at0 {f : Nat → Int32} {n : Nat} {M : Nat → Nat → Int32} (h : nH f 0 n M) {k w : Nat} (hk : k < n) (hw : w < 7) : f (7 * k + w) = M w k := by
  have := h.2.2 k w hk hw
  rw [Nat.zero_add] at this
  exact this
theorem nH.n0 {f : Nat → Int32} {n : Nat} {M : Nat → Nat → Int32} (h : nH f 0 n M) : f 70 = nI n := h.2.1
theorem mul7 (k w : Nat) : (7 : Int32) * nI k + nI w = nI (7 * k + w) := by
  rw [show (7 : Int32) = nI 7 from rfl, pk_mul, nI_add]
set_option maxHeartbeats 4000000 in
set_option maxRecDepth 100000 in
theorem c_X7_in (l : Launch) (g : xG) (E : Nat → va_E) (x lo hi : Int32) : Met l yX7_in wsX7_in ({ frames := 0, cells := 0, slots := 0, locals := 0 }) (xPc g [.int x, .int lo, .int hi] E) (vp_Si (xb (lo ≤ x ∧ x ≤ hi))) 0 0 (fun _ => False) := by
  refine x_met (ws' := _) (by decide) rfl (Nat.le_of_ble_eq_true rfl) ?_
  intro pz ez s m below meth cz ls S hr hlocks hP hK hl
  have hl : lv_has ls 3 [(0, .int x), (1, .int lo), (2, .int hi)] := hl
  refine lv_iload_n S.1 S.2.1 dX7_in_0 rfl (lv_at hl 0 rfl) ?_
  refine lv_iload_n S.1 S.2.1 dX7_in_1 rfl (lv_at hl 1 rfl) ?_
  refine lv_icmp_lt (tgt := 14) S.1 S.2.1 dX7_in_2 (by decide) (fun c2 => ?_) (fun c2 => ?_)
  · skip
    refine lv_iconst (v := 0) S.1 S.2.1 dX7_in_14 (by decide) ?_
    exact x_zretR S hr hlocks dX7_in_15 (xb.zero (by first | exact fun h => absurd c7 (Int32.not_lt.mpr h.2) | exact fun h => absurd c2 (Int32.not_lt.mpr h.1)))
  · skip
    refine lv_iload_n S.1 S.2.1 dX7_in_5 rfl (lv_at hl 0 rfl) ?_
    refine lv_iload_n S.1 S.2.1 dX7_in_6 rfl (lv_at hl 2 rfl) ?_
    refine lv_icmp_gt (tgt := 14) S.1 S.2.1 dX7_in_7 (by decide) (fun c7 => ?_) (fun c7 => ?_)
    · skip
      refine lv_iconst (v := 0) S.1 S.2.1 dX7_in_14 (by decide) ?_
      exact x_zretR S hr hlocks dX7_in_15 (xb.zero (by first | exact fun h => absurd c7 (Int32.not_lt.mpr h.2) | exact fun h => absurd c2 (Int32.not_lt.mpr h.1)))
    · skip
      refine lv_iconst (v := 1) S.1 S.2.1 dX7_in_10 (by decide) ?_
      refine lv_goto (tgt := 15) S.1 S.2.1 dX7_in_11 (by decide) ?_
      exact x_zretR S hr hlocks dX7_in_15 (xb.one ⟨Int32.not_lt.mp c2, Int32.not_lt.mp c7⟩)
set_option maxHeartbeats 4000000 in
set_option maxRecDepth 100000 in
theorem c_X7_of (l : Launch) (g : xG) (E : Nat → va_E) {kp fi hi od bs bb bf ty at9 nu : Int32} (h65 : E 65 = mO g kp fi hi od bs bb bf ty at9 nu) {f : Nat → Int32} (h66 : E 66 = .inl (xI g, 71, .inl f)) {k w : Nat} (hkw : 7 * k + w < 71) : Met l yX7_of wsX7_of ({ frames := 0, cells := 0, slots := 0, locals := 0 }) (xPc g [.ref (xad g 65), .int (nI k), .int (nI w)] E) (vp_Si (fun r => r = f (7 * k + w))) 0 0 (fun _ => False) := by
  refine x_met (ws' := _) (by decide) rfl (Nat.le_of_ble_eq_true rfl) ?_
  intro pz ez s m below meth cz ls S hr hlocks hP hK hl
  have hl : lv_has ls 3 [(0, .ref (xad g 65)), (1, .int (nI k)), (2, .int (nI w))] := hl
  have hin7 : ∀ w ∈ u_ws RX7 TX7 19, w ∈ wsX7_of := by decide +kernel
  have fl7 : Cond.fieldLink RX7 7 "DiscArcsModel" "now" "[I" ∈ wsX7_of := by decide +kernel
  refine lv_aload_n S.1 S.2.1 dX7_of_0 rfl (lv_at hl 0 rfl) ?_
  refine x_get S hK hP dX7_of_1 h65 (by decide) (RX7, TX7, 19) rfl hin7 0 (by decide) fl7 rfl ?_
  refine lv_bipush (v := 7) S.1 S.2.1 dX7_of_4 (by decide) ?_
  refine lv_iload_n S.1 S.2.1 dX7_of_6 rfl (lv_at hl 1 rfl) ?_
  refine lv_imul S.1 S.2.1 dX7_of_7 ?_
  refine lv_iload_n S.1 S.2.1 dX7_of_8 rfl (lv_at hl 2 rfl) ?_
  refine lv_iadd S.1 S.2.1 dX7_of_9 ?_
  refine x_iald S hK hP dX7_of_10 h66 (by decide) (j := (7 * k + w)) (mul7 k w) (by omega) (by decide) ?_
  exact x_iretR S hr hlocks dX7_of_11 rfl
theorem no_iff {n : Nat} (hn : n ≤ 10) {x : Int32} : (0 ≤ x ∧ x ≤ nI n - 1) ↔ held n x := by
  have e1 : (nI n - 1).toInt = (n : Int) - 1 := by
    rw [show (1 : Int32) = nI 1 from rfl, pk_sub_toInt (by omega) (by omega)]
    rfl
  constructor
  · rintro ⟨h0, h1⟩
    obtain ⟨j, hj, rfl⟩ := nI_of (Int32.not_lt.mpr h0)
    rw [I_le, e1, nI_Z hj] at h1
    exact ⟨j, by omega, rfl⟩
  · rintro ⟨k, hk, rfl⟩
    refine ⟨nI_pos' (by omega), ?_⟩
    rw [I_le, e1, nI_Z (by omega)]
    omega
set_option maxHeartbeats 4000000 in
set_option maxRecDepth 100000 in
theorem c_X7_no (l : Launch) (g : xG) (E : Nat → va_E) {kp fi hi od bs bb bf ty at9 nu : Int32} (h65 : E 65 = mO g kp fi hi od bs bb bf ty at9 nu) {f : Nat → Int32} (h66 : E 66 = .inl (xI g, 71, .inl f)) {n : Nat} {M : Nat → Nat → Int32} (hN : nH f 0 n M) (x : Int32) : Met l yX7_no wsX7_no ({ frames := 1, cells := 0, slots := 0, locals := 22 }) (xPc g [.ref (xad g 65), .int x] E) (vp_Si (xb (¬ held n x))) 0 0 (fun _ => False) := by
  refine x_met (ws' := _) (by decide) rfl (Nat.le_of_ble_eq_true rfl) ?_
  intro pz ez s m below meth cz ls S hr hlocks hP hK hl
  have hl : lv_has ls 2 [(0, .ref (xad g 65)), (1, .int x)] := hl
  have hin7 : ∀ w ∈ u_ws RX7 TX7 19, w ∈ wsX7_no := by decide +kernel
  have fl7 : Cond.fieldLink RX7 7 "DiscArcsModel" "now" "[I" ∈ wsX7_no := by decide +kernel
  have hn := hN.1
  have hn0 := hN.n0
  refine lv_iload_n S.1 S.2.1 dX7_no_0 rfl (lv_at hl 1 rfl) ?_
  refine lv_iconst (v := 0) S.1 S.2.1 dX7_no_1 (by decide) ?_
  refine lv_aload_n S.1 S.2.1 dX7_no_2 rfl (lv_at hl 0 rfl) ?_
  refine x_get S hK hP dX7_no_3 h65 (by decide) (RX7, TX7, 19) rfl hin7 0 (by decide) fl7 rfl ?_
  refine lv_bipush (v := 70) S.1 S.2.1 dX7_no_6 (by decide) ?_
  refine x_iald S hK hP dX7_no_8 h66 (by decide) (j := 70) rfl (by omega) (by decide) ?_
  refine lv_iconst (v := 1) S.1 S.2.1 dX7_no_9 (by decide) ?_
  refine lv_isub S.1 S.2.1 dX7_no_10 ?_
  refine x_si (va_runS (As := [.int x, .int 0, .int ((f 70) - 1)]) (rest := []) S (c_X7_in l g E x 0 (f 70 - 1)) (va_cwS 3 S.2.2.2.2 gX7_no_X7_in rfl rfl rfl (by decide +kernel) ⟨Nat.le_of_ble_eq_true rfl, Nat.le_of_ble_eq_true rfl⟩) (x_preS hK hP) rfl rfl hl.1 rfl (lv_room (Nat.le_of_ble_eq_true rfl)) dX7_no_11 ⟨Nat.le_of_ble_eq_true rfl, Nat.le_of_ble_eq_true rfl⟩) (fun r11 hr11 => ?_)
  refine lv_if_ne (tgt := 21) S.1 S.2.1 dX7_no_14 (by decide) (fun c14 => ?_) (fun c14 => ?_)
  · skip
    refine lv_iconst (v := 0) S.1 S.2.1 dX7_no_21 (by decide) ?_
    exact x_zretR S hr hlocks dX7_no_22 (xb.zero (fun h => h ((no_iff hn).mp (by have := hr11.t c14; rw [hn0] at this; exact this))))
  · skip
    refine lv_iconst (v := 1) S.1 S.2.1 dX7_no_17 (by decide) ?_
    refine lv_goto (tgt := 22) S.1 S.2.1 dX7_no_18 (by decide) ?_
    exact x_zretR S hr hlocks dX7_no_22 (xb.one (fun h => hr11.f c14 (by rw [hn0]; exact (no_iff hn).mpr h)))
set_option maxHeartbeats 4000000 in
set_option maxRecDepth 100000 in
theorem c_X7_isUsable (l : Launch) (g : xG) (E : Nat → va_E) {kp fi hi od bs bb bf ty at9 nu : Int32} (h65 : E 65 = mO g kp fi hi od bs bb bf ty at9 nu) {f : Nat → Int32} (h66 : E 66 = .inl (xI g, 71, .inl f)) {n : Nat} {M : Nat → Nat → Int32} (hN : nH f 0 n M) {k : Nat} (hk : k < n) : Met l yX7_isUsable wsX7_isUsable ({ frames := 1, cells := 0, slots := 0, locals := 22 }) (xPc g [.ref (xad g 65), .int (nI k)] E) (vp_Si (xb (pU M k = true))) 0 0 (fun _ => False) := by
  refine x_met (ws' := _) (by decide) rfl (Nat.le_of_ble_eq_true rfl) ?_
  intro pz ez s m below meth cz ls S hr hlocks hP hK hl
  have hl : lv_has ls 2 [(0, .ref (xad g 65)), (1, .int (nI k))] := hl
  have hn := hN.1
  have hn0 := hN.n0
  refine lv_aload_n S.1 S.2.1 dX7_isUsable_0 rfl (lv_at hl 0 rfl) ?_
  refine lv_iload_n S.1 S.2.1 dX7_isUsable_1 rfl (lv_at hl 1 rfl) ?_
  refine lv_bipush (v := 6) S.1 S.2.1 dX7_isUsable_2 (by decide) ?_
  refine x_si (va_runV (As := [.int (nI k), .int 6]) (rest := []) S (c_X7_of l g E h65 h66 (k := k) (w := 6) (by omega)) (cwV 2 S.2.2.2.2 gX7_isUsable_X7_of rfl rfl rfl (by decide +kernel) ⟨Nat.le_of_ble_eq_true rfl, Nat.le_of_ble_eq_true rfl⟩) (x_preV hK hP h65 (by decide) rfl) rfl rfl hl.1 rfl (lv_room (Nat.le_of_ble_eq_true rfl)) dX7_isUsable_4 ⟨Nat.le_of_ble_eq_true rfl, Nat.le_of_ble_eq_true rfl⟩) (fun r4 hr4 => ?_)
  rw [hN.at0 (k := k) (w := 6) hk (by omega)] at hr4
  subst hr4
  refine lv_if_ne (tgt := 14) S.1 S.2.1 dX7_isUsable_7 (by decide) (fun c7 => ?_) (fun c7 => ?_)
  · skip
    refine lv_iconst (v := 0) S.1 S.2.1 dX7_isUsable_14 (by decide) ?_
    exact x_zretR S hr hlocks dX7_isUsable_15 (xb.zero (fun h => c7 (of_decide_eq_true h)))
  · skip
    refine lv_iconst (v := 1) S.1 S.2.1 dX7_isUsable_10 (by decide) ?_
    refine lv_goto (tgt := 15) S.1 S.2.1 dX7_isUsable_11 (by decide) ?_
    exact x_zretR S hr hlocks dX7_isUsable_15 (xb.one (decide_eq_true c7))
theorem lt360 {n k : Nat} {M : Nat → Nat → Int32} (hv : vld n M) (hk : k < n) : ¬ 360 ≤ M 4 k ↔ ¬ M 4 k = 360 := by
  have h := (hv.1 k hk).2.2.2.2.1
  rw [I_le, I_eq, show (360 : Int32).toInt = 360 by decide]
  omega
set_option maxHeartbeats 4000000 in
set_option maxRecDepth 100000 in
theorem c_X7_hasAngle (l : Launch) (g : xG) (E : Nat → va_E) {kp fi hi od bs bb bf ty at9 nu : Int32} (h65 : E 65 = mO g kp fi hi od bs bb bf ty at9 nu) {f : Nat → Int32} (h66 : E 66 = .inl (xI g, 71, .inl f)) {n : Nat} {M : Nat → Nat → Int32} (hN : nH f 0 n M) (hv : vld n M) {k : Nat} (hk : k < n) : Met l yX7_hasAngle wsX7_hasAngle ({ frames := 2, cells := 0, slots := 0, locals := 43 }) (xPc g [.ref (xad g 65), .int (nI k)] E) (vp_Si (xb (pK M k = true))) 0 0 (fun _ => False) := by
  refine x_met (ws' := _) (by decide) rfl (Nat.le_of_ble_eq_true rfl) ?_
  intro pz ez s m below meth cz ls S hr hlocks hP hK hl
  have hl : lv_has ls 2 [(0, .ref (xad g 65)), (1, .int (nI k))] := hl
  have hn := hN.1
  have hn0 := hN.n0
  refine lv_aload_n S.1 S.2.1 dX7_hasAngle_0 rfl (lv_at hl 0 rfl) ?_
  refine lv_iload_n S.1 S.2.1 dX7_hasAngle_1 rfl (lv_at hl 1 rfl) ?_
  refine x_si (va_runV (As := [.int (nI k)]) (rest := []) S (c_X7_isUsable l g E h65 h66 hN hk) (cwV 1 S.2.2.2.2 gX7_hasAngle_X7_isUsable rfl rfl rfl (by decide +kernel) ⟨Nat.le_of_ble_eq_true rfl, Nat.le_of_ble_eq_true rfl⟩) (x_preV hK hP h65 (by decide) rfl) rfl rfl hl.1 rfl (lv_room (Nat.le_of_ble_eq_true rfl)) dX7_hasAngle_2 ⟨Nat.le_of_ble_eq_true rfl, Nat.le_of_ble_eq_true rfl⟩) (fun r2 hr2 => ?_)
  refine lv_if_eq (tgt := 24) S.1 S.2.1 dX7_hasAngle_5 (by decide) (fun c5 => ?_) (fun c5 => ?_)
  · skip
    refine lv_iconst (v := 0) S.1 S.2.1 dX7_hasAngle_24 (by decide) ?_
    exact x_zretR S hr hlocks dX7_hasAngle_25 (xb.zero (fun h => by first | exact absurd c17 ((lt360 hv hk).mpr (of_decide_eq_true h).2) | exact hr2.f c5 (decide_eq_true (of_decide_eq_true h).1)))
  · skip
    refine lv_aload_n S.1 S.2.1 dX7_hasAngle_8 rfl (lv_at hl 0 rfl) ?_
    refine lv_iload_n S.1 S.2.1 dX7_hasAngle_9 rfl (lv_at hl 1 rfl) ?_
    refine lv_iconst (v := 4) S.1 S.2.1 dX7_hasAngle_10 (by decide) ?_
    refine x_si (va_runV (As := [.int (nI k), .int 4]) (rest := []) S (c_X7_of l g E h65 h66 (k := k) (w := 4) (by omega)) (cwV 2 S.2.2.2.2 gX7_hasAngle_X7_of rfl rfl rfl (by decide +kernel) ⟨Nat.le_of_ble_eq_true rfl, Nat.le_of_ble_eq_true rfl⟩) (x_preV hK hP h65 (by decide) rfl) rfl rfl hl.1 rfl (lv_room (Nat.le_of_ble_eq_true rfl)) dX7_hasAngle_11 ⟨Nat.le_of_ble_eq_true rfl, Nat.le_of_ble_eq_true rfl⟩) (fun r11 hr11 => ?_)
    rw [hN.at0 (k := k) (w := 4) hk (by omega)] at hr11
    subst hr11
    refine lv_sipush (v := 360) S.1 S.2.1 dX7_hasAngle_14 (by decide) ?_
    refine lv_icmp_ge (tgt := 24) S.1 S.2.1 dX7_hasAngle_17 (by decide) (fun c17 => ?_) (fun c17 => ?_)
    · skip
      refine lv_iconst (v := 0) S.1 S.2.1 dX7_hasAngle_24 (by decide) ?_
      exact x_zretR S hr hlocks dX7_hasAngle_25 (xb.zero (fun h => by first | exact absurd c17 ((lt360 hv hk).mpr (of_decide_eq_true h).2) | exact hr2.f c5 (decide_eq_true (of_decide_eq_true h).1)))
    · skip
      refine lv_iconst (v := 1) S.1 S.2.1 dX7_hasAngle_20 (by decide) ?_
      refine lv_goto (tgt := 25) S.1 S.2.1 dX7_hasAngle_21 (by decide) ?_
      exact x_zretR S hr hlocks dX7_hasAngle_25 (xb.one (decide_eq_true ⟨of_decide_eq_true (hr2.t c5), (lt360 hv hk).mp c17⟩))
theorem mk_skip0 {P : Nat → Bool} {k : Nat} (h : ¬ P k = true) : nI (mk P k) ||| 0 = nI (mk P (k + 1)) := by
  rw [Int32.or_zero]
  exact mk_skip h
set_option maxHeartbeats 4000000 in
set_option maxRecDepth 100000 in
theorem c_X7_usable (l : Launch) (g : xG) (E : Nat → va_E) {kp fi hi od bs bb bf ty at9 nu : Int32} (h65 : E 65 = mO g kp fi hi od bs bb bf ty at9 nu) {f : Nat → Int32} (h66 : E 66 = .inl (xI g, 71, .inl f)) {n : Nat} {M : Nat → Nat → Int32} (hN : nH f 0 n M)  : Met l yX7_usable wsX7_usable ({ frames := 2, cells := 0, slots := 0, locals := 43 }) (xPc g [.ref (xad g 65)] E) (vp_Si (fun r => r = nI (mk (pU M) n))) 0 0 (fun _ => False) := by
  refine x_met (ws' := _) (by decide) rfl (Nat.le_of_ble_eq_true rfl) ?_
  intro pz ez s m below meth cz ls S hr hlocks hP hK hl
  have hl : lv_has ls 3 [(0, .ref (xad g 65))] := hl
  have hin7 : ∀ w ∈ u_ws RX7 TX7 19, w ∈ wsX7_usable := by decide +kernel
  have fl7 : Cond.fieldLink RX7 7 "DiscArcsModel" "now" "[I" ∈ wsX7_usable := by decide +kernel
  have hn := hN.1
  have hn0 := hN.n0
  refine lv_iconst (v := 0) S.1 S.2.1 dX7_usable_0 (by decide) ?_
  refine lv_istore_n (lv' := [(1, .int 0), (0, .ref (xad g 65))]) S.1 S.2.1 dX7_usable_1 rfl hl (by decide) rfl (fun ls hl => ?_)
  refine lv_iconst (v := 0) S.1 S.2.1 dX7_usable_2 (by decide) ?_
  refine lv_istore_n (lv' := [(2, .int 0), (1, .int 0), (0, .ref (xad g 65))]) S.1 S.2.1 dX7_usable_3 rfl hl (by decide) rfl (fun ls hl => ?_)
  have loop4 : ∀ (d : Nat) (q : Nat), (hq : q ≤ n) → (n - q) < d → ∀ ls : Array Slot, lv_has ls 3 [(2, .int (nI q)), (1, .int (nI (mk (pU M) q))), (0, .ref (xad g 65))] → W pz l ez ({ frames := 2, cells := 0, slots := 0, locals := 43 }) s m ([.ref (xad g 65)] : List Value).toArray below meth cz s.heap [] 0 0 (MQ below (vp_Si (fun r => r = nI (mk (pU M) n))) ([.ref (xad g 65)] : List Value).toArray s 0 0 (fun _ => False)) (F0 m 4 ls []) := by
    intro d
    induction d with
    | zero => intro q hq hd; exact absurd hd (Nat.not_lt_zero _)
    | succ d ih4 =>
      intro q hq hd ls hl
      refine lv_iload_n S.1 S.2.1 dX7_usable_4 rfl (lv_at hl 0 rfl) ?_
      refine lv_aload_n S.1 S.2.1 dX7_usable_5 rfl (lv_at hl 2 rfl) ?_
      refine x_get S hK hP dX7_usable_6 h65 (by decide) (RX7, TX7, 19) rfl hin7 0 (by decide) fl7 rfl ?_
      refine lv_bipush (v := 70) S.1 S.2.1 dX7_usable_9 (by decide) ?_
      refine x_iald S hK hP dX7_usable_11 h66 (by decide) (j := 70) rfl (by omega) (by decide) ?_
      refine lv_icmp_ge (tgt := 39) S.1 S.2.1 dX7_usable_12 (by decide) (fun c12 => ?_) (fun c12 => ?_)
      · skip
        refine lv_iload_n S.1 S.2.1 dX7_usable_39 rfl (lv_at hl 1 rfl) ?_
        exact x_iretR S hr hlocks dX7_usable_40 (by rw [hn0] at c12; rw [show q = n from Nat.le_antisymm hq ((nI_leI (by omega) (by omega)).mp c12)])
      · skip
        have hqn : q < n := Nat.not_le.mp (fun h => c12 (by rw [hn0]; exact (nI_leI (by omega) (by omega)).mpr h))
        refine lv_iload_n S.1 S.2.1 dX7_usable_15 rfl (lv_at hl 1 rfl) ?_
        refine lv_aload_n S.1 S.2.1 dX7_usable_16 rfl (lv_at hl 2 rfl) ?_
        refine lv_iload_n S.1 S.2.1 dX7_usable_17 rfl (lv_at hl 0 rfl) ?_
        refine x_si (va_runV (As := [.int (nI q)]) (rest := [.int (nI (mk (pU M) q))]) S (c_X7_isUsable l g E h65 h66 hN hqn) (cwV 1 S.2.2.2.2 gX7_usable_X7_isUsable rfl rfl rfl (by decide +kernel) ⟨Nat.le_of_ble_eq_true rfl, Nat.le_of_ble_eq_true rfl⟩) (x_preV hK hP h65 (by decide) rfl) rfl rfl hl.1 rfl (lv_room (Nat.le_of_ble_eq_true rfl)) dX7_usable_18 ⟨Nat.le_of_ble_eq_true rfl, Nat.le_of_ble_eq_true rfl⟩) (fun r18 hr18 => ?_)
        refine lv_if_eq (tgt := 30) S.1 S.2.1 dX7_usable_21 (by decide) (fun c21 => ?_) (fun c21 => ?_)
        · skip
          refine lv_iconst (v := 0) S.1 S.2.1 dX7_usable_30 (by decide) ?_
          refine lv_ior S.1 S.2.1 dX7_usable_31 ?_
          refine W.eq (g2 := F0 m 32 ls [.int (nI (mk (pU M) (q + 1)))]) (by rw [mk_skip0 (P := pU M) (hr18.f c21)]) ?_
          refine lv_istore_n (lv' := [(1, .int (nI (mk (pU M) (q + 1)))), (2, .int (nI q)), (0, .ref (xad g 65))]) S.1 S.2.1 dX7_usable_32 rfl hl (by decide) rfl (fun ls hl => ?_)
          refine lv_iinc (v := nI (q + 1)) (lv' := [(2, .int (nI (q + 1))), (1, .int (nI (mk (pU M) (q + 1)))), (0, .ref (xad g 65))]) S.1 S.2.1 dX7_usable_33 hl (k := 1) rfl (show nI q + Int32.ofInt 1 = _ from nI_1 _) (by decide) rfl (fun ls hl => ?_)
          refine lv_goto (tgt := 4) S.1 S.2.1 dX7_usable_36 (by decide) ?_
          exact ih4 (q + 1) (by omega) (by omega) ls (lv_sub hl [0, 1, 2] rfl)
        · skip
          refine lv_iconst (v := 1) S.1 S.2.1 dX7_usable_24 (by decide) ?_
          refine lv_iload_n S.1 S.2.1 dX7_usable_25 rfl (lv_at hl 0 rfl) ?_
          refine lv_ishl S.1 S.2.1 dX7_usable_26 ?_
          refine lv_goto (tgt := 31) S.1 S.2.1 dX7_usable_27 (by decide) ?_
          refine lv_ior S.1 S.2.1 dX7_usable_31 ?_
          refine W.eq (g2 := F0 m 32 ls [.int (nI (mk (pU M) (q + 1)))]) (by rw [mk_step (P := pU M) (by omega) (hr18.t c21)]) ?_
          refine lv_istore_n (lv' := [(1, .int (nI (mk (pU M) (q + 1)))), (2, .int (nI q)), (0, .ref (xad g 65))]) S.1 S.2.1 dX7_usable_32 rfl hl (by decide) rfl (fun ls hl => ?_)
          refine lv_iinc (v := nI (q + 1)) (lv' := [(2, .int (nI (q + 1))), (1, .int (nI (mk (pU M) (q + 1)))), (0, .ref (xad g 65))]) S.1 S.2.1 dX7_usable_33 hl (k := 1) rfl (show nI q + Int32.ofInt 1 = _ from nI_1 _) (by decide) rfl (fun ls hl => ?_)
          refine lv_goto (tgt := 4) S.1 S.2.1 dX7_usable_36 (by decide) ?_
          exact ih4 (q + 1) (by omega) (by omega) ls (lv_sub hl [0, 1, 2] rfl)
  exact loop4 _ 0 (Nat.zero_le _) (Nat.lt_succ_self _) ls (lv_sub hl [0, 1, 2] rfl)
set_option maxHeartbeats 4000000 in
set_option maxRecDepth 100000 in
theorem c_X7_withAngle (l : Launch) (g : xG) (E : Nat → va_E) {kp fi hi od bs bb bf ty at9 nu : Int32} (h65 : E 65 = mO g kp fi hi od bs bb bf ty at9 nu) {f : Nat → Int32} (h66 : E 66 = .inl (xI g, 71, .inl f)) {n : Nat} {M : Nat → Nat → Int32} (hN : nH f 0 n M) (hv : vld n M)  : Met l yX7_withAngle wsX7_withAngle ({ frames := 3, cells := 0, slots := 0, locals := 64 }) (xPc g [.ref (xad g 65)] E) (vp_Si (fun r => r = nI (mk (pK M) n))) 0 0 (fun _ => False) := by
  refine x_met (ws' := _) (by decide) rfl (Nat.le_of_ble_eq_true rfl) ?_
  intro pz ez s m below meth cz ls S hr hlocks hP hK hl
  have hl : lv_has ls 3 [(0, .ref (xad g 65))] := hl
  have hin7 : ∀ w ∈ u_ws RX7 TX7 19, w ∈ wsX7_withAngle := by decide +kernel
  have fl7 : Cond.fieldLink RX7 7 "DiscArcsModel" "now" "[I" ∈ wsX7_withAngle := by decide +kernel
  have hn := hN.1
  have hn0 := hN.n0
  refine lv_iconst (v := 0) S.1 S.2.1 dX7_withAngle_0 (by decide) ?_
  refine lv_istore_n (lv' := [(1, .int 0), (0, .ref (xad g 65))]) S.1 S.2.1 dX7_withAngle_1 rfl hl (by decide) rfl (fun ls hl => ?_)
  refine lv_iconst (v := 0) S.1 S.2.1 dX7_withAngle_2 (by decide) ?_
  refine lv_istore_n (lv' := [(2, .int 0), (1, .int 0), (0, .ref (xad g 65))]) S.1 S.2.1 dX7_withAngle_3 rfl hl (by decide) rfl (fun ls hl => ?_)
  have loop4 : ∀ (d : Nat) (q : Nat), (hq : q ≤ n) → (n - q) < d → ∀ ls : Array Slot, lv_has ls 3 [(2, .int (nI q)), (1, .int (nI (mk (pK M) q))), (0, .ref (xad g 65))] → W pz l ez ({ frames := 3, cells := 0, slots := 0, locals := 64 }) s m ([.ref (xad g 65)] : List Value).toArray below meth cz s.heap [] 0 0 (MQ below (vp_Si (fun r => r = nI (mk (pK M) n))) ([.ref (xad g 65)] : List Value).toArray s 0 0 (fun _ => False)) (F0 m 4 ls []) := by
    intro d
    induction d with
    | zero => intro q hq hd; exact absurd hd (Nat.not_lt_zero _)
    | succ d ih4 =>
      intro q hq hd ls hl
      refine lv_iload_n S.1 S.2.1 dX7_withAngle_4 rfl (lv_at hl 0 rfl) ?_
      refine lv_aload_n S.1 S.2.1 dX7_withAngle_5 rfl (lv_at hl 2 rfl) ?_
      refine x_get S hK hP dX7_withAngle_6 h65 (by decide) (RX7, TX7, 19) rfl hin7 0 (by decide) fl7 rfl ?_
      refine lv_bipush (v := 70) S.1 S.2.1 dX7_withAngle_9 (by decide) ?_
      refine x_iald S hK hP dX7_withAngle_11 h66 (by decide) (j := 70) rfl (by omega) (by decide) ?_
      refine lv_icmp_ge (tgt := 39) S.1 S.2.1 dX7_withAngle_12 (by decide) (fun c12 => ?_) (fun c12 => ?_)
      · skip
        refine lv_iload_n S.1 S.2.1 dX7_withAngle_39 rfl (lv_at hl 1 rfl) ?_
        exact x_iretR S hr hlocks dX7_withAngle_40 (by rw [hn0] at c12; rw [show q = n from Nat.le_antisymm hq ((nI_leI (by omega) (by omega)).mp c12)])
      · skip
        have hqn : q < n := Nat.not_le.mp (fun h => c12 (by rw [hn0]; exact (nI_leI (by omega) (by omega)).mpr h))
        refine lv_iload_n S.1 S.2.1 dX7_withAngle_15 rfl (lv_at hl 1 rfl) ?_
        refine lv_aload_n S.1 S.2.1 dX7_withAngle_16 rfl (lv_at hl 2 rfl) ?_
        refine lv_iload_n S.1 S.2.1 dX7_withAngle_17 rfl (lv_at hl 0 rfl) ?_
        refine x_si (va_runV (As := [.int (nI q)]) (rest := [.int (nI (mk (pK M) q))]) S (c_X7_hasAngle l g E h65 h66 hN hv hqn) (cwV 1 S.2.2.2.2 gX7_withAngle_X7_hasAngle rfl rfl rfl (by decide +kernel) ⟨Nat.le_of_ble_eq_true rfl, Nat.le_of_ble_eq_true rfl⟩) (x_preV hK hP h65 (by decide) rfl) rfl rfl hl.1 rfl (lv_room (Nat.le_of_ble_eq_true rfl)) dX7_withAngle_18 ⟨Nat.le_of_ble_eq_true rfl, Nat.le_of_ble_eq_true rfl⟩) (fun r18 hr18 => ?_)
        refine lv_if_eq (tgt := 30) S.1 S.2.1 dX7_withAngle_21 (by decide) (fun c21 => ?_) (fun c21 => ?_)
        · skip
          refine lv_iconst (v := 0) S.1 S.2.1 dX7_withAngle_30 (by decide) ?_
          refine lv_ior S.1 S.2.1 dX7_withAngle_31 ?_
          refine W.eq (g2 := F0 m 32 ls [.int (nI (mk (pK M) (q + 1)))]) (by rw [mk_skip0 (P := pK M) (hr18.f c21)]) ?_
          refine lv_istore_n (lv' := [(1, .int (nI (mk (pK M) (q + 1)))), (2, .int (nI q)), (0, .ref (xad g 65))]) S.1 S.2.1 dX7_withAngle_32 rfl hl (by decide) rfl (fun ls hl => ?_)
          refine lv_iinc (v := nI (q + 1)) (lv' := [(2, .int (nI (q + 1))), (1, .int (nI (mk (pK M) (q + 1)))), (0, .ref (xad g 65))]) S.1 S.2.1 dX7_withAngle_33 hl (k := 1) rfl (show nI q + Int32.ofInt 1 = _ from nI_1 _) (by decide) rfl (fun ls hl => ?_)
          refine lv_goto (tgt := 4) S.1 S.2.1 dX7_withAngle_36 (by decide) ?_
          exact ih4 (q + 1) (by omega) (by omega) ls (lv_sub hl [0, 1, 2] rfl)
        · skip
          refine lv_iconst (v := 1) S.1 S.2.1 dX7_withAngle_24 (by decide) ?_
          refine lv_iload_n S.1 S.2.1 dX7_withAngle_25 rfl (lv_at hl 0 rfl) ?_
          refine lv_ishl S.1 S.2.1 dX7_withAngle_26 ?_
          refine lv_goto (tgt := 31) S.1 S.2.1 dX7_withAngle_27 (by decide) ?_
          refine lv_ior S.1 S.2.1 dX7_withAngle_31 ?_
          refine W.eq (g2 := F0 m 32 ls [.int (nI (mk (pK M) (q + 1)))]) (by rw [mk_step (P := pK M) (by omega) (hr18.t c21)]) ?_
          refine lv_istore_n (lv' := [(1, .int (nI (mk (pK M) (q + 1)))), (2, .int (nI q)), (0, .ref (xad g 65))]) S.1 S.2.1 dX7_withAngle_32 rfl hl (by decide) rfl (fun ls hl => ?_)
          refine lv_iinc (v := nI (q + 1)) (lv' := [(2, .int (nI (q + 1))), (1, .int (nI (mk (pK M) (q + 1)))), (0, .ref (xad g 65))]) S.1 S.2.1 dX7_withAngle_33 hl (k := 1) rfl (show nI q + Int32.ofInt 1 = _ from nI_1 _) (by decide) rfl (fun ls hl => ?_)
          refine lv_goto (tgt := 4) S.1 S.2.1 dX7_withAngle_36 (by decide) ?_
          exact ih4 (q + 1) (by omega) (by omega) ls (lv_sub hl [0, 1, 2] rfl)
  exact loop4 _ 0 (Nat.zero_le _) (Nat.lt_succ_self _) ls (lv_sub hl [0, 1, 2] rfl)
theorem sh_k : ∀ k, k < 10 → ((nI k &&& 31).toBitVec.smod 32).toNat = k := by decide +kernel
theorem bit_at {a k : Nat} (ha : a < 1024) (hk : k < 10) : (nI a >>> (nI k &&& 31)) &&& 1 = if a.testBit k then 1 else 0 := by
  rw [pk_shrN (n := a) (by omega) (nI k &&& 31) k (sh_k k hk)]
  have h0 : a / 2 ^ k ≤ a := Nat.div_le_self _ _
  rw [pk_andN (n := a / 2 ^ k) (by omega) (m := 1) 1 (by decide)]
  rw [Nat.testBit_eq_decide_div_mod_eq]
  have h2 : a / 2 ^ k % 2 = 0 ∨ a / 2 ^ k % 2 = 1 := by omega
  rcases h2 with h2 | h2
  · rw [show (2 : Nat) ^ 1 = 2 from rfl, h2]
    rfl
  · rw [show (2 : Nat) ^ 1 = 2 from rfl, h2]
    rfl
theorem bit_1 {a k : Nat} (ha : a < 1024) (hk : k < 10) : (nI a >>> (nI k &&& 31)) &&& 1 = 1 ↔ a.testBit k = true := by
  rw [bit_at ha hk]
  cases a.testBit k <;> simp
theorem bit_n {a k : Nat} (ha : a < 1024) (hk : k < 10) : nI (cnt (fun i => a.testBit i) k) + ((nI a >>> (nI k &&& 31)) &&& 1) = nI (cnt (fun i => a.testBit i) (k + 1)) := by
  rw [bit_at ha hk]
  show _ = nI (cnt (fun i => a.testBit i) k + (if a.testBit k = true then 1 else 0))
  rw [← nI_add]
  cases a.testBit k <;> rfl
set_option maxHeartbeats 4000000 in
set_option maxRecDepth 100000 in
theorem c_X7_bits (l : Launch) (g : xG) (E : Nat → va_E) {a : Nat} (ha : a < 1024) : Met l yX7_bits wsX7_bits ({ frames := 0, cells := 0, slots := 0, locals := 0 }) (xPc g [.int (nI a)] E) (vp_Si (fun r => r = nI (pop a))) 0 0 (fun _ => False) := by
  refine x_met (ws' := _) (by decide) rfl (Nat.le_of_ble_eq_true rfl) ?_
  intro pz ez s m below meth cz ls S hr hlocks hP hK hl
  have hl : lv_has ls 3 [(0, .int (nI a))] := hl
  refine lv_iconst (v := 0) S.1 S.2.1 dX7_bits_0 (by decide) ?_
  refine lv_istore_n (lv' := [(1, .int 0), (0, .int (nI a))]) S.1 S.2.1 dX7_bits_1 rfl hl (by decide) rfl (fun ls hl => ?_)
  refine lv_iconst (v := 0) S.1 S.2.1 dX7_bits_2 (by decide) ?_
  refine lv_istore_n (lv' := [(2, .int 0), (1, .int 0), (0, .int (nI a))]) S.1 S.2.1 dX7_bits_3 rfl hl (by decide) rfl (fun ls hl => ?_)
  have loop4 : ∀ (d : Nat) (q : Nat), (hq : q ≤ 10) → (10 - q) < d → ∀ ls : Array Slot, lv_has ls 3 [(2, .int (nI q)), (1, .int (nI (cnt (fun i => a.testBit i) q))), (0, .int (nI a))] → W pz l ez ({ frames := 0, cells := 0, slots := 0, locals := 0 }) s m ([.int (nI a)] : List Value).toArray below meth cz s.heap [] 0 0 (MQ below (vp_Si (fun r => r = nI (pop a))) ([.int (nI a)] : List Value).toArray s 0 0 (fun _ => False)) (F0 m 4 ls []) := by
    intro d
    induction d with
    | zero => intro q hq hd; exact absurd hd (Nat.not_lt_zero _)
    | succ d ih4 =>
      intro q hq hd ls hl
      refine lv_iload_n S.1 S.2.1 dX7_bits_4 rfl (lv_at hl 0 rfl) ?_
      refine lv_bipush (v := 10) S.1 S.2.1 dX7_bits_5 (by decide) ?_
      refine lv_icmp_ge (tgt := 24) S.1 S.2.1 dX7_bits_7 (by decide) (fun c7 => ?_) (fun c7 => ?_)
      · skip
        refine lv_iload_n S.1 S.2.1 dX7_bits_24 rfl (lv_at hl 1 rfl) ?_
        exact x_iretR S hr hlocks dX7_bits_25 (by rw [show q = 10 from Nat.le_antisymm hq ((nI_leI (a := 10) (by omega) (by omega)).mp c7)]; rfl)
      · skip
        have hq10 : q < 10 := Nat.not_le.mp (fun h => c7 ((nI_leI (a := 10) (by omega) (by omega)).mpr h))
        refine lv_iload_n S.1 S.2.1 dX7_bits_10 rfl (lv_at hl 1 rfl) ?_
        refine lv_iload_n S.1 S.2.1 dX7_bits_11 rfl (lv_at hl 2 rfl) ?_
        refine lv_iload_n S.1 S.2.1 dX7_bits_12 rfl (lv_at hl 0 rfl) ?_
        refine lv_ishr S.1 S.2.1 dX7_bits_13 ?_
        refine lv_iconst (v := 1) S.1 S.2.1 dX7_bits_14 (by decide) ?_
        refine lv_iand S.1 S.2.1 dX7_bits_15 ?_
        refine lv_iadd S.1 S.2.1 dX7_bits_16 ?_
        refine W.eq (g2 := F0 m 17 ls [.int (nI (cnt (fun i => a.testBit i) (q + 1)))]) (by rw [bit_n ha hq10]) ?_
        refine lv_istore_n (lv' := [(1, .int (nI (cnt (fun i => a.testBit i) (q + 1)))), (2, .int (nI q)), (0, .int (nI a))]) S.1 S.2.1 dX7_bits_17 rfl hl (by decide) rfl (fun ls hl => ?_)
        refine lv_iinc (v := nI (q + 1)) (lv' := [(2, .int (nI (q + 1))), (1, .int (nI (cnt (fun i => a.testBit i) (q + 1)))), (0, .int (nI a))]) S.1 S.2.1 dX7_bits_18 hl (k := 1) rfl (show nI q + Int32.ofInt 1 = _ from nI_1 _) (by decide) rfl (fun ls hl => ?_)
        refine lv_goto (tgt := 4) S.1 S.2.1 dX7_bits_21 (by decide) ?_
        exact ih4 (q + 1) (by omega) (by omega) ls (lv_sub hl [0, 1, 2] rfl)
  exact loop4 _ 0 (Nat.zero_le _) (Nat.lt_succ_self _) ls (lv_sub hl [0, 1, 2] rfl)
set_option maxHeartbeats 4000000 in
set_option maxRecDepth 100000 in
theorem c_X7_lower (l : Launch) (g : xG) (E : Nat → va_E) {kp fi hi od bs bb bf ty at9 nu : Int32} (h65 : E 65 = mO g kp fi hi od bs bb bf ty at9 nu) {f : Nat → Int32} (h66 : E 66 = .inl (xI g, 71, .inl f)) {n : Nat} {M : Nat → Nat → Int32} (hN : nH f 0 n M) {i j k : Nat} (hi : i < n) (hj : j < n) (hk : k < n)  : Met l yX7_lower wsX7_lower ({ frames := 1, cells := 0, slots := 0, locals := 22 }) (xPc g [.ref (xad g 65), .int (nI i), .int (nI j), .int (nI k)] E) (vp_Sl (fun r => r = loN M i j k)) 0 0 (fun _ => False) := by
  refine x_met (ws' := _) (by decide) rfl (Nat.le_of_ble_eq_true rfl) ?_
  intro pz ez s m below meth cz ls S hr hlocks hP hK hl
  have hl : lv_has ls 10 [(0, .ref (xad g 65)), (1, .int (nI i)), (2, .int (nI j)), (3, .int (nI k))] := hl
  have hn := hN.1
  have hn0 := hN.n0
  refine lv_aload_n S.1 S.2.1 dX7_lower_0 rfl (lv_at hl 0 rfl) ?_
  refine lv_iload_n S.1 S.2.1 dX7_lower_1 rfl (lv_at hl 1 rfl) ?_
  refine lv_iconst (v := 0) S.1 S.2.1 dX7_lower_2 (by decide) ?_
  refine x_si (va_runV (As := [.int (nI i), .int 0]) (rest := []) S (c_X7_of l g E h65 h66 (k := i) (w := 0) (by omega)) (cwV 2 S.2.2.2.2 gX7_lower_X7_of rfl rfl rfl (by decide +kernel) ⟨Nat.le_of_ble_eq_true rfl, Nat.le_of_ble_eq_true rfl⟩) (x_preV hK hP h65 (by decide) rfl) rfl rfl hl.1 rfl (lv_room (Nat.le_of_ble_eq_true rfl)) dX7_lower_3 ⟨Nat.le_of_ble_eq_true rfl, Nat.le_of_ble_eq_true rfl⟩) (fun r3 hr3 => ?_)
  rw [hN.at0 (k := i) (w := 0) hi (by omega)] at hr3
  subst hr3
  refine lv_i2l (v := (M 0 i).toInt64) S.1 S.2.1 dX7_lower_6 rfl ?_
  refine lv_topl (fun x7 ex7 => ?_)
  refine lv_lstore (lv' := [(4, .long x7), (0, .ref (xad g 65)), (1, .int (nI i)), (2, .int (nI j)), (3, .int (nI k))]) S.1 S.2.1 dX7_lower_7 hl (by decide) rfl (fun ls hl => ?_)
  refine lv_aload_n S.1 S.2.1 dX7_lower_9 rfl (lv_at hl 1 rfl) ?_
  refine lv_iload_n S.1 S.2.1 dX7_lower_10 rfl (lv_at hl 3 rfl) ?_
  refine lv_iconst (v := 0) S.1 S.2.1 dX7_lower_11 (by decide) ?_
  refine x_si (va_runV (As := [.int (nI j), .int 0]) (rest := []) S (c_X7_of l g E h65 h66 (k := j) (w := 0) (by omega)) (cwV 2 S.2.2.2.2 gX7_lower_X7_of rfl rfl rfl (by decide +kernel) ⟨Nat.le_of_ble_eq_true rfl, Nat.le_of_ble_eq_true rfl⟩) (x_preV hK hP h65 (by decide) rfl) rfl rfl hl.1 rfl (lv_room (Nat.le_of_ble_eq_true rfl)) dX7_lower_12 ⟨Nat.le_of_ble_eq_true rfl, Nat.le_of_ble_eq_true rfl⟩) (fun r12 hr12 => ?_)
  rw [hN.at0 (k := j) (w := 0) hj (by omega)] at hr12
  subst hr12
  refine lv_i2l (v := (M 0 j).toInt64) S.1 S.2.1 dX7_lower_15 rfl ?_
  refine lv_topl (fun x16 ex16 => ?_)
  refine lv_lstore (lv' := [(6, .long x16), (4, .long x7), (0, .ref (xad g 65)), (1, .int (nI i)), (2, .int (nI j)), (3, .int (nI k))]) S.1 S.2.1 dX7_lower_16 hl (by decide) rfl (fun ls hl => ?_)
  refine lv_aload_n S.1 S.2.1 dX7_lower_18 rfl (lv_at hl 2 rfl) ?_
  refine lv_iload_n S.1 S.2.1 dX7_lower_19 rfl (lv_at hl 5 rfl) ?_
  refine lv_iconst (v := 0) S.1 S.2.1 dX7_lower_20 (by decide) ?_
  refine x_si (va_runV (As := [.int (nI k), .int 0]) (rest := []) S (c_X7_of l g E h65 h66 (k := k) (w := 0) (by omega)) (cwV 2 S.2.2.2.2 gX7_lower_X7_of rfl rfl rfl (by decide +kernel) ⟨Nat.le_of_ble_eq_true rfl, Nat.le_of_ble_eq_true rfl⟩) (x_preV hK hP h65 (by decide) rfl) rfl rfl hl.1 rfl (lv_room (Nat.le_of_ble_eq_true rfl)) dX7_lower_21 ⟨Nat.le_of_ble_eq_true rfl, Nat.le_of_ble_eq_true rfl⟩) (fun r21 hr21 => ?_)
  rw [hN.at0 (k := k) (w := 0) hk (by omega)] at hr21
  subst hr21
  refine lv_i2l (v := (M 0 k).toInt64) S.1 S.2.1 dX7_lower_24 rfl ?_
  refine lv_topl (fun x25 ex25 => ?_)
  refine lv_lstore (lv' := [(8, .long x25), (6, .long x16), (4, .long x7), (0, .ref (xad g 65)), (1, .int (nI i)), (2, .int (nI j)), (3, .int (nI k))]) S.1 S.2.1 dX7_lower_25 hl (by decide) rfl (fun ls hl => ?_)
  refine lv_lload S.1 S.2.1 dX7_lower_27 (lv_at hl 1 rfl) ?_
  refine lv_lload S.1 S.2.1 dX7_lower_29 (lv_at hl 2 rfl) ?_
  refine lv_lsub S.1 S.2.1 dX7_lower_31 ?_
  refine lv_lload S.1 S.2.1 dX7_lower_32 (lv_at hl 0 rfl) ?_
  refine lv_lload S.1 S.2.1 dX7_lower_34 (lv_at hl 2 rfl) ?_
  refine lv_lsub S.1 S.2.1 dX7_lower_36 ?_
  refine lv_lmul S.1 S.2.1 dX7_lower_37 ?_
  refine lv_lload S.1 S.2.1 dX7_lower_38 (lv_at hl 0 rfl) ?_
  refine lv_lload S.1 S.2.1 dX7_lower_40 (lv_at hl 1 rfl) ?_
  refine lv_lsub S.1 S.2.1 dX7_lower_42 ?_
  refine lv_lmul S.1 S.2.1 dX7_lower_43 ?_
  exact x_lretR S hr hlocks dX7_lower_44 (by subst ex7 ex16 ex25; rfl)
set_option maxHeartbeats 4000000 in
set_option maxRecDepth 100000 in
theorem c_X7_upper (l : Launch) (g : xG) (E : Nat → va_E) {kp fi hi od bs bb bf ty at9 nu : Int32} (h65 : E 65 = mO g kp fi hi od bs bb bf ty at9 nu) {f : Nat → Int32} (h66 : E 66 = .inl (xI g, 71, .inl f)) {n : Nat} {M : Nat → Nat → Int32} (hN : nH f 0 n M) {i j k : Nat} (hi : i < n) (hj : j < n) (hk : k < n) {w : Nat} (hw : w < 2) (u : Int32) : Met l yX7_upper wsX7_upper ({ frames := 1, cells := 0, slots := 0, locals := 22 }) (xPc g [.ref (xad g 65), .int (nI i), .int (nI j), .int (nI k), .int u, .int (nI w)] E) (vp_Sl (fun r => r = upN M w i j k u.toInt64)) 0 0 (fun _ => False) := by
  refine x_met (ws' := _) (by decide) rfl (Nat.le_of_ble_eq_true rfl) ?_
  intro pz ez s m below meth cz ls S hr hlocks hP hK hl
  have hl : lv_has ls 14 [(0, .ref (xad g 65)), (1, .int (nI i)), (2, .int (nI j)), (3, .int (nI k)), (4, .int u), (5, .int (nI w))] := hl
  have hn := hN.1
  have hn0 := hN.n0
  refine lv_aload_n S.1 S.2.1 dX7_upper_0 rfl (lv_at hl 0 rfl) ?_
  refine lv_iload_n S.1 S.2.1 dX7_upper_1 rfl (lv_at hl 1 rfl) ?_
  refine lv_iconst (v := 0) S.1 S.2.1 dX7_upper_2 (by decide) ?_
  refine x_si (va_runV (As := [.int (nI i), .int 0]) (rest := []) S (c_X7_of l g E h65 h66 (k := i) (w := 0) (by omega)) (cwV 2 S.2.2.2.2 gX7_upper_X7_of rfl rfl rfl (by decide +kernel) ⟨Nat.le_of_ble_eq_true rfl, Nat.le_of_ble_eq_true rfl⟩) (x_preV hK hP h65 (by decide) rfl) rfl rfl hl.1 rfl (lv_room (Nat.le_of_ble_eq_true rfl)) dX7_upper_3 ⟨Nat.le_of_ble_eq_true rfl, Nat.le_of_ble_eq_true rfl⟩) (fun r3 hr3 => ?_)
  rw [hN.at0 (k := i) (w := 0) hi (by omega)] at hr3
  subst hr3
  refine lv_i2l (v := (M 0 i).toInt64) S.1 S.2.1 dX7_upper_6 rfl ?_
  refine lv_topl (fun x7 ex7 => ?_)
  refine lv_lstore (lv' := [(6, .long x7), (0, .ref (xad g 65)), (1, .int (nI i)), (2, .int (nI j)), (3, .int (nI k)), (4, .int u), (5, .int (nI w))]) S.1 S.2.1 dX7_upper_7 hl (by decide) rfl (fun ls hl => ?_)
  refine lv_aload_n S.1 S.2.1 dX7_upper_9 rfl (lv_at hl 1 rfl) ?_
  refine lv_iload_n S.1 S.2.1 dX7_upper_10 rfl (lv_at hl 3 rfl) ?_
  refine lv_iconst (v := 0) S.1 S.2.1 dX7_upper_11 (by decide) ?_
  refine x_si (va_runV (As := [.int (nI j), .int 0]) (rest := []) S (c_X7_of l g E h65 h66 (k := j) (w := 0) (by omega)) (cwV 2 S.2.2.2.2 gX7_upper_X7_of rfl rfl rfl (by decide +kernel) ⟨Nat.le_of_ble_eq_true rfl, Nat.le_of_ble_eq_true rfl⟩) (x_preV hK hP h65 (by decide) rfl) rfl rfl hl.1 rfl (lv_room (Nat.le_of_ble_eq_true rfl)) dX7_upper_12 ⟨Nat.le_of_ble_eq_true rfl, Nat.le_of_ble_eq_true rfl⟩) (fun r12 hr12 => ?_)
  rw [hN.at0 (k := j) (w := 0) hj (by omega)] at hr12
  subst hr12
  refine lv_i2l (v := (M 0 j).toInt64) S.1 S.2.1 dX7_upper_15 rfl ?_
  refine lv_topl (fun x16 ex16 => ?_)
  refine lv_lstore (lv' := [(8, .long x16), (6, .long x7), (0, .ref (xad g 65)), (1, .int (nI i)), (2, .int (nI j)), (3, .int (nI k)), (4, .int u), (5, .int (nI w))]) S.1 S.2.1 dX7_upper_16 hl (by decide) rfl (fun ls hl => ?_)
  refine lv_aload_n S.1 S.2.1 dX7_upper_18 rfl (lv_at hl 2 rfl) ?_
  refine lv_iload_n S.1 S.2.1 dX7_upper_19 rfl (lv_at hl 5 rfl) ?_
  refine lv_iconst (v := 0) S.1 S.2.1 dX7_upper_20 (by decide) ?_
  refine x_si (va_runV (As := [.int (nI k), .int 0]) (rest := []) S (c_X7_of l g E h65 h66 (k := k) (w := 0) (by omega)) (cwV 2 S.2.2.2.2 gX7_upper_X7_of rfl rfl rfl (by decide +kernel) ⟨Nat.le_of_ble_eq_true rfl, Nat.le_of_ble_eq_true rfl⟩) (x_preV hK hP h65 (by decide) rfl) rfl rfl hl.1 rfl (lv_room (Nat.le_of_ble_eq_true rfl)) dX7_upper_21 ⟨Nat.le_of_ble_eq_true rfl, Nat.le_of_ble_eq_true rfl⟩) (fun r21 hr21 => ?_)
  rw [hN.at0 (k := k) (w := 0) hk (by omega)] at hr21
  subst hr21
  refine lv_i2l (v := (M 0 k).toInt64) S.1 S.2.1 dX7_upper_24 rfl ?_
  refine lv_topl (fun x25 ex25 => ?_)
  refine lv_lstore (lv' := [(10, .long x25), (8, .long x16), (6, .long x7), (0, .ref (xad g 65)), (1, .int (nI i)), (2, .int (nI j)), (3, .int (nI k)), (4, .int u), (5, .int (nI w))]) S.1 S.2.1 dX7_upper_25 hl (by decide) rfl (fun ls hl => ?_)
  refine lv_iload S.1 S.2.1 dX7_upper_27 (lv_at hl 7 rfl) ?_
  refine lv_i2l (v := u.toInt64) S.1 S.2.1 dX7_upper_29 rfl ?_
  refine lv_topl (fun x30 ex30 => ?_)
  refine lv_lstore (lv' := [(12, .long x30), (10, .long x25), (8, .long x16), (6, .long x7), (0, .ref (xad g 65)), (1, .int (nI i)), (2, .int (nI j)), (3, .int (nI k)), (4, .int u), (5, .int (nI w))]) S.1 S.2.1 dX7_upper_30 hl (by decide) rfl (fun ls hl => ?_)
  refine lv_aload_n S.1 S.2.1 dX7_upper_32 rfl (lv_at hl 4 rfl) ?_
  refine lv_iload_n S.1 S.2.1 dX7_upper_33 rfl (lv_at hl 5 rfl) ?_
  refine lv_iconst (v := 1) S.1 S.2.1 dX7_upper_34 (by decide) ?_
  refine lv_iload S.1 S.2.1 dX7_upper_35 (lv_at hl 9 rfl) ?_
  refine lv_iadd S.1 S.2.1 dX7_upper_37 ?_
  refine W.eq (g2 := F0 m 38 ls [.int (nI (1 + w)), .int (nI i), .ref (xad g 65)]) (by rw [← nI_add 1 w]; rfl) ?_
  refine x_si (va_runV (As := [.int (nI i), .int (nI (1 + w))]) (rest := []) S (c_X7_of l g E h65 h66 (k := i) (w := (1 + w)) (by omega)) (cwV 2 S.2.2.2.2 gX7_upper_X7_of rfl rfl rfl (by decide +kernel) ⟨Nat.le_of_ble_eq_true rfl, Nat.le_of_ble_eq_true rfl⟩) (x_preV hK hP h65 (by decide) rfl) rfl rfl hl.1 rfl (lv_room (Nat.le_of_ble_eq_true rfl)) dX7_upper_38 ⟨Nat.le_of_ble_eq_true rfl, Nat.le_of_ble_eq_true rfl⟩) (fun r38 hr38 => ?_)
  rw [hN.at0 (k := i) (w := (1 + w)) hi (by omega)] at hr38
  subst hr38
  refine lv_i2l (v := (M (1 + w) i).toInt64) S.1 S.2.1 dX7_upper_41 rfl ?_
  refine lv_lload S.1 S.2.1 dX7_upper_42 (lv_at hl 0 rfl) ?_
  refine lv_lload S.1 S.2.1 dX7_upper_44 (lv_at hl 2 rfl) ?_
  refine lv_lsub S.1 S.2.1 dX7_upper_46 ?_
  refine lv_lmul S.1 S.2.1 dX7_upper_47 ?_
  refine lv_lload S.1 S.2.1 dX7_upper_48 (lv_at hl 0 rfl) ?_
  refine lv_lload S.1 S.2.1 dX7_upper_50 (lv_at hl 1 rfl) ?_
  refine lv_lsub S.1 S.2.1 dX7_upper_52 ?_
  refine lv_lmul S.1 S.2.1 dX7_upper_53 ?_
  refine lv_lload S.1 S.2.1 dX7_upper_54 (lv_at hl 1 rfl) ?_
  refine lv_lload S.1 S.2.1 dX7_upper_56 (lv_at hl 2 rfl) ?_
  refine lv_lsub S.1 S.2.1 dX7_upper_58 ?_
  refine lv_lmul S.1 S.2.1 dX7_upper_59 ?_
  refine lv_aload_n S.1 S.2.1 dX7_upper_60 rfl (lv_at hl 4 rfl) ?_
  refine lv_iload_n S.1 S.2.1 dX7_upper_61 rfl (lv_at hl 6 rfl) ?_
  refine lv_iconst (v := 1) S.1 S.2.1 dX7_upper_62 (by decide) ?_
  refine lv_iload S.1 S.2.1 dX7_upper_63 (lv_at hl 9 rfl) ?_
  refine lv_iadd S.1 S.2.1 dX7_upper_65 ?_
  refine W.eq (g2 := F0 m 66 ls [.int (nI (1 + w)), .int (nI j), .ref (xad g 65), .long (((((M (1 + w) i).toInt64) * (x30 - x16)) * (x30 - x25)) * (x25 - x16))]) (by rw [← nI_add 1 w]; rfl) ?_
  refine x_si (va_runV (As := [.int (nI j), .int (nI (1 + w))]) (rest := [.long (((((M (1 + w) i).toInt64) * (x30 - x16)) * (x30 - x25)) * (x25 - x16))]) S (c_X7_of l g E h65 h66 (k := j) (w := (1 + w)) (by omega)) (cwV 2 S.2.2.2.2 gX7_upper_X7_of rfl rfl rfl (by decide +kernel) ⟨Nat.le_of_ble_eq_true rfl, Nat.le_of_ble_eq_true rfl⟩) (x_preV hK hP h65 (by decide) rfl) rfl rfl hl.1 rfl (lv_room (Nat.le_of_ble_eq_true rfl)) dX7_upper_66 ⟨Nat.le_of_ble_eq_true rfl, Nat.le_of_ble_eq_true rfl⟩) (fun r66 hr66 => ?_)
  rw [hN.at0 (k := j) (w := (1 + w)) hj (by omega)] at hr66
  subst hr66
  refine lv_i2l (v := (M (1 + w) j).toInt64) S.1 S.2.1 dX7_upper_69 rfl ?_
  refine lv_lload S.1 S.2.1 dX7_upper_70 (lv_at hl 0 rfl) ?_
  refine lv_lload S.1 S.2.1 dX7_upper_72 (lv_at hl 3 rfl) ?_
  refine lv_lsub S.1 S.2.1 dX7_upper_74 ?_
  refine lv_lmul S.1 S.2.1 dX7_upper_75 ?_
  refine lv_lload S.1 S.2.1 dX7_upper_76 (lv_at hl 0 rfl) ?_
  refine lv_lload S.1 S.2.1 dX7_upper_78 (lv_at hl 1 rfl) ?_
  refine lv_lsub S.1 S.2.1 dX7_upper_80 ?_
  refine lv_lmul S.1 S.2.1 dX7_upper_81 ?_
  refine lv_lload S.1 S.2.1 dX7_upper_82 (lv_at hl 3 rfl) ?_
  refine lv_lload S.1 S.2.1 dX7_upper_84 (lv_at hl 1 rfl) ?_
  refine lv_lsub S.1 S.2.1 dX7_upper_86 ?_
  refine lv_lmul S.1 S.2.1 dX7_upper_87 ?_
  refine lv_ladd S.1 S.2.1 dX7_upper_88 ?_
  refine lv_aload_n S.1 S.2.1 dX7_upper_89 rfl (lv_at hl 4 rfl) ?_
  refine lv_iload_n S.1 S.2.1 dX7_upper_90 rfl (lv_at hl 7 rfl) ?_
  refine lv_iconst (v := 1) S.1 S.2.1 dX7_upper_91 (by decide) ?_
  refine lv_iload S.1 S.2.1 dX7_upper_92 (lv_at hl 9 rfl) ?_
  refine lv_iadd S.1 S.2.1 dX7_upper_94 ?_
  refine W.eq (g2 := F0 m 95 ls [.int (nI (1 + w)), .int (nI k), .ref (xad g 65), .long ((((((M (1 + w) i).toInt64) * (x30 - x16)) * (x30 - x25)) * (x25 - x16)) + (((((M (1 + w) j).toInt64) * (x30 - x7)) * (x30 - x25)) * (x7 - x25)))]) (by rw [← nI_add 1 w]; rfl) ?_
  refine x_si (va_runV (As := [.int (nI k), .int (nI (1 + w))]) (rest := [.long ((((((M (1 + w) i).toInt64) * (x30 - x16)) * (x30 - x25)) * (x25 - x16)) + (((((M (1 + w) j).toInt64) * (x30 - x7)) * (x30 - x25)) * (x7 - x25)))]) S (c_X7_of l g E h65 h66 (k := k) (w := (1 + w)) (by omega)) (cwV 2 S.2.2.2.2 gX7_upper_X7_of rfl rfl rfl (by decide +kernel) ⟨Nat.le_of_ble_eq_true rfl, Nat.le_of_ble_eq_true rfl⟩) (x_preV hK hP h65 (by decide) rfl) rfl rfl hl.1 rfl (lv_room (Nat.le_of_ble_eq_true rfl)) dX7_upper_95 ⟨Nat.le_of_ble_eq_true rfl, Nat.le_of_ble_eq_true rfl⟩) (fun r95 hr95 => ?_)
  rw [hN.at0 (k := k) (w := (1 + w)) hk (by omega)] at hr95
  subst hr95
  refine lv_i2l (v := (M (1 + w) k).toInt64) S.1 S.2.1 dX7_upper_98 rfl ?_
  refine lv_lload S.1 S.2.1 dX7_upper_99 (lv_at hl 0 rfl) ?_
  refine lv_lload S.1 S.2.1 dX7_upper_101 (lv_at hl 3 rfl) ?_
  refine lv_lsub S.1 S.2.1 dX7_upper_103 ?_
  refine lv_lmul S.1 S.2.1 dX7_upper_104 ?_
  refine lv_lload S.1 S.2.1 dX7_upper_105 (lv_at hl 0 rfl) ?_
  refine lv_lload S.1 S.2.1 dX7_upper_107 (lv_at hl 2 rfl) ?_
  refine lv_lsub S.1 S.2.1 dX7_upper_109 ?_
  refine lv_lmul S.1 S.2.1 dX7_upper_110 ?_
  refine lv_lload S.1 S.2.1 dX7_upper_111 (lv_at hl 2 rfl) ?_
  refine lv_lload S.1 S.2.1 dX7_upper_113 (lv_at hl 3 rfl) ?_
  refine lv_lsub S.1 S.2.1 dX7_upper_115 ?_
  refine lv_lmul S.1 S.2.1 dX7_upper_116 ?_
  refine lv_ladd S.1 S.2.1 dX7_upper_117 ?_
  exact x_lretR S hr hlocks dX7_upper_118 (by subst ex7 ex16 ex25 ex30; rfl)
def woL (x : Int64) : Int64 := if x < 0 then -x else x
theorem woL_abL (x : Int64) : woL x = abL x := by
  unfold woL abL
  by_cases h : x < 0
  · rw [if_pos h, if_neg (fun h2 => by rw [Int64.lt_iff_toInt_lt] at h h2; have e0 : (0 : Int64).toInt = 0 := (by decide); omega)]
  · rw [if_neg h]
    by_cases h2 : 0 < x
    · rw [if_pos h2]
    · rw [if_neg h2]
      have e : x = 0 := by
        apply Int64.toInt_inj.mp
        rw [Int64.lt_iff_toInt_lt] at h h2
        have e0 : (0 : Int64).toInt = 0 := by decide
        omega
      rw [e]
      decide
set_option maxHeartbeats 4000000 in
set_option maxRecDepth 100000 in
theorem c_X7_without (l : Launch) (g : xG) (E : Nat → va_E) (x : Int64) : Met l yX7_without wsX7_without ({ frames := 0, cells := 0, slots := 0, locals := 0 }) (xPc g [.long x] E) (vp_Sl (fun r => r = abL x)) 0 0 (fun _ => False) := by
  refine x_met (ws' := _) (by decide) rfl (Nat.le_of_ble_eq_true rfl) ?_
  intro pz ez s m below meth cz ls S hr hlocks hP hK hl
  have hl : lv_has ls 2 [(0, .long x)] := hl
  refine lv_lload_n S.1 S.2.1 dX7_without_0 rfl (lv_at hl 0 rfl) ?_
  refine lv_lconst (v := 0) S.1 S.2.1 dX7_without_1 rfl ?_
  refine W.lcmp S.1 S.2.1 dX7_without_2 ?_
  refine lv_if_ge (tgt := 11) S.1 S.2.1 dX7_without_3 (by decide) (fun c3 => ?_) (fun c3 => ?_)
  · skip
    refine lv_lload_n S.1 S.2.1 dX7_without_11 rfl (lv_at hl 0 rfl) ?_
    exact x_lretR S hr hlocks dX7_without_12 (by rw [← woL_abL]; unfold woL; rw [if_neg (Int64.not_lt.mpr ((lg_cmp_ge _ _).mp c3))])
  · skip
    refine lv_lload_n S.1 S.2.1 dX7_without_6 rfl (lv_at hl 0 rfl) ?_
    refine lv_lneg S.1 S.2.1 dX7_without_7 ?_
    refine lv_goto (tgt := 12) S.1 S.2.1 dX7_without_8 (by decide) ?_
    exact x_lretR S hr hlocks dX7_without_12 (by rw [← woL_abL]; unfold woL; rw [if_pos (Int64.not_le.mp (fun h => c3 ((lg_cmp_ge _ _).mpr h)))])
def cwH (M : Nat → Nat → Int32) (i j k q w : Nat) : Prop := abL (awN M w i j k q) ≤ (M 3 q).toInt64 * abL (loN M i j k)
theorem xb.and1 {P : Prop} {y : Int32} (h : xb P y) : xb P (y &&& 1) := by
  rcases h.1 with e | e
  · subst e; exact h
  · subst e; exact h
theorem xb.and0 {y : Int32} {P : Prop} (h : ¬ P) : xb P (y &&& 0) := by
  rw [Int32.and_zero]
  exact xb.zero h
theorem hit_all {M : Nat → Nat → Int32} {i j k q : Nat} : (∀ w, w < 2 → cwH M i j k q w) ↔ hitB M i j k q = true := by
  unfold hitB
  rw [decide_eq_true_eq]
  constructor
  · intro h
    exact ⟨h 0 (by decide), h 1 (by decide)⟩
  · rintro ⟨h0, h1⟩ w hw
    have : w = 0 ∨ w = 1 := by omega
    rcases this with rfl | rfl
    · exact h0
    · exact h1
theorem cw_next {M : Nat → Nat → Int32} {i j k q v : Nat} {y : Int32} (h : xb (∀ w, w < v → cwH M i j k q w) y) (hc : cwH M i j k q v) : xb (∀ w, w < v + 1 → cwH M i j k q w) (y &&& 1) := h.and1.iff ⟨fun g w hw => by
    by_cases e : w = v
    · subst e; exact hc
    · exact g w (by omega), fun g w hw => g w (by omega)⟩
theorem cw_not {M : Nat → Nat → Int32} {i j k q v : Nat} {y : Int32} (hc : ¬ cwH M i j k q v) : xb (∀ w, w < v + 1 → cwH M i j k q w) (y &&& 0) := xb.and0 (fun g => hc (g v (Nat.lt_succ_self _)))
set_option maxHeartbeats 4000000 in
set_option maxRecDepth 100000 in
theorem c_X7_isHit (l : Launch) (g : xG) (E : Nat → va_E) {kp fi hi od bs bb bf ty at9 nu : Int32} (h65 : E 65 = mO g kp fi hi od bs bb bf ty at9 nu) {f : Nat → Int32} (h66 : E 66 = .inl (xI g, 71, .inl f)) {n : Nat} {M : Nat → Nat → Int32} (hN : nH f 0 n M) {i j k : Nat} (hi : i < n) (hj : j < n) (hk : k < n) {q : Nat} (hq : q < n) : Met l yX7_isHit wsX7_isHit ({ frames := 2, cells := 0, slots := 0, locals := 55 }) (xPc g [.ref (xad g 65), .int (nI i), .int (nI j), .int (nI k), .int (nI q)] E) (vp_Si (xb (hitB M i j k q = true))) 0 0 (fun _ => False) := by
  refine x_met (ws' := _) (by decide) rfl (Nat.le_of_ble_eq_true rfl) ?_
  intro pz ez s m below meth cz ls S hr hlocks hP hK hl
  have hl : lv_has ls 11 [(0, .ref (xad g 65)), (1, .int (nI i)), (2, .int (nI j)), (3, .int (nI k)), (4, .int (nI q))] := hl
  have hn := hN.1
  have hn0 := hN.n0
  refine lv_aload_n S.1 S.2.1 dX7_isHit_0 rfl (lv_at hl 0 rfl) ?_
  refine lv_iload_n S.1 S.2.1 dX7_isHit_1 rfl (lv_at hl 1 rfl) ?_
  refine lv_iload_n S.1 S.2.1 dX7_isHit_2 rfl (lv_at hl 2 rfl) ?_
  refine lv_iload_n S.1 S.2.1 dX7_isHit_3 rfl (lv_at hl 3 rfl) ?_
  refine x_sl (va_runV (As := [.int (nI i), .int (nI j), .int (nI k)]) (rest := []) S (c_X7_lower l g E h65 h66 hN hi hj hk) (cwV 3 S.2.2.2.2 gX7_isHit_X7_lower rfl rfl rfl (by decide +kernel) ⟨Nat.le_of_ble_eq_true rfl, Nat.le_of_ble_eq_true rfl⟩) (x_preV hK hP h65 (by decide) rfl) rfl rfl hl.1 rfl (lv_room (Nat.le_of_ble_eq_true rfl)) dX7_isHit_4 ⟨Nat.le_of_ble_eq_true rfl, Nat.le_of_ble_eq_true rfl⟩) (fun r4 hr4 => ?_)
  subst hr4
  refine lv_lstore (lv' := [(5, .long (loN M i j k)), (0, .ref (xad g 65)), (1, .int (nI i)), (2, .int (nI j)), (3, .int (nI k)), (4, .int (nI q))]) S.1 S.2.1 dX7_isHit_7 hl (by decide) rfl (fun ls hl => ?_)
  refine lv_iconst (v := 1) S.1 S.2.1 dX7_isHit_9 (by decide) ?_
  refine lv_istore (lv' := [(7, .int 1), (5, .long (loN M i j k)), (0, .ref (xad g 65)), (1, .int (nI i)), (2, .int (nI j)), (3, .int (nI k)), (4, .int (nI q))]) S.1 S.2.1 dX7_isHit_10 hl (by decide) rfl (fun ls hl => ?_)
  refine lv_iconst (v := 0) S.1 S.2.1 dX7_isHit_12 (by decide) ?_
  refine lv_istore (lv' := [(8, .int 0), (7, .int 1), (5, .long (loN M i j k)), (0, .ref (xad g 65)), (1, .int (nI i)), (2, .int (nI j)), (3, .int (nI k)), (4, .int (nI q))]) S.1 S.2.1 dX7_isHit_13 hl (by decide) rfl (fun ls hl => ?_)
  have loop15 : ∀ (d : Nat) (v : Nat) (y : Int32), (hv : v ≤ 2) → (hy : xb (∀ w, w < v → cwH M i j k q w) y) → (2 - v) < d → ∀ ls : Array Slot, lv_has ls 11 [(8, .int (nI v)), (7, .int y), (5, .long (loN M i j k)), (0, .ref (xad g 65)), (1, .int (nI i)), (2, .int (nI j)), (3, .int (nI k)), (4, .int (nI q))] → W pz l ez ({ frames := 2, cells := 0, slots := 0, locals := 55 }) s m ([.ref (xad g 65), .int (nI i), .int (nI j), .int (nI k), .int (nI q)] : List Value).toArray below meth cz s.heap [] 0 0 (MQ below (vp_Si (xb (hitB M i j k q = true))) ([.ref (xad g 65), .int (nI i), .int (nI j), .int (nI k), .int (nI q)] : List Value).toArray s 0 0 (fun _ => False)) (F0 m 15 ls []) := by
    intro d
    induction d with
    | zero => intro v y hv hy hd; exact absurd hd (Nat.not_lt_zero _)
    | succ d ih15 =>
      intro v y hv hy hd ls hl
      refine lv_iload S.1 S.2.1 dX7_isHit_15 (lv_at hl 0 rfl) ?_
      refine lv_iconst (v := 2) S.1 S.2.1 dX7_isHit_17 (by decide) ?_
      refine lv_icmp_ge (tgt := 93) S.1 S.2.1 dX7_isHit_18 (by decide) (fun c18 => ?_) (fun c18 => ?_)
      · skip
        refine lv_iload S.1 S.2.1 dX7_isHit_93 (lv_at hl 1 rfl) ?_
        exact x_zretR S hr hlocks dX7_isHit_95 ((show xb (∀ w, w < v → cwH M i j k q w) y from hy).iff (by rw [show v = 2 from Nat.le_antisymm hv ((nI_leI (a := 2) (by omega) (by omega)).mp c18)]; exact hit_all))
      · skip
        have hv2 : v < 2 := Nat.not_le.mp (fun h => c18 ((nI_leI (a := 2) (by omega) (by omega)).mpr h))
        refine lv_aload_n S.1 S.2.1 dX7_isHit_21 rfl (lv_at hl 3 rfl) ?_
        refine lv_iload_n S.1 S.2.1 dX7_isHit_22 rfl (lv_at hl 4 rfl) ?_
        refine lv_iload_n S.1 S.2.1 dX7_isHit_23 rfl (lv_at hl 5 rfl) ?_
        refine lv_iload_n S.1 S.2.1 dX7_isHit_24 rfl (lv_at hl 6 rfl) ?_
        refine lv_aload_n S.1 S.2.1 dX7_isHit_25 rfl (lv_at hl 3 rfl) ?_
        refine lv_iload S.1 S.2.1 dX7_isHit_26 (lv_at hl 7 rfl) ?_
        refine lv_iconst (v := 0) S.1 S.2.1 dX7_isHit_28 (by decide) ?_
        refine x_si (va_runV (As := [.int (nI q), .int 0]) (rest := [.int (nI k), .int (nI j), .int (nI i), .ref (xad g 65)]) S (c_X7_of l g E h65 h66 (k := q) (w := 0) (by omega)) (cwV 2 S.2.2.2.2 gX7_isHit_X7_of rfl rfl rfl (by decide +kernel) ⟨Nat.le_of_ble_eq_true rfl, Nat.le_of_ble_eq_true rfl⟩) (x_preV hK hP h65 (by decide) rfl) rfl rfl hl.1 rfl (lv_room (Nat.le_of_ble_eq_true rfl)) dX7_isHit_29 ⟨Nat.le_of_ble_eq_true rfl, Nat.le_of_ble_eq_true rfl⟩) (fun r29 hr29 => ?_)
        rw [hN.at0 (k := q) (w := 0) hq (by omega)] at hr29
        subst hr29
        refine lv_iload S.1 S.2.1 dX7_isHit_32 (lv_at hl 0 rfl) ?_
        refine x_sl (va_runV (As := [.int (nI i), .int (nI j), .int (nI k), .int (M 0 q), .int (nI v)]) (rest := []) S (c_X7_upper l g E h65 h66 hN hi hj hk (w := v) hv2 (M 0 q)) (cwV 5 S.2.2.2.2 gX7_isHit_X7_upper rfl rfl rfl (by decide +kernel) ⟨Nat.le_of_ble_eq_true rfl, Nat.le_of_ble_eq_true rfl⟩) (x_preV hK hP h65 (by decide) rfl) rfl rfl hl.1 rfl (lv_room (Nat.le_of_ble_eq_true rfl)) dX7_isHit_34 ⟨Nat.le_of_ble_eq_true rfl, Nat.le_of_ble_eq_true rfl⟩) (fun r34 hr34 => ?_)
        subst hr34
        refine lv_aload_n S.1 S.2.1 dX7_isHit_37 rfl (lv_at hl 3 rfl) ?_
        refine lv_iload S.1 S.2.1 dX7_isHit_38 (lv_at hl 7 rfl) ?_
        refine lv_iconst (v := 1) S.1 S.2.1 dX7_isHit_40 (by decide) ?_
        refine lv_iload S.1 S.2.1 dX7_isHit_41 (lv_at hl 0 rfl) ?_
        refine lv_iadd S.1 S.2.1 dX7_isHit_43 ?_
        refine W.eq (g2 := F0 m 44 ls [.int (nI (1 + v)), .int (nI q), .ref (xad g 65), .long (upN M v i j k (M 0 q).toInt64)]) (by rw [← nI_add 1 v]; rfl) ?_
        refine x_si (va_runV (As := [.int (nI q), .int (nI (1 + v))]) (rest := [.long (upN M v i j k (M 0 q).toInt64)]) S (c_X7_of l g E h65 h66 (k := q) (w := (1 + v)) (by omega)) (cwV 2 S.2.2.2.2 gX7_isHit_X7_of rfl rfl rfl (by decide +kernel) ⟨Nat.le_of_ble_eq_true rfl, Nat.le_of_ble_eq_true rfl⟩) (x_preV hK hP h65 (by decide) rfl) rfl rfl hl.1 rfl (lv_room (Nat.le_of_ble_eq_true rfl)) dX7_isHit_44 ⟨Nat.le_of_ble_eq_true rfl, Nat.le_of_ble_eq_true rfl⟩) (fun r44 hr44 => ?_)
        rw [hN.at0 (k := q) (w := (1 + v)) hq (by omega)] at hr44
        subst hr44
        refine lv_i2l (v := (M (1 + v) q).toInt64) S.1 S.2.1 dX7_isHit_47 rfl ?_
        refine lv_lload S.1 S.2.1 dX7_isHit_48 (lv_at hl 2 rfl) ?_
        refine lv_lmul S.1 S.2.1 dX7_isHit_50 ?_
        refine lv_lsub S.1 S.2.1 dX7_isHit_51 ?_
        refine lv_topl (fun x52 ex52 => ?_)
        refine lv_lstore (lv' := [(9, .long x52), (8, .int (nI v)), (7, .int y), (5, .long (loN M i j k)), (0, .ref (xad g 65)), (1, .int (nI i)), (2, .int (nI j)), (3, .int (nI k)), (4, .int (nI q))]) S.1 S.2.1 dX7_isHit_52 hl (by decide) rfl (fun ls hl => ?_)
        refine lv_iload S.1 S.2.1 dX7_isHit_54 (lv_at hl 2 rfl) ?_
        refine lv_lload S.1 S.2.1 dX7_isHit_56 (lv_at hl 0 rfl) ?_
        refine x_sl (va_runS (As := [.long x52]) (rest := [.int y]) S (c_X7_without l g E (x52)) (va_cwS 1 S.2.2.2.2 gX7_isHit_X7_without rfl rfl rfl (by decide +kernel) ⟨Nat.le_of_ble_eq_true rfl, Nat.le_of_ble_eq_true rfl⟩) (x_preS hK hP) rfl rfl hl.1 rfl (lv_room (Nat.le_of_ble_eq_true rfl)) dX7_isHit_58 ⟨Nat.le_of_ble_eq_true rfl, Nat.le_of_ble_eq_true rfl⟩) (fun r58 hr58 => ?_)
        subst hr58
        refine lv_aload_n S.1 S.2.1 dX7_isHit_61 rfl (lv_at hl 4 rfl) ?_
        refine lv_iload S.1 S.2.1 dX7_isHit_62 (lv_at hl 8 rfl) ?_
        refine lv_iconst (v := 3) S.1 S.2.1 dX7_isHit_64 (by decide) ?_
        refine x_si (va_runV (As := [.int (nI q), .int 3]) (rest := [.long (abL (x52)), .int y]) S (c_X7_of l g E h65 h66 (k := q) (w := 3) (by omega)) (cwV 2 S.2.2.2.2 gX7_isHit_X7_of rfl rfl rfl (by decide +kernel) ⟨Nat.le_of_ble_eq_true rfl, Nat.le_of_ble_eq_true rfl⟩) (x_preV hK hP h65 (by decide) rfl) rfl rfl hl.1 rfl (lv_room (Nat.le_of_ble_eq_true rfl)) dX7_isHit_65 ⟨Nat.le_of_ble_eq_true rfl, Nat.le_of_ble_eq_true rfl⟩) (fun r65 hr65 => ?_)
        rw [hN.at0 (k := q) (w := 3) hq (by omega)] at hr65
        subst hr65
        refine lv_i2l (v := (M 3 q).toInt64) S.1 S.2.1 dX7_isHit_68 rfl ?_
        refine lv_lload S.1 S.2.1 dX7_isHit_69 (lv_at hl 3 rfl) ?_
        refine x_sl (va_runS (As := [.long (loN M i j k)]) (rest := [.long ((M 3 q).toInt64), .long (abL (x52)), .int y]) S (c_X7_without l g E (loN M i j k)) (va_cwS 1 S.2.2.2.2 gX7_isHit_X7_without rfl rfl rfl (by decide +kernel) ⟨Nat.le_of_ble_eq_true rfl, Nat.le_of_ble_eq_true rfl⟩) (x_preS hK hP) rfl rfl hl.1 rfl (lv_room (Nat.le_of_ble_eq_true rfl)) dX7_isHit_71 ⟨Nat.le_of_ble_eq_true rfl, Nat.le_of_ble_eq_true rfl⟩) (fun r71 hr71 => ?_)
        subst hr71
        refine lv_lmul S.1 S.2.1 dX7_isHit_74 ?_
        refine W.lcmp S.1 S.2.1 dX7_isHit_75 ?_
        refine lv_if_gt (tgt := 83) S.1 S.2.1 dX7_isHit_76 (by decide) (fun c76 => ?_) (fun c76 => ?_)
        · skip
          refine lv_iconst (v := 0) S.1 S.2.1 dX7_isHit_83 (by decide) ?_
          refine lv_iand S.1 S.2.1 dX7_isHit_84 ?_
          refine lv_topi (fun y85 ey85 => ?_)
          refine lv_istore (lv' := [(7, .int y85), (9, .long x52), (8, .int (nI v)), (5, .long (loN M i j k)), (0, .ref (xad g 65)), (1, .int (nI i)), (2, .int (nI j)), (3, .int (nI k)), (4, .int (nI q))]) S.1 S.2.1 dX7_isHit_85 hl (by decide) rfl (fun ls hl => ?_)
          refine lv_iinc (v := nI (v + 1)) (lv' := [(8, .int (nI (v + 1))), (7, .int y85), (9, .long x52), (5, .long (loN M i j k)), (0, .ref (xad g 65)), (1, .int (nI i)), (2, .int (nI j)), (3, .int (nI k)), (4, .int (nI q))]) S.1 S.2.1 dX7_isHit_87 hl (k := 2) rfl (show nI v + Int32.ofInt 1 = _ from nI_1 _) (by decide) rfl (fun ls hl => ?_)
          refine lv_goto (tgt := 15) S.1 S.2.1 dX7_isHit_90 (by decide) ?_
          exact ih15 (v + 1) y85 (by omega) (by rw [ey85]; exact cw_not (fun h => by unfold cwH at h; rw [← (show x52 = awN M v i j k q from ex52)] at h; exact absurd ((lg_cmp_gt _ _).mp c76) (Int64.not_lt.mpr h))) (by omega) ls (lv_sub hl [0, 1, 3, 4, 5, 6, 7, 8] rfl)
        · skip
          refine lv_iconst (v := 1) S.1 S.2.1 dX7_isHit_79 (by decide) ?_
          refine lv_goto (tgt := 84) S.1 S.2.1 dX7_isHit_80 (by decide) ?_
          refine lv_iand S.1 S.2.1 dX7_isHit_84 ?_
          refine lv_topi (fun y85 ey85 => ?_)
          refine lv_istore (lv' := [(7, .int y85), (9, .long x52), (8, .int (nI v)), (5, .long (loN M i j k)), (0, .ref (xad g 65)), (1, .int (nI i)), (2, .int (nI j)), (3, .int (nI k)), (4, .int (nI q))]) S.1 S.2.1 dX7_isHit_85 hl (by decide) rfl (fun ls hl => ?_)
          refine lv_iinc (v := nI (v + 1)) (lv' := [(8, .int (nI (v + 1))), (7, .int y85), (9, .long x52), (5, .long (loN M i j k)), (0, .ref (xad g 65)), (1, .int (nI i)), (2, .int (nI j)), (3, .int (nI k)), (4, .int (nI q))]) S.1 S.2.1 dX7_isHit_87 hl (k := 2) rfl (show nI v + Int32.ofInt 1 = _ from nI_1 _) (by decide) rfl (fun ls hl => ?_)
          refine lv_goto (tgt := 15) S.1 S.2.1 dX7_isHit_90 (by decide) ?_
          exact ih15 (v + 1) y85 (by omega) (by rw [ey85]; exact cw_next hy (by unfold cwH; rw [← (show x52 = awN M v i j k q from ex52)]; exact Int64.not_lt.mp (fun h => c76 ((lg_cmp_gt _ _).mpr h)))) (by omega) ls (lv_sub hl [0, 1, 3, 4, 5, 6, 7, 8] rfl)
  exact loop15 _ 0 1 (Nat.zero_le _) (xb.one (fun w hw => absurd hw (Nat.not_lt_zero _))) (Nat.lt_succ_self _) ls (lv_sub hl [0, 1, 2, 3, 4, 5, 6, 7] rfl)
theorem hb_t {M : Nat → Nat → Int32} {i j k q : Nat} (h1 : pU M q = true) (h2 : hitB M i j k q = true) : (fun q => pU M q && hitB M i j k q) q = true := by
  show (pU M q && hitB M i j k q) = true
  rw [h1, h2]
  rfl
theorem hb_1 {M : Nat → Nat → Int32} {i j k q : Nat} (h : (fun q => pU M q && hitB M i j k q) q = true) : pU M q = true ∧ hitB M i j k q = true := by
  have h : (pU M q && hitB M i j k q) = true := h
  rw [Bool.and_eq_true] at h
  exact h
set_option maxHeartbeats 4000000 in
set_option maxRecDepth 100000 in
theorem c_X7_hitBy (l : Launch) (g : xG) (E : Nat → va_E) {kp fi hi od bs bb bf ty at9 nu : Int32} (h65 : E 65 = mO g kp fi hi od bs bb bf ty at9 nu) {f : Nat → Int32} (h66 : E 66 = .inl (xI g, 71, .inl f)) {n : Nat} {M : Nat → Nat → Int32} (hN : nH f 0 n M) {i j k : Nat} (hi : i < n) (hj : j < n) (hk : k < n)  : Met l yX7_hitBy wsX7_hitBy ({ frames := 3, cells := 0, slots := 0, locals := 85 }) (xPc g [.ref (xad g 65), .int (nI i), .int (nI j), .int (nI k)] E) (vp_Si (fun r => r = nI (mk (fun q => pU M q && hitB M i j k q) n))) 0 0 (fun _ => False) := by
  refine x_met (ws' := _) (by decide) rfl (Nat.le_of_ble_eq_true rfl) ?_
  intro pz ez s m below meth cz ls S hr hlocks hP hK hl
  have hl : lv_has ls 6 [(0, .ref (xad g 65)), (1, .int (nI i)), (2, .int (nI j)), (3, .int (nI k))] := hl
  have hin7 : ∀ w ∈ u_ws RX7 TX7 19, w ∈ wsX7_hitBy := by decide +kernel
  have fl7 : Cond.fieldLink RX7 7 "DiscArcsModel" "now" "[I" ∈ wsX7_hitBy := by decide +kernel
  have hn := hN.1
  have hn0 := hN.n0
  refine lv_iconst (v := 0) S.1 S.2.1 dX7_hitBy_0 (by decide) ?_
  refine lv_istore (lv' := [(4, .int 0), (0, .ref (xad g 65)), (1, .int (nI i)), (2, .int (nI j)), (3, .int (nI k))]) S.1 S.2.1 dX7_hitBy_1 hl (by decide) rfl (fun ls hl => ?_)
  refine lv_iconst (v := 0) S.1 S.2.1 dX7_hitBy_3 (by decide) ?_
  refine lv_istore (lv' := [(5, .int 0), (4, .int 0), (0, .ref (xad g 65)), (1, .int (nI i)), (2, .int (nI j)), (3, .int (nI k))]) S.1 S.2.1 dX7_hitBy_4 hl (by decide) rfl (fun ls hl => ?_)
  have loop6 : ∀ (d : Nat) (q : Nat), (hq : q ≤ n) → (n - q) < d → ∀ ls : Array Slot, lv_has ls 6 [(5, .int (nI q)), (4, .int (nI (mk (fun q => pU M q && hitB M i j k q) q))), (0, .ref (xad g 65)), (1, .int (nI i)), (2, .int (nI j)), (3, .int (nI k))] → W pz l ez ({ frames := 3, cells := 0, slots := 0, locals := 85 }) s m ([.ref (xad g 65), .int (nI i), .int (nI j), .int (nI k)] : List Value).toArray below meth cz s.heap [] 0 0 (MQ below (vp_Si (fun r => r = nI (mk (fun q => pU M q && hitB M i j k q) n))) ([.ref (xad g 65), .int (nI i), .int (nI j), .int (nI k)] : List Value).toArray s 0 0 (fun _ => False)) (F0 m 6 ls []) := by
    intro d
    induction d with
    | zero => intro q hq hd; exact absurd hd (Nat.not_lt_zero _)
    | succ d ih6 =>
      intro q hq hd ls hl
      refine lv_iload S.1 S.2.1 dX7_hitBy_6 (lv_at hl 0 rfl) ?_
      refine lv_aload_n S.1 S.2.1 dX7_hitBy_8 rfl (lv_at hl 2 rfl) ?_
      refine x_get S hK hP dX7_hitBy_9 h65 (by decide) (RX7, TX7, 19) rfl hin7 0 (by decide) fl7 rfl ?_
      refine lv_bipush (v := 70) S.1 S.2.1 dX7_hitBy_12 (by decide) ?_
      refine x_iald S hK hP dX7_hitBy_14 h66 (by decide) (j := 70) rfl (by omega) (by decide) ?_
      refine lv_icmp_ge (tgt := 58) S.1 S.2.1 dX7_hitBy_15 (by decide) (fun c15 => ?_) (fun c15 => ?_)
      · skip
        refine lv_iload S.1 S.2.1 dX7_hitBy_58 (lv_at hl 1 rfl) ?_
        exact x_iretR S hr hlocks dX7_hitBy_60 (by rw [hn0] at c15; rw [show q = n from Nat.le_antisymm hq ((nI_leI (by omega) (by omega)).mp c15)])
      · skip
        have hqn : q < n := Nat.not_le.mp (fun h => c15 (by rw [hn0]; exact (nI_leI (by omega) (by omega)).mpr h))
        refine lv_iload S.1 S.2.1 dX7_hitBy_18 (lv_at hl 1 rfl) ?_
        refine lv_aload_n S.1 S.2.1 dX7_hitBy_20 rfl (lv_at hl 2 rfl) ?_
        refine lv_iload S.1 S.2.1 dX7_hitBy_21 (lv_at hl 0 rfl) ?_
        refine x_si (va_runV (As := [.int (nI q)]) (rest := [.int (nI (mk (fun q => pU M q && hitB M i j k q) q))]) S (c_X7_isUsable l g E h65 h66 hN hqn) (cwV 1 S.2.2.2.2 gX7_hitBy_X7_isUsable rfl rfl rfl (by decide +kernel) ⟨Nat.le_of_ble_eq_true rfl, Nat.le_of_ble_eq_true rfl⟩) (x_preV hK hP h65 (by decide) rfl) rfl rfl hl.1 rfl (lv_room (Nat.le_of_ble_eq_true rfl)) dX7_hitBy_23 ⟨Nat.le_of_ble_eq_true rfl, Nat.le_of_ble_eq_true rfl⟩) (fun r23 hr23 => ?_)
        refine lv_if_eq (tgt := 48) S.1 S.2.1 dX7_hitBy_26 (by decide) (fun c26 => ?_) (fun c26 => ?_)
        · skip
          refine lv_iconst (v := 0) S.1 S.2.1 dX7_hitBy_48 (by decide) ?_
          refine lv_ior S.1 S.2.1 dX7_hitBy_49 ?_
          refine W.eq (g2 := F0 m 50 ls [.int (nI (mk (fun q => pU M q && hitB M i j k q) (q + 1)))]) (by rw [mk_skip0 (P := fun q => pU M q && hitB M i j k q) (fun h => hr23.f c26 (hb_1 h).1)]) ?_
          refine lv_istore (lv' := [(4, .int (nI (mk (fun q => pU M q && hitB M i j k q) (q + 1)))), (5, .int (nI q)), (0, .ref (xad g 65)), (1, .int (nI i)), (2, .int (nI j)), (3, .int (nI k))]) S.1 S.2.1 dX7_hitBy_50 hl (by decide) rfl (fun ls hl => ?_)
          refine lv_iinc (v := nI (q + 1)) (lv' := [(5, .int (nI (q + 1))), (4, .int (nI (mk (fun q => pU M q && hitB M i j k q) (q + 1)))), (0, .ref (xad g 65)), (1, .int (nI i)), (2, .int (nI j)), (3, .int (nI k))]) S.1 S.2.1 dX7_hitBy_52 hl (k := 1) rfl (show nI q + Int32.ofInt 1 = _ from nI_1 _) (by decide) rfl (fun ls hl => ?_)
          refine lv_goto (tgt := 6) S.1 S.2.1 dX7_hitBy_55 (by decide) ?_
          exact ih6 (q + 1) (by omega) (by omega) ls (lv_sub hl [0, 1, 2, 3, 4, 5] rfl)
        · skip
          refine lv_aload_n S.1 S.2.1 dX7_hitBy_29 rfl (lv_at hl 2 rfl) ?_
          refine lv_iload_n S.1 S.2.1 dX7_hitBy_30 rfl (lv_at hl 3 rfl) ?_
          refine lv_iload_n S.1 S.2.1 dX7_hitBy_31 rfl (lv_at hl 4 rfl) ?_
          refine lv_iload_n S.1 S.2.1 dX7_hitBy_32 rfl (lv_at hl 5 rfl) ?_
          refine lv_iload S.1 S.2.1 dX7_hitBy_33 (lv_at hl 0 rfl) ?_
          refine x_si (va_runV (As := [.int (nI i), .int (nI j), .int (nI k), .int (nI q)]) (rest := [.int (nI (mk (fun q => pU M q && hitB M i j k q) q))]) S (c_X7_isHit l g E h65 h66 hN hi hj hk hqn) (cwV 4 S.2.2.2.2 gX7_hitBy_X7_isHit rfl rfl rfl (by decide +kernel) ⟨Nat.le_of_ble_eq_true rfl, Nat.le_of_ble_eq_true rfl⟩) (x_preV hK hP h65 (by decide) rfl) rfl rfl hl.1 rfl (lv_room (Nat.le_of_ble_eq_true rfl)) dX7_hitBy_35 ⟨Nat.le_of_ble_eq_true rfl, Nat.le_of_ble_eq_true rfl⟩) (fun r35 hr35 => ?_)
          refine lv_if_eq (tgt := 48) S.1 S.2.1 dX7_hitBy_38 (by decide) (fun c38 => ?_) (fun c38 => ?_)
          · skip
            refine lv_iconst (v := 0) S.1 S.2.1 dX7_hitBy_48 (by decide) ?_
            refine lv_ior S.1 S.2.1 dX7_hitBy_49 ?_
            refine W.eq (g2 := F0 m 50 ls [.int (nI (mk (fun q => pU M q && hitB M i j k q) (q + 1)))]) (by rw [mk_skip0 (P := fun q => pU M q && hitB M i j k q) (fun h => hr35.f c38 (hb_1 h).2)]) ?_
            refine lv_istore (lv' := [(4, .int (nI (mk (fun q => pU M q && hitB M i j k q) (q + 1)))), (5, .int (nI q)), (0, .ref (xad g 65)), (1, .int (nI i)), (2, .int (nI j)), (3, .int (nI k))]) S.1 S.2.1 dX7_hitBy_50 hl (by decide) rfl (fun ls hl => ?_)
            refine lv_iinc (v := nI (q + 1)) (lv' := [(5, .int (nI (q + 1))), (4, .int (nI (mk (fun q => pU M q && hitB M i j k q) (q + 1)))), (0, .ref (xad g 65)), (1, .int (nI i)), (2, .int (nI j)), (3, .int (nI k))]) S.1 S.2.1 dX7_hitBy_52 hl (k := 1) rfl (show nI q + Int32.ofInt 1 = _ from nI_1 _) (by decide) rfl (fun ls hl => ?_)
            refine lv_goto (tgt := 6) S.1 S.2.1 dX7_hitBy_55 (by decide) ?_
            exact ih6 (q + 1) (by omega) (by omega) ls (lv_sub hl [0, 1, 2, 3, 4, 5] rfl)
          · skip
            refine lv_iconst (v := 1) S.1 S.2.1 dX7_hitBy_41 (by decide) ?_
            refine lv_iload S.1 S.2.1 dX7_hitBy_42 (lv_at hl 0 rfl) ?_
            refine lv_ishl S.1 S.2.1 dX7_hitBy_44 ?_
            refine lv_goto (tgt := 49) S.1 S.2.1 dX7_hitBy_45 (by decide) ?_
            refine lv_ior S.1 S.2.1 dX7_hitBy_49 ?_
            refine W.eq (g2 := F0 m 50 ls [.int (nI (mk (fun q => pU M q && hitB M i j k q) (q + 1)))]) (by rw [mk_step (P := fun q => pU M q && hitB M i j k q) (by omega) (hb_t (hr23.t c26) (hr35.t c38))]) ?_
            refine lv_istore (lv' := [(4, .int (nI (mk (fun q => pU M q && hitB M i j k q) (q + 1)))), (5, .int (nI q)), (0, .ref (xad g 65)), (1, .int (nI i)), (2, .int (nI j)), (3, .int (nI k))]) S.1 S.2.1 dX7_hitBy_50 hl (by decide) rfl (fun ls hl => ?_)
            refine lv_iinc (v := nI (q + 1)) (lv' := [(5, .int (nI (q + 1))), (4, .int (nI (mk (fun q => pU M q && hitB M i j k q) (q + 1)))), (0, .ref (xad g 65)), (1, .int (nI i)), (2, .int (nI j)), (3, .int (nI k))]) S.1 S.2.1 dX7_hitBy_52 hl (k := 1) rfl (show nI q + Int32.ofInt 1 = _ from nI_1 _) (by decide) rfl (fun ls hl => ?_)
            refine lv_goto (tgt := 6) S.1 S.2.1 dX7_hitBy_55 (by decide) ?_
            exact ih6 (q + 1) (by omega) (by omega) ls (lv_sub hl [0, 1, 2, 3, 4, 5] rfl)
  exact loop6 _ 0 (Nat.zero_le _) (Nat.lt_succ_self _) ls (lv_sub hl [0, 1, 2, 3, 4, 5] rfl)
def sgL (d : Int64) : Int64 := if d < 0 then -1 else 1
theorem abL_lN' {u : Int64} (h : -9223372036854775808 < u.toInt) : abL u = lN u.toInt.natAbs := abL_lN h
theorem sg_abs {d u : Int64} (hu : -9223372036854775808 < u.toInt) : (sgL d * u).toInt.natAbs = u.toInt.natAbs := by
  unfold sgL
  split
  · rw [Int64.neg_mul, Int64.one_mul, Int64.toInt_neg]
    have := Int64.toInt_lt u
    rw [Int.bmod_eq_of_le (by omega) (by omega)]
    omega
  · rw [Int64.one_mul]
theorem sg_self {d : Int64} (hd : -9223372036854775808 < d.toInt) : sgL d * d = lN d.toInt.natAbs := by
  rw [← abL_lN' hd, ← woL_abL]
  unfold sgL woL
  split
  · rw [Int64.neg_mul, Int64.one_mul]
  · rw [Int64.one_mul]
set_option maxHeartbeats 4000000 in
set_option maxRecDepth 100000 in
theorem c_X7_part (l : Launch) (g : xG) (E : Nat → va_E) {u d9 : Int64} (q : Int32) (hu9 : -9223372036854775808 < u.toInt) (hd9 : -9223372036854775808 < d9.toInt) (hd0 : ¬ d9 = 0) : Met l yX7_part wsX7_part ({ frames := 1, cells := 0, slots := 0, locals := 21 }) (xPc g [.long u, .long d9, .int q] E) (vp_Sl (fun r => r = prt (sgL d9 * u) d9.toInt.natAbs q)) 0 0 (fun _ => False) := by
  refine x_met (ws' := _) (by decide) rfl (Nat.le_of_ble_eq_true rfl) ?_
  intro pz ez s m below meth cz ls S hr hlocks hP hK hl
  have hl : lv_has ls 11 [(0, .long u), (2, .long d9), (4, .int q)] := hl
  have ha := natAbs_lt hu9
  have hb := natAbs_lt hd9
  refine lv_lload_n S.1 S.2.1 dX7_part_0 rfl (lv_at hl 0 rfl) ?_
  refine x_sl (va_runS (As := [.long u]) (rest := []) S (c_X7_without l g E u) (va_cwS 1 S.2.2.2.2 gX7_part_X7_without rfl rfl rfl (by decide +kernel) ⟨Nat.le_of_ble_eq_true rfl, Nat.le_of_ble_eq_true rfl⟩) (x_preS hK hP) rfl rfl hl.1 rfl (lv_room (Nat.le_of_ble_eq_true rfl)) dX7_part_1 ⟨Nat.le_of_ble_eq_true rfl, Nat.le_of_ble_eq_true rfl⟩) (fun r1 hr1 => ?_)
  rw [abL_lN' hu9] at hr1
  subst hr1
  refine lv_lstore (lv' := [(5, .long (lN u.toInt.natAbs)), (0, .long u), (2, .long d9), (4, .int q)]) S.1 S.2.1 dX7_part_4 hl (by decide) rfl (fun ls hl => ?_)
  refine lv_lload_n S.1 S.2.1 dX7_part_6 rfl (lv_at hl 2 rfl) ?_
  refine x_sl (va_runS (As := [.long d9]) (rest := []) S (c_X7_without l g E d9) (va_cwS 1 S.2.2.2.2 gX7_part_X7_without rfl rfl rfl (by decide +kernel) ⟨Nat.le_of_ble_eq_true rfl, Nat.le_of_ble_eq_true rfl⟩) (x_preS hK hP) rfl rfl hl.1 rfl (lv_room (Nat.le_of_ble_eq_true rfl)) dX7_part_7 ⟨Nat.le_of_ble_eq_true rfl, Nat.le_of_ble_eq_true rfl⟩) (fun r7 hr7 => ?_)
  rw [abL_lN' hd9] at hr7
  subst hr7
  refine lv_lstore (lv' := [(7, .long (lN d9.toInt.natAbs)), (5, .long (lN u.toInt.natAbs)), (0, .long u), (2, .long d9), (4, .int q)]) S.1 S.2.1 dX7_part_10 hl (by decide) rfl (fun ls hl => ?_)
  have loop12 : ∀ (d : Nat) (g9 : Nat) (s9 : Nat), (hg9 : g9 < 2 ^ 63) → (hs9 : s9 < 2 ^ 63) → (hgcd : Nat.gcd g9 s9 = Nat.gcd u.toInt.natAbs d9.toInt.natAbs) → (s9) < d → ∀ ls : Array Slot, lv_has ls 11 [(7, .long (lN s9)), (5, .long (lN g9)), (0, .long u), (2, .long d9), (4, .int q)] → W pz l ez ({ frames := 1, cells := 0, slots := 0, locals := 21 }) s m ([.long u, .long d9, .int q] : List Value).toArray below meth cz s.heap [] 0 0 (MQ below (vp_Sl (fun r => r = prt (sgL d9 * u) d9.toInt.natAbs q)) ([.long u, .long d9, .int q] : List Value).toArray s 0 0 (fun _ => False)) (F0 m 12 ls []) := by
    intro d
    induction d with
    | zero => intro g9 s9 hg9 hs9 hgcd hd; exact absurd hd (Nat.not_lt_zero _)
    | succ d ih12 =>
      intro g9 s9 hg9 hs9 hgcd hd ls hl
      refine lv_lload S.1 S.2.1 dX7_part_12 (lv_at hl 0 rfl) ?_
      refine lv_lconst (v := 0) S.1 S.2.1 dX7_part_14 rfl ?_
      refine W.lcmp S.1 S.2.1 dX7_part_15 ?_
      refine lv_if_le (tgt := 37) S.1 S.2.1 dX7_part_16 (by decide) (fun c16 => ?_) (fun c16 => ?_)
      · skip
        have hs0 : s9 = 0 := by have h := (lg_cmp_le _ _).mp c16; rw [← lN_0, pk_lLE (by omega) (by decide)] at h; omega
        have hgg : g9 = Nat.gcd u.toInt.natAbs d9.toInt.natAbs := by rw [hs0, Nat.gcd_zero_right] at hgcd; exact hgcd
        have hg0 : 0 < g9 := by rw [hgg]; exact Nat.gcd_pos_of_pos_right _ (by have : ¬ d9.toInt = 0 := fun h => hd0 (Int64.toInt_inj.mp h); omega)
        refine lv_lload_n S.1 S.2.1 dX7_part_37 rfl (lv_at hl 3 rfl) ?_
        refine lv_lconst (v := 0) S.1 S.2.1 dX7_part_38 rfl ?_
        refine W.lcmp S.1 S.2.1 dX7_part_39 ?_
        refine lv_if_ge (tgt := 49) S.1 S.2.1 dX7_part_40 (by decide) (fun c40 => ?_) (fun c40 => ?_)
        · skip
          refine lv_lconst (v := 1) S.1 S.2.1 dX7_part_49 rfl ?_
          refine W.eq (g2 := F0 m 50 ls [.long (sgL d9)]) (by rw [show sgL d9 = 1 from if_neg (Int64.not_lt.mpr ((lg_cmp_ge _ _).mp c40))]) ?_
          refine lv_lstore (lv' := [(9, .long (sgL d9)), (7, .long (lN s9)), (5, .long (lN g9)), (0, .long u), (2, .long d9), (4, .int q)]) S.1 S.2.1 dX7_part_50 hl (by decide) rfl (fun ls hl => ?_)
          refine lv_iload S.1 S.2.1 dX7_part_52 (lv_at hl 5 rfl) ?_
          refine lv_if_ne (tgt := 71) S.1 S.2.1 dX7_part_54 (by decide) (fun c54 => ?_) (fun c54 => ?_)
          · skip
            refine lv_lload S.1 S.2.1 dX7_part_71 (lv_at hl 0 rfl) ?_
            refine lv_lload_n S.1 S.2.1 dX7_part_73 rfl (lv_at hl 4 rfl) ?_
            refine lv_lmul S.1 S.2.1 dX7_part_74 ?_
            refine lv_lload S.1 S.2.1 dX7_part_75 (lv_at hl 2 rfl) ?_
            refine lv_ldiv S.1 S.2.1 dX7_part_77 (fun h => by rw [← lN_0, pk_lEQ (by omega) (by decide)] at h; omega) ?_
            exact x_lretR S hr hlocks dX7_part_78 (by unfold prt; rw [sg_abs hu9, ← hgg]; first | rw [if_pos c54] | rw [if_neg c54, sg_self hd9])
          · skip
            refine lv_lload S.1 S.2.1 dX7_part_57 (lv_at hl 0 rfl) ?_
            refine lv_lload_n S.1 S.2.1 dX7_part_59 rfl (lv_at hl 3 rfl) ?_
            refine lv_lmul S.1 S.2.1 dX7_part_60 ?_
            refine lv_lload S.1 S.2.1 dX7_part_61 (lv_at hl 2 rfl) ?_
            refine lv_ldiv S.1 S.2.1 dX7_part_63 (fun h => by rw [← lN_0, pk_lEQ (by omega) (by decide)] at h; omega) ?_
            refine lv_ldc2 S.1 S.2.1 S.2.2.2.1 (S.2.2.2.2 (.constantLong RX7 72 10000000000) (by decide +kernel)) dX7_part_64 ?_
            refine lv_ladd S.1 S.2.1 dX7_part_67 ?_
            refine lv_goto (tgt := 78) S.1 S.2.1 dX7_part_68 (by decide) ?_
            exact x_lretR S hr hlocks dX7_part_78 (by unfold prt; rw [sg_abs hu9, ← hgg]; first | rw [if_pos c54] | rw [if_neg c54, sg_self hd9])
        · skip
          refine lv_ldc2 S.1 S.2.1 S.2.2.2.1 (S.2.2.2.2 (.constantLong RX7 70 (-1)) (by decide +kernel)) dX7_part_43 ?_
          refine lv_goto (tgt := 50) S.1 S.2.1 dX7_part_46 (by decide) ?_
          refine W.eq (g2 := F0 m 50 ls [.long (sgL d9)]) (by rw [show sgL d9 = (-1) from if_pos (Int64.not_le.mp (fun h => c40 ((lg_cmp_ge _ _).mpr h)))]) ?_
          refine lv_lstore (lv' := [(9, .long (sgL d9)), (7, .long (lN s9)), (5, .long (lN g9)), (0, .long u), (2, .long d9), (4, .int q)]) S.1 S.2.1 dX7_part_50 hl (by decide) rfl (fun ls hl => ?_)
          refine lv_iload S.1 S.2.1 dX7_part_52 (lv_at hl 5 rfl) ?_
          refine lv_if_ne (tgt := 71) S.1 S.2.1 dX7_part_54 (by decide) (fun c54 => ?_) (fun c54 => ?_)
          · skip
            refine lv_lload S.1 S.2.1 dX7_part_71 (lv_at hl 0 rfl) ?_
            refine lv_lload_n S.1 S.2.1 dX7_part_73 rfl (lv_at hl 4 rfl) ?_
            refine lv_lmul S.1 S.2.1 dX7_part_74 ?_
            refine lv_lload S.1 S.2.1 dX7_part_75 (lv_at hl 2 rfl) ?_
            refine lv_ldiv S.1 S.2.1 dX7_part_77 (fun h => by rw [← lN_0, pk_lEQ (by omega) (by decide)] at h; omega) ?_
            exact x_lretR S hr hlocks dX7_part_78 (by unfold prt; rw [sg_abs hu9, ← hgg]; first | rw [if_pos c54] | rw [if_neg c54, sg_self hd9])
          · skip
            refine lv_lload S.1 S.2.1 dX7_part_57 (lv_at hl 0 rfl) ?_
            refine lv_lload_n S.1 S.2.1 dX7_part_59 rfl (lv_at hl 3 rfl) ?_
            refine lv_lmul S.1 S.2.1 dX7_part_60 ?_
            refine lv_lload S.1 S.2.1 dX7_part_61 (lv_at hl 2 rfl) ?_
            refine lv_ldiv S.1 S.2.1 dX7_part_63 (fun h => by rw [← lN_0, pk_lEQ (by omega) (by decide)] at h; omega) ?_
            refine lv_ldc2 S.1 S.2.1 S.2.2.2.1 (S.2.2.2.2 (.constantLong RX7 72 10000000000) (by decide +kernel)) dX7_part_64 ?_
            refine lv_ladd S.1 S.2.1 dX7_part_67 ?_
            refine lv_goto (tgt := 78) S.1 S.2.1 dX7_part_68 (by decide) ?_
            exact x_lretR S hr hlocks dX7_part_78 (by unfold prt; rw [sg_abs hu9, ← hgg]; first | rw [if_pos c54] | rw [if_neg c54, sg_self hd9])
      · skip
        have hs0 : 0 < s9 := by rw [← lN_0] at c16; exact Nat.pos_of_ne_zero (fun h => by subst h; exact c16 ((lg_cmp_le _ _).mpr (Int64.le_refl _)))
        refine lv_lload S.1 S.2.1 dX7_part_19 (lv_at hl 1 rfl) ?_
        refine lv_lload S.1 S.2.1 dX7_part_21 (lv_at hl 0 rfl) ?_
        refine lv_lrem S.1 S.2.1 dX7_part_23 (fun h => by rw [← lN_0, pk_lEQ (by omega) (by decide)] at h; omega) ?_
        refine W.eq (g2 := F0 m 24 ls [.long (lN (g9 % s9))]) (by rw [pk_lRem (by omega) hs0 (by omega)]) ?_
        refine lv_lstore (lv' := [(9, .long (lN (g9 % s9))), (7, .long (lN s9)), (5, .long (lN g9)), (0, .long u), (2, .long d9), (4, .int q)]) S.1 S.2.1 dX7_part_24 hl (by decide) rfl (fun ls hl => ?_)
        refine lv_lload S.1 S.2.1 dX7_part_26 (lv_at hl 1 rfl) ?_
        refine lv_lstore (lv' := [(5, .long (lN s9)), (9, .long (lN (g9 % s9))), (7, .long (lN s9)), (0, .long u), (2, .long d9), (4, .int q)]) S.1 S.2.1 dX7_part_28 hl (by decide) rfl (fun ls hl => ?_)
        refine lv_lload S.1 S.2.1 dX7_part_30 (lv_at hl 1 rfl) ?_
        refine lv_lstore (lv' := [(7, .long (lN (g9 % s9))), (5, .long (lN s9)), (9, .long (lN (g9 % s9))), (0, .long u), (2, .long d9), (4, .int q)]) S.1 S.2.1 dX7_part_32 hl (by decide) rfl (fun ls hl => ?_)
        have hmod := Nat.mod_lt g9 hs0
        refine lv_goto (tgt := 12) S.1 S.2.1 dX7_part_34 (by decide) ?_
        exact ih12 s9 (g9 % s9) (by omega) (by have := Nat.mod_lt g9 hs0; omega) (by rw [← hgcd, Nat.gcd_comm g9 s9, Nat.gcd_rec s9 g9, Nat.gcd_comm]) (by omega) ls (lv_sub hl [0, 1, 3, 4, 5] rfl)
  exact loop12 _ _ _ ha hb rfl (Nat.lt_succ_self _) ls (lv_sub hl [0, 1, 2, 3, 4] rfl)
set_option maxHeartbeats 4000000 in
set_option maxRecDepth 100000 in
theorem c_X7_areThree (l : Launch) (g : xG) (E : Nat → va_E) (b0 : Nat) (a b c9 : Int32) : Met l yX7_areThree wsX7_areThree ({ frames := 0, cells := 0, slots := 0, locals := 0 }) (xPc g [.ref (xad g b0), .int a, .int b, .int c9] E) (vp_Si (xb (¬ (a = b ∨ a = c9 ∨ b = c9)))) 0 0 (fun _ => False) := by
  refine x_met (ws' := _) (by decide) rfl (Nat.le_of_ble_eq_true rfl) ?_
  intro pz ez s m below meth cz ls S hr hlocks hP hK hl
  have hl : lv_has ls 4 [(0, .ref (xad g b0)), (1, .int a), (2, .int b), (3, .int c9)] := hl
  refine lv_iload_n S.1 S.2.1 dX7_areThree_0 rfl (lv_at hl 1 rfl) ?_
  refine lv_iload_n S.1 S.2.1 dX7_areThree_1 rfl (lv_at hl 2 rfl) ?_
  refine lv_icmp_eq (tgt := 19) S.1 S.2.1 dX7_areThree_2 (by decide) (fun c2 => ?_) (fun c2 => ?_)
  · skip
    refine lv_iconst (v := 0) S.1 S.2.1 dX7_areThree_19 (by decide) ?_
    exact x_zretR S hr hlocks dX7_areThree_20 (xb.zero (fun h => h (by first | exact Or.inr (Or.inr c12) | exact Or.inr (Or.inl c7) | exact Or.inl c2)))
  · skip
    refine lv_iload_n S.1 S.2.1 dX7_areThree_5 rfl (lv_at hl 1 rfl) ?_
    refine lv_iload_n S.1 S.2.1 dX7_areThree_6 rfl (lv_at hl 3 rfl) ?_
    refine lv_icmp_eq (tgt := 19) S.1 S.2.1 dX7_areThree_7 (by decide) (fun c7 => ?_) (fun c7 => ?_)
    · skip
      refine lv_iconst (v := 0) S.1 S.2.1 dX7_areThree_19 (by decide) ?_
      exact x_zretR S hr hlocks dX7_areThree_20 (xb.zero (fun h => h (by first | exact Or.inr (Or.inr c12) | exact Or.inr (Or.inl c7) | exact Or.inl c2)))
    · skip
      refine lv_iload_n S.1 S.2.1 dX7_areThree_10 rfl (lv_at hl 2 rfl) ?_
      refine lv_iload_n S.1 S.2.1 dX7_areThree_11 rfl (lv_at hl 3 rfl) ?_
      refine lv_icmp_eq (tgt := 19) S.1 S.2.1 dX7_areThree_12 (by decide) (fun c12 => ?_) (fun c12 => ?_)
      · skip
        refine lv_iconst (v := 0) S.1 S.2.1 dX7_areThree_19 (by decide) ?_
        exact x_zretR S hr hlocks dX7_areThree_20 (xb.zero (fun h => h (by first | exact Or.inr (Or.inr c12) | exact Or.inr (Or.inl c7) | exact Or.inl c2)))
      · skip
        refine lv_iconst (v := 1) S.1 S.2.1 dX7_areThree_15 (by decide) ?_
        refine lv_goto (tgt := 20) S.1 S.2.1 dX7_areThree_16 (by decide) ?_
        exact x_zretR S hr hlocks dX7_areThree_20 (xb.one (fun h => by rcases h with h | h | h; exact c2 h; exact c7 h; exact c12 h))
set_option maxHeartbeats 4000000 in
set_option maxRecDepth 100000 in
theorem c_X7_areUsable (l : Launch) (g : xG) (E : Nat → va_E) {kp fi hi od bs bb bf ty at9 nu : Int32} (h65 : E 65 = mO g kp fi hi od bs bb bf ty at9 nu) {f : Nat → Int32} (h66 : E 66 = .inl (xI g, 71, .inl f)) {n : Nat} {M : Nat → Nat → Int32} (hN : nH f 0 n M) {i j k : Nat} (hi : i < n) (hj : j < n) (hk : k < n)  : Met l yX7_areUsable wsX7_areUsable ({ frames := 2, cells := 0, slots := 0, locals := 43 }) (xPc g [.ref (xad g 65), .int (nI i), .int (nI j), .int (nI k)] E) (vp_Si (xb (pU M i = true ∧ pU M j = true ∧ pU M k = true))) 0 0 (fun _ => False) := by
  refine x_met (ws' := _) (by decide) rfl (Nat.le_of_ble_eq_true rfl) ?_
  intro pz ez s m below meth cz ls S hr hlocks hP hK hl
  have hl : lv_has ls 4 [(0, .ref (xad g 65)), (1, .int (nI i)), (2, .int (nI j)), (3, .int (nI k))] := hl
  refine lv_aload_n S.1 S.2.1 dX7_areUsable_0 rfl (lv_at hl 0 rfl) ?_
  refine lv_iload_n S.1 S.2.1 dX7_areUsable_1 rfl (lv_at hl 1 rfl) ?_
  refine x_si (va_runV (As := [.int (nI i)]) (rest := []) S (c_X7_isUsable l g E h65 h66 hN hi) (cwV 1 S.2.2.2.2 gX7_areUsable_X7_isUsable rfl rfl rfl (by decide +kernel) ⟨Nat.le_of_ble_eq_true rfl, Nat.le_of_ble_eq_true rfl⟩) (x_preV hK hP h65 (by decide) rfl) rfl rfl hl.1 rfl (lv_room (Nat.le_of_ble_eq_true rfl)) dX7_areUsable_2 ⟨Nat.le_of_ble_eq_true rfl, Nat.le_of_ble_eq_true rfl⟩) (fun r2 hr2 => ?_)
  refine lv_if_eq (tgt := 28) S.1 S.2.1 dX7_areUsable_5 (by decide) (fun c5 => ?_) (fun c5 => ?_)
  · skip
    refine lv_iconst (v := 0) S.1 S.2.1 dX7_areUsable_28 (by decide) ?_
    exact x_zretR S hr hlocks dX7_areUsable_29 (xb.zero (by first | exact fun h => hr18.f c21 h.2.2 | exact fun h => hr10.f c13 h.2.1 | exact fun h => hr2.f c5 h.1))
  · skip
    refine lv_aload_n S.1 S.2.1 dX7_areUsable_8 rfl (lv_at hl 0 rfl) ?_
    refine lv_iload_n S.1 S.2.1 dX7_areUsable_9 rfl (lv_at hl 2 rfl) ?_
    refine x_si (va_runV (As := [.int (nI j)]) (rest := []) S (c_X7_isUsable l g E h65 h66 hN hj) (cwV 1 S.2.2.2.2 gX7_areUsable_X7_isUsable rfl rfl rfl (by decide +kernel) ⟨Nat.le_of_ble_eq_true rfl, Nat.le_of_ble_eq_true rfl⟩) (x_preV hK hP h65 (by decide) rfl) rfl rfl hl.1 rfl (lv_room (Nat.le_of_ble_eq_true rfl)) dX7_areUsable_10 ⟨Nat.le_of_ble_eq_true rfl, Nat.le_of_ble_eq_true rfl⟩) (fun r10 hr10 => ?_)
    refine lv_if_eq (tgt := 28) S.1 S.2.1 dX7_areUsable_13 (by decide) (fun c13 => ?_) (fun c13 => ?_)
    · skip
      refine lv_iconst (v := 0) S.1 S.2.1 dX7_areUsable_28 (by decide) ?_
      exact x_zretR S hr hlocks dX7_areUsable_29 (xb.zero (by first | exact fun h => hr18.f c21 h.2.2 | exact fun h => hr10.f c13 h.2.1 | exact fun h => hr2.f c5 h.1))
    · skip
      refine lv_aload_n S.1 S.2.1 dX7_areUsable_16 rfl (lv_at hl 0 rfl) ?_
      refine lv_iload_n S.1 S.2.1 dX7_areUsable_17 rfl (lv_at hl 3 rfl) ?_
      refine x_si (va_runV (As := [.int (nI k)]) (rest := []) S (c_X7_isUsable l g E h65 h66 hN hk) (cwV 1 S.2.2.2.2 gX7_areUsable_X7_isUsable rfl rfl rfl (by decide +kernel) ⟨Nat.le_of_ble_eq_true rfl, Nat.le_of_ble_eq_true rfl⟩) (x_preV hK hP h65 (by decide) rfl) rfl rfl hl.1 rfl (lv_room (Nat.le_of_ble_eq_true rfl)) dX7_areUsable_18 ⟨Nat.le_of_ble_eq_true rfl, Nat.le_of_ble_eq_true rfl⟩) (fun r18 hr18 => ?_)
      refine lv_if_eq (tgt := 28) S.1 S.2.1 dX7_areUsable_21 (by decide) (fun c21 => ?_) (fun c21 => ?_)
      · skip
        refine lv_iconst (v := 0) S.1 S.2.1 dX7_areUsable_28 (by decide) ?_
        exact x_zretR S hr hlocks dX7_areUsable_29 (xb.zero (by first | exact fun h => hr18.f c21 h.2.2 | exact fun h => hr10.f c13 h.2.1 | exact fun h => hr2.f c5 h.1))
      · skip
        refine lv_iconst (v := 1) S.1 S.2.1 dX7_areUsable_24 (by decide) ?_
        refine lv_goto (tgt := 29) S.1 S.2.1 dX7_areUsable_25 (by decide) ?_
        exact x_zretR S hr hlocks dX7_areUsable_29 (xb.one ⟨hr2.t c5, hr10.t c13, hr18.t c21⟩)
set_option maxHeartbeats 4000000 in
set_option maxRecDepth 100000 in
theorem c_X7_isAsked (l : Launch) (g : xG) (E : Nat → va_E) (t w q : Int32) : Met l yX7_isAsked wsX7_isAsked ({ frames := 1, cells := 0, slots := 0, locals := 22 }) (xPc g [.int t, .int w, .int q] E) (vp_Si (xb (isAsk t w q))) 0 0 (fun _ => False) := by
  refine x_met (ws' := _) (by decide) rfl (Nat.le_of_ble_eq_true rfl) ?_
  intro pz ez s m below meth cz ls S hr hlocks hP hK hl
  have hl : lv_has ls 3 [(0, .int t), (1, .int w), (2, .int q)] := hl
  refine lv_iload_n S.1 S.2.1 dX7_isAsked_0 rfl (lv_at hl 0 rfl) ?_
  refine lv_iconst (v := 0) S.1 S.2.1 dX7_isAsked_1 (by decide) ?_
  refine lv_bipush (v := 99) S.1 S.2.1 dX7_isAsked_2 (by decide) ?_
  refine x_si (va_runS (As := [.int t, .int 0, .int 99]) (rest := []) S (c_X7_in l g E t 0 99) (va_cwS 3 S.2.2.2.2 gX7_isAsked_X7_in rfl rfl rfl (by decide +kernel) ⟨Nat.le_of_ble_eq_true rfl, Nat.le_of_ble_eq_true rfl⟩) (x_preS hK hP) rfl rfl hl.1 rfl (lv_room (Nat.le_of_ble_eq_true rfl)) dX7_isAsked_4 ⟨Nat.le_of_ble_eq_true rfl, Nat.le_of_ble_eq_true rfl⟩) (fun r4 hr4 => ?_)
  refine lv_if_eq (tgt := 32) S.1 S.2.1 dX7_isAsked_7 (by decide) (fun c7 => ?_) (fun c7 => ?_)
  · skip
    refine lv_iconst (v := 0) S.1 S.2.1 dX7_isAsked_32 (by decide) ?_
    exact x_zretR S hr hlocks dX7_isAsked_33 (xb.zero (by first | exact fun h => hr22.f c25 h.2.2 | exact fun h => hr13.f c16 h.2.1 | exact fun h => hr4.f c7 h.1))
  · skip
    refine lv_iload_n S.1 S.2.1 dX7_isAsked_10 rfl (lv_at hl 1 rfl) ?_
    refine lv_iconst (v := 0) S.1 S.2.1 dX7_isAsked_11 (by decide) ?_
    refine lv_iconst (v := 1) S.1 S.2.1 dX7_isAsked_12 (by decide) ?_
    refine x_si (va_runS (As := [.int w, .int 0, .int 1]) (rest := []) S (c_X7_in l g E w 0 1) (va_cwS 3 S.2.2.2.2 gX7_isAsked_X7_in rfl rfl rfl (by decide +kernel) ⟨Nat.le_of_ble_eq_true rfl, Nat.le_of_ble_eq_true rfl⟩) (x_preS hK hP) rfl rfl hl.1 rfl (lv_room (Nat.le_of_ble_eq_true rfl)) dX7_isAsked_13 ⟨Nat.le_of_ble_eq_true rfl, Nat.le_of_ble_eq_true rfl⟩) (fun r13 hr13 => ?_)
    refine lv_if_eq (tgt := 32) S.1 S.2.1 dX7_isAsked_16 (by decide) (fun c16 => ?_) (fun c16 => ?_)
    · skip
      refine lv_iconst (v := 0) S.1 S.2.1 dX7_isAsked_32 (by decide) ?_
      exact x_zretR S hr hlocks dX7_isAsked_33 (xb.zero (by first | exact fun h => hr22.f c25 h.2.2 | exact fun h => hr13.f c16 h.2.1 | exact fun h => hr4.f c7 h.1))
    · skip
      refine lv_iload_n S.1 S.2.1 dX7_isAsked_19 rfl (lv_at hl 2 rfl) ?_
      refine lv_iconst (v := 0) S.1 S.2.1 dX7_isAsked_20 (by decide) ?_
      refine lv_iconst (v := 1) S.1 S.2.1 dX7_isAsked_21 (by decide) ?_
      refine x_si (va_runS (As := [.int q, .int 0, .int 1]) (rest := []) S (c_X7_in l g E q 0 1) (va_cwS 3 S.2.2.2.2 gX7_isAsked_X7_in rfl rfl rfl (by decide +kernel) ⟨Nat.le_of_ble_eq_true rfl, Nat.le_of_ble_eq_true rfl⟩) (x_preS hK hP) rfl rfl hl.1 rfl (lv_room (Nat.le_of_ble_eq_true rfl)) dX7_isAsked_22 ⟨Nat.le_of_ble_eq_true rfl, Nat.le_of_ble_eq_true rfl⟩) (fun r22 hr22 => ?_)
      refine lv_if_eq (tgt := 32) S.1 S.2.1 dX7_isAsked_25 (by decide) (fun c25 => ?_) (fun c25 => ?_)
      · skip
        refine lv_iconst (v := 0) S.1 S.2.1 dX7_isAsked_32 (by decide) ?_
        exact x_zretR S hr hlocks dX7_isAsked_33 (xb.zero (by first | exact fun h => hr22.f c25 h.2.2 | exact fun h => hr13.f c16 h.2.1 | exact fun h => hr4.f c7 h.1))
      · skip
        refine lv_iconst (v := 1) S.1 S.2.1 dX7_isAsked_28 (by decide) ?_
        refine lv_goto (tgt := 33) S.1 S.2.1 dX7_isAsked_29 (by decide) ?_
        exact x_zretR S hr hlocks dX7_isAsked_33 (xb.one ⟨hr4.t c7, hr13.t c16, hr22.t c25⟩)
def isPh (t x y e : Int32) : Prop := (0 ≤ t ∧ t ≤ 99) ∧ (-400 ≤ x ∧ x ≤ 400) ∧ (-400 ≤ y ∧ y ≤ 400) ∧ 0 ≤ e ∧ e ≤ 40
set_option maxHeartbeats 4000000 in
set_option maxRecDepth 100000 in
theorem c_X7_isPhoto (l : Launch) (g : xG) (E : Nat → va_E) (t x y e5 : Int32) : Met l yX7_isPhoto wsX7_isPhoto ({ frames := 1, cells := 0, slots := 0, locals := 22 }) (xPc g [.int t, .int x, .int y, .int e5] E) (vp_Si (xb (isPh t x y e5))) 0 0 (fun _ => False) := by
  refine x_met (ws' := _) (by decide) rfl (Nat.le_of_ble_eq_true rfl) ?_
  intro pz ez s m below meth cz ls S hr hlocks hP hK hl
  have hl : lv_has ls 4 [(0, .int t), (1, .int x), (2, .int y), (3, .int e5)] := hl
  refine lv_iload_n S.1 S.2.1 dX7_isPhoto_0 rfl (lv_at hl 0 rfl) ?_
  refine lv_iconst (v := 0) S.1 S.2.1 dX7_isPhoto_1 (by decide) ?_
  refine lv_bipush (v := 99) S.1 S.2.1 dX7_isPhoto_2 (by decide) ?_
  refine x_si (va_runS (As := [.int t, .int 0, .int 99]) (rest := []) S (c_X7_in l g E t 0 99) (va_cwS 3 S.2.2.2.2 gX7_isPhoto_X7_in rfl rfl rfl (by decide +kernel) ⟨Nat.le_of_ble_eq_true rfl, Nat.le_of_ble_eq_true rfl⟩) (x_preS hK hP) rfl rfl hl.1 rfl (lv_room (Nat.le_of_ble_eq_true rfl)) dX7_isPhoto_4 ⟨Nat.le_of_ble_eq_true rfl, Nat.le_of_ble_eq_true rfl⟩) (fun r4 hr4 => ?_)
  refine lv_if_eq (tgt := 50) S.1 S.2.1 dX7_isPhoto_7 (by decide) (fun c7 => ?_) (fun c7 => ?_)
  · skip
    refine lv_iconst (v := 0) S.1 S.2.1 dX7_isPhoto_50 (by decide) ?_
    exact x_zretR S hr hlocks dX7_isPhoto_51 (xb.zero (by first | exact fun h => hr40.f c43 h.2.2.2 | exact fun h => hr30.f c33 h.2.2.1 | exact fun h => hr17.f c20 h.2.1 | exact fun h => hr4.f c7 h.1))
  · skip
    refine lv_iload_n S.1 S.2.1 dX7_isPhoto_10 rfl (lv_at hl 1 rfl) ?_
    refine lv_sipush (v := (-400)) S.1 S.2.1 dX7_isPhoto_11 (by decide) ?_
    refine lv_sipush (v := 400) S.1 S.2.1 dX7_isPhoto_14 (by decide) ?_
    refine x_si (va_runS (As := [.int x, .int (-400), .int 400]) (rest := []) S (c_X7_in l g E x (-400) 400) (va_cwS 3 S.2.2.2.2 gX7_isPhoto_X7_in rfl rfl rfl (by decide +kernel) ⟨Nat.le_of_ble_eq_true rfl, Nat.le_of_ble_eq_true rfl⟩) (x_preS hK hP) rfl rfl hl.1 rfl (lv_room (Nat.le_of_ble_eq_true rfl)) dX7_isPhoto_17 ⟨Nat.le_of_ble_eq_true rfl, Nat.le_of_ble_eq_true rfl⟩) (fun r17 hr17 => ?_)
    refine lv_if_eq (tgt := 50) S.1 S.2.1 dX7_isPhoto_20 (by decide) (fun c20 => ?_) (fun c20 => ?_)
    · skip
      refine lv_iconst (v := 0) S.1 S.2.1 dX7_isPhoto_50 (by decide) ?_
      exact x_zretR S hr hlocks dX7_isPhoto_51 (xb.zero (by first | exact fun h => hr40.f c43 h.2.2.2 | exact fun h => hr30.f c33 h.2.2.1 | exact fun h => hr17.f c20 h.2.1 | exact fun h => hr4.f c7 h.1))
    · skip
      refine lv_iload_n S.1 S.2.1 dX7_isPhoto_23 rfl (lv_at hl 2 rfl) ?_
      refine lv_sipush (v := (-400)) S.1 S.2.1 dX7_isPhoto_24 (by decide) ?_
      refine lv_sipush (v := 400) S.1 S.2.1 dX7_isPhoto_27 (by decide) ?_
      refine x_si (va_runS (As := [.int y, .int (-400), .int 400]) (rest := []) S (c_X7_in l g E y (-400) 400) (va_cwS 3 S.2.2.2.2 gX7_isPhoto_X7_in rfl rfl rfl (by decide +kernel) ⟨Nat.le_of_ble_eq_true rfl, Nat.le_of_ble_eq_true rfl⟩) (x_preS hK hP) rfl rfl hl.1 rfl (lv_room (Nat.le_of_ble_eq_true rfl)) dX7_isPhoto_30 ⟨Nat.le_of_ble_eq_true rfl, Nat.le_of_ble_eq_true rfl⟩) (fun r30 hr30 => ?_)
      refine lv_if_eq (tgt := 50) S.1 S.2.1 dX7_isPhoto_33 (by decide) (fun c33 => ?_) (fun c33 => ?_)
      · skip
        refine lv_iconst (v := 0) S.1 S.2.1 dX7_isPhoto_50 (by decide) ?_
        exact x_zretR S hr hlocks dX7_isPhoto_51 (xb.zero (by first | exact fun h => hr40.f c43 h.2.2.2 | exact fun h => hr30.f c33 h.2.2.1 | exact fun h => hr17.f c20 h.2.1 | exact fun h => hr4.f c7 h.1))
      · skip
        refine lv_iload_n S.1 S.2.1 dX7_isPhoto_36 rfl (lv_at hl 3 rfl) ?_
        refine lv_iconst (v := 0) S.1 S.2.1 dX7_isPhoto_37 (by decide) ?_
        refine lv_bipush (v := 40) S.1 S.2.1 dX7_isPhoto_38 (by decide) ?_
        refine x_si (va_runS (As := [.int e5, .int 0, .int 40]) (rest := []) S (c_X7_in l g E e5 0 40) (va_cwS 3 S.2.2.2.2 gX7_isPhoto_X7_in rfl rfl rfl (by decide +kernel) ⟨Nat.le_of_ble_eq_true rfl, Nat.le_of_ble_eq_true rfl⟩) (x_preS hK hP) rfl rfl hl.1 rfl (lv_room (Nat.le_of_ble_eq_true rfl)) dX7_isPhoto_40 ⟨Nat.le_of_ble_eq_true rfl, Nat.le_of_ble_eq_true rfl⟩) (fun r40 hr40 => ?_)
        refine lv_if_eq (tgt := 50) S.1 S.2.1 dX7_isPhoto_43 (by decide) (fun c43 => ?_) (fun c43 => ?_)
        · skip
          refine lv_iconst (v := 0) S.1 S.2.1 dX7_isPhoto_50 (by decide) ?_
          exact x_zretR S hr hlocks dX7_isPhoto_51 (xb.zero (by first | exact fun h => hr40.f c43 h.2.2.2 | exact fun h => hr30.f c33 h.2.2.1 | exact fun h => hr17.f c20 h.2.1 | exact fun h => hr4.f c7 h.1))
        · skip
          refine lv_iconst (v := 1) S.1 S.2.1 dX7_isPhoto_46 (by decide) ?_
          refine lv_goto (tgt := 51) S.1 S.2.1 dX7_isPhoto_47 (by decide) ?_
          exact x_zretR S hr hlocks dX7_isPhoto_51 (xb.one ⟨hr4.t c7, hr17.t c20, hr30.t c33, hr40.t c43⟩)
theorem ex_next {P : Nat → Prop} {q : Nat} {y : Int32} (h : xb (∃ k, k < q ∧ P k) y) (hq : ¬ P q) : xb (∃ k, k < q + 1 ∧ P k) (y ||| 0) := by
  rw [Int32.or_zero]
  refine h.iff ⟨fun ⟨k, h1, h2⟩ => ⟨k, by omega, h2⟩, fun ⟨k, h1, h2⟩ => ?_⟩
  by_cases e : k = q
  · subst e; exact absurd h2 hq
  · exact ⟨k, by omega, h2⟩
theorem ex_yes {P : Nat → Prop} {q : Nat} {y : Int32} {Q : Prop} (h : xb Q y) (hq : P q) : xb (∃ k, k < q + 1 ∧ P k) (y ||| 1) := by
  have : y ||| 1 = 1 := by
    rcases h.1 with e | e
    · subst e; decide
    · subst e; decide
  rw [this]
  exact xb.one ⟨q, Nat.lt_succ_self _, hq⟩
set_option maxHeartbeats 4000000 in
set_option maxRecDepth 100000 in
theorem c_X7_isThere (l : Launch) (g : xG) (E : Nat → va_E) {kp fi hi od bs bb bf ty at9 nu : Int32} (h65 : E 65 = mO g kp fi hi od bs bb bf ty at9 nu) {f : Nat → Int32} (h66 : E 66 = .inl (xI g, 71, .inl f)) {n : Nat} {M : Nat → Nat → Int32} (hN : nH f 0 n M) (t : Int32) : Met l yX7_isThere wsX7_isThere ({ frames := 1, cells := 0, slots := 0, locals := 22 }) (xPc g [.ref (xad g 65), .int t] E) (vp_Si (xb (∃ k, k < n ∧ M 0 k = t))) 0 0 (fun _ => False) := by
  refine x_met (ws' := _) (by decide) rfl (Nat.le_of_ble_eq_true rfl) ?_
  intro pz ez s m below meth cz ls S hr hlocks hP hK hl
  have hl : lv_has ls 4 [(0, .ref (xad g 65)), (1, .int t)] := hl
  have hin7 : ∀ w ∈ u_ws RX7 TX7 19, w ∈ wsX7_isThere := by decide +kernel
  have fl7 : Cond.fieldLink RX7 7 "DiscArcsModel" "now" "[I" ∈ wsX7_isThere := by decide +kernel
  have hn := hN.1
  have hn0 := hN.n0
  refine lv_iconst (v := 0) S.1 S.2.1 dX7_isThere_0 (by decide) ?_
  refine lv_istore_n (lv' := [(2, .int 0), (0, .ref (xad g 65)), (1, .int t)]) S.1 S.2.1 dX7_isThere_1 rfl hl (by decide) rfl (fun ls hl => ?_)
  refine lv_iconst (v := 0) S.1 S.2.1 dX7_isThere_2 (by decide) ?_
  refine lv_istore_n (lv' := [(3, .int 0), (2, .int 0), (0, .ref (xad g 65)), (1, .int t)]) S.1 S.2.1 dX7_isThere_3 rfl hl (by decide) rfl (fun ls hl => ?_)
  have loop4 : ∀ (d : Nat) (q : Nat) (y : Int32), (hq : q ≤ n) → (hy : xb (∃ k, k < q ∧ M 0 k = t) y) → (n - q) < d → ∀ ls : Array Slot, lv_has ls 4 [(3, .int (nI q)), (2, .int y), (0, .ref (xad g 65)), (1, .int t)] → W pz l ez ({ frames := 1, cells := 0, slots := 0, locals := 22 }) s m ([.ref (xad g 65), .int t] : List Value).toArray below meth cz s.heap [] 0 0 (MQ below (vp_Si (xb (∃ k, k < n ∧ M 0 k = t))) ([.ref (xad g 65), .int t] : List Value).toArray s 0 0 (fun _ => False)) (F0 m 4 ls []) := by
    intro d
    induction d with
    | zero => intro q y hq hy hd; exact absurd hd (Nat.not_lt_zero _)
    | succ d ih4 =>
      intro q y hq hy hd ls hl
      refine lv_iload_n S.1 S.2.1 dX7_isThere_4 rfl (lv_at hl 0 rfl) ?_
      refine lv_aload_n S.1 S.2.1 dX7_isThere_5 rfl (lv_at hl 2 rfl) ?_
      refine x_get S hK hP dX7_isThere_6 h65 (by decide) (RX7, TX7, 19) rfl hin7 0 (by decide) fl7 rfl ?_
      refine lv_bipush (v := 70) S.1 S.2.1 dX7_isThere_9 (by decide) ?_
      refine x_iald S hK hP dX7_isThere_11 h66 (by decide) (j := 70) rfl (by omega) (by decide) ?_
      refine lv_icmp_ge (tgt := 39) S.1 S.2.1 dX7_isThere_12 (by decide) (fun c12 => ?_) (fun c12 => ?_)
      · skip
        refine lv_iload_n S.1 S.2.1 dX7_isThere_39 rfl (lv_at hl 1 rfl) ?_
        exact x_zretR S hr hlocks dX7_isThere_40 (by rw [hn0] at c12; rw [← show q = n from Nat.le_antisymm hq ((nI_leI (by omega) (by omega)).mp c12)]; exact hy)
      · skip
        have hqn : q < n := Nat.not_le.mp (fun h => c12 (by rw [hn0]; exact (nI_leI (by omega) (by omega)).mpr h))
        refine lv_iload_n S.1 S.2.1 dX7_isThere_15 rfl (lv_at hl 1 rfl) ?_
        refine lv_aload_n S.1 S.2.1 dX7_isThere_16 rfl (lv_at hl 2 rfl) ?_
        refine lv_iload_n S.1 S.2.1 dX7_isThere_17 rfl (lv_at hl 0 rfl) ?_
        refine lv_iconst (v := 0) S.1 S.2.1 dX7_isThere_18 (by decide) ?_
        refine x_si (va_runV (As := [.int (nI q), .int 0]) (rest := [.int y]) S (c_X7_of l g E h65 h66 (k := q) (w := 0) (by omega)) (cwV 2 S.2.2.2.2 gX7_isThere_X7_of rfl rfl rfl (by decide +kernel) ⟨Nat.le_of_ble_eq_true rfl, Nat.le_of_ble_eq_true rfl⟩) (x_preV hK hP h65 (by decide) rfl) rfl rfl hl.1 rfl (lv_room (Nat.le_of_ble_eq_true rfl)) dX7_isThere_19 ⟨Nat.le_of_ble_eq_true rfl, Nat.le_of_ble_eq_true rfl⟩) (fun r19 hr19 => ?_)
        rw [hN.at0 (k := q) (w := 0) hqn (by omega)] at hr19
        subst hr19
        refine lv_iload_n S.1 S.2.1 dX7_isThere_22 rfl (lv_at hl 3 rfl) ?_
        refine lv_icmp_ne (tgt := 30) S.1 S.2.1 dX7_isThere_23 (by decide) (fun c23 => ?_) (fun c23 => ?_)
        · skip
          refine lv_iconst (v := 0) S.1 S.2.1 dX7_isThere_30 (by decide) ?_
          refine lv_ior S.1 S.2.1 dX7_isThere_31 ?_
          refine lv_topi (fun y32 ey32 => ?_)
          refine lv_istore_n (lv' := [(2, .int y32), (3, .int (nI q)), (0, .ref (xad g 65)), (1, .int t)]) S.1 S.2.1 dX7_isThere_32 rfl hl (by decide) rfl (fun ls hl => ?_)
          refine lv_iinc (v := nI (q + 1)) (lv' := [(3, .int (nI (q + 1))), (2, .int y32), (0, .ref (xad g 65)), (1, .int t)]) S.1 S.2.1 dX7_isThere_33 hl (k := 1) rfl (show nI q + Int32.ofInt 1 = _ from nI_1 _) (by decide) rfl (fun ls hl => ?_)
          refine lv_goto (tgt := 4) S.1 S.2.1 dX7_isThere_36 (by decide) ?_
          exact ih4 (q + 1) y32 (by omega) (by rw [ey32]; exact ex_next hy c23) (by omega) ls (lv_sub hl [0, 1, 2, 3] rfl)
        · skip
          refine lv_iconst (v := 1) S.1 S.2.1 dX7_isThere_26 (by decide) ?_
          refine lv_goto (tgt := 31) S.1 S.2.1 dX7_isThere_27 (by decide) ?_
          refine lv_ior S.1 S.2.1 dX7_isThere_31 ?_
          refine lv_topi (fun y32 ey32 => ?_)
          refine lv_istore_n (lv' := [(2, .int y32), (3, .int (nI q)), (0, .ref (xad g 65)), (1, .int t)]) S.1 S.2.1 dX7_isThere_32 rfl hl (by decide) rfl (fun ls hl => ?_)
          refine lv_iinc (v := nI (q + 1)) (lv' := [(3, .int (nI (q + 1))), (2, .int y32), (0, .ref (xad g 65)), (1, .int t)]) S.1 S.2.1 dX7_isThere_33 hl (k := 1) rfl (show nI q + Int32.ofInt 1 = _ from nI_1 _) (by decide) rfl (fun ls hl => ?_)
          refine lv_goto (tgt := 4) S.1 S.2.1 dX7_isThere_36 (by decide) ?_
          exact ih4 (q + 1) y32 (by omega) (by rw [ey32]; exact ex_yes hy c23) (by omega) ls (lv_sub hl [0, 1, 2, 3] rfl)
  exact loop4 _ 0 0 (Nat.zero_le _) (xb.zero (fun ⟨k, h, _⟩ => absurd h (Nat.not_lt_zero _))) (Nat.lt_succ_self _) ls (lv_sub hl [0, 1, 2, 3] rfl)
theorem ang_r {x y : Int32} (h : y = x - x / 360 * 360) : (0 ≤ y → y.toInt = x.toInt % 360) ∧ (¬ 0 ≤ y → (y + 360).toInt = x.toInt % 360) := by
  have e0 : (0 : Int32).toInt = 0 := by decide
  have e360 : (360 : Int32).toInt = 360 := by decide
  have hr := rem360 (x := x)
  rw [← h] at hr
  refine ⟨fun h1 => ?_, fun h1 => ?_⟩
  · rw [I_le, e0] at h1
    rw [hr] at h1 ⊢
    split at h1 <;> split <;> omega
  · rw [I_le, e0] at h1
    have hb : -360 < y.toInt ∧ y.toInt < 360 := by rw [hr]; split <;> omega
    rw [I_add (by omega) (by omega), e360]
    rw [hr] at h1 ⊢
    split at h1 <;> split <;> omega
set_option maxHeartbeats 4000000 in
set_option maxRecDepth 100000 in
theorem c_X7_angle (l : Launch) (g : xG) (E : Nat → va_E) {t b u : Int32} (ht : -180 ≤ t.toInt ∧ t.toInt ≤ 180) (hb : -100 ≤ b.toInt ∧ b.toInt ≤ 360) (hu : 0 ≤ u.toInt ∧ u.toInt ≤ 99) : Met l yX7_angle wsX7_angle ({ frames := 0, cells := 0, slots := 0, locals := 0 }) (xPc g [.int t, .int b, .int u] E) (vp_Si (fun r => r.toInt = (b.toInt + t.toInt * u.toInt) % 360)) 0 0 (fun _ => False) := by
  refine x_met (ws' := _) (by decide) rfl (Nat.le_of_ble_eq_true rfl) ?_
  intro pz ez s m below meth cz ls S hr hlocks hP hK hl
  have hl : lv_has ls 4 [(0, .int t), (1, .int b), (2, .int u)] := hl
  refine lv_iload_n S.1 S.2.1 dX7_angle_0 rfl (lv_at hl 1 rfl) ?_
  refine lv_iload_n S.1 S.2.1 dX7_angle_1 rfl (lv_at hl 0 rfl) ?_
  refine lv_iload_n S.1 S.2.1 dX7_angle_2 rfl (lv_at hl 2 rfl) ?_
  refine lv_imul S.1 S.2.1 dX7_angle_3 ?_
  refine lv_iadd S.1 S.2.1 dX7_angle_4 ?_
  refine lv_sipush (v := 360) S.1 S.2.1 dX7_angle_5 (by decide) ?_
  refine lv_irem S.1 S.2.1 dX7_angle_8 (by decide) ?_
  refine lv_topi (fun x9 ex9 => ?_)
  refine lv_istore_n (lv' := [(3, .int x9), (0, .int t), (1, .int b), (2, .int u)]) S.1 S.2.1 dX7_angle_9 rfl hl (by decide) rfl (fun ls hl => ?_)
  refine lv_iload_n S.1 S.2.1 dX7_angle_10 rfl (lv_at hl 0 rfl) ?_
  refine lv_if_ge (tgt := 22) S.1 S.2.1 dX7_angle_11 (by decide) (fun c11 => ?_) (fun c11 => ?_)
  · skip
    refine lv_iload_n S.1 S.2.1 dX7_angle_22 rfl (lv_at hl 0 rfl) ?_
    exact x_iretR S hr hlocks dX7_angle_23 (by rw [← ang_arg ht hb hu]; exact (ang_r ex9).1 c11)
  · skip
    refine lv_iload_n S.1 S.2.1 dX7_angle_14 rfl (lv_at hl 0 rfl) ?_
    refine lv_sipush (v := 360) S.1 S.2.1 dX7_angle_15 (by decide) ?_
    refine lv_iadd S.1 S.2.1 dX7_angle_18 ?_
    refine lv_goto (tgt := 23) S.1 S.2.1 dX7_angle_19 (by decide) ?_
    exact x_iretR S hr hlocks dX7_angle_23 (by rw [← ang_arg ht hb hu]; exact (ang_r ex9).2 c11)
theorem near7 {r A e ap mn : Int32} {X : Int} (hr : r.toInt = X % 360) (hA : 0 ≤ A.toInt ∧ A.toInt < 360) (he : 0 ≤ e.toInt ∧ e.toInt ≤ 60) (hap : ap = if 0 ≤ r - A then r - A else -(r - A)) (hmn : mn = if 180 < ap then 360 - ap else ap) : mn ≤ e ↔ (X - A.toInt + e.toInt) % 360 ≤ 2 * e.toInt := by
  have e360 : (360 : Int32).toInt = 360 := by decide
  have e180 : (180 : Int32).toInt = 180 := by decide
  have e0 : (0 : Int32).toInt = 0 := by decide
  have h1 : (r - A).toInt = r.toInt - A.toInt := I_sub (by omega) (by omega)
  have h2 : ap.toInt = if 0 ≤ r.toInt - A.toInt then r.toInt - A.toInt else -(r.toInt - A.toInt) := by
    rw [hap]
    by_cases c : 0 ≤ r - A
    · rw [if_pos c, if_pos (by rw [I_le, e0, h1] at c; exact c), h1]
    · rw [if_neg c, if_neg (by rw [I_le, e0, h1] at c; exact c), I_neg (by omega), h1]
  have h4 : -1000 < ap.toInt ∧ ap.toInt < 1000 := by rw [h2]; split <;> omega
  have h3 : (360 - ap).toInt = 360 - ap.toInt := by rw [I_sub (by omega) (by omega), e360]
  have h5 : mn.toInt = if 180 < ap.toInt then 360 - ap.toInt else ap.toInt := by
    rw [hmn]
    by_cases c : 180 < ap
    · rw [if_pos c, if_pos (by rw [I_lt, e180] at c; exact c), h3]
    · rw [if_neg c, if_neg (by rw [I_lt, e180] at c; exact c)]
  rw [I_le, h5]
  clear h5 h3 hmn hap h1
  split at h2 <;> split <;> omega
set_option maxHeartbeats 4000000 in
set_option maxRecDepth 100000 in
theorem c_X7_isFitted (l : Launch) (g : xG) (E : Nat → va_E) {kp fi hi od bs bb bf ty at9 nu : Int32} (h65 : E 65 = mO g kp fi hi od bs bb bf ty at9 nu) {f : Nat → Int32} (h66 : E 66 = .inl (xI g, 71, .inl f)) {n : Nat} {M : Nat → Nat → Int32} (hN : nH f 0 n M) (hv : vld n M) {t b : Int32} (ht : -179 ≤ t.toInt ∧ t.toInt ≤ 180) (hb : 0 ≤ b.toInt ∧ b.toInt < 360) {k : Nat} (hk : k < n) (hm : pK M k = true) : Met l yX7_isFitted wsX7_isFitted ({ frames := 1, cells := 0, slots := 0, locals := 23 }) (xPc g [.ref (xad g 65), .int t, .int b, .int (nI k)] E) (vp_Si (xb (fitZ M t.toInt b.toInt k = true))) 0 0 (fun _ => False) := by
  refine x_met (ws' := _) (by decide) rfl (Nat.le_of_ble_eq_true rfl) ?_
  intro pz ez s m below meth cz ls S hr hlocks hP hK hl
  have hl : lv_has ls 5 [(0, .ref (xad g 65)), (1, .int t), (2, .int b), (3, .int (nI k))] := hl
  have hn := hN.1
  have hn0 := hN.n0
  refine lv_iload_n S.1 S.2.1 dX7_isFitted_0 rfl (lv_at hl 1 rfl) ?_
  refine lv_iload_n S.1 S.2.1 dX7_isFitted_1 rfl (lv_at hl 2 rfl) ?_
  refine lv_aload_n S.1 S.2.1 dX7_isFitted_2 rfl (lv_at hl 0 rfl) ?_
  refine lv_iload_n S.1 S.2.1 dX7_isFitted_3 rfl (lv_at hl 3 rfl) ?_
  refine lv_iconst (v := 0) S.1 S.2.1 dX7_isFitted_4 (by decide) ?_
  refine x_si (va_runV (As := [.int (nI k), .int 0]) (rest := [.int b, .int t]) S (c_X7_of l g E h65 h66 (k := k) (w := 0) (by omega)) (cwV 2 S.2.2.2.2 gX7_isFitted_X7_of rfl rfl rfl (by decide +kernel) ⟨Nat.le_of_ble_eq_true rfl, Nat.le_of_ble_eq_true rfl⟩) (x_preV hK hP h65 (by decide) rfl) rfl rfl hl.1 rfl (lv_room (Nat.le_of_ble_eq_true rfl)) dX7_isFitted_5 ⟨Nat.le_of_ble_eq_true rfl, Nat.le_of_ble_eq_true rfl⟩) (fun r5 hr5 => ?_)
  rw [hN.at0 (k := k) (w := 0) hk (by omega)] at hr5
  subst hr5
  refine x_si (va_runS (As := [.int t, .int b, .int (M 0 k)]) (rest := []) S (c_X7_angle l g E (t := t) (b := b) (by omega) (by omega) (hv.1 k hk).1) (va_cwS 3 S.2.2.2.2 gX7_isFitted_X7_angle rfl rfl rfl (by decide +kernel) ⟨Nat.le_of_ble_eq_true rfl, Nat.le_of_ble_eq_true rfl⟩) (x_preS hK hP) rfl rfl hl.1 rfl (lv_room (Nat.le_of_ble_eq_true rfl)) dX7_isFitted_8 ⟨Nat.le_of_ble_eq_true rfl, Nat.le_of_ble_eq_true rfl⟩) (fun r8 hr8 => ?_)
  refine lv_aload_n S.1 S.2.1 dX7_isFitted_11 rfl (lv_at hl 0 rfl) ?_
  refine lv_iload_n S.1 S.2.1 dX7_isFitted_12 rfl (lv_at hl 3 rfl) ?_
  refine lv_iconst (v := 4) S.1 S.2.1 dX7_isFitted_13 (by decide) ?_
  refine x_si (va_runV (As := [.int (nI k), .int 4]) (rest := [.int r8]) S (c_X7_of l g E h65 h66 (k := k) (w := 4) (by omega)) (cwV 2 S.2.2.2.2 gX7_isFitted_X7_of rfl rfl rfl (by decide +kernel) ⟨Nat.le_of_ble_eq_true rfl, Nat.le_of_ble_eq_true rfl⟩) (x_preV hK hP h65 (by decide) rfl) rfl rfl hl.1 rfl (lv_room (Nat.le_of_ble_eq_true rfl)) dX7_isFitted_14 ⟨Nat.le_of_ble_eq_true rfl, Nat.le_of_ble_eq_true rfl⟩) (fun r14 hr14 => ?_)
  rw [hN.at0 (k := k) (w := 4) hk (by omega)] at hr14
  subst hr14
  refine lv_isub S.1 S.2.1 dX7_isFitted_17 ?_
  refine lv_topi (fun x18 ex18 => ?_)
  refine lv_istore (lv' := [(4, .int x18), (0, .ref (xad g 65)), (1, .int t), (2, .int b), (3, .int (nI k))]) S.1 S.2.1 dX7_isFitted_18 hl (by decide) rfl (fun ls hl => ?_)
  refine lv_iload S.1 S.2.1 dX7_isFitted_20 (lv_at hl 0 rfl) ?_
  refine lv_if_ge (tgt := 31) S.1 S.2.1 dX7_isFitted_22 (by decide) (fun c22 => ?_) (fun c22 => ?_)
  · skip
    refine lv_iload S.1 S.2.1 dX7_isFitted_31 (lv_at hl 0 rfl) ?_
    obtain ⟨ap, hap⟩ : ∃ ap : Int32, ap = if 0 ≤ x18 then x18 else -x18 := ⟨_, rfl⟩
    refine W.eq (g2 := F0 m 33 ls [.int ap]) (by rw [hap, if_pos c22]) ?_
    refine lv_istore (lv' := [(4, .int ap), (0, .ref (xad g 65)), (1, .int t), (2, .int b), (3, .int (nI k))]) S.1 S.2.1 dX7_isFitted_33 hl (by decide) rfl (fun ls hl => ?_)
    refine lv_iload S.1 S.2.1 dX7_isFitted_35 (lv_at hl 0 rfl) ?_
    refine lv_sipush (v := 180) S.1 S.2.1 dX7_isFitted_37 (by decide) ?_
    refine lv_icmp_le (tgt := 52) S.1 S.2.1 dX7_isFitted_40 (by decide) (fun c40 => ?_) (fun c40 => ?_)
    · skip
      have c40 : ¬ 180 < ap := Int32.not_lt.mpr c40
      refine lv_iload S.1 S.2.1 dX7_isFitted_52 (lv_at hl 0 rfl) ?_
      obtain ⟨mn, hmn⟩ : ∃ mn : Int32, mn = if 180 < ap then 360 - ap else ap := ⟨_, rfl⟩
      refine W.eq (g2 := F0 m 54 ls [.int mn]) (by rw [hmn, if_neg c40]) ?_
      have hnr := near7 hr8 (pK_A hv hk hm) (hv.1 k hk).2.2.2.2.2.1 (by rw [← ex18]; exact hap) hmn
      refine lv_aload_n S.1 S.2.1 dX7_isFitted_54 rfl (lv_at hl 1 rfl) ?_
      refine lv_iload_n S.1 S.2.1 dX7_isFitted_55 rfl (lv_at hl 4 rfl) ?_
      refine lv_iconst (v := 5) S.1 S.2.1 dX7_isFitted_56 (by decide) ?_
      refine x_si (va_runV (As := [.int (nI k), .int 5]) (rest := [.int mn]) S (c_X7_of l g E h65 h66 (k := k) (w := 5) (by omega)) (cwV 2 S.2.2.2.2 gX7_isFitted_X7_of rfl rfl rfl (by decide +kernel) ⟨Nat.le_of_ble_eq_true rfl, Nat.le_of_ble_eq_true rfl⟩) (x_preV hK hP h65 (by decide) rfl) rfl rfl hl.1 rfl (lv_room (Nat.le_of_ble_eq_true rfl)) dX7_isFitted_57 ⟨Nat.le_of_ble_eq_true rfl, Nat.le_of_ble_eq_true rfl⟩) (fun r57 hr57 => ?_)
      rw [hN.at0 (k := k) (w := 5) hk (by omega)] at hr57
      subst hr57
      refine lv_icmp_gt (tgt := 67) S.1 S.2.1 dX7_isFitted_60 (by decide) (fun c60 => ?_) (fun c60 => ?_)
      · skip
        refine lv_iconst (v := 0) S.1 S.2.1 dX7_isFitted_67 (by decide) ?_
        exact x_zretR S hr hlocks dX7_isFitted_68 (xb.zero (fun h => absurd c60 (Int32.not_lt.mpr (hnr.mpr (of_decide_eq_true h)))))
      · skip
        refine lv_iconst (v := 1) S.1 S.2.1 dX7_isFitted_63 (by decide) ?_
        refine lv_goto (tgt := 68) S.1 S.2.1 dX7_isFitted_64 (by decide) ?_
        exact x_zretR S hr hlocks dX7_isFitted_68 (xb.one (decide_eq_true (hnr.mp (Int32.not_lt.mp c60))))
    · skip
      have c40 : 180 < ap := Int32.not_le.mp c40
      refine lv_sipush (v := 360) S.1 S.2.1 dX7_isFitted_43 (by decide) ?_
      refine lv_iload S.1 S.2.1 dX7_isFitted_46 (lv_at hl 0 rfl) ?_
      refine lv_isub S.1 S.2.1 dX7_isFitted_48 ?_
      refine lv_goto (tgt := 54) S.1 S.2.1 dX7_isFitted_49 (by decide) ?_
      obtain ⟨mn, hmn⟩ : ∃ mn : Int32, mn = if 180 < ap then 360 - ap else ap := ⟨_, rfl⟩
      refine W.eq (g2 := F0 m 54 ls [.int mn]) (by rw [hmn, if_pos c40]) ?_
      have hnr := near7 hr8 (pK_A hv hk hm) (hv.1 k hk).2.2.2.2.2.1 (by rw [← ex18]; exact hap) hmn
      refine lv_aload_n S.1 S.2.1 dX7_isFitted_54 rfl (lv_at hl 1 rfl) ?_
      refine lv_iload_n S.1 S.2.1 dX7_isFitted_55 rfl (lv_at hl 4 rfl) ?_
      refine lv_iconst (v := 5) S.1 S.2.1 dX7_isFitted_56 (by decide) ?_
      refine x_si (va_runV (As := [.int (nI k), .int 5]) (rest := [.int mn]) S (c_X7_of l g E h65 h66 (k := k) (w := 5) (by omega)) (cwV 2 S.2.2.2.2 gX7_isFitted_X7_of rfl rfl rfl (by decide +kernel) ⟨Nat.le_of_ble_eq_true rfl, Nat.le_of_ble_eq_true rfl⟩) (x_preV hK hP h65 (by decide) rfl) rfl rfl hl.1 rfl (lv_room (Nat.le_of_ble_eq_true rfl)) dX7_isFitted_57 ⟨Nat.le_of_ble_eq_true rfl, Nat.le_of_ble_eq_true rfl⟩) (fun r57 hr57 => ?_)
      rw [hN.at0 (k := k) (w := 5) hk (by omega)] at hr57
      subst hr57
      refine lv_icmp_gt (tgt := 67) S.1 S.2.1 dX7_isFitted_60 (by decide) (fun c60 => ?_) (fun c60 => ?_)
      · skip
        refine lv_iconst (v := 0) S.1 S.2.1 dX7_isFitted_67 (by decide) ?_
        exact x_zretR S hr hlocks dX7_isFitted_68 (xb.zero (fun h => absurd c60 (Int32.not_lt.mpr (hnr.mpr (of_decide_eq_true h)))))
      · skip
        refine lv_iconst (v := 1) S.1 S.2.1 dX7_isFitted_63 (by decide) ?_
        refine lv_goto (tgt := 68) S.1 S.2.1 dX7_isFitted_64 (by decide) ?_
        exact x_zretR S hr hlocks dX7_isFitted_68 (xb.one (decide_eq_true (hnr.mp (Int32.not_lt.mp c60))))
  · skip
    refine lv_iload S.1 S.2.1 dX7_isFitted_25 (lv_at hl 0 rfl) ?_
    refine lv_ineg S.1 S.2.1 dX7_isFitted_27 ?_
    refine lv_goto (tgt := 33) S.1 S.2.1 dX7_isFitted_28 (by decide) ?_
    obtain ⟨ap, hap⟩ : ∃ ap : Int32, ap = if 0 ≤ x18 then x18 else -x18 := ⟨_, rfl⟩
    refine W.eq (g2 := F0 m 33 ls [.int ap]) (by rw [hap, if_neg c22]) ?_
    refine lv_istore (lv' := [(4, .int ap), (0, .ref (xad g 65)), (1, .int t), (2, .int b), (3, .int (nI k))]) S.1 S.2.1 dX7_isFitted_33 hl (by decide) rfl (fun ls hl => ?_)
    refine lv_iload S.1 S.2.1 dX7_isFitted_35 (lv_at hl 0 rfl) ?_
    refine lv_sipush (v := 180) S.1 S.2.1 dX7_isFitted_37 (by decide) ?_
    refine lv_icmp_le (tgt := 52) S.1 S.2.1 dX7_isFitted_40 (by decide) (fun c40 => ?_) (fun c40 => ?_)
    · skip
      have c40 : ¬ 180 < ap := Int32.not_lt.mpr c40
      refine lv_iload S.1 S.2.1 dX7_isFitted_52 (lv_at hl 0 rfl) ?_
      obtain ⟨mn, hmn⟩ : ∃ mn : Int32, mn = if 180 < ap then 360 - ap else ap := ⟨_, rfl⟩
      refine W.eq (g2 := F0 m 54 ls [.int mn]) (by rw [hmn, if_neg c40]) ?_
      have hnr := near7 hr8 (pK_A hv hk hm) (hv.1 k hk).2.2.2.2.2.1 (by rw [← ex18]; exact hap) hmn
      refine lv_aload_n S.1 S.2.1 dX7_isFitted_54 rfl (lv_at hl 1 rfl) ?_
      refine lv_iload_n S.1 S.2.1 dX7_isFitted_55 rfl (lv_at hl 4 rfl) ?_
      refine lv_iconst (v := 5) S.1 S.2.1 dX7_isFitted_56 (by decide) ?_
      refine x_si (va_runV (As := [.int (nI k), .int 5]) (rest := [.int mn]) S (c_X7_of l g E h65 h66 (k := k) (w := 5) (by omega)) (cwV 2 S.2.2.2.2 gX7_isFitted_X7_of rfl rfl rfl (by decide +kernel) ⟨Nat.le_of_ble_eq_true rfl, Nat.le_of_ble_eq_true rfl⟩) (x_preV hK hP h65 (by decide) rfl) rfl rfl hl.1 rfl (lv_room (Nat.le_of_ble_eq_true rfl)) dX7_isFitted_57 ⟨Nat.le_of_ble_eq_true rfl, Nat.le_of_ble_eq_true rfl⟩) (fun r57 hr57 => ?_)
      rw [hN.at0 (k := k) (w := 5) hk (by omega)] at hr57
      subst hr57
      refine lv_icmp_gt (tgt := 67) S.1 S.2.1 dX7_isFitted_60 (by decide) (fun c60 => ?_) (fun c60 => ?_)
      · skip
        refine lv_iconst (v := 0) S.1 S.2.1 dX7_isFitted_67 (by decide) ?_
        exact x_zretR S hr hlocks dX7_isFitted_68 (xb.zero (fun h => absurd c60 (Int32.not_lt.mpr (hnr.mpr (of_decide_eq_true h)))))
      · skip
        refine lv_iconst (v := 1) S.1 S.2.1 dX7_isFitted_63 (by decide) ?_
        refine lv_goto (tgt := 68) S.1 S.2.1 dX7_isFitted_64 (by decide) ?_
        exact x_zretR S hr hlocks dX7_isFitted_68 (xb.one (decide_eq_true (hnr.mp (Int32.not_lt.mp c60))))
    · skip
      have c40 : 180 < ap := Int32.not_le.mp c40
      refine lv_sipush (v := 360) S.1 S.2.1 dX7_isFitted_43 (by decide) ?_
      refine lv_iload S.1 S.2.1 dX7_isFitted_46 (lv_at hl 0 rfl) ?_
      refine lv_isub S.1 S.2.1 dX7_isFitted_48 ?_
      refine lv_goto (tgt := 54) S.1 S.2.1 dX7_isFitted_49 (by decide) ?_
      obtain ⟨mn, hmn⟩ : ∃ mn : Int32, mn = if 180 < ap then 360 - ap else ap := ⟨_, rfl⟩
      refine W.eq (g2 := F0 m 54 ls [.int mn]) (by rw [hmn, if_pos c40]) ?_
      have hnr := near7 hr8 (pK_A hv hk hm) (hv.1 k hk).2.2.2.2.2.1 (by rw [← ex18]; exact hap) hmn
      refine lv_aload_n S.1 S.2.1 dX7_isFitted_54 rfl (lv_at hl 1 rfl) ?_
      refine lv_iload_n S.1 S.2.1 dX7_isFitted_55 rfl (lv_at hl 4 rfl) ?_
      refine lv_iconst (v := 5) S.1 S.2.1 dX7_isFitted_56 (by decide) ?_
      refine x_si (va_runV (As := [.int (nI k), .int 5]) (rest := [.int mn]) S (c_X7_of l g E h65 h66 (k := k) (w := 5) (by omega)) (cwV 2 S.2.2.2.2 gX7_isFitted_X7_of rfl rfl rfl (by decide +kernel) ⟨Nat.le_of_ble_eq_true rfl, Nat.le_of_ble_eq_true rfl⟩) (x_preV hK hP h65 (by decide) rfl) rfl rfl hl.1 rfl (lv_room (Nat.le_of_ble_eq_true rfl)) dX7_isFitted_57 ⟨Nat.le_of_ble_eq_true rfl, Nat.le_of_ble_eq_true rfl⟩) (fun r57 hr57 => ?_)
      rw [hN.at0 (k := k) (w := 5) hk (by omega)] at hr57
      subst hr57
      refine lv_icmp_gt (tgt := 67) S.1 S.2.1 dX7_isFitted_60 (by decide) (fun c60 => ?_) (fun c60 => ?_)
      · skip
        refine lv_iconst (v := 0) S.1 S.2.1 dX7_isFitted_67 (by decide) ?_
        exact x_zretR S hr hlocks dX7_isFitted_68 (xb.zero (fun h => absurd c60 (Int32.not_lt.mpr (hnr.mpr (of_decide_eq_true h)))))
      · skip
        refine lv_iconst (v := 1) S.1 S.2.1 dX7_isFitted_63 (by decide) ?_
        refine lv_goto (tgt := 68) S.1 S.2.1 dX7_isFitted_64 (by decide) ?_
        exact x_zretR S hr hlocks dX7_isFitted_68 (xb.one (decide_eq_true (hnr.mp (Int32.not_lt.mp c60))))
set_option maxHeartbeats 4000000 in
set_option maxRecDepth 100000 in
theorem c_X7_fitted (l : Launch) (g : xG) (E : Nat → va_E) {kp fi hi od bs bb bf ty at9 nu : Int32} (h65 : E 65 = mO g kp fi hi od bs bb bf ty at9 nu) {f : Nat → Int32} (h66 : E 66 = .inl (xI g, 71, .inl f)) {n : Nat} {M : Nat → Nat → Int32} (hN : nH f 0 n M) (hv : vld n M) {t b : Int32} (ht : -179 ≤ t.toInt ∧ t.toInt ≤ 180) (hb : 0 ≤ b.toInt ∧ b.toInt < 360)  : Met l yX7_fitted wsX7_fitted ({ frames := 3, cells := 0, slots := 0, locals := 64 }) (xPc g [.ref (xad g 65), .int t, .int b] E) (vp_Si (fun r => r = nI (mk (pF M t.toInt b.toInt) n))) 0 0 (fun _ => False) := by
  refine x_met (ws' := _) (by decide) rfl (Nat.le_of_ble_eq_true rfl) ?_
  intro pz ez s m below meth cz ls S hr hlocks hP hK hl
  have hl : lv_has ls 5 [(0, .ref (xad g 65)), (1, .int t), (2, .int b)] := hl
  have hin7 : ∀ w ∈ u_ws RX7 TX7 19, w ∈ wsX7_fitted := by decide +kernel
  have fl7 : Cond.fieldLink RX7 7 "DiscArcsModel" "now" "[I" ∈ wsX7_fitted := by decide +kernel
  have hn := hN.1
  have hn0 := hN.n0
  refine lv_iconst (v := 0) S.1 S.2.1 dX7_fitted_0 (by decide) ?_
  refine lv_istore_n (lv' := [(3, .int 0), (0, .ref (xad g 65)), (1, .int t), (2, .int b)]) S.1 S.2.1 dX7_fitted_1 rfl hl (by decide) rfl (fun ls hl => ?_)
  refine lv_iconst (v := 0) S.1 S.2.1 dX7_fitted_2 (by decide) ?_
  refine lv_istore (lv' := [(4, .int 0), (3, .int 0), (0, .ref (xad g 65)), (1, .int t), (2, .int b)]) S.1 S.2.1 dX7_fitted_3 hl (by decide) rfl (fun ls hl => ?_)
  have loop5 : ∀ (d : Nat) (q : Nat), (hq : q ≤ n) → (n - q) < d → ∀ ls : Array Slot, lv_has ls 5 [(4, .int (nI q)), (3, .int (nI (mk (pF M t.toInt b.toInt) q))), (0, .ref (xad g 65)), (1, .int t), (2, .int b)] → W pz l ez ({ frames := 3, cells := 0, slots := 0, locals := 64 }) s m ([.ref (xad g 65), .int t, .int b] : List Value).toArray below meth cz s.heap [] 0 0 (MQ below (vp_Si (fun r => r = nI (mk (pF M t.toInt b.toInt) n))) ([.ref (xad g 65), .int t, .int b] : List Value).toArray s 0 0 (fun _ => False)) (F0 m 5 ls []) := by
    intro d
    induction d with
    | zero => intro q hq hd; exact absurd hd (Nat.not_lt_zero _)
    | succ d ih5 =>
      intro q hq hd ls hl
      refine lv_iload S.1 S.2.1 dX7_fitted_5 (lv_at hl 0 rfl) ?_
      refine lv_aload_n S.1 S.2.1 dX7_fitted_7 rfl (lv_at hl 2 rfl) ?_
      refine x_get S hK hP dX7_fitted_8 h65 (by decide) (RX7, TX7, 19) rfl hin7 0 (by decide) fl7 rfl ?_
      refine lv_bipush (v := 70) S.1 S.2.1 dX7_fitted_11 (by decide) ?_
      refine x_iald S hK hP dX7_fitted_13 h66 (by decide) (j := 70) rfl (by omega) (by decide) ?_
      refine lv_icmp_ge (tgt := 54) S.1 S.2.1 dX7_fitted_14 (by decide) (fun c14 => ?_) (fun c14 => ?_)
      · skip
        refine lv_iload_n S.1 S.2.1 dX7_fitted_54 rfl (lv_at hl 1 rfl) ?_
        exact x_iretR S hr hlocks dX7_fitted_55 (by rw [hn0] at c14; rw [show q = n from Nat.le_antisymm hq ((nI_leI (by omega) (by omega)).mp c14)])
      · skip
        have hqn : q < n := Nat.not_le.mp (fun h => c14 (by rw [hn0]; exact (nI_leI (by omega) (by omega)).mpr h))
        refine lv_iload_n S.1 S.2.1 dX7_fitted_17 rfl (lv_at hl 1 rfl) ?_
        refine lv_aload_n S.1 S.2.1 dX7_fitted_18 rfl (lv_at hl 2 rfl) ?_
        refine lv_iload S.1 S.2.1 dX7_fitted_19 (lv_at hl 0 rfl) ?_
        refine x_si (va_runV (As := [.int (nI q)]) (rest := [.int (nI (mk (pF M t.toInt b.toInt) q))]) S (c_X7_hasAngle l g E h65 h66 hN hv hqn) (cwV 1 S.2.2.2.2 gX7_fitted_X7_hasAngle rfl rfl rfl (by decide +kernel) ⟨Nat.le_of_ble_eq_true rfl, Nat.le_of_ble_eq_true rfl⟩) (x_preV hK hP h65 (by decide) rfl) rfl rfl hl.1 rfl (lv_room (Nat.le_of_ble_eq_true rfl)) dX7_fitted_21 ⟨Nat.le_of_ble_eq_true rfl, Nat.le_of_ble_eq_true rfl⟩) (fun r21 hr21 => ?_)
        refine lv_if_eq (tgt := 45) S.1 S.2.1 dX7_fitted_24 (by decide) (fun c24 => ?_) (fun c24 => ?_)
        · skip
          refine lv_iconst (v := 0) S.1 S.2.1 dX7_fitted_45 (by decide) ?_
          refine lv_ior S.1 S.2.1 dX7_fitted_46 ?_
          refine W.eq (g2 := F0 m 47 ls [.int (nI (mk (pF M t.toInt b.toInt) (q + 1)))]) (by rw [mk_skip0 (P := pF M t.toInt b.toInt) (fun h => hr21.f c24 (pF_t h).1)]) ?_
          refine lv_istore_n (lv' := [(3, .int (nI (mk (pF M t.toInt b.toInt) (q + 1)))), (4, .int (nI q)), (0, .ref (xad g 65)), (1, .int t), (2, .int b)]) S.1 S.2.1 dX7_fitted_47 rfl hl (by decide) rfl (fun ls hl => ?_)
          refine lv_iinc (v := nI (q + 1)) (lv' := [(4, .int (nI (q + 1))), (3, .int (nI (mk (pF M t.toInt b.toInt) (q + 1)))), (0, .ref (xad g 65)), (1, .int t), (2, .int b)]) S.1 S.2.1 dX7_fitted_48 hl (k := 1) rfl (show nI q + Int32.ofInt 1 = _ from nI_1 _) (by decide) rfl (fun ls hl => ?_)
          refine lv_goto (tgt := 5) S.1 S.2.1 dX7_fitted_51 (by decide) ?_
          exact ih5 (q + 1) (by omega) (by omega) ls (lv_sub hl [0, 1, 2, 3, 4] rfl)
        · skip
          refine lv_aload_n S.1 S.2.1 dX7_fitted_27 rfl (lv_at hl 2 rfl) ?_
          refine lv_iload_n S.1 S.2.1 dX7_fitted_28 rfl (lv_at hl 3 rfl) ?_
          refine lv_iload_n S.1 S.2.1 dX7_fitted_29 rfl (lv_at hl 4 rfl) ?_
          refine lv_iload S.1 S.2.1 dX7_fitted_30 (lv_at hl 0 rfl) ?_
          refine x_si (va_runV (As := [.int t, .int b, .int (nI q)]) (rest := [.int (nI (mk (pF M t.toInt b.toInt) q))]) S (c_X7_isFitted l g E h65 h66 hN hv ht hb hqn (hr21.t c24)) (cwV 3 S.2.2.2.2 gX7_fitted_X7_isFitted rfl rfl rfl (by decide +kernel) ⟨Nat.le_of_ble_eq_true rfl, Nat.le_of_ble_eq_true rfl⟩) (x_preV hK hP h65 (by decide) rfl) rfl rfl hl.1 rfl (lv_room (Nat.le_of_ble_eq_true rfl)) dX7_fitted_32 ⟨Nat.le_of_ble_eq_true rfl, Nat.le_of_ble_eq_true rfl⟩) (fun r32 hr32 => ?_)
          refine lv_if_eq (tgt := 45) S.1 S.2.1 dX7_fitted_35 (by decide) (fun c35 => ?_) (fun c35 => ?_)
          · skip
            refine lv_iconst (v := 0) S.1 S.2.1 dX7_fitted_45 (by decide) ?_
            refine lv_ior S.1 S.2.1 dX7_fitted_46 ?_
            refine W.eq (g2 := F0 m 47 ls [.int (nI (mk (pF M t.toInt b.toInt) (q + 1)))]) (by rw [mk_skip0 (P := pF M t.toInt b.toInt) (fun h => hr32.f c35 (pF_t h).2)]) ?_
            refine lv_istore_n (lv' := [(3, .int (nI (mk (pF M t.toInt b.toInt) (q + 1)))), (4, .int (nI q)), (0, .ref (xad g 65)), (1, .int t), (2, .int b)]) S.1 S.2.1 dX7_fitted_47 rfl hl (by decide) rfl (fun ls hl => ?_)
            refine lv_iinc (v := nI (q + 1)) (lv' := [(4, .int (nI (q + 1))), (3, .int (nI (mk (pF M t.toInt b.toInt) (q + 1)))), (0, .ref (xad g 65)), (1, .int t), (2, .int b)]) S.1 S.2.1 dX7_fitted_48 hl (k := 1) rfl (show nI q + Int32.ofInt 1 = _ from nI_1 _) (by decide) rfl (fun ls hl => ?_)
            refine lv_goto (tgt := 5) S.1 S.2.1 dX7_fitted_51 (by decide) ?_
            exact ih5 (q + 1) (by omega) (by omega) ls (lv_sub hl [0, 1, 2, 3, 4] rfl)
          · skip
            refine lv_iconst (v := 1) S.1 S.2.1 dX7_fitted_38 (by decide) ?_
            refine lv_iload S.1 S.2.1 dX7_fitted_39 (lv_at hl 0 rfl) ?_
            refine lv_ishl S.1 S.2.1 dX7_fitted_41 ?_
            refine lv_goto (tgt := 46) S.1 S.2.1 dX7_fitted_42 (by decide) ?_
            refine lv_ior S.1 S.2.1 dX7_fitted_46 ?_
            refine W.eq (g2 := F0 m 47 ls [.int (nI (mk (pF M t.toInt b.toInt) (q + 1)))]) (by rw [mk_step (P := pF M t.toInt b.toInt) (by omega) (pF_of (hr21.t c24) (hr32.t c35))]) ?_
            refine lv_istore_n (lv' := [(3, .int (nI (mk (pF M t.toInt b.toInt) (q + 1)))), (4, .int (nI q)), (0, .ref (xad g 65)), (1, .int t), (2, .int b)]) S.1 S.2.1 dX7_fitted_47 rfl hl (by decide) rfl (fun ls hl => ?_)
            refine lv_iinc (v := nI (q + 1)) (lv' := [(4, .int (nI (q + 1))), (3, .int (nI (mk (pF M t.toInt b.toInt) (q + 1)))), (0, .ref (xad g 65)), (1, .int t), (2, .int b)]) S.1 S.2.1 dX7_fitted_48 hl (k := 1) rfl (show nI q + Int32.ofInt 1 = _ from nI_1 _) (by decide) rfl (fun ls hl => ?_)
            refine lv_goto (tgt := 5) S.1 S.2.1 dX7_fitted_51 (by decide) ?_
            exact ih5 (q + 1) (by omega) (by omega) ls (lv_sub hl [0, 1, 2, 3, 4] rfl)
  exact loop5 _ 0 (Nat.zero_le _) (Nat.lt_succ_self _) ls (lv_sub hl [0, 1, 2, 3, 4] rfl)
/-! THE REFERENCE: the best arc -/
theorem its_eq {M : Nat → Nat → Int32} {P : Nat → Bool} {n i j k : Nat} (hPU : ∀ q, q < n → P q = true → pU M q = true) : mk (fun q => pU M q && hitB M i j k q) n &&& mk P n = mk (fun q => P q && hitB M i j k q) n := by
  apply Nat.eq_of_testBit_eq
  intro q
  rw [Nat.testBit_and, mk_tb, mk_tb, mk_tb]
  by_cases hq : q < n
  · cases hp : P q
    · simp
    · rw [hPU q hq hp]
      simp [hq]
  · simp [hq]
def bsm (M : Nat → Nat → Int32) (P : Nat → Bool) (n c : Nat) (x : Int32) (fa : Nat → Int32) (h : Int32) : Prop := (x = -1 ∧ ∀ r s t, trio P n r s t → c ≤ cod r s t) ∨ ∃ r s t, bestTo M P n c r s t ∧ x = nI (sco M P n r s t) ∧ (fa 0 = nI r ∧ fa 1 = nI s ∧ fa 2 = nI t) ∧ h = nI (mk (fun q => P q && hitB M r s t q) n)
theorem bsm.mono {M : Nat → Nat → Int32} {P : Nat → Bool} {n c c' : Nat} {x h : Int32} {fa : Nat → Int32} (hb : bsm M P n c x fa h) (hc : c ≤ c') (hno : ∀ r s t, trio P n r s t → c ≤ cod r s t → c' ≤ cod r s t) : bsm M P n c' x fa h := by
  rcases hb with ⟨h1, h2⟩ | ⟨r, s, t, h1, h2⟩
  · exact Or.inl ⟨h1, fun r s t ht => hno r s t ht (h2 r s t ht)⟩
  · exact Or.inr ⟨r, s, t, h1.mono hc hno, h2⟩
theorem bsm.take {M : Nat → Nat → Int32} {P : Nat → Bool} {n i j k : Nat} {x h h' : Int32} {fa fa' : Nat → Int32} (hn : n ≤ 10) (hb : bsm M P n (cod i j k) x fa h) (ht : trio P n i j k) (hlt : ¬ nI (sco M P n i j k) ≤ x) (hf : fa' 0 = nI i ∧ fa' 1 = nI j ∧ fa' 2 = nI k) (hh : h' = nI (mk (fun q => P q && hitB M i j k q) n)) : bsm M P n (cod i j (k + 1)) (nI (sco M P n i j k)) fa' h' := by
  have hc : cod i j (k + 1) = cod i j k + 1 := rfl
  rw [hc]
  refine Or.inr ⟨i, j, k, ?_, rfl, hf, hh⟩
  have h8 := cnt_le P n
  have h5 := sco_le M P n i j k
  rcases hb with ⟨h1, h3⟩ | ⟨r, s, t, h1, h3, -⟩
  · refine ⟨ht, Nat.lt_succ_self _, fun r' s' t' ht' hl => ?_, fun r' s' t' ht' hl => ?_⟩
    · have := h3 r' s' t' ht'
      obtain ⟨rfl, rfl, rfl⟩ := cod_inj hn ht' ht (by omega)
      exact Nat.le_refl _
    · have := h3 r' s' t' ht'
      omega
  · have h6 := sco_le M P n r s t
    rw [h3, nI_leI (by omega) (by omega)] at hlt
    refine ⟨ht, Nat.lt_succ_self _, fun r' s' t' ht' hl => ?_, fun r' s' t' ht' hl => ?_⟩
    · by_cases e : cod r' s' t' = cod i j k
      · obtain ⟨rfl, rfl, rfl⟩ := cod_inj hn ht' ht e
        exact Nat.le_refl _
      · have := h1.2.2.1 r' s' t' ht' (by omega)
        omega
    · have := h1.2.2.1 r' s' t' ht' hl
      omega
theorem bsm.keep {M : Nat → Nat → Int32} {P : Nat → Bool} {n i j k : Nat} {x h : Int32} {fa : Nat → Int32} (hn : n ≤ 10) (hb : bsm M P n (cod i j k) x fa h) (ht : trio P n i j k) (hle : nI (sco M P n i j k) ≤ x) : bsm M P n (cod i j (k + 1)) x fa h := by
  have hc : cod i j (k + 1) = cod i j k + 1 := rfl
  rw [hc]
  have h8 := cnt_le P n
  have h5 := sco_le M P n i j k
  rcases hb with ⟨h1, h3⟩ | ⟨r, s, t, h1, h3, h4⟩
  · exfalso
    rw [h1, I_le, nI_Z (by omega), show (-1 : Int32).toInt = -1 by decide] at hle
    omega
  · have h6 := sco_le M P n r s t
    rw [h3, nI_leI (by omega) (by omega)] at hle
    refine Or.inr ⟨r, s, t, ⟨h1.1, by have := h1.2.1; omega, fun r' s' t' ht' hl => ?_, h1.2.2.2⟩, h3, h4⟩
    by_cases e : cod r' s' t' = cod i j k
    · obtain ⟨rfl, rfl, rfl⟩ := cod_inj hn ht' ht e
      omega
    · exact h1.2.2.1 r' s' t' ht' (by omega)
theorem bsm.skip {M : Nat → Nat → Int32} {P : Nat → Bool} {n i j k : Nat} {x h : Int32} {fa : Nat → Int32} (hn : n ≤ 10) (hij : i < j) (hjk : j < k) (hk : k < n) (hb : bsm M P n (cod i j k) x fa h) (ht : ¬ trio P n i j k) : bsm M P n (cod i j (k + 1)) x fa h := by
  refine hb.mono (by unfold cod; omega) (fun r s t h1 h2 => ?_)
  by_cases e : cod r s t = cod i j k
  · exfalso
    obtain ⟨a1, a2, a3, -⟩ := id h1
    have : r = i ∧ s = j ∧ t = k := by unfold cod at e; omega
    obtain ⟨rfl, rfl, rfl⟩ := this
    exact ht h1
  · unfold cod at *
    omega
theorem tb_in {P : Nat → Bool} {n k : Nat} (hn : n ≤ 10) (hk : k < n) : (nI (mk P n) >>> (nI k &&& 31)) &&& 1 = 1 ↔ P k = true := by
  rw [bit_1 (mk_lt10 P hn) (by omega), mk_in hk]
set_option maxHeartbeats 4000000 in
set_option maxRecDepth 100000 in
/-- finds -/
theorem c_X7_finds (l : Launch) (g : xG) (hJ : xJ (xad g)) (E : Nat → va_E) {kp fi hi od bs bb bf ty at9 nu : Int32} (h65 : E 65 = mO g kp fi hi od bs bb bf ty at9 nu) {f : Nat → Int32} (h66 : E 66 = .inl (xI g, 71, .inl f)) {n : Nat} {M : Nat → Nat → Int32} (hN : nH f 0 n M) {P : Nat → Bool} (hPU : ∀ q, q < n → P q = true → pU M q = true) {fa : Nat → Int32} (h69 : E 69 = .inl (xI g, 3, .inl fa))  : Met l yX7_finds wsX7_finds ({ frames := 4, cells := 0, slots := 0, locals := 110 }) (xPc g [.ref (xad g 65), .int (nI (mk P n))] E) (xQi g (fun r E1 => (∀ j, j ≠ 65 → j ≠ 69 → E1 j = E j) ∧ ∃ (h9 : Int32) (fa9 : Nat → Int32), E1 65 = mO g kp fi h9 od bs bb bf ty at9 nu ∧ E1 69 = .inl (xI g, 3, .inl fa9) ∧ ((r = 1 ∧ ∃ i j k, isBest M P n i j k ∧ (fa9 0 = nI i ∧ fa9 1 = nI j ∧ fa9 2 = nI k) ∧ h9 = nI (mk (fun q => P q && hitB M i j k q) n)) ∨ (r = 0 ∧ ∀ i j k, ¬ trio P n i j k)))) 0 0 (xA (xad g)) := by
  refine x_met (ws' := _) (by decide) rfl (Nat.le_of_ble_eq_true rfl) ?_
  intro pz ez s m below meth cz ls S hr hlocks hP hK hl
  have hl : lv_has ls 7 [(0, .ref (xad g 65)), (1, .int (nI (mk P n)))] := hl
  have hS : va_S (xA (xad g)) s.heap s.heap [] := va_S.rf
  have hin7 : ∀ w ∈ u_ws RX7 TX7 19, w ∈ wsX7_finds := by decide +kernel
  have fl7 : Cond.fieldLink RX7 7 "DiscArcsModel" "now" "[I" ∈ wsX7_finds := by decide +kernel
  have fl19 : Cond.fieldLink RX7 19 "DiscArcsModel" "arc" "[I" ∈ wsX7_finds := by decide +kernel
  have fl82 : Cond.fieldLink RX7 82 "DiscArcsModel" "hit" "I" ∈ wsX7_finds := by decide +kernel
  have hn := hN.1
  have hn0 := hN.n0
  have hfr : ∀ j, j ≠ 65 ∧ j ≠ 69 → E j = E j := fun _ _ => rfl
  refine lv_iconst (v := (-1)) S.1 S.2.1 dX7_finds_0 (by decide) ?_
  refine lv_istore_n (lv' := [(2, .int (-1)), (0, .ref (xad g 65)), (1, .int (nI (mk P n)))]) S.1 S.2.1 dX7_finds_1 rfl hl (by decide) rfl (fun ls hl => ?_)
  refine lv_iconst (v := 0) S.1 S.2.1 dX7_finds_2 (by decide) ?_
  refine lv_istore_n (lv' := [(3, .int 0), (2, .int (-1)), (0, .ref (xad g 65)), (1, .int (nI (mk P n)))]) S.1 S.2.1 dX7_finds_3 rfl hl (by decide) rfl (fun ls hl => ?_)
  have loop4 : ∀ (d : Nat) (i : Nat) (x9 : Int32) (f9 : Nat → Int32) (h9 : Int32) (EL : Nat → va_E) (H : Heap) (locs : List Loc), (hile : i ≤ n) → (hb : bsm M P n (cod i 0 0) x9 f9 h9) → (n - i) < d → (h65 : EL 65 = mO g kp fi h9 od bs bb bf ty at9 nu) → (h66 : EL 66 = .inl (xI g, 71, .inl f)) → (h69 : EL 69 = .inl (xI g, 3, .inl f9)) → (hfr : ∀ j, j ≠ 65 ∧ j ≠ 69 → EL j = E j) → xP g EL H → va_S (xA (xad g)) s.heap H locs → ∀ ls : Array Slot, lv_has ls 7 [(3, .int (nI i)), (2, .int x9), (0, .ref (xad g 65)), (1, .int (nI (mk P n)))] → W pz l ez ({ frames := 4, cells := 0, slots := 0, locals := 110 }) s m ([.ref (xad g 65), .int (nI (mk P n))] : List Value).toArray below meth cz H locs 0 0 (MQ below (xQi g (fun r E1 => (∀ j, j ≠ 65 → j ≠ 69 → E1 j = E j) ∧ ∃ (h9 : Int32) (fa9 : Nat → Int32), E1 65 = mO g kp fi h9 od bs bb bf ty at9 nu ∧ E1 69 = .inl (xI g, 3, .inl fa9) ∧ ((r = 1 ∧ ∃ i j k, isBest M P n i j k ∧ (fa9 0 = nI i ∧ fa9 1 = nI j ∧ fa9 2 = nI k) ∧ h9 = nI (mk (fun q => P q && hitB M i j k q) n)) ∨ (r = 0 ∧ ∀ i j k, ¬ trio P n i j k)))) ([.ref (xad g 65), .int (nI (mk P n))] : List Value).toArray s 0 0 (xA (xad g))) (F0 m 4 ls []) := by
    intro d
    induction d with
    | zero => intro i x9 f9 h9 EL H locs hile hb hd; exact absurd hd (Nat.not_lt_zero _)
    | succ d ih4 =>
      intro i x9 f9 h9 EL H locs hile hb hd h65 h66 h69 hfr hP hS ls hl
      refine lv_iload_n S.1 S.2.1 dX7_finds_4 rfl (lv_at hl 0 rfl) ?_
      refine lv_aload_n S.1 S.2.1 dX7_finds_5 rfl (lv_at hl 2 rfl) ?_
      refine x_get S hK hP dX7_finds_6 h65 (by decide) (RX7, TX7, 19) rfl hin7 0 (by decide) fl7 rfl ?_
      refine lv_bipush (v := 70) S.1 S.2.1 dX7_finds_9 (by decide) ?_
      refine x_iald S hK hP dX7_finds_11 h66 (by decide) (j := 70) rfl (by omega) (by decide) ?_
      refine lv_icmp_ge (tgt := 154) S.1 S.2.1 dX7_finds_12 (by decide) (fun c12 => ?_) (fun c12 => ?_)
      · skip
        have hbe : bsm M P n 1000 x9 f9 h9 := hb.mono (by unfold cod; omega) (fun r9 s9 t9 h _ => by obtain ⟨a1, a2, a3, -⟩ := h; rw [hn0] at c12; have := (nI_leI (a := n) (b := i) (by omega) (by omega)).mp c12; unfold cod at *; omega)
        refine lv_iload_n S.1 S.2.1 dX7_finds_154 rfl (lv_at hl 1 rfl) ?_
        refine lv_if_lt (tgt := 162) S.1 S.2.1 dX7_finds_155 (by decide) (fun c155 => ?_) (fun c155 => ?_)
        · skip
          refine lv_iconst (v := 0) S.1 S.2.1 dX7_finds_162 (by decide) ?_
          exact x_zret S hr hlocks hP hS dX7_finds_163 rfl (by rcases hbe with ⟨h1, h2⟩ | ⟨r9, s9, t9, h1, h2, h3, h4⟩; exact ⟨fun j g1 g2 => hfr j ⟨g1, g2⟩, h9, f9, h65, h69, Or.inr ⟨rfl, fun i j k h => Nat.not_le.mpr (cod_lt hn h) (h2 i j k h)⟩⟩; rw [h2] at c155; exact absurd c155 (nI_pos (by have := sco_le M P n r9 s9 t9; have := cnt_le P n; omega)))
        · skip
          refine lv_iconst (v := 1) S.1 S.2.1 dX7_finds_158 (by decide) ?_
          refine lv_goto (tgt := 163) S.1 S.2.1 dX7_finds_159 (by decide) ?_
          exact x_zret S hr hlocks hP hS dX7_finds_163 rfl (by rcases hbe with ⟨h1, h2⟩ | ⟨r9, s9, t9, h1, h2, h3, h4⟩; rw [h1] at c155; exact absurd (by decide) c155; exact ⟨fun j g1 g2 => hfr j ⟨g1, g2⟩, h9, f9, h65, h69, Or.inl ⟨rfl, r9, s9, t9, h1, h3, h4⟩⟩)
      · skip
        have hin : i < n := Nat.not_le.mp (fun h => c12 (by rw [hn0]; exact (nI_leI (by omega) (by omega)).mpr h))
        refine lv_iload_n S.1 S.2.1 dX7_finds_15 rfl (lv_at hl 0 rfl) ?_
        refine lv_iconst (v := 1) S.1 S.2.1 dX7_finds_16 (by decide) ?_
        refine lv_iadd S.1 S.2.1 dX7_finds_17 ?_
        refine W.eq (g2 := F0 m 18 ls [.int (nI (i + 1))]) (by rw [nI_1 i]) ?_
        refine lv_istore (lv' := [(4, .int (nI (i + 1))), (3, .int (nI i)), (2, .int x9), (0, .ref (xad g 65)), (1, .int (nI (mk P n)))]) S.1 S.2.1 dX7_finds_18 hl (by decide) rfl (fun ls hl => ?_)
        have loop20 : ∀ (d : Nat) (j : Nat) (x9 : Int32) (f9 : Nat → Int32) (h9 : Int32) (EL : Nat → va_E) (H : Heap) (locs : List Loc), (hij : i < j) → (hjle : j ≤ n) → (hb : bsm M P n (cod i j 0) x9 f9 h9) → (n - j) < d → (h65 : EL 65 = mO g kp fi h9 od bs bb bf ty at9 nu) → (h66 : EL 66 = .inl (xI g, 71, .inl f)) → (h69 : EL 69 = .inl (xI g, 3, .inl f9)) → (hfr : ∀ j, j ≠ 65 ∧ j ≠ 69 → EL j = E j) → xP g EL H → va_S (xA (xad g)) s.heap H locs → ∀ ls : Array Slot, lv_has ls 7 [(4, .int (nI j)), (3, .int (nI i)), (2, .int x9), (0, .ref (xad g 65)), (1, .int (nI (mk P n)))] → W pz l ez ({ frames := 4, cells := 0, slots := 0, locals := 110 }) s m ([.ref (xad g 65), .int (nI (mk P n))] : List Value).toArray below meth cz H locs 0 0 (MQ below (xQi g (fun r E1 => (∀ j, j ≠ 65 → j ≠ 69 → E1 j = E j) ∧ ∃ (h9 : Int32) (fa9 : Nat → Int32), E1 65 = mO g kp fi h9 od bs bb bf ty at9 nu ∧ E1 69 = .inl (xI g, 3, .inl fa9) ∧ ((r = 1 ∧ ∃ i j k, isBest M P n i j k ∧ (fa9 0 = nI i ∧ fa9 1 = nI j ∧ fa9 2 = nI k) ∧ h9 = nI (mk (fun q => P q && hitB M i j k q) n)) ∨ (r = 0 ∧ ∀ i j k, ¬ trio P n i j k)))) ([.ref (xad g 65), .int (nI (mk P n))] : List Value).toArray s 0 0 (xA (xad g))) (F0 m 20 ls []) := by
          intro d
          induction d with
          | zero => intro j x9 f9 h9 EL H locs hij hjle hb hd; exact absurd hd (Nat.not_lt_zero _)
          | succ d ih20 =>
            intro j x9 f9 h9 EL H locs hij hjle hb hd h65 h66 h69 hfr hP hS ls hl
            refine lv_iload S.1 S.2.1 dX7_finds_20 (lv_at hl 0 rfl) ?_
            refine lv_aload_n S.1 S.2.1 dX7_finds_22 rfl (lv_at hl 3 rfl) ?_
            refine x_get S hK hP dX7_finds_23 h65 (by decide) (RX7, TX7, 19) rfl hin7 0 (by decide) fl7 rfl ?_
            refine lv_bipush (v := 70) S.1 S.2.1 dX7_finds_26 (by decide) ?_
            refine x_iald S hK hP dX7_finds_28 h66 (by decide) (j := 70) rfl (by omega) (by decide) ?_
            refine lv_icmp_ge (tgt := 148) S.1 S.2.1 dX7_finds_29 (by decide) (fun c29 => ?_) (fun c29 => ?_)
            · skip
              refine lv_iinc (v := nI (i + 1)) (lv' := [(3, .int (nI (i + 1))), (4, .int (nI j)), (2, .int x9), (0, .ref (xad g 65)), (1, .int (nI (mk P n)))]) S.1 S.2.1 dX7_finds_148 hl (k := 1) rfl (show nI i + Int32.ofInt 1 = _ from nI_1 _) (by decide) rfl (fun ls hl => ?_)
              refine lv_goto (tgt := 4) S.1 S.2.1 dX7_finds_151 (by decide) ?_
              exact ih4 (i + 1) x9 f9 h9 _ _ _ (by omega) (hb.mono (by unfold cod; omega) (fun r9 s9 t9 h h8 => by rw [hn0] at c29; have hjn := (nI_leI (a := n) (b := j) (by omega) (by omega)).mp c29; obtain ⟨a1, a2, a3, -⟩ := h; unfold cod at *; rcases Nat.lt_trichotomy r9 i with z | z | z <;> omega)) (by omega) h65 h66 h69 hfr hP hS ls (lv_sub hl [0, 2, 3, 4] rfl)
            · skip
              have hjn : j < n := Nat.not_le.mp (fun h => c29 (by rw [hn0]; exact (nI_leI (by omega) (by omega)).mpr h))
              refine lv_iload S.1 S.2.1 dX7_finds_32 (lv_at hl 0 rfl) ?_
              refine lv_iconst (v := 1) S.1 S.2.1 dX7_finds_34 (by decide) ?_
              refine lv_iadd S.1 S.2.1 dX7_finds_35 ?_
              refine W.eq (g2 := F0 m 36 ls [.int (nI (j + 1))]) (by rw [nI_1 j]) ?_
              refine lv_istore (lv' := [(5, .int (nI (j + 1))), (4, .int (nI j)), (3, .int (nI i)), (2, .int x9), (0, .ref (xad g 65)), (1, .int (nI (mk P n)))]) S.1 S.2.1 dX7_finds_36 hl (by decide) rfl (fun ls hl => ?_)
              have loop38 : ∀ (d : Nat) (k : Nat) (x9 : Int32) (f9 : Nat → Int32) (h9 : Int32) (EL : Nat → va_E) (H : Heap) (locs : List Loc), (hjk : j < k) → (hkle : k ≤ n) → (hb : bsm M P n (cod i j k) x9 f9 h9) → (n - k) < d → (h65 : EL 65 = mO g kp fi h9 od bs bb bf ty at9 nu) → (h66 : EL 66 = .inl (xI g, 71, .inl f)) → (h69 : EL 69 = .inl (xI g, 3, .inl f9)) → (hfr : ∀ j, j ≠ 65 ∧ j ≠ 69 → EL j = E j) → xP g EL H → va_S (xA (xad g)) s.heap H locs → ∀ ls : Array Slot, lv_has ls 7 [(5, .int (nI k)), (4, .int (nI j)), (3, .int (nI i)), (2, .int x9), (0, .ref (xad g 65)), (1, .int (nI (mk P n)))] → W pz l ez ({ frames := 4, cells := 0, slots := 0, locals := 110 }) s m ([.ref (xad g 65), .int (nI (mk P n))] : List Value).toArray below meth cz H locs 0 0 (MQ below (xQi g (fun r E1 => (∀ j, j ≠ 65 → j ≠ 69 → E1 j = E j) ∧ ∃ (h9 : Int32) (fa9 : Nat → Int32), E1 65 = mO g kp fi h9 od bs bb bf ty at9 nu ∧ E1 69 = .inl (xI g, 3, .inl fa9) ∧ ((r = 1 ∧ ∃ i j k, isBest M P n i j k ∧ (fa9 0 = nI i ∧ fa9 1 = nI j ∧ fa9 2 = nI k) ∧ h9 = nI (mk (fun q => P q && hitB M i j k q) n)) ∨ (r = 0 ∧ ∀ i j k, ¬ trio P n i j k)))) ([.ref (xad g 65), .int (nI (mk P n))] : List Value).toArray s 0 0 (xA (xad g))) (F0 m 38 ls []) := by
                intro d
                induction d with
                | zero => intro k x9 f9 h9 EL H locs hjk hkle hb hd; exact absurd hd (Nat.not_lt_zero _)
                | succ d ih38 =>
                  intro k x9 f9 h9 EL H locs hjk hkle hb hd h65 h66 h69 hfr hP hS ls hl
                  refine lv_iload S.1 S.2.1 dX7_finds_38 (lv_at hl 0 rfl) ?_
                  refine lv_aload_n S.1 S.2.1 dX7_finds_40 rfl (lv_at hl 4 rfl) ?_
                  refine x_get S hK hP dX7_finds_41 h65 (by decide) (RX7, TX7, 19) rfl hin7 0 (by decide) fl7 rfl ?_
                  refine lv_bipush (v := 70) S.1 S.2.1 dX7_finds_44 (by decide) ?_
                  refine x_iald S hK hP dX7_finds_46 h66 (by decide) (j := 70) rfl (by omega) (by decide) ?_
                  refine lv_icmp_ge (tgt := 142) S.1 S.2.1 dX7_finds_47 (by decide) (fun c47 => ?_) (fun c47 => ?_)
                  · skip
                    refine lv_iinc (v := nI (j + 1)) (lv' := [(4, .int (nI (j + 1))), (5, .int (nI k)), (3, .int (nI i)), (2, .int x9), (0, .ref (xad g 65)), (1, .int (nI (mk P n)))]) S.1 S.2.1 dX7_finds_142 hl (k := 1) rfl (show nI j + Int32.ofInt 1 = _ from nI_1 _) (by decide) rfl (fun ls hl => ?_)
                    refine lv_goto (tgt := 20) S.1 S.2.1 dX7_finds_145 (by decide) ?_
                    exact ih20 (j + 1) x9 f9 h9 _ _ _ (by omega) (by omega) (hb.mono (by unfold cod; omega) (fun r9 s9 t9 h h8 => by rw [hn0] at c47; have hkn := (nI_leI (a := n) (b := k) (by omega) (by omega)).mp c47; obtain ⟨a1, a2, a3, -⟩ := h; unfold cod at *; omega)) (by omega) h65 h66 h69 hfr hP hS ls (lv_sub hl [0, 2, 3, 4, 5] rfl)
                  · skip
                    have hkn : k < n := Nat.not_le.mp (fun h => c47 (by rw [hn0]; exact (nI_leI (by omega) (by omega)).mpr h))
                    refine lv_iload_n S.1 S.2.1 dX7_finds_50 rfl (lv_at hl 5 rfl) ?_
                    refine lv_iload_n S.1 S.2.1 dX7_finds_51 rfl (lv_at hl 2 rfl) ?_
                    refine lv_ishr S.1 S.2.1 dX7_finds_52 ?_
                    refine lv_iconst (v := 1) S.1 S.2.1 dX7_finds_53 (by decide) ?_
                    refine lv_iand S.1 S.2.1 dX7_finds_54 ?_
                    refine lv_iconst (v := 1) S.1 S.2.1 dX7_finds_55 (by decide) ?_
                    refine lv_icmp_ne (tgt := 136) S.1 S.2.1 dX7_finds_56 (by decide) (fun c56 => ?_) (fun c56 => ?_)
                    · skip
                      refine lv_iinc (v := nI (k + 1)) (lv' := [(5, .int (nI (k + 1))), (4, .int (nI j)), (3, .int (nI i)), (2, .int x9), (0, .ref (xad g 65)), (1, .int (nI (mk P n)))]) S.1 S.2.1 dX7_finds_136 hl (k := 0) rfl (show nI k + Int32.ofInt 1 = _ from nI_1 _) (by decide) rfl (fun ls hl => ?_)
                      refine lv_goto (tgt := 38) S.1 S.2.1 dX7_finds_139 (by decide) ?_
                      exact ih38 (k + 1) x9 f9 h9 _ _ _ (by omega) (by omega) (hb.skip hn hij hjk hkn (fun h => by first | exact c76 ((tb_in hn hkn).mpr h.2.2.2.2.2) | exact c66 ((tb_in hn hjn).mpr h.2.2.2.2.1) | exact c56 ((tb_in hn hin).mpr h.2.2.2.1))) (by omega) h65 h66 h69 hfr hP hS ls (lv_sub hl [0, 1, 2, 3, 4, 5] rfl)
                    · skip
                      refine lv_iload_n S.1 S.2.1 dX7_finds_59 rfl (lv_at hl 5 rfl) ?_
                      refine lv_iload S.1 S.2.1 dX7_finds_60 (lv_at hl 1 rfl) ?_
                      refine lv_ishr S.1 S.2.1 dX7_finds_62 ?_
                      refine lv_iconst (v := 1) S.1 S.2.1 dX7_finds_63 (by decide) ?_
                      refine lv_iand S.1 S.2.1 dX7_finds_64 ?_
                      refine lv_iconst (v := 1) S.1 S.2.1 dX7_finds_65 (by decide) ?_
                      refine lv_icmp_ne (tgt := 136) S.1 S.2.1 dX7_finds_66 (by decide) (fun c66 => ?_) (fun c66 => ?_)
                      · skip
                        refine lv_iinc (v := nI (k + 1)) (lv' := [(5, .int (nI (k + 1))), (4, .int (nI j)), (3, .int (nI i)), (2, .int x9), (0, .ref (xad g 65)), (1, .int (nI (mk P n)))]) S.1 S.2.1 dX7_finds_136 hl (k := 0) rfl (show nI k + Int32.ofInt 1 = _ from nI_1 _) (by decide) rfl (fun ls hl => ?_)
                        refine lv_goto (tgt := 38) S.1 S.2.1 dX7_finds_139 (by decide) ?_
                        exact ih38 (k + 1) x9 f9 h9 _ _ _ (by omega) (by omega) (hb.skip hn hij hjk hkn (fun h => by first | exact c76 ((tb_in hn hkn).mpr h.2.2.2.2.2) | exact c66 ((tb_in hn hjn).mpr h.2.2.2.2.1) | exact c56 ((tb_in hn hin).mpr h.2.2.2.1))) (by omega) h65 h66 h69 hfr hP hS ls (lv_sub hl [0, 1, 2, 3, 4, 5] rfl)
                      · skip
                        refine lv_iload_n S.1 S.2.1 dX7_finds_69 rfl (lv_at hl 5 rfl) ?_
                        refine lv_iload S.1 S.2.1 dX7_finds_70 (lv_at hl 0 rfl) ?_
                        refine lv_ishr S.1 S.2.1 dX7_finds_72 ?_
                        refine lv_iconst (v := 1) S.1 S.2.1 dX7_finds_73 (by decide) ?_
                        refine lv_iand S.1 S.2.1 dX7_finds_74 ?_
                        refine lv_iconst (v := 1) S.1 S.2.1 dX7_finds_75 (by decide) ?_
                        refine lv_icmp_ne (tgt := 136) S.1 S.2.1 dX7_finds_76 (by decide) (fun c76 => ?_) (fun c76 => ?_)
                        · skip
                          refine lv_iinc (v := nI (k + 1)) (lv' := [(5, .int (nI (k + 1))), (4, .int (nI j)), (3, .int (nI i)), (2, .int x9), (0, .ref (xad g 65)), (1, .int (nI (mk P n)))]) S.1 S.2.1 dX7_finds_136 hl (k := 0) rfl (show nI k + Int32.ofInt 1 = _ from nI_1 _) (by decide) rfl (fun ls hl => ?_)
                          refine lv_goto (tgt := 38) S.1 S.2.1 dX7_finds_139 (by decide) ?_
                          exact ih38 (k + 1) x9 f9 h9 _ _ _ (by omega) (by omega) (hb.skip hn hij hjk hkn (fun h => by first | exact c76 ((tb_in hn hkn).mpr h.2.2.2.2.2) | exact c66 ((tb_in hn hjn).mpr h.2.2.2.2.1) | exact c56 ((tb_in hn hin).mpr h.2.2.2.1))) (by omega) h65 h66 h69 hfr hP hS ls (lv_sub hl [0, 1, 2, 3, 4, 5] rfl)
                        · skip
                          have htr : trio P n i j k := ⟨hij, hjk, hkn, (tb_in hn hin).mp c56, (tb_in hn hjn).mp c66, (tb_in hn hkn).mp c76⟩
                          refine lv_aload_n S.1 S.2.1 dX7_finds_79 rfl (lv_at hl 4 rfl) ?_
                          refine lv_iload_n S.1 S.2.1 dX7_finds_80 rfl (lv_at hl 2 rfl) ?_
                          refine lv_iload S.1 S.2.1 dX7_finds_81 (lv_at hl 1 rfl) ?_
                          refine lv_iload S.1 S.2.1 dX7_finds_83 (lv_at hl 0 rfl) ?_
                          refine x_si (va_runV (As := [.int (nI i), .int (nI j), .int (nI k)]) (rest := []) S (c_X7_hitBy l g EL h65 h66 hN (i := i) (j := j) (k := k) hin hjn hkn) (cwV 3 S.2.2.2.2 gX7_finds_X7_hitBy rfl rfl rfl (by decide +kernel) ⟨Nat.le_of_ble_eq_true rfl, Nat.le_of_ble_eq_true rfl⟩) (x_preV hK hP h65 (by decide) rfl) rfl rfl hl.1 rfl (lv_room (Nat.le_of_ble_eq_true rfl)) dX7_finds_85 ⟨Nat.le_of_ble_eq_true rfl, Nat.le_of_ble_eq_true rfl⟩) (fun r85 hr85 => ?_)
                          refine lv_iload_n S.1 S.2.1 dX7_finds_88 rfl (lv_at hl 5 rfl) ?_
                          refine lv_iand S.1 S.2.1 dX7_finds_89 ?_
                          refine W.eq (g2 := F0 m 90 ls [.int (nI (mk (fun q => P q && hitB M i j k q) n))]) (by rw [hr85, nI_and, its_eq hPU]) ?_
                          refine lv_istore (lv' := [(6, .int (nI (mk (fun q => P q && hitB M i j k q) n))), (5, .int (nI k)), (4, .int (nI j)), (3, .int (nI i)), (2, .int x9), (0, .ref (xad g 65)), (1, .int (nI (mk P n)))]) S.1 S.2.1 dX7_finds_90 hl (by decide) rfl (fun ls hl => ?_)
                          refine lv_iload S.1 S.2.1 dX7_finds_92 (lv_at hl 0 rfl) ?_
                          refine x_si (va_runS (As := [.int (nI (mk (fun q => P q && hitB M i j k q) n))]) (rest := []) S (c_X7_bits l g EL (mk_lt10 (fun q => P q && hitB M i j k q) hn)) (va_cwS 1 S.2.2.2.2 gX7_finds_X7_bits rfl rfl rfl (by decide +kernel) ⟨Nat.le_of_ble_eq_true rfl, Nat.le_of_ble_eq_true rfl⟩) (x_preS hK hP) rfl rfl hl.1 rfl (lv_room (Nat.le_of_ble_eq_true rfl)) dX7_finds_94 ⟨Nat.le_of_ble_eq_true rfl, Nat.le_of_ble_eq_true rfl⟩) (fun r94 hr94 => ?_)
                          rw [pop_mk hn] at hr94
                          subst hr94
                          refine lv_iload_n S.1 S.2.1 dX7_finds_97 rfl (lv_at hl 4 rfl) ?_
                          refine lv_icmp_le (tgt := 136) S.1 S.2.1 dX7_finds_98 (by decide) (fun c98 => ?_) (fun c98 => ?_)
                          · skip
                            refine lv_iinc (v := nI (k + 1)) (lv' := [(5, .int (nI (k + 1))), (6, .int (nI (mk (fun q => P q && hitB M i j k q) n))), (4, .int (nI j)), (3, .int (nI i)), (2, .int x9), (0, .ref (xad g 65)), (1, .int (nI (mk P n)))]) S.1 S.2.1 dX7_finds_136 hl (k := 1) rfl (show nI k + Int32.ofInt 1 = _ from nI_1 _) (by decide) rfl (fun ls hl => ?_)
                            refine lv_goto (tgt := 38) S.1 S.2.1 dX7_finds_139 (by decide) ?_
                            exact ih38 (k + 1) x9 f9 h9 _ _ _ (by omega) (by omega) (hb.keep hn htr c98) (by omega) h65 h66 h69 hfr hP hS ls (lv_sub hl [0, 2, 3, 4, 5, 6] rfl)
                          · skip
                            refine lv_iload S.1 S.2.1 dX7_finds_101 (lv_at hl 0 rfl) ?_
                            refine x_si (va_runS (As := [.int (nI (mk (fun q => P q && hitB M i j k q) n))]) (rest := []) S (c_X7_bits l g EL (mk_lt10 (fun q => P q && hitB M i j k q) hn)) (va_cwS 1 S.2.2.2.2 gX7_finds_X7_bits rfl rfl rfl (by decide +kernel) ⟨Nat.le_of_ble_eq_true rfl, Nat.le_of_ble_eq_true rfl⟩) (x_preS hK hP) rfl rfl hl.1 rfl (lv_room (Nat.le_of_ble_eq_true rfl)) dX7_finds_103 ⟨Nat.le_of_ble_eq_true rfl, Nat.le_of_ble_eq_true rfl⟩) (fun r103 hr103 => ?_)
                            rw [pop_mk hn] at hr103
                            subst hr103
                            refine lv_istore_n (lv' := [(2, .int (nI (sco M P n i j k))), (6, .int (nI (mk (fun q => P q && hitB M i j k q) n))), (5, .int (nI k)), (4, .int (nI j)), (3, .int (nI i)), (0, .ref (xad g 65)), (1, .int (nI (mk P n)))]) S.1 S.2.1 dX7_finds_106 rfl hl (by decide) rfl (fun ls hl => ?_)
                            refine lv_aload_n S.1 S.2.1 dX7_finds_107 rfl (lv_at hl 5 rfl) ?_
                            refine x_get S hK hP dX7_finds_108 h65 (by decide) (RX7, TX7, 19) rfl hin7 5 (by decide) fl19 rfl ?_
                            refine lv_iconst (v := 0) S.1 S.2.1 dX7_finds_111 (by decide) ?_
                            refine lv_iload_n S.1 S.2.1 dX7_finds_112 rfl (lv_at hl 4 rfl) ?_
                            refine x_iast S hK hJ hP hS dX7_finds_113 h69 (by decide) (j := 0) rfl (by omega) (by decide) (fun H locs E1 hu hP hS => ?_)
                            have h65 : E1 65 = mO g kp fi h9 od bs bb bf ty at9 nu := (hu.2 _ (by omega)).trans h65
                            have h66 : E1 66 = .inl (xI g, 71, .inl f) := (hu.2 _ (by omega)).trans h66
                            have h69 : E1 69 = .inl (xI g, 3, .inl (upd f9 0 (nI i))) := hu.1
                            have hfr : ∀ j, j ≠ 65 ∧ j ≠ 69 → E1 j = E j := fun j hj => (hu.2 j (by omega)).trans (hfr j hj)
                            refine lv_aload_n S.1 S.2.1 dX7_finds_114 rfl (lv_at hl 5 rfl) ?_
                            refine x_get S hK hP dX7_finds_115 h65 (by decide) (RX7, TX7, 19) rfl hin7 5 (by decide) fl19 rfl ?_
                            refine lv_iconst (v := 1) S.1 S.2.1 dX7_finds_118 (by decide) ?_
                            refine lv_iload S.1 S.2.1 dX7_finds_119 (lv_at hl 3 rfl) ?_
                            refine x_iast S hK hJ hP hS dX7_finds_121 h69 (by decide) (j := 1) rfl (by omega) (by decide) (fun H locs E1_1 hu hP hS => ?_)
                            have h65 : E1_1 65 = mO g kp fi h9 od bs bb bf ty at9 nu := (hu.2 _ (by omega)).trans h65
                            have h66 : E1_1 66 = .inl (xI g, 71, .inl f) := (hu.2 _ (by omega)).trans h66
                            have h69 : E1_1 69 = .inl (xI g, 3, .inl (upd (upd f9 0 (nI i)) 1 (nI j))) := hu.1
                            have hfr : ∀ j, j ≠ 65 ∧ j ≠ 69 → E1_1 j = E j := fun j hj => (hu.2 j (by omega)).trans (hfr j hj)
                            refine lv_aload_n S.1 S.2.1 dX7_finds_122 rfl (lv_at hl 5 rfl) ?_
                            refine x_get S hK hP dX7_finds_123 h65 (by decide) (RX7, TX7, 19) rfl hin7 5 (by decide) fl19 rfl ?_
                            refine lv_iconst (v := 2) S.1 S.2.1 dX7_finds_126 (by decide) ?_
                            refine lv_iload S.1 S.2.1 dX7_finds_127 (lv_at hl 2 rfl) ?_
                            refine x_iast S hK hJ hP hS dX7_finds_129 h69 (by decide) (j := 2) rfl (by omega) (by decide) (fun H locs E1_2 hu hP hS => ?_)
                            have h65 : E1_2 65 = mO g kp fi h9 od bs bb bf ty at9 nu := (hu.2 _ (by omega)).trans h65
                            have h66 : E1_2 66 = .inl (xI g, 71, .inl f) := (hu.2 _ (by omega)).trans h66
                            have h69 : E1_2 69 = .inl (xI g, 3, .inl (upd (upd (upd f9 0 (nI i)) 1 (nI j)) 2 (nI k))) := hu.1
                            have hfr : ∀ j, j ≠ 65 ∧ j ≠ 69 → E1_2 j = E j := fun j hj => (hu.2 j (by omega)).trans (hfr j hj)
                            refine lv_aload_n S.1 S.2.1 dX7_finds_130 rfl (lv_at hl 5 rfl) ?_
                            refine lv_iload S.1 S.2.1 dX7_finds_131 (lv_at hl 1 rfl) ?_
                            refine x_put S hK hJ hP hS dX7_finds_133 h65 (by decide) (RX7, TX7, 19) rfl hin7 tyX7 tyX7_ok nmX7 6 (by decide) fl82 rfl rfl rfl (Nat.le_of_ble_eq_true rfl) (fun H locs E1_3 hu hP hS => ?_)
                            have h65 : E1_3 65 = mO g kp fi (nI (mk (fun q => P q && hitB M i j k q) n)) od bs bb bf ty at9 nu := hu.1
                            have h66 : E1_3 66 = .inl (xI g, 71, .inl f) := (hu.2 _ (by omega)).trans h66
                            have h69 : E1_3 69 = .inl (xI g, 3, .inl (upd (upd (upd f9 0 (nI i)) 1 (nI j)) 2 (nI k))) := (hu.2 _ (by omega)).trans h69
                            have hfr : ∀ j, j ≠ 65 ∧ j ≠ 69 → E1_3 j = E j := fun j hj => (hu.2 j (by omega)).trans (hfr j hj)
                            refine lv_iinc (v := nI (k + 1)) (lv' := [(5, .int (nI (k + 1))), (2, .int (nI (sco M P n i j k))), (6, .int (nI (mk (fun q => P q && hitB M i j k q) n))), (4, .int (nI j)), (3, .int (nI i)), (0, .ref (xad g 65)), (1, .int (nI (mk P n)))]) S.1 S.2.1 dX7_finds_136 hl (k := 2) rfl (show nI k + Int32.ofInt 1 = _ from nI_1 _) (by decide) rfl (fun ls hl => ?_)
                            refine lv_goto (tgt := 38) S.1 S.2.1 dX7_finds_139 (by decide) ?_
                            exact ih38 (k + 1) (nI (sco M P n i j k)) (upd (upd (upd f9 0 (nI i)) 1 (nI j)) 2 (nI k)) (nI (mk (fun q => P q && hitB M i j k q) n)) _ _ _ (by omega) (by omega) (hb.take hn htr c98 ⟨rfl, rfl, rfl⟩ rfl) (by omega) h65 h66 h69 hfr hP hS ls (lv_sub hl [0, 3, 4, 1, 5, 6] rfl)
              exact loop38 _ (j + 1) x9 f9 h9 _ _ _ (Nat.lt_succ_self _) (by omega) (hb.mono (by unfold cod; omega) (fun r9 s9 t9 h h8 => by obtain ⟨a1, a2, a3, -⟩ := h; unfold cod at *; omega)) (Nat.lt_succ_self _) h65 h66 h69 hfr hP hS ls (lv_sub hl [0, 1, 2, 3, 4, 5] rfl)
        exact loop20 _ (i + 1) x9 f9 h9 _ _ _ (Nat.lt_succ_self _) (by omega) (hb.mono (by unfold cod; omega) (fun r9 s9 t9 h h8 => by obtain ⟨a1, a2, a3, -⟩ := h; unfold cod at *; omega)) (Nat.lt_succ_self _) h65 h66 h69 hfr hP hS ls (lv_sub hl [0, 1, 2, 3, 4] rfl)
  exact loop4 _ 0 (-1) fa hi _ _ _ (Nat.zero_le _) (Or.inl ⟨rfl, fun r9 s9 t9 h => Nat.zero_le _⟩) (Nat.lt_succ_self _) h65 h66 h69 hfr hP hS ls (lv_sub hl [0, 1, 2, 3] rfl)
set_option maxHeartbeats 4000000 in
set_option maxRecDepth 100000 in
theorem c_X7_hasBest (l : Launch) (g : xG) (hJ : xJ (xad g)) (E : Nat → va_E) {kp fi hi od bs bb bf ty at9 nu : Int32} (h65 : E 65 = mO g kp fi hi od bs bb bf ty at9 nu) {f : Nat → Int32} (h66 : E 66 = .inl (xI g, 71, .inl f)) {n : Nat} {M : Nat → Nat → Int32} (hN : nH f 0 n M) {fa : Nat → Int32} (h69 : E 69 = .inl (xI g, 3, .inl fa))  : Met l yX7_hasBest wsX7_hasBest ({ frames := 5, cells := 0, slots := 0, locals := 136 }) (xPc g [.ref (xad g 65)] E) (xQi g (fun r E1 => (∀ j, j ≠ 65 → j ≠ 69 → E1 j = E j) ∧ ∃ (h9 : Int32) (fa9 : Nat → Int32), E1 65 = mO g kp fi h9 od bs bb bf ty at9 nu ∧ E1 69 = .inl (xI g, 3, .inl fa9) ∧ ((r = 1 ∧ ∃ i j k, isBest M (pU M) n i j k ∧ (fa9 0 = nI i ∧ fa9 1 = nI j ∧ fa9 2 = nI k) ∧ h9 = nI (mk (fun q => (pU M) q && hitB M i j k q) n)) ∨ (r = 0 ∧ ∀ i j k, ¬ trio (pU M) n i j k)))) 0 0 (xA (xad g)) := by
  refine x_met (ws' := _) (by decide) rfl (Nat.le_of_ble_eq_true rfl) ?_
  intro pz ez s m below meth cz ls S hr hlocks hP hK hl
  have hl : lv_has ls 1 [(0, .ref (xad g 65))] := hl
  have hS : va_S (xA (xad g)) s.heap s.heap [] := va_S.rf
  have hn := hN.1
  have hn0 := hN.n0
  refine lv_aload_n S.1 S.2.1 dX7_hasBest_0 rfl (lv_at hl 0 rfl) ?_
  refine lv_aload_n S.1 S.2.1 dX7_hasBest_1 rfl (lv_at hl 0 rfl) ?_
  refine x_si (va_runV (As := []) (rest := [.ref (xad g 65)]) S (c_X7_usable l g E h65 h66 hN) (cwV 0 S.2.2.2.2 gX7_hasBest_X7_usable rfl rfl rfl (by decide +kernel) ⟨Nat.le_of_ble_eq_true rfl, Nat.le_of_ble_eq_true rfl⟩) (x_preV hK hP h65 (by decide) rfl) rfl rfl hl.1 rfl (lv_room (Nat.le_of_ble_eq_true rfl)) dX7_hasBest_2 ⟨Nat.le_of_ble_eq_true rfl, Nat.le_of_ble_eq_true rfl⟩) (fun r2 hr2 => ?_)
  subst hr2
  refine x_qi (va_runV (As := [.int (nI (mk (pU M) n))]) (rest := []) S (c_X7_finds l g hJ E h65 h66 hN (P := pU M) (fun _ _ h => h) h69) (cwV 1 S.2.2.2.2 gX7_hasBest_X7_finds rfl rfl rfl (by decide +kernel) ⟨Nat.le_of_ble_eq_true rfl, Nat.le_of_ble_eq_true rfl⟩) (x_preV hK hP h65 (by decide) rfl) rfl rfl hl.1 rfl (lv_room (Nat.le_of_ble_eq_true rfl)) dX7_hasBest_5 ⟨Nat.le_of_ble_eq_true rfl, Nat.le_of_ble_eq_true rfl⟩) hS (fun r5 E1 H locs hq5 hP hS => ?_)
  exact x_zret S hr hlocks hP hS dX7_hasBest_8 (by obtain ⟨-, h9, fa9, -, -, h⟩ := hq5; rcases h with ⟨h, -⟩ | ⟨h, -⟩ <;> rw [h] <;> rfl) hq5
theorem ms_eq {M : Nat → Nat → Int32} {n i j k : Nat} : nI (mk (pU M) n) &&& (nI (mk (fun q => pU M q && hitB M i j k q) n) ^^^ -1) = nI (mk (pM M (pU M) i j k) n) := by
  rw [and_not_mk]
  congr 1
  refine mk_congr fun q _ => ?_
  unfold pM
  cases pU M q <;> cases hitB M i j k q <;> rfl
set_option maxHeartbeats 4000000 in
set_option maxRecDepth 100000 in
theorem c_X7_missed (l : Launch) (g : xG) (hJ : xJ (xad g)) (E : Nat → va_E) {kp fi hi od bs bb bf ty at9 nu : Int32} (h65 : E 65 = mO g kp fi hi od bs bb bf ty at9 nu) {f : Nat → Int32} (h66 : E 66 = .inl (xI g, 71, .inl f)) {n : Nat} {M : Nat → Nat → Int32} (hN : nH f 0 n M) {fa : Nat → Int32} (h69 : E 69 = .inl (xI g, 3, .inl fa))  : Met l yX7_missed wsX7_missed ({ frames := 6, cells := 0, slots := 0, locals := 156 }) (xPc g [.ref (xad g 65)] E) (xQi g (fun r E1 => (∀ j, j ≠ 65 → j ≠ 69 → E1 j = E j) ∧ (∃ (h9 : Int32) (fa9 : Nat → Int32), E1 65 = mO g kp fi h9 od bs bb bf ty at9 nu ∧ E1 69 = .inl (xI g, 3, .inl fa9)) ∧ ∃ v, msk n M v ∧ r = nI v)) 0 0 (xA (xad g)) := by
  refine x_met (ws' := _) (by decide) rfl (Nat.le_of_ble_eq_true rfl) ?_
  intro pz ez s m below meth cz ls S hr hlocks hP hK hl
  have hl : lv_has ls 1 [(0, .ref (xad g 65))] := hl
  have hS : va_S (xA (xad g)) s.heap s.heap [] := va_S.rf
  have hin7 : ∀ w ∈ u_ws RX7 TX7 19, w ∈ wsX7_missed := by decide +kernel
  have fl82 : Cond.fieldLink RX7 82 "DiscArcsModel" "hit" "I" ∈ wsX7_missed := by decide +kernel
  have hn := hN.1
  have hn0 := hN.n0
  refine lv_aload_n S.1 S.2.1 dX7_missed_0 rfl (lv_at hl 0 rfl) ?_
  refine x_qi (va_runV (As := []) (rest := []) S (c_X7_hasBest l g hJ E h65 h66 hN h69) (cwV 0 S.2.2.2.2 gX7_missed_X7_hasBest rfl rfl rfl (by decide +kernel) ⟨Nat.le_of_ble_eq_true rfl, Nat.le_of_ble_eq_true rfl⟩) (x_preV hK hP h65 (by decide) rfl) rfl rfl hl.1 rfl (lv_room (Nat.le_of_ble_eq_true rfl)) dX7_missed_1 ⟨Nat.le_of_ble_eq_true rfl, Nat.le_of_ble_eq_true rfl⟩) hS (fun r1 E1 H locs hq1 hP hS => ?_)
  obtain ⟨hfr, h9, fa9, h65, h69, hor⟩ := hq1
  have h66 : E1 66 = .inl (xI g, 71, .inl f) := (hfr 66 (by decide) (by decide)).trans h66
  refine lv_if_eq (tgt := 21) S.1 S.2.1 dX7_missed_4 (by decide) (fun c4 => ?_) (fun c4 => ?_)
  · skip
    refine lv_iconst (v := 0) S.1 S.2.1 dX7_missed_21 (by decide) ?_
    exact x_iret S hr hlocks hP hS dX7_missed_22 (by rcases hor with ⟨h1, -⟩ | ⟨-, hno⟩; rw [h1] at c4; exact absurd c4 (by decide); exact ⟨hfr, ⟨h9, fa9, h65, h69⟩, 0, Or.inl ⟨hno, rfl⟩, rfl⟩)
  · skip
    refine lv_aload_n S.1 S.2.1 dX7_missed_7 rfl (lv_at hl 0 rfl) ?_
    refine x_si (va_runV (As := []) (rest := []) S (c_X7_usable l g E1 h65 h66 hN) (cwV 0 S.2.2.2.2 gX7_missed_X7_usable rfl rfl rfl (by decide +kernel) ⟨Nat.le_of_ble_eq_true rfl, Nat.le_of_ble_eq_true rfl⟩) (x_preV hK hP h65 (by decide) rfl) rfl rfl hl.1 rfl (lv_room (Nat.le_of_ble_eq_true rfl)) dX7_missed_8 ⟨Nat.le_of_ble_eq_true rfl, Nat.le_of_ble_eq_true rfl⟩) (fun r8 hr8 => ?_)
    subst hr8
    refine lv_aload_n S.1 S.2.1 dX7_missed_11 rfl (lv_at hl 0 rfl) ?_
    refine x_get S hK hP dX7_missed_12 h65 (by decide) (RX7, TX7, 19) rfl hin7 6 (by decide) fl82 rfl ?_
    refine lv_iconst (v := (-1)) S.1 S.2.1 dX7_missed_15 (by decide) ?_
    refine lv_ixor S.1 S.2.1 dX7_missed_16 ?_
    refine lv_iand S.1 S.2.1 dX7_missed_17 ?_
    refine lv_goto (tgt := 22) S.1 S.2.1 dX7_missed_18 (by decide) ?_
    exact x_iret S hr hlocks hP hS dX7_missed_22 (by rcases hor with ⟨-, i, j, k, hb, -, hh⟩ | ⟨h1, -⟩; exact ⟨hfr, ⟨h9, fa9, h65, h69⟩, _, Or.inr ⟨i, j, k, hb, rfl⟩, by rw [hh]; exact ms_eq⟩; exact absurd h1 c4)
theorem cnt_yes {P : Nat → Bool} {k : Nat} (h : P k = true) : cnt P (k + 1) = cnt P k + 1 := by
  show cnt P k + (if P k = true then 1 else 0) = _
  rw [if_pos h]
theorem cnt_no {P : Nat → Bool} {k : Nat} (h : ¬ P k = true) : cnt P (k + 1) = cnt P k := by
  show cnt P k + (if P k = true then 1 else 0) = _
  rw [if_neg h, Nat.add_zero]
theorem cnt_mo {P : Nat → Bool} {a b : Nat} (h : a ≤ b) : cnt P a ≤ cnt P b := by
  obtain ⟨d, rfl⟩ : ∃ d, b = a + d := ⟨b - a, by omega⟩
  clear h
  induction d with
  | zero => exact Nat.le_refl _
  | succ d ih =>
    show _ ≤ cnt P (a + d) + (if P (a + d) = true then 1 else 0)
    omega
theorem cnt_lt {P : Nat → Bool} {a b : Nat} (h : a < b) (hp : P a = true) : cnt P a < cnt P b := by
  have h1 := cnt_yes hp
  have h2 := cnt_mo (P := P) (show a + 1 ≤ b by omega)
  omega
theorem cnt_inj {P : Nat → Bool} {a b : Nat} (ha : P a = true) (hb : P b = true) (h : cnt P a = cnt P b) : a = b := by
  rcases Nat.lt_trichotomy a b with c | c | c
  · have := cnt_lt c ha
    omega
  · exact c
  · have := cnt_lt c hb
    omega
theorem op_ex {P : Nat → Bool} : ∀ n c, c < cnt P n → ∃ k, k < n ∧ P k = true ∧ cnt P k = c
  | 0, c, h => absurd h (Nat.not_lt_zero _)
  | n + 1, c, h => by
    by_cases hp : P n = true
    · rw [cnt_yes hp] at h
      by_cases e : c = cnt P n
      · exact ⟨n, Nat.lt_succ_self _, hp, e.symm⟩
      · obtain ⟨k, h1, h2⟩ := op_ex (P := P) n c (by omega)
        exact ⟨k, by omega, h2⟩
    · rw [cnt_no hp] at h
      obtain ⟨k, h1, h2⟩ := op_ex n c h
      exact ⟨k, by omega, h2⟩
/-- the photos in the order of the usable ones -/
def ordP (M : Nat → Nat → Int32) (n : Nat) (fo : Nat → Int32) : Prop := ∀ k, k < n → pU M k = true → fo (cnt (pU M) k) = nI k
/-- the usable photos whose places in the order are p .. p + m - 1 -/
def pC (M : Nat → Nat → Int32) (p m q : Nat) : Bool := pU M q && (decide (p ≤ cnt (pU M) q) && decide (cnt (pU M) q < p + m))
theorem pC_pU {M : Nat → Nat → Int32} {p m : Nat} {n : Nat} : ∀ q, q < n → pC M p m q = true → pU M q = true := fun q _ h => by
  unfold pC at h
  rw [Bool.and_eq_true] at h
  exact h.1
theorem pC_0 {M : Nat → Nat → Int32} {p n : Nat} : mk (pC M p 0) n = 0 := by
  have h : mk (pC M p 0) n = mk (fun _ => false) n := mk_congr fun q _ => by
    unfold pC
    cases pU M q
    · rfl
    · by_cases h1 : p ≤ cnt (pU M) q
      · simp [show ¬ cnt (pU M) q < p + 0 by omega]
      · simp [h1]
  rw [h, mk_0]
theorem pC_step {M : Nat → Nat → Int32} {p m n k : Nat} (hn : n ≤ 10) (hk : k < n) (hu : pU M k = true) (hc : cnt (pU M) k = p + m) : nI (mk (pC M p m) n) ||| ((1 : Int32) <<< (nI k &&& 31)) = nI (mk (pC M p (m + 1)) n) := by
  rw [bit_shl k (by omega), nI_or]
  congr 1
  apply Nat.eq_of_testBit_eq
  intro q
  rw [Nat.testBit_or, Nat.testBit_two_pow, mk_tb, mk_tb]
  by_cases e : k = q
  · subst e
    simp [hk, pC, hu, hc]
  · by_cases hq : q < n
    · unfold pC
      cases hq2 : pU M q
      · simp [e]
      · have h1 : ¬ cnt (pU M) q = p + m := fun h => e (cnt_inj hu hq2 (by omega))
        have h2 : cnt (pU M) q < p + (m + 1) ↔ cnt (pU M) q < p + m := by omega
        simp only [h2]
        simp [hq, e]
    · simp [hq, e]
set_option maxHeartbeats 4000000 in
set_option maxRecDepth 100000 in
theorem c_X7_orders (l : Launch) (g : xG) (hJ : xJ (xad g)) (E : Nat → va_E) {kp fi hi od bs bb bf ty at9 nu : Int32} (h65 : E 65 = mO g kp fi hi od bs bb bf ty at9 nu) {f : Nat → Int32} (h66 : E 66 = .inl (xI g, 71, .inl f)) {n : Nat} {M : Nat → Nat → Int32} (hN : nH f 0 n M) {fo : Nat → Int32} (h72 : E 72 = .inl (xI g, 10, .inl fo))  : Met l yX7_orders wsX7_orders ({ frames := 2, cells := 0, slots := 0, locals := 43 }) (xPc g [.ref (xad g 65)] E) (xQv g (fun E1 => (∀ j, j ≠ 65 → j ≠ 72 → E1 j = E j) ∧ E1 65 = mO g kp fi hi (nI (cnt (pU M) n)) bs bb bf ty at9 nu ∧ ∃ fo9 : Nat → Int32, E1 72 = .inl (xI g, 10, .inl fo9) ∧ ordP M n fo9)) 0 0 (xA (xad g)) := by
  refine x_met (ws' := _) (by decide) rfl (Nat.le_of_ble_eq_true rfl) ?_
  intro pz ez s m below meth cz ls S hr hlocks hP hK hl
  have hl : lv_has ls 2 [(0, .ref (xad g 65))] := hl
  have hS : va_S (xA (xad g)) s.heap s.heap [] := va_S.rf
  have hin7 : ∀ w ∈ u_ws RX7 TX7 19, w ∈ wsX7_orders := by decide +kernel
  have fl7 : Cond.fieldLink RX7 7 "DiscArcsModel" "now" "[I" ∈ wsX7_orders := by decide +kernel
  have fl28 : Cond.fieldLink RX7 28 "DiscArcsModel" "order" "[I" ∈ wsX7_orders := by decide +kernel
  have fl96 : Cond.fieldLink RX7 96 "DiscArcsModel" "ordered" "I" ∈ wsX7_orders := by decide +kernel
  have hn := hN.1
  have hn0 := hN.n0
  have hfr : ∀ j, j ≠ 65 ∧ j ≠ 72 → E j = E j := fun _ _ => rfl
  refine lv_aload_n S.1 S.2.1 dX7_orders_0 rfl (lv_at hl 0 rfl) ?_
  refine lv_iconst (v := 0) S.1 S.2.1 dX7_orders_1 (by decide) ?_
  refine x_put S hK hJ hP hS dX7_orders_2 h65 (by decide) (RX7, TX7, 19) rfl hin7 tyX7 tyX7_ok nmX7 10 (by decide) fl96 rfl rfl rfl (Nat.le_of_ble_eq_true rfl) (fun H locs E1 hu hP hS => ?_)
  have h65 : E1 65 = mO g kp fi hi 0 bs bb bf ty at9 nu := hu.1
  have h66 : E1 66 = .inl (xI g, 71, .inl f) := (hu.2 _ (by omega)).trans h66
  have h72 : E1 72 = .inl (xI g, 10, .inl fo) := (hu.2 _ (by omega)).trans h72
  have hfr : ∀ j, j ≠ 65 ∧ j ≠ 72 → E1 j = E j := fun j hj => (hu.2 j (by omega)).trans (hfr j hj)
  refine lv_iconst (v := 0) S.1 S.2.1 dX7_orders_5 (by decide) ?_
  refine lv_istore_n (lv' := [(1, .int 0), (0, .ref (xad g 65))]) S.1 S.2.1 dX7_orders_6 rfl hl (by decide) rfl (fun ls hl => ?_)
  have loop7 : ∀ (d : Nat) (q : Nat) (f9 : Nat → Int32) (EL : Nat → va_E) (H : Heap) (locs : List Loc), (hq : q ≤ n) → (ho : ∀ k, k < q → pU M k = true → f9 (cnt (pU M) k) = nI k) → (n - q) < d → (h65 : EL 65 = mO g kp fi hi (nI (cnt (pU M) q)) bs bb bf ty at9 nu) → (h66 : EL 66 = .inl (xI g, 71, .inl f)) → (h72 : EL 72 = .inl (xI g, 10, .inl f9)) → (hfr : ∀ j, j ≠ 65 ∧ j ≠ 72 → EL j = E j) → xP g EL H → va_S (xA (xad g)) s.heap H locs → ∀ ls : Array Slot, lv_has ls 2 [(1, .int (nI q)), (0, .ref (xad g 65))] → W pz l ez ({ frames := 2, cells := 0, slots := 0, locals := 43 }) s m ([.ref (xad g 65)] : List Value).toArray below meth cz H locs 0 0 (MQ below (xQv g (fun E1 => (∀ j, j ≠ 65 → j ≠ 72 → E1 j = E j) ∧ E1 65 = mO g kp fi hi (nI (cnt (pU M) n)) bs bb bf ty at9 nu ∧ ∃ fo9 : Nat → Int32, E1 72 = .inl (xI g, 10, .inl fo9) ∧ ordP M n fo9)) ([.ref (xad g 65)] : List Value).toArray s 0 0 (xA (xad g))) (F0 m 7 ls []) := by
    intro d
    induction d with
    | zero => intro q f9 EL H locs hq ho hd; exact absurd hd (Nat.not_lt_zero _)
    | succ d ih7 =>
      intro q f9 EL H locs hq ho hd h65 h66 h72 hfr hP hS ls hl
      refine lv_iload_n S.1 S.2.1 dX7_orders_7 rfl (lv_at hl 0 rfl) ?_
      refine lv_aload_n S.1 S.2.1 dX7_orders_8 rfl (lv_at hl 1 rfl) ?_
      refine x_get S hK hP dX7_orders_9 h65 (by decide) (RX7, TX7, 19) rfl hin7 0 (by decide) fl7 rfl ?_
      refine lv_bipush (v := 70) S.1 S.2.1 dX7_orders_12 (by decide) ?_
      refine x_iald S hK hP dX7_orders_14 h66 (by decide) (j := 70) rfl (by omega) (by decide) ?_
      refine lv_icmp_ge (tgt := 52) S.1 S.2.1 dX7_orders_15 (by decide) (fun c15 => ?_) (fun c15 => ?_)
      · skip
        have hqe : q = n := Nat.le_antisymm hq ((nI_leI (by omega) (by omega)).mp (by rw [← hn0]; exact c15))
        subst hqe
        exact x_vret S hr hlocks hP hS dX7_orders_52 (⟨fun j g1 g2 => hfr j ⟨g1, g2⟩, h65, f9, h72, ho⟩)
      · skip
        have hqn : q < n := Nat.not_le.mp (fun h => c15 (by rw [hn0]; exact (nI_leI (by omega) (by omega)).mpr h))
        have hcq := cnt_le (pU M) q
        refine lv_aload_n S.1 S.2.1 dX7_orders_18 rfl (lv_at hl 1 rfl) ?_
        refine lv_iload_n S.1 S.2.1 dX7_orders_19 rfl (lv_at hl 0 rfl) ?_
        refine x_si (va_runV (As := [.int (nI q)]) (rest := []) S (c_X7_isUsable l g EL h65 h66 hN hqn) (cwV 1 S.2.2.2.2 gX7_orders_X7_isUsable rfl rfl rfl (by decide +kernel) ⟨Nat.le_of_ble_eq_true rfl, Nat.le_of_ble_eq_true rfl⟩) (x_preV hK hP h65 (by decide) rfl) rfl rfl hl.1 rfl (lv_room (Nat.le_of_ble_eq_true rfl)) dX7_orders_20 ⟨Nat.le_of_ble_eq_true rfl, Nat.le_of_ble_eq_true rfl⟩) (fun r20 hr20 => ?_)
        refine lv_if_eq (tgt := 46) S.1 S.2.1 dX7_orders_23 (by decide) (fun c23 => ?_) (fun c23 => ?_)
        · skip
          refine lv_iinc (v := nI (q + 1)) (lv' := [(1, .int (nI (q + 1))), (0, .ref (xad g 65))]) S.1 S.2.1 dX7_orders_46 hl (k := 0) rfl (show nI q + Int32.ofInt 1 = _ from nI_1 _) (by decide) rfl (fun ls hl => ?_)
          refine lv_goto (tgt := 7) S.1 S.2.1 dX7_orders_49 (by decide) ?_
          exact ih7 (q + 1) f9 _ _ _ (by omega) (fun k h1 h2 => ho k (by have : ¬ k = q := fun e => hr20.f c23 (e ▸ h2); omega) h2) (by omega) (by rw [cnt_no (hr20.f c23)]; exact h65) h66 h72 hfr hP hS ls (lv_sub hl [0, 1] rfl)
        · skip
          have hus := hr20.t c23
          refine lv_aload_n S.1 S.2.1 dX7_orders_26 rfl (lv_at hl 1 rfl) ?_
          refine x_get S hK hP dX7_orders_27 h65 (by decide) (RX7, TX7, 19) rfl hin7 9 (by decide) fl28 rfl ?_
          refine lv_aload_n S.1 S.2.1 dX7_orders_30 rfl (lv_at hl 1 rfl) ?_
          refine x_get S hK hP dX7_orders_31 h65 (by decide) (RX7, TX7, 19) rfl hin7 10 (by decide) fl96 rfl ?_
          refine lv_iload_n S.1 S.2.1 dX7_orders_34 rfl (lv_at hl 0 rfl) ?_
          refine x_iast S hK hJ hP hS dX7_orders_35 h72 (by decide) (j := (cnt (pU M) q)) rfl (by omega) (by decide) (fun H locs E1_1 hu hP hS => ?_)
          have h65 : E1_1 65 = mO g kp fi hi (nI (cnt (pU M) q)) bs bb bf ty at9 nu := (hu.2 _ (by omega)).trans h65
          have h66 : E1_1 66 = .inl (xI g, 71, .inl f) := (hu.2 _ (by omega)).trans h66
          have h72 : E1_1 72 = .inl (xI g, 10, .inl (upd f9 (cnt (pU M) q) (nI q))) := hu.1
          have hfr : ∀ j, j ≠ 65 ∧ j ≠ 72 → E1_1 j = E j := fun j hj => (hu.2 j (by omega)).trans (hfr j hj)
          refine lv_aload_n S.1 S.2.1 dX7_orders_36 rfl (lv_at hl 1 rfl) ?_
          refine lv_dup S.1 S.2.1 dX7_orders_37 rfl ?_
          refine x_get S hK hP dX7_orders_38 h65 (by decide) (RX7, TX7, 19) rfl hin7 10 (by decide) fl96 rfl ?_
          refine lv_iconst (v := 1) S.1 S.2.1 dX7_orders_41 (by decide) ?_
          refine lv_iadd S.1 S.2.1 dX7_orders_42 ?_
          refine x_put S hK hJ hP hS dX7_orders_43 h65 (by decide) (RX7, TX7, 19) rfl hin7 tyX7 tyX7_ok nmX7 10 (by decide) fl96 rfl rfl rfl (Nat.le_of_ble_eq_true rfl) (fun H locs E1_2 hu hP hS => ?_)
          have h65 : E1_2 65 = mO g kp fi hi ((nI (cnt (pU M) q)) + 1) bs bb bf ty at9 nu := hu.1
          have h66 : E1_2 66 = .inl (xI g, 71, .inl f) := (hu.2 _ (by omega)).trans h66
          have h72 : E1_2 72 = .inl (xI g, 10, .inl (upd f9 (cnt (pU M) q) (nI q))) := (hu.2 _ (by omega)).trans h72
          have hfr : ∀ j, j ≠ 65 ∧ j ≠ 72 → E1_2 j = E j := fun j hj => (hu.2 j (by omega)).trans (hfr j hj)
          refine lv_iinc (v := nI (q + 1)) (lv' := [(1, .int (nI (q + 1))), (0, .ref (xad g 65))]) S.1 S.2.1 dX7_orders_46 hl (k := 0) rfl (show nI q + Int32.ofInt 1 = _ from nI_1 _) (by decide) rfl (fun ls hl => ?_)
          refine lv_goto (tgt := 7) S.1 S.2.1 dX7_orders_49 (by decide) ?_
          exact ih7 (q + 1) _ _ _ _ (by omega) (fun k h1 h2 => by rcases Nat.lt_or_ge k q with e | e; rw [pk_un (by have := cnt_lt e h2; omega)]; exact ho k e h2; rw [show k = q by omega]; exact pk_us) (by omega) (by rw [cnt_yes hus, ← nI_1]; exact h65) h66 h72 hfr hP hS ls (lv_sub hl [0, 1] rfl)
  exact loop7 _ 0 fo _ _ _ (Nat.zero_le _) (fun k h => absurd h (Nat.not_lt_zero _)) (Nat.lt_succ_self _) h65 h66 h72 hfr hP hS ls (lv_sub hl [0, 1] rfl)
set_option maxHeartbeats 4000000 in
set_option maxRecDepth 100000 in
theorem c_X7_setOf (l : Launch) (g : xG) (E : Nat → va_E) {kp fi hi od bs bb bf ty at9 nu : Int32} (h65 : E 65 = mO g kp fi hi od bs bb bf ty at9 nu) {n : Nat} {M : Nat → Nat → Int32} (hn : n ≤ 10) {fo : Nat → Int32} (h72 : E 72 = .inl (xI g, 10, .inl fo)) (ho : ordP M n fo) {p m9 : Nat} (hpm : p + m9 ≤ cnt (pU M) n) : Met l yX7_setOf wsX7_setOf ({ frames := 0, cells := 0, slots := 0, locals := 0 }) (xPc g [.ref (xad g 65), .int (nI p), .int (nI m9)] E) (vp_Si (fun r => r = nI (mk (pC M p m9) n))) 0 0 (fun _ => False) := by
  refine x_met (ws' := _) (by decide) rfl (Nat.le_of_ble_eq_true rfl) ?_
  intro pz ez s m below meth cz ls S hr hlocks hP hK hl
  have hl : lv_has ls 5 [(0, .ref (xad g 65)), (1, .int (nI p)), (2, .int (nI m9))] := hl
  have hin7 : ∀ w ∈ u_ws RX7 TX7 19, w ∈ wsX7_setOf := by decide +kernel
  have fl28 : Cond.fieldLink RX7 28 "DiscArcsModel" "order" "[I" ∈ wsX7_setOf := by decide +kernel
  have hcn := cnt_le (pU M) n
  refine lv_iconst (v := 0) S.1 S.2.1 dX7_setOf_0 (by decide) ?_
  refine lv_istore_n (lv' := [(3, .int 0), (0, .ref (xad g 65)), (1, .int (nI p)), (2, .int (nI m9))]) S.1 S.2.1 dX7_setOf_1 rfl hl (by decide) rfl (fun ls hl => ?_)
  refine lv_iconst (v := 0) S.1 S.2.1 dX7_setOf_2 (by decide) ?_
  refine lv_istore (lv' := [(4, .int 0), (3, .int 0), (0, .ref (xad g 65)), (1, .int (nI p)), (2, .int (nI m9))]) S.1 S.2.1 dX7_setOf_3 hl (by decide) rfl (fun ls hl => ?_)
  have hl : lv_has ls 5 [(4, .int (nI 0)), (3, .int (nI (mk (pC M p 0) n))), (0, .ref (xad g 65)), (1, .int (nI p)), (2, .int (nI m9))] := by rw [pC_0]; exact lv_sub hl [0, 1, 2, 3, 4] rfl
  have loop5 : ∀ (d : Nat) (q : Nat), (hq : q ≤ m9) → (m9 - q) < d → ∀ ls : Array Slot, lv_has ls 5 [(4, .int (nI q)), (3, .int (nI (mk (pC M p q) n))), (0, .ref (xad g 65)), (1, .int (nI p)), (2, .int (nI m9))] → W pz l ez ({ frames := 0, cells := 0, slots := 0, locals := 0 }) s m ([.ref (xad g 65), .int (nI p), .int (nI m9)] : List Value).toArray below meth cz s.heap [] 0 0 (MQ below (vp_Si (fun r => r = nI (mk (pC M p m9) n))) ([.ref (xad g 65), .int (nI p), .int (nI m9)] : List Value).toArray s 0 0 (fun _ => False)) (F0 m 5 ls []) := by
    intro d
    induction d with
    | zero => intro q hq hd; exact absurd hd (Nat.not_lt_zero _)
    | succ d ih5 =>
      intro q hq hd ls hl
      refine lv_iload S.1 S.2.1 dX7_setOf_5 (lv_at hl 0 rfl) ?_
      refine lv_iload_n S.1 S.2.1 dX7_setOf_7 rfl (lv_at hl 4 rfl) ?_
      refine lv_icmp_ge (tgt := 31) S.1 S.2.1 dX7_setOf_8 (by decide) (fun c8 => ?_) (fun c8 => ?_)
      · skip
        have hqe : q = m9 := Nat.le_antisymm hq ((nI_leI (by omega) (by omega)).mp c8)
        subst hqe
        refine lv_iload_n S.1 S.2.1 dX7_setOf_31 rfl (lv_at hl 1 rfl) ?_
        exact x_iretR S hr hlocks dX7_setOf_32 rfl
      · skip
        have hqm : q < m9 := Nat.not_le.mp (fun h => c8 ((nI_leI (by omega) (by omega)).mpr h))
        obtain ⟨k, hk, hu, hc⟩ := op_ex n (p + q) (show p + q < cnt (pU M) n by omega)
        have hok : fo (p + q) = nI k := by rw [← hc]; exact ho k hk hu
        refine lv_iload_n S.1 S.2.1 dX7_setOf_11 rfl (lv_at hl 1 rfl) ?_
        refine lv_iconst (v := 1) S.1 S.2.1 dX7_setOf_12 (by decide) ?_
        refine lv_aload_n S.1 S.2.1 dX7_setOf_13 rfl (lv_at hl 2 rfl) ?_
        refine x_get S hK hP dX7_setOf_14 h65 (by decide) (RX7, TX7, 19) rfl hin7 9 (by decide) fl28 rfl ?_
        refine lv_iload_n S.1 S.2.1 dX7_setOf_17 rfl (lv_at hl 3 rfl) ?_
        refine lv_iload S.1 S.2.1 dX7_setOf_18 (lv_at hl 0 rfl) ?_
        refine lv_iadd S.1 S.2.1 dX7_setOf_20 ?_
        refine x_iald S hK hP dX7_setOf_21 h72 (by decide) (j := (p + q)) (nI_add p q) (by omega) (by decide) ?_
        refine W.eq (g2 := F0 m 22 ls [.int (nI k), .int 1, .int (nI (mk (pC M p q) n))]) (by rw [hok]) ?_
        refine lv_ishl S.1 S.2.1 dX7_setOf_22 ?_
        refine lv_ior S.1 S.2.1 dX7_setOf_23 ?_
        refine W.eq (g2 := F0 m 24 ls [.int (nI (mk (pC M p (q + 1)) n))]) (by rw [pC_step hn hk hu hc]) ?_
        refine lv_istore_n (lv' := [(3, .int (nI (mk (pC M p (q + 1)) n))), (4, .int (nI q)), (0, .ref (xad g 65)), (1, .int (nI p)), (2, .int (nI m9))]) S.1 S.2.1 dX7_setOf_24 rfl hl (by decide) rfl (fun ls hl => ?_)
        refine lv_iinc (v := nI (q + 1)) (lv' := [(4, .int (nI (q + 1))), (3, .int (nI (mk (pC M p (q + 1)) n))), (0, .ref (xad g 65)), (1, .int (nI p)), (2, .int (nI m9))]) S.1 S.2.1 dX7_setOf_25 hl (k := 1) rfl (show nI q + Int32.ofInt 1 = _ from nI_1 _) (by decide) rfl (fun ls hl => ?_)
        refine lv_goto (tgt := 5) S.1 S.2.1 dX7_setOf_28 (by decide) ?_
        exact ih5 (q + 1) (by omega) (by omega) ls (lv_sub hl [0, 1, 2, 3, 4] rfl)
  exact loop5 _ 0 (Nat.zero_le _) (Nat.lt_succ_self _) ls (lv_sub hl [0, 1, 2, 3, 4] rfl)
theorem trio_ex {P : Nat → Bool} {n : Nat} (h : 3 ≤ cnt P n) : ∃ i j k, trio P n i j k := by
  obtain ⟨i, i1, i2, i3⟩ := op_ex n 0 (show 0 < cnt P n by omega)
  obtain ⟨j, j1, j2, j3⟩ := op_ex n 1 (show 1 < cnt P n by omega)
  obtain ⟨k, k1, k2, k3⟩ := op_ex n 2 (show 2 < cnt P n by omega)
  have hij : i < j := Nat.not_le.mp fun h => by have := cnt_mo (P := P) h; omega
  have hjk : j < k := Nat.not_le.mp fun h => by have := cnt_mo (P := P) h; omega
  exact ⟨i, j, k, hij, hjk, k1, i2, j2, k2⟩
theorem trio_cnt {P : Nat → Bool} {n i j k : Nat} (h : trio P n i j k) : 3 ≤ cnt P n := by
  obtain ⟨h1, h2, h3, h4, h5, h6⟩ := h
  have := cnt_lt h1 h4
  have := cnt_lt h2 h5
  have := cnt_lt h3 h6
  omega
theorem cnt_pC {M : Nat → Nat → Int32} {p m : Nat} : ∀ n, cnt (pC M p m) n = min (cnt (pU M) n) (p + m) - min (cnt (pU M) n) p
  | 0 => by
    show 0 = min 0 (p + m) - min 0 p
    omega
  | n + 1 => by
    have ih := cnt_pC (M := M) (p := p) (m := m) n
    by_cases hu : pU M n = true
    · rw [cnt_yes hu]
      by_cases hc : pC M p m n = true
      · rw [cnt_yes hc, ih]
        unfold pC at hc
        rw [hu] at hc
        simp only [Bool.true_and, Bool.and_eq_true, decide_eq_true_eq] at hc
        omega
      · rw [cnt_no hc, ih]
        unfold pC at hc
        rw [hu] at hc
        simp only [Bool.true_and, Bool.and_eq_true, decide_eq_true_eq] at hc
        omega
    · rw [cnt_no hu, cnt_no (fun h => hu (pC_pU (n := n + 1) n (Nat.lt_succ_self _) h)), ih]
theorem cnt_pCe {M : Nat → Nat → Int32} {p m n : Nat} (h : p + m ≤ cnt (pU M) n) : cnt (pC M p m) n = m := by
  rw [cnt_pC]
  omega
theorem hit_set {M : Nat → Nat → Int32} {P : Nat → Bool} {n i j k : Nat} (hn : n ≤ 10) : nI (mk (fun q => P q && hitB M i j k q) n) = nI (mk P n) ↔ mk (pM M P i j k) n = 0 := by
  rw [nI_eq (by have := mk_lt10 (fun q => P q && hitB M i j k q) hn; omega) (by have := mk_lt10 P hn; omega), mk_iff, ← mk_0 (n := n), mk_iff]
  constructor
  · intro h q hq
    have := h q hq
    unfold pM
    cases hp : P q <;> cases hh : hitB M i j k q <;> simp_all
  · intro h q hq
    have := h q hq
    unfold pM at this
    cases hp : P q <;> cases hh : hitB M i j k q <;> simp_all
set_option maxHeartbeats 4000000 in
set_option maxRecDepth 100000 in
theorem c_X7_fitsAsRow (l : Launch) (g : xG) (hJ : xJ (xad g)) (E : Nat → va_E) {kp fi hi od bs bb bf ty at9 nu : Int32} (h65 : E 65 = mO g kp fi hi od bs bb bf ty at9 nu) {f : Nat → Int32} (h66 : E 66 = .inl (xI g, 71, .inl f)) {n : Nat} {M : Nat → Nat → Int32} (hN : nH f 0 n M) {fa : Nat → Int32} (h69 : E 69 = .inl (xI g, 3, .inl fa)) {fo : Nat → Int32} (h72 : E 72 = .inl (xI g, 10, .inl fo)) (ho : ordP M n fo) {p m9 : Nat} (hpm : p + m9 ≤ cnt (pU M) n) : Met l yX7_fitsAsRow wsX7_fitsAsRow ({ frames := 5, cells := 0, slots := 0, locals := 136 }) (xPc g [.ref (xad g 65), .int (nI p), .int (nI m9)] E) (xQi g (fun r E1 => (∀ j, j ≠ 65 → j ≠ 69 → E1 j = E j) ∧ (∃ (h9 : Int32) (fa9 : Nat → Int32), E1 65 = mO g kp fi h9 od bs bb bf ty at9 nu ∧ E1 69 = .inl (xI g, 3, .inl fa9)) ∧ xb (fitS M n (pC M p m9)) r)) 0 0 (xA (xad g)) := by
  refine x_met (ws' := _) (by decide) rfl (Nat.le_of_ble_eq_true rfl) ?_
  intro pz ez s m below meth cz ls S hr hlocks hP hK hl
  have hl : lv_has ls 4 [(0, .ref (xad g 65)), (1, .int (nI p)), (2, .int (nI m9))] := hl
  have hS : va_S (xA (xad g)) s.heap s.heap [] := va_S.rf
  have hin7 : ∀ w ∈ u_ws RX7 TX7 19, w ∈ wsX7_fitsAsRow := by decide +kernel
  have fl82 : Cond.fieldLink RX7 82 "DiscArcsModel" "hit" "I" ∈ wsX7_fitsAsRow := by decide +kernel
  have hn := hN.1
  have hn0 := hN.n0
  have hcn := cnt_le (pU M) n
  have hcp := cnt_pCe hpm
  refine lv_iload_n S.1 S.2.1 dX7_fitsAsRow_0 rfl (lv_at hl 2 rfl) ?_
  refine lv_iconst (v := 3) S.1 S.2.1 dX7_fitsAsRow_1 (by decide) ?_
  refine lv_icmp_ge (tgt := 7) S.1 S.2.1 dX7_fitsAsRow_2 (by decide) (fun c2 => ?_) (fun c2 => ?_)
  · skip
    have hm3 : 3 ≤ m9 := (nI_leI (a := 3) (by omega) (by omega)).mp c2
    obtain ⟨i8, j8, k8, ht8⟩ := trio_ex (P := (pC M p m9)) (n := n) (by omega)
    refine lv_aload_n S.1 S.2.1 dX7_fitsAsRow_7 rfl (lv_at hl 0 rfl) ?_
    refine lv_iload_n S.1 S.2.1 dX7_fitsAsRow_8 rfl (lv_at hl 1 rfl) ?_
    refine lv_iload_n S.1 S.2.1 dX7_fitsAsRow_9 rfl (lv_at hl 2 rfl) ?_
    refine x_si (va_runV (As := [.int (nI p), .int (nI m9)]) (rest := []) S (c_X7_setOf l g E h65 hn h72 ho hpm) (cwV 2 S.2.2.2.2 gX7_fitsAsRow_X7_setOf rfl rfl rfl (by decide +kernel) ⟨Nat.le_of_ble_eq_true rfl, Nat.le_of_ble_eq_true rfl⟩) (x_preV hK hP h65 (by decide) rfl) rfl rfl hl.1 rfl (lv_room (Nat.le_of_ble_eq_true rfl)) dX7_fitsAsRow_10 ⟨Nat.le_of_ble_eq_true rfl, Nat.le_of_ble_eq_true rfl⟩) (fun r10 hr10 => ?_)
    subst hr10
    refine lv_istore_n (lv' := [(3, .int (nI (mk (pC M p m9) n))), (0, .ref (xad g 65)), (1, .int (nI p)), (2, .int (nI m9))]) S.1 S.2.1 dX7_fitsAsRow_13 rfl hl (by decide) rfl (fun ls hl => ?_)
    refine lv_aload_n S.1 S.2.1 dX7_fitsAsRow_14 rfl (lv_at hl 1 rfl) ?_
    refine lv_iload_n S.1 S.2.1 dX7_fitsAsRow_15 rfl (lv_at hl 0 rfl) ?_
    refine x_qi (va_runV (As := [.int (nI (mk (pC M p m9) n))]) (rest := []) S (c_X7_finds l g hJ E h65 h66 hN (P := (pC M p m9)) pC_pU h69) (cwV 1 S.2.2.2.2 gX7_fitsAsRow_X7_finds rfl rfl rfl (by decide +kernel) ⟨Nat.le_of_ble_eq_true rfl, Nat.le_of_ble_eq_true rfl⟩) (x_preV hK hP h65 (by decide) rfl) rfl rfl hl.1 rfl (lv_room (Nat.le_of_ble_eq_true rfl)) dX7_fitsAsRow_16 ⟨Nat.le_of_ble_eq_true rfl, Nat.le_of_ble_eq_true rfl⟩) hS (fun r16 E1 H locs hq16 hP hS => ?_)
    obtain ⟨hfr, h9, fa9, h65, h69, hor⟩ := hq16
    refine lv_if_eq (tgt := 34) S.1 S.2.1 dX7_fitsAsRow_19 (by decide) (fun c19 => ?_) (fun c19 => ?_)
    · skip
      refine lv_iconst (v := 0) S.1 S.2.1 dX7_fitsAsRow_34 (by decide) ?_
      exact x_zret S hr hlocks hP hS dX7_fitsAsRow_35 rfl (by rcases hor with ⟨h1, -⟩ | ⟨-, hno⟩; rw [h1] at c19; exact absurd c19 (by decide); exact absurd ht8 (hno _ _ _))
    · skip
      obtain ⟨i, j, k, hb, hh9⟩ : ∃ i j k, isBest M (pC M p m9) n i j k ∧ h9 = nI (mk (fun q => (pC M p m9) q && hitB M i j k q) n) := by rcases hor with ⟨-, i, j, k, hb, -, hh⟩ | ⟨h1, -⟩; exact ⟨i, j, k, hb, hh⟩; exact absurd h1 c19
      refine lv_aload_n S.1 S.2.1 dX7_fitsAsRow_22 rfl (lv_at hl 1 rfl) ?_
      refine x_get S hK hP dX7_fitsAsRow_23 h65 (by decide) (RX7, TX7, 19) rfl hin7 6 (by decide) fl82 rfl ?_
      refine lv_iload_n S.1 S.2.1 dX7_fitsAsRow_26 rfl (lv_at hl 0 rfl) ?_
      refine lv_icmp_ne (tgt := 34) S.1 S.2.1 dX7_fitsAsRow_27 (by decide) (fun c27 => ?_) (fun c27 => ?_)
      · skip
        refine lv_iconst (v := 0) S.1 S.2.1 dX7_fitsAsRow_34 (by decide) ?_
        exact x_zret S hr hlocks hP hS dX7_fitsAsRow_35 rfl (⟨fun j g1 g2 => hfr j g1 g2, ⟨h9, fa9, h65, h69⟩, xb.zero (fit_no hn hb (fun h => c27 (by rw [hh9]; exact (hit_set hn).mpr h)))⟩)
      · skip
        refine lv_iconst (v := 1) S.1 S.2.1 dX7_fitsAsRow_30 (by decide) ?_
        refine lv_goto (tgt := 35) S.1 S.2.1 dX7_fitsAsRow_31 (by decide) ?_
        exact x_zret S hr hlocks hP hS dX7_fitsAsRow_35 rfl (⟨fun j g1 g2 => hfr j g1 g2, ⟨h9, fa9, h65, h69⟩, xb.one (Or.inr ⟨i, j, k, hb, (hit_set hn).mp (hh9 ▸ c27)⟩)⟩)
  · skip
    refine lv_iconst (v := 1) S.1 S.2.1 dX7_fitsAsRow_5 (by decide) ?_
    exact x_zret S hr hlocks hP hS dX7_fitsAsRow_6 rfl (⟨fun _ _ _ => rfl, ⟨_, _, h65, h69⟩, xb.one (Or.inl (fun i j k ht => by have := trio_cnt ht; have := Nat.not_le.mp (fun h => c2 ((nI_leI (a := 3) (by omega) (by omega)).mpr h)); omega))⟩)
def fitC (M : Nat → Nat → Int32) (n p m : Nat) : Prop := fitS M n (pC M p m)
theorem fitC_1 {M : Nat → Nat → Int32} {n p : Nat} : fitC M n p 1 := by
  refine Or.inl fun i j k ht => ?_
  have h3 := trio_cnt ht
  have h1 := cnt_pC (M := M) (p := p) (m := 1) n
  omega
/-- the rows from a place of the order on: how few, and how long the first is -/
def tw (M : Nat → Nat → Int32) (n o : Nat) (RW LG : Nat → Nat) (a : Nat) : Prop := RW o = 0 ∧ (∀ p, a ≤ p → p ≤ o → RW p ≤ o - p) ∧ ∀ p, a ≤ p → p < o → 1 ≤ LG p ∧ p + LG p ≤ o ∧ fitC M n p (LG p) ∧ RW p = 1 + RW (p + LG p) ∧ ∀ m, 1 ≤ m → p + m ≤ o → fitC M n p m → RW p ≤ 1 + RW (p + m) ∧ (LG p < m → RW p < 1 + RW (p + m))
def tf (M : Nat → Nat → Int32) (n o : Nat) (RW : Nat → Nat) (p m r t : Nat) : Prop := (r = 11 ∧ ∀ m', m < m' → p + m' ≤ o → ¬ fitC M n p m') ∨ (m < t ∧ p + t ≤ o ∧ fitC M n p t ∧ r = 1 + RW (p + t) ∧ ∀ m', m < m' → p + m' ≤ o → fitC M n p m' → r ≤ 1 + RW (p + m') ∧ (t < m' → r < 1 + RW (p + m')))
theorem tf.take {M : Nat → Nat → Int32} {n o : Nat} {RW : Nat → Nat} {p m r t : Nat} (h : tf M n o RW p (m + 1) r t) (hm : p + (m + 1) ≤ o) (hlt : 1 + RW (p + (m + 1)) < r) (hf : fitC M n p (m + 1)) : tf M n o RW p m (1 + RW (p + (m + 1))) (m + 1) := by
  refine Or.inr ⟨Nat.lt_succ_self _, hm, hf, rfl, fun m' h1 h2 h3 => ?_⟩
  by_cases e : m' = m + 1
  · subst e
    exact ⟨Nat.le_refl _, fun h => absurd h (Nat.lt_irrefl _)⟩
  · rcases h with ⟨h4, h5⟩ | ⟨h4, h5, h6, h7, h8⟩
    · exact absurd h3 (h5 m' (by omega) h2)
    · have := (h8 m' (by omega) h2 h3).1
      exact ⟨by omega, fun _ => by omega⟩
theorem tf.keep {M : Nat → Nat → Int32} {n o : Nat} {RW : Nat → Nat} {p m r t : Nat} (h : tf M n o RW p (m + 1) r t) (hR : RW (p + (m + 1)) ≤ 9) (hno : ¬ (1 + RW (p + (m + 1)) < r ∧ fitC M n p (m + 1))) : tf M n o RW p m r t := by
  rcases h with ⟨h4, h5⟩ | ⟨h4, h5, h6, h7, h8⟩
  · refine Or.inl ⟨h4, fun m' h1 h2 h3 => ?_⟩
    by_cases e : m' = m + 1
    · subst e
      exact hno ⟨by omega, h3⟩
    · exact h5 m' (by omega) h2 h3
  · refine Or.inr ⟨by omega, h5, h6, h7, fun m' h1 h2 h3 => ?_⟩
    by_cases e : m' = m + 1
    · subst e
      have : ¬ 1 + RW (p + (m + 1)) < r := fun g => hno ⟨g, h3⟩
      exact ⟨by omega, fun _ => by omega⟩
    · exact h8 m' (by omega) h2 h3
theorem tw.row {M : Nat → Nat → Int32} {n o : Nat} {RW LG : Nat → Nat} {p r t : Nat} (h : tw M n o RW LG (p + 1)) (hp : p < o) (hf : tf M n o RW p 0 r t) : tw M n o (va_up RW p r) (va_up LG p t) p ∧ r = 1 + RW (p + t) ∧ 1 ≤ t ∧ p + t ≤ o := by
  obtain ⟨h1, h2, h3⟩ := h
  rcases hf with ⟨-, g2⟩ | ⟨g1, g2, g3, g4, g5⟩
  · exact absurd fitC_1 (g2 1 (by omega) (by omega))
  · refine ⟨⟨by rw [va_up_ne _ _ (by omega)]; exact h1, fun q q1 q2 => ?_, fun q q1 q2 => ?_⟩, g4, by omega, g2⟩
    · by_cases e : q = p
      · subst e
        rw [va_up_self]
        have a1 := (g5 1 (by omega) (by omega) fitC_1).1
        have a2 := h2 (q + 1) (by omega) (by omega)
        omega
      · rw [va_up_ne _ _ e]
        exact h2 q (by omega) q2
    · by_cases e : q = p
      · subst e
        rw [va_up_self, va_up_self, va_up_ne _ _ (by omega)]
        refine ⟨by omega, g2, g3, g4, fun m m1 m2 m3 => ?_⟩
        rw [va_up_ne _ _ (by omega)]
        exact g5 m (by omega) m2 m3
      · rw [va_up_ne _ _ e, va_up_ne _ _ e, va_up_ne _ _ (by omega)]
        obtain ⟨a1, a2, a3, a4, a5⟩ := h3 q (by omega) q2
        refine ⟨a1, a2, a3, a4, fun m m1 m2 m3 => ?_⟩
        rw [va_up_ne _ _ (by omega)]
        exact a5 m m1 m2 m3
set_option maxHeartbeats 4000000 in
set_option maxRecDepth 100000 in
theorem c_X7_findsTrack (l : Launch) (g : xG) (hJ : xJ (xad g)) (E : Nat → va_E) {kp fi hi od bs bb bf ty at9 nu : Int32} (h65 : E 65 = mO g kp fi hi od bs bb bf ty at9 nu) {f : Nat → Int32} (h66 : E 66 = .inl (xI g, 71, .inl f)) {n : Nat} {M : Nat → Nat → Int32} (hN : nH f 0 n M) {fa : Nat → Int32} (h69 : E 69 = .inl (xI g, 3, .inl fa)) {fr : Nat → Int32} (h70 : E 70 = .inl (xI g, 11, .inl fr)) {fl : Nat → Int32} (h71 : E 71 = .inl (xI g, 10, .inl fl)) {fo0 : Nat → Int32} (h72 : E 72 = .inl (xI g, 10, .inl fo0))  : Met l yX7_findsTrack wsX7_findsTrack ({ frames := 6, cells := 0, slots := 0, locals := 159 }) (xPc g [.ref (xad g 65)] E) (xQv g (fun E1 => (∀ j, j ≠ 65 ∧ j ≠ 69 ∧ j ≠ 70 ∧ j ≠ 71 ∧ j ≠ 72 → E1 j = E j) ∧ (∃ h9 : Int32, E1 65 = mO g kp fi h9 (nI (cnt (pU M) n)) bs bb bf ty at9 nu) ∧ (∃ fa9 : Nat → Int32, E1 69 = .inl (xI g, 3, .inl fa9)) ∧ ∃ (fr9 fl9 fo9 : Nat → Int32) (RW LG : Nat → Nat), E1 70 = .inl (xI g, 11, .inl fr9) ∧ E1 71 = .inl (xI g, 10, .inl fl9) ∧ E1 72 = .inl (xI g, 10, .inl fo9) ∧ ordP M n fo9 ∧ tw M n (cnt (pU M) n) RW LG 0 ∧ (∀ p, p ≤ (cnt (pU M) n) → fr9 p = nI (RW p)) ∧ ∀ p, p < (cnt (pU M) n) → fl9 p = nI (LG p))) 0 0 (xA (xad g)) := by
  refine x_met (ws' := _) (by decide) rfl (Nat.le_of_ble_eq_true rfl) ?_
  intro pz ez s m below meth cz ls S hr hlocks hP hK hl
  have hl : lv_has ls 3 [(0, .ref (xad g 65))] := hl
  have hS : va_S (xA (xad g)) s.heap s.heap [] := va_S.rf
  have hin7 : ∀ w ∈ u_ws RX7 TX7 19, w ∈ wsX7_findsTrack := by decide +kernel
  have fl22 : Cond.fieldLink RX7 22 "DiscArcsModel" "rows" "[I" ∈ wsX7_findsTrack := by decide +kernel
  have fl25 : Cond.fieldLink RX7 25 "DiscArcsModel" "longest" "[I" ∈ wsX7_findsTrack := by decide +kernel
  have fl96 : Cond.fieldLink RX7 96 "DiscArcsModel" "ordered" "I" ∈ wsX7_findsTrack := by decide +kernel
  have hn := hN.1
  have hn0 := hN.n0
  have hcn := cnt_le (pU M) n
  refine lv_aload_n S.1 S.2.1 dX7_findsTrack_0 rfl (lv_at hl 0 rfl) ?_
  refine x_qv (va_runV (As := []) (rest := []) S (c_X7_orders l g hJ E h65 h66 hN h72) (cwV 0 S.2.2.2.2 gX7_findsTrack_X7_orders rfl rfl rfl (by decide +kernel) ⟨Nat.le_of_ble_eq_true rfl, Nat.le_of_ble_eq_true rfl⟩) (x_preV hK hP h65 (by decide) rfl) rfl rfl hl.1 rfl (lv_room (Nat.le_of_ble_eq_true rfl)) dX7_findsTrack_1 ⟨Nat.le_of_ble_eq_true rfl, Nat.le_of_ble_eq_true rfl⟩) hS (fun E1 H locs hq1 hP hS => ?_)
  obtain ⟨hfr1, h65, fo, h72, ho⟩ := hq1
  have h66 : E1 66 = .inl (xI g, 71, .inl f) := (hfr1 66 (by decide) (by decide)).trans h66
  have h69 : E1 69 = .inl (xI g, 3, .inl fa) := (hfr1 69 (by decide) (by decide)).trans h69
  have h70 : E1 70 = .inl (xI g, 11, .inl fr) := (hfr1 70 (by decide) (by decide)).trans h70
  have h71 : E1 71 = .inl (xI g, 10, .inl fl) := (hfr1 71 (by decide) (by decide)).trans h71
  have hfr : ∀ j, j ≠ 65 ∧ j ≠ 69 ∧ j ≠ 70 ∧ j ≠ 71 ∧ j ≠ 72 → E1 j = E j := fun j hj => hfr1 j hj.1 hj.2.2.2.2
  refine lv_aload_n S.1 S.2.1 dX7_findsTrack_4 rfl (lv_at hl 0 rfl) ?_
  refine x_get S hK hP dX7_findsTrack_5 h65 (by decide) (RX7, TX7, 19) rfl hin7 7 (by decide) fl22 rfl ?_
  refine lv_aload_n S.1 S.2.1 dX7_findsTrack_8 rfl (lv_at hl 0 rfl) ?_
  refine x_get S hK hP dX7_findsTrack_9 h65 (by decide) (RX7, TX7, 19) rfl hin7 10 (by decide) fl96 rfl ?_
  refine lv_iconst (v := 0) S.1 S.2.1 dX7_findsTrack_12 (by decide) ?_
  refine x_iast S hK hJ hP hS dX7_findsTrack_13 h70 (by decide) (j := (cnt (pU M) n)) rfl (by omega) (by decide) (fun H locs E1_1 hu hP hS => ?_)
  have h65 : E1_1 65 = mO g kp fi hi (nI (cnt (pU M) n)) bs bb bf ty at9 nu := (hu.2 _ (by omega)).trans h65
  have h66 : E1_1 66 = .inl (xI g, 71, .inl f) := (hu.2 _ (by omega)).trans h66
  have h69 : E1_1 69 = .inl (xI g, 3, .inl fa) := (hu.2 _ (by omega)).trans h69
  have h70 : E1_1 70 = .inl (xI g, 11, .inl (upd fr (cnt (pU M) n) 0)) := hu.1
  have h71 : E1_1 71 = .inl (xI g, 10, .inl fl) := (hu.2 _ (by omega)).trans h71
  have h72 : E1_1 72 = .inl (xI g, 10, .inl fo) := (hu.2 _ (by omega)).trans h72
  have hfr : ∀ j, j ≠ 65 ∧ j ≠ 69 ∧ j ≠ 70 ∧ j ≠ 71 ∧ j ≠ 72 → E1_1 j = E j := fun j hj => (hu.2 j (by omega)).trans (hfr j hj)
  refine lv_aload_n S.1 S.2.1 dX7_findsTrack_14 rfl (lv_at hl 0 rfl) ?_
  refine x_get S hK hP dX7_findsTrack_15 h65 (by decide) (RX7, TX7, 19) rfl hin7 10 (by decide) fl96 rfl ?_
  refine lv_iconst (v := 1) S.1 S.2.1 dX7_findsTrack_18 (by decide) ?_
  refine lv_isub S.1 S.2.1 dX7_findsTrack_19 ?_
  refine lv_istore_n (lv' := [(1, .int ((nI (cnt (pU M) n)) - 1)), (0, .ref (xad g 65))]) S.1 S.2.1 dX7_findsTrack_20 rfl hl (by decide) rfl (fun ls hl => ?_)
  have loop21 : ∀ (d : Nat) (a9 : Nat) (RW : Nat → Nat) (LG : Nat → Nat) (fr : Nat → Int32) (fl : Nat → Int32) (fa : Nat → Int32) (h9 : Int32) (EL : Nat → va_E) (H : Heap) (locs : List Loc), (ha9 : a9 ≤ (cnt (pU M) n)) → (htw : tw M n (cnt (pU M) n) RW LG a9) → (hk : ∀ k, a9 ≤ k → k ≤ (cnt (pU M) n) → fr k = nI (RW k)) → (hg : ∀ k, a9 ≤ k → k < (cnt (pU M) n) → fl k = nI (LG k)) → (a9) < d → (h65 : EL 65 = mO g kp fi h9 (nI (cnt (pU M) n)) bs bb bf ty at9 nu) → (h66 : EL 66 = .inl (xI g, 71, .inl f)) → (h69 : EL 69 = .inl (xI g, 3, .inl fa)) → (h70 : EL 70 = .inl (xI g, 11, .inl fr)) → (h71 : EL 71 = .inl (xI g, 10, .inl fl)) → (h72 : EL 72 = .inl (xI g, 10, .inl fo)) → (hfr : ∀ j, j ≠ 65 ∧ j ≠ 69 ∧ j ≠ 70 ∧ j ≠ 71 ∧ j ≠ 72 → EL j = E j) → xP g EL H → va_S (xA (xad g)) s.heap H locs → ∀ ls : Array Slot, lv_has ls 3 [(1, .int (nI a9 - 1)), (0, .ref (xad g 65))] → W pz l ez ({ frames := 6, cells := 0, slots := 0, locals := 159 }) s m ([.ref (xad g 65)] : List Value).toArray below meth cz H locs 0 0 (MQ below (xQv g (fun E1 => (∀ j, j ≠ 65 ∧ j ≠ 69 ∧ j ≠ 70 ∧ j ≠ 71 ∧ j ≠ 72 → E1 j = E j) ∧ (∃ h9 : Int32, E1 65 = mO g kp fi h9 (nI (cnt (pU M) n)) bs bb bf ty at9 nu) ∧ (∃ fa9 : Nat → Int32, E1 69 = .inl (xI g, 3, .inl fa9)) ∧ ∃ (fr9 fl9 fo9 : Nat → Int32) (RW LG : Nat → Nat), E1 70 = .inl (xI g, 11, .inl fr9) ∧ E1 71 = .inl (xI g, 10, .inl fl9) ∧ E1 72 = .inl (xI g, 10, .inl fo9) ∧ ordP M n fo9 ∧ tw M n (cnt (pU M) n) RW LG 0 ∧ (∀ p, p ≤ (cnt (pU M) n) → fr9 p = nI (RW p)) ∧ ∀ p, p < (cnt (pU M) n) → fl9 p = nI (LG p))) ([.ref (xad g 65)] : List Value).toArray s 0 0 (xA (xad g))) (F0 m 21 ls []) := by
    intro d
    induction d with
    | zero => intro a9 RW LG fr fl fa h9 EL H locs ha9 htw hk hg hd; exact absurd hd (Nat.not_lt_zero _)
    | succ d ih21 =>
      intro a9 RW LG fr fl fa h9 EL H locs ha9 htw hk hg hd h65 h66 h69 h70 h71 h72 hfr hP hS ls hl
      refine lv_iload_n S.1 S.2.1 dX7_findsTrack_21 rfl (lv_at hl 0 rfl) ?_
      refine lv_if_lt (tgt := 107) S.1 S.2.1 dX7_findsTrack_22 (by decide) (fun c22 => ?_) (fun c22 => ?_)
      · skip
        have ha0 : a9 = 0 := by rcases Nat.eq_zero_or_pos a9 with h | h; exact h; exact absurd c22 (by obtain ⟨z, rfl⟩ : ∃ z, a9 = z + 1 := ⟨a9 - 1, by omega⟩; rw [nI_dec]; exact nI_pos (by omega))
        subst ha0
        exact x_vret S hr hlocks hP hS dX7_findsTrack_107 (⟨hfr, ⟨_, h65⟩, ⟨_, h69⟩, fr, fl, fo, RW, LG, h70, h71, h72, ho, htw, fun p hp => hk p (Nat.zero_le _) hp, fun p hp => hg p (Nat.zero_le _) hp⟩)
      · skip
        obtain ⟨p, rfl⟩ : ∃ z, a9 = z + 1 := ⟨a9 - 1, by have : ¬ a9 = 0 := fun h => c22 (by rw [h]; decide); omega⟩
        rw [nI_dec] at hl
        have hpo : p < (cnt (pU M) n) := by omega
        refine lv_aload_n S.1 S.2.1 dX7_findsTrack_25 rfl (lv_at hl 1 rfl) ?_
        refine x_get S hK hP dX7_findsTrack_26 h65 (by decide) (RX7, TX7, 19) rfl hin7 7 (by decide) fl22 rfl ?_
        refine lv_iload_n S.1 S.2.1 dX7_findsTrack_29 rfl (lv_at hl 0 rfl) ?_
        refine lv_bipush (v := 11) S.1 S.2.1 dX7_findsTrack_30 (by decide) ?_
        refine x_iast S hK hJ hP hS dX7_findsTrack_32 h70 (by decide) (j := p) rfl (by omega) (by decide) (fun H locs E1_2 hu hP hS => ?_)
        have h65 : E1_2 65 = mO g kp fi h9 (nI (cnt (pU M) n)) bs bb bf ty at9 nu := (hu.2 _ (by omega)).trans h65
        have h66 : E1_2 66 = .inl (xI g, 71, .inl f) := (hu.2 _ (by omega)).trans h66
        have h69 : E1_2 69 = .inl (xI g, 3, .inl fa) := (hu.2 _ (by omega)).trans h69
        have h70 : E1_2 70 = .inl (xI g, 11, .inl (upd fr p 11)) := hu.1
        have h71 : E1_2 71 = .inl (xI g, 10, .inl fl) := (hu.2 _ (by omega)).trans h71
        have h72 : E1_2 72 = .inl (xI g, 10, .inl fo) := (hu.2 _ (by omega)).trans h72
        have hfr : ∀ j, j ≠ 65 ∧ j ≠ 69 ∧ j ≠ 70 ∧ j ≠ 71 ∧ j ≠ 72 → E1_2 j = E j := fun j hj => (hu.2 j (by omega)).trans (hfr j hj)
        refine lv_aload_n S.1 S.2.1 dX7_findsTrack_33 rfl (lv_at hl 1 rfl) ?_
        refine x_get S hK hP dX7_findsTrack_34 h65 (by decide) (RX7, TX7, 19) rfl hin7 10 (by decide) fl96 rfl ?_
        refine lv_iload_n S.1 S.2.1 dX7_findsTrack_37 rfl (lv_at hl 0 rfl) ?_
        refine lv_isub S.1 S.2.1 dX7_findsTrack_38 ?_
        refine W.eq (g2 := F0 m 39 ls [.int (nI ((cnt (pU M) n) - p))]) (by rw [pk_sub (show p ≤ (cnt (pU M) n) by omega)]) ?_
        refine lv_istore_n (lv' := [(2, .int (nI ((cnt (pU M) n) - p))), (1, .int (nI p)), (0, .ref (xad g 65))]) S.1 S.2.1 dX7_findsTrack_39 rfl hl (by decide) rfl (fun ls hl => ?_)
        have loop40 : ∀ (d : Nat) (m7 : Nat) (r : Nat) (t : Nat) (fr : Nat → Int32) (fl : Nat → Int32) (fa : Nat → Int32) (h9 : Int32) (EL : Nat → va_E) (H : Heap) (locs : List Loc), (hm7 : p + m7 ≤ (cnt (pU M) n)) → (hr11 : r ≤ 11) → (htf : tf M n (cnt (pU M) n) RW p m7 r t) → (g2p : fr p = nI r) → (g3p : (r < 11 → fl p = nI t)) → (hk : ∀ k, p < k → k ≤ (cnt (pU M) n) → fr k = nI (RW k)) → (hg : ∀ k, p < k → k < (cnt (pU M) n) → fl k = nI (LG k)) → (m7) < d → (h65 : EL 65 = mO g kp fi h9 (nI (cnt (pU M) n)) bs bb bf ty at9 nu) → (h66 : EL 66 = .inl (xI g, 71, .inl f)) → (h69 : EL 69 = .inl (xI g, 3, .inl fa)) → (h70 : EL 70 = .inl (xI g, 11, .inl fr)) → (h71 : EL 71 = .inl (xI g, 10, .inl fl)) → (h72 : EL 72 = .inl (xI g, 10, .inl fo)) → (hfr : ∀ j, j ≠ 65 ∧ j ≠ 69 ∧ j ≠ 70 ∧ j ≠ 71 ∧ j ≠ 72 → EL j = E j) → xP g EL H → va_S (xA (xad g)) s.heap H locs → ∀ ls : Array Slot, lv_has ls 3 [(2, .int (nI m7)), (1, .int (nI p)), (0, .ref (xad g 65))] → W pz l ez ({ frames := 6, cells := 0, slots := 0, locals := 159 }) s m ([.ref (xad g 65)] : List Value).toArray below meth cz H locs 0 0 (MQ below (xQv g (fun E1 => (∀ j, j ≠ 65 ∧ j ≠ 69 ∧ j ≠ 70 ∧ j ≠ 71 ∧ j ≠ 72 → E1 j = E j) ∧ (∃ h9 : Int32, E1 65 = mO g kp fi h9 (nI (cnt (pU M) n)) bs bb bf ty at9 nu) ∧ (∃ fa9 : Nat → Int32, E1 69 = .inl (xI g, 3, .inl fa9)) ∧ ∃ (fr9 fl9 fo9 : Nat → Int32) (RW LG : Nat → Nat), E1 70 = .inl (xI g, 11, .inl fr9) ∧ E1 71 = .inl (xI g, 10, .inl fl9) ∧ E1 72 = .inl (xI g, 10, .inl fo9) ∧ ordP M n fo9 ∧ tw M n (cnt (pU M) n) RW LG 0 ∧ (∀ p, p ≤ (cnt (pU M) n) → fr9 p = nI (RW p)) ∧ ∀ p, p < (cnt (pU M) n) → fl9 p = nI (LG p))) ([.ref (xad g 65)] : List Value).toArray s 0 0 (xA (xad g))) (F0 m 40 ls []) := by
          intro d
          induction d with
          | zero => intro m7 r t fr fl fa h9 EL H locs hm7 hr11 htf g2p g3p hk hg hd; exact absurd hd (Nat.not_lt_zero _)
          | succ d ih40 =>
            intro m7 r t fr fl fa h9 EL H locs hm7 hr11 htf g2p g3p hk hg hd h65 h66 h69 h70 h71 h72 hfr hP hS ls hl
            refine lv_iload_n S.1 S.2.1 dX7_findsTrack_40 rfl (lv_at hl 0 rfl) ?_
            refine lv_if_le (tgt := 101) S.1 S.2.1 dX7_findsTrack_41 (by decide) (fun c41 => ?_) (fun c41 => ?_)
            · skip
              have hm0 : m7 = 0 := by have h := c41; rcases Nat.eq_zero_or_pos m7 with h0 | h0; exact h0; exact absurd c41 (nI_nle h0 (by omega))
              rw [hm0] at htf
              obtain ⟨hrow, hr1, ht1, ht2⟩ := htw.row hpo htf
              have hRt := htw.2.1 (p + t) (by omega) ht2
              refine lv_iinc (v := (nI p - 1)) (lv' := [(1, .int (nI p - 1)), (2, .int (nI m7)), (0, .ref (xad g 65))]) S.1 S.2.1 dX7_findsTrack_101 hl (k := 1) rfl (by rw [Int32.sub_eq_add_neg]; rfl) (by decide) rfl (fun ls hl => ?_)
              refine lv_goto (tgt := 21) S.1 S.2.1 dX7_findsTrack_104 (by decide) ?_
              exact ih21 p (va_up RW p r) (va_up LG p t) fr fl fa h9 _ _ _ (by omega) hrow (fun k h1 h2 => by rcases Nat.lt_or_ge p k with e | e; rw [va_up_ne _ _ (by omega)]; exact hk k e h2; rw [show k = p by omega, va_up_self]; exact g2p) (fun k h1 h2 => by rcases Nat.lt_or_ge p k with e | e; rw [va_up_ne _ _ (by omega)]; exact hg k e h2; rw [show k = p by omega, va_up_self]; exact g3p (by omega)) (by omega) h65 h66 h69 h70 h71 h72 hfr hP hS ls (lv_sub hl [0, 2] rfl)
            · skip
              obtain ⟨m8, rfl⟩ : ∃ z, m7 = z + 1 := ⟨m7 - 1, by have : ¬ m7 = 0 := fun h => c41 (by rw [h]; decide); omega⟩
              have hfrm := hk (p + (m8 + 1)) (by omega) (by omega)
              have hRm := htw.2.1 (p + (m8 + 1)) (by omega) (by omega)
              have hcmp : fr p ≤ 1 + fr (p + (m8 + 1)) ↔ r ≤ 1 + RW (p + (m8 + 1)) := by rw [hfrm, g2p, show (1 : Int32) = nI 1 from rfl, nI_add]; exact nI_leI (by omega) (by omega)
              refine lv_iconst (v := 1) S.1 S.2.1 dX7_findsTrack_44 (by decide) ?_
              refine lv_aload_n S.1 S.2.1 dX7_findsTrack_45 rfl (lv_at hl 2 rfl) ?_
              refine x_get S hK hP dX7_findsTrack_46 h65 (by decide) (RX7, TX7, 19) rfl hin7 7 (by decide) fl22 rfl ?_
              refine lv_iload_n S.1 S.2.1 dX7_findsTrack_49 rfl (lv_at hl 1 rfl) ?_
              refine lv_iload_n S.1 S.2.1 dX7_findsTrack_50 rfl (lv_at hl 0 rfl) ?_
              refine lv_iadd S.1 S.2.1 dX7_findsTrack_51 ?_
              refine x_iald S hK hP dX7_findsTrack_52 h70 (by decide) (j := (p + (m8 + 1))) (nI_add p (m8 + 1)) (by omega) (by decide) ?_
              refine lv_iadd S.1 S.2.1 dX7_findsTrack_53 ?_
              refine lv_aload_n S.1 S.2.1 dX7_findsTrack_54 rfl (lv_at hl 2 rfl) ?_
              refine x_get S hK hP dX7_findsTrack_55 h65 (by decide) (RX7, TX7, 19) rfl hin7 7 (by decide) fl22 rfl ?_
              refine lv_iload_n S.1 S.2.1 dX7_findsTrack_58 rfl (lv_at hl 1 rfl) ?_
              refine x_iald S hK hP dX7_findsTrack_59 h70 (by decide) (j := p) rfl (by omega) (by decide) ?_
              refine lv_icmp_ge (tgt := 95) S.1 S.2.1 dX7_findsTrack_60 (by decide) (fun c60 => ?_) (fun c60 => ?_)
              · skip
                refine lv_iinc (v := nI m8) (lv' := [(2, .int (nI m8)), (1, .int (nI p)), (0, .ref (xad g 65))]) S.1 S.2.1 dX7_findsTrack_95 hl (k := 0) rfl (show nI (m8 + 1) + Int32.ofInt (-1) = _ from by rw [← nI_pred m8, Int32.sub_eq_add_neg]; rfl) (by decide) rfl (fun ls hl => ?_)
                refine lv_goto (tgt := 40) S.1 S.2.1 dX7_findsTrack_98 (by decide) ?_
                exact ih40 m8 r t fr fl fa h9 _ _ _ (by omega) hr11 (htf.keep (by omega) (fun h => by first | exact absurd (hcmp.mp c60) (by have := h.1; omega) | exact hr66.f c69 h.2)) g2p g3p hk hg (by omega) h65 h66 h69 h70 h71 h72 hfr hP hS ls (lv_sub hl [0, 1, 2] rfl)
              · skip
                refine lv_aload_n S.1 S.2.1 dX7_findsTrack_63 rfl (lv_at hl 2 rfl) ?_
                refine lv_iload_n S.1 S.2.1 dX7_findsTrack_64 rfl (lv_at hl 1 rfl) ?_
                refine lv_iload_n S.1 S.2.1 dX7_findsTrack_65 rfl (lv_at hl 0 rfl) ?_
                refine x_qi (va_runV (As := [.int (nI p), .int (nI (m8 + 1))]) (rest := []) S (c_X7_fitsAsRow l g hJ EL h65 h66 hN h69 h72 ho (p := p) (m9 := m8 + 1) (by omega)) (cwV 2 S.2.2.2.2 gX7_findsTrack_X7_fitsAsRow rfl rfl rfl (by decide +kernel) ⟨Nat.le_of_ble_eq_true rfl, Nat.le_of_ble_eq_true rfl⟩) (x_preV hK hP h65 (by decide) rfl) rfl rfl hl.1 rfl (lv_room (Nat.le_of_ble_eq_true rfl)) dX7_findsTrack_66 ⟨Nat.le_of_ble_eq_true rfl, Nat.le_of_ble_eq_true rfl⟩) hS (fun r66 E1_3 H locs hq66 hP hS => ?_)
                obtain ⟨hfr66, ⟨h9b, fa9, h65, h69⟩, hr66⟩ := hq66
                have h66 : E1_3 66 = .inl (xI g, 71, .inl f) := (hfr66 66 (by decide) (by decide)).trans h66
                have h70 : E1_3 70 = .inl (xI g, 11, .inl fr) := (hfr66 70 (by decide) (by decide)).trans h70
                have h71 : E1_3 71 = .inl (xI g, 10, .inl fl) := (hfr66 71 (by decide) (by decide)).trans h71
                have h72 : E1_3 72 = .inl (xI g, 10, .inl fo) := (hfr66 72 (by decide) (by decide)).trans h72
                have hfr : ∀ j, j ≠ 65 ∧ j ≠ 69 ∧ j ≠ 70 ∧ j ≠ 71 ∧ j ≠ 72 → E1_3 j = E j := fun j hj => (hfr66 j hj.1 hj.2.1).trans (hfr j hj)
                refine lv_if_eq (tgt := 95) S.1 S.2.1 dX7_findsTrack_69 (by decide) (fun c69 => ?_) (fun c69 => ?_)
                · skip
                  refine lv_iinc (v := nI m8) (lv' := [(2, .int (nI m8)), (1, .int (nI p)), (0, .ref (xad g 65))]) S.1 S.2.1 dX7_findsTrack_95 hl (k := 0) rfl (show nI (m8 + 1) + Int32.ofInt (-1) = _ from by rw [← nI_pred m8, Int32.sub_eq_add_neg]; rfl) (by decide) rfl (fun ls hl => ?_)
                  refine lv_goto (tgt := 40) S.1 S.2.1 dX7_findsTrack_98 (by decide) ?_
                  exact ih40 m8 r t fr fl fa9 h9b _ _ _ (by omega) hr11 (htf.keep (by omega) (fun h => by first | exact absurd (hcmp.mp c60) (by have := h.1; omega) | exact hr66.f c69 h.2)) g2p g3p hk hg (by omega) h65 h66 h69 h70 h71 h72 hfr hP hS ls (lv_sub hl [0, 1, 2] rfl)
                · skip
                  refine lv_aload_n S.1 S.2.1 dX7_findsTrack_72 rfl (lv_at hl 2 rfl) ?_
                  refine x_get S hK hP dX7_findsTrack_73 h65 (by decide) (RX7, TX7, 19) rfl hin7 7 (by decide) fl22 rfl ?_
                  refine lv_iload_n S.1 S.2.1 dX7_findsTrack_76 rfl (lv_at hl 1 rfl) ?_
                  refine lv_iconst (v := 1) S.1 S.2.1 dX7_findsTrack_77 (by decide) ?_
                  refine lv_aload_n S.1 S.2.1 dX7_findsTrack_78 rfl (lv_at hl 2 rfl) ?_
                  refine x_get S hK hP dX7_findsTrack_79 h65 (by decide) (RX7, TX7, 19) rfl hin7 7 (by decide) fl22 rfl ?_
                  refine lv_iload_n S.1 S.2.1 dX7_findsTrack_82 rfl (lv_at hl 1 rfl) ?_
                  refine lv_iload_n S.1 S.2.1 dX7_findsTrack_83 rfl (lv_at hl 0 rfl) ?_
                  refine lv_iadd S.1 S.2.1 dX7_findsTrack_84 ?_
                  refine x_iald S hK hP dX7_findsTrack_85 h70 (by decide) (j := (p + (m8 + 1))) (nI_add p (m8 + 1)) (by omega) (by decide) ?_
                  refine lv_iadd S.1 S.2.1 dX7_findsTrack_86 ?_
                  refine x_iast S hK hJ hP hS dX7_findsTrack_87 h70 (by decide) (j := p) rfl (by omega) (by decide) (fun H locs E1_4 hu hP hS => ?_)
                  have h65 : E1_4 65 = mO g kp fi h9b (nI (cnt (pU M) n)) bs bb bf ty at9 nu := (hu.2 _ (by omega)).trans h65
                  have h66 : E1_4 66 = .inl (xI g, 71, .inl f) := (hu.2 _ (by omega)).trans h66
                  have h69 : E1_4 69 = .inl (xI g, 3, .inl fa9) := (hu.2 _ (by omega)).trans h69
                  have h70 : E1_4 70 = .inl (xI g, 11, .inl (upd fr p (1 + (fr (p + (m8 + 1)))))) := hu.1
                  have h71 : E1_4 71 = .inl (xI g, 10, .inl fl) := (hu.2 _ (by omega)).trans h71
                  have h72 : E1_4 72 = .inl (xI g, 10, .inl fo) := (hu.2 _ (by omega)).trans h72
                  have hfr : ∀ j, j ≠ 65 ∧ j ≠ 69 ∧ j ≠ 70 ∧ j ≠ 71 ∧ j ≠ 72 → E1_4 j = E j := fun j hj => (hu.2 j (by omega)).trans (hfr j hj)
                  refine lv_aload_n S.1 S.2.1 dX7_findsTrack_88 rfl (lv_at hl 2 rfl) ?_
                  refine x_get S hK hP dX7_findsTrack_89 h65 (by decide) (RX7, TX7, 19) rfl hin7 8 (by decide) fl25 rfl ?_
                  refine lv_iload_n S.1 S.2.1 dX7_findsTrack_92 rfl (lv_at hl 1 rfl) ?_
                  refine lv_iload_n S.1 S.2.1 dX7_findsTrack_93 rfl (lv_at hl 0 rfl) ?_
                  refine x_iast S hK hJ hP hS dX7_findsTrack_94 h71 (by decide) (j := p) rfl (by omega) (by decide) (fun H locs E1_5 hu hP hS => ?_)
                  have h65 : E1_5 65 = mO g kp fi h9b (nI (cnt (pU M) n)) bs bb bf ty at9 nu := (hu.2 _ (by omega)).trans h65
                  have h66 : E1_5 66 = .inl (xI g, 71, .inl f) := (hu.2 _ (by omega)).trans h66
                  have h69 : E1_5 69 = .inl (xI g, 3, .inl fa9) := (hu.2 _ (by omega)).trans h69
                  have h70 : E1_5 70 = .inl (xI g, 11, .inl (upd fr p (1 + (fr (p + (m8 + 1)))))) := (hu.2 _ (by omega)).trans h70
                  have h71 : E1_5 71 = .inl (xI g, 10, .inl (upd fl p (nI (m8 + 1)))) := hu.1
                  have h72 : E1_5 72 = .inl (xI g, 10, .inl fo) := (hu.2 _ (by omega)).trans h72
                  have hfr : ∀ j, j ≠ 65 ∧ j ≠ 69 ∧ j ≠ 70 ∧ j ≠ 71 ∧ j ≠ 72 → E1_5 j = E j := fun j hj => (hu.2 j (by omega)).trans (hfr j hj)
                  refine lv_iinc (v := nI m8) (lv' := [(2, .int (nI m8)), (1, .int (nI p)), (0, .ref (xad g 65))]) S.1 S.2.1 dX7_findsTrack_95 hl (k := 0) rfl (show nI (m8 + 1) + Int32.ofInt (-1) = _ from by rw [← nI_pred m8, Int32.sub_eq_add_neg]; rfl) (by decide) rfl (fun ls hl => ?_)
                  refine lv_goto (tgt := 40) S.1 S.2.1 dX7_findsTrack_98 (by decide) ?_
                  exact ih40 m8 (1 + RW (p + (m8 + 1))) (m8 + 1) _ _ fa9 h9b _ _ _ (by omega) (by omega) (htf.take (by omega) (Nat.not_le.mp (fun h => c60 (hcmp.mpr h))) (hr66.t c69)) (by rw [pk_us, hfrm]; exact nI_add 1 _) (fun _ => pk_us) (fun k h1 h2 => by rw [pk_un (by omega)]; exact hk k h1 h2) (fun k h1 h2 => by rw [pk_un (by omega)]; exact hg k h1 h2) (by omega) h65 h66 h69 h70 h71 h72 hfr hP hS ls (lv_sub hl [0, 1, 2] rfl)
        exact loop40 _ _ 11 0 _ fl fa h9 _ _ _ (by omega) (Nat.le_refl _) (Or.inl ⟨rfl, fun m1 h1 h2 => by omega⟩) pk_us (fun h => absurd h (Nat.lt_irrefl _)) (fun k h1 h2 => by rw [pk_un (by omega)]; exact hk k (by omega) h2) (fun k h1 h2 => hg k (by omega) h2) (Nat.lt_succ_self _) h65 h66 h69 h70 h71 h72 hfr hP hS ls (lv_sub hl [0, 1, 2] rfl)
  exact loop21 _ _ (fun _ => 0) (fun _ => 0) _ fl fa hi _ _ _ (Nat.le_refl _) ⟨rfl, fun p _ _ => Nat.zero_le _, fun p h1 h2 => by omega⟩ (fun k h1 h2 => by rw [show k = (cnt (pU M) n) by omega]; exact pk_us) (fun k h1 h2 => by omega) (Nat.lt_succ_self _) h65 h66 h69 h70 h71 h72 hfr hP hS ls (lv_sub hl [0, 1] rfl)
