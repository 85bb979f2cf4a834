/-! THE REFERENCE: the queries -/
theorem abL_neg (x : Int64) : abL (-x) = abL x := by
  have hl := Int64.toInt_lt x
  have hg := Int64.le_toInt x
  unfold abL
  rw [Int64.neg_neg]
  by_cases hm : x.toInt = -9223372036854775808
  · have e : x = -9223372036854775808 := Int64.toInt_inj.mp (by rw [hm]; decide)
    subst e
    decide
  · have hn : (-x).toInt = -x.toInt := by
      rw [Int64.toInt_neg]
      exact Int.bmod_eq_of_le (by omega) (by omega)
    by_cases h1 : 0 < x
    · have h2 : ¬ 0 < -x := by
        rw [L_pos] at h1 ⊢
        omega
      rw [if_pos h1, if_neg h2]
    · by_cases h2 : 0 < -x
      · rw [if_neg h1, if_pos h2]
      · rw [if_neg h1, if_neg h2]
        have h3 : x.toInt = 0 := by
          rw [L_pos] at h1 h2
          omega
        exact Int64.toInt_inj.mp (by rw [hn, h3]; rfl)
theorem up_perm {M : Nat → Nat → Int32} {i j k a b c : Nat} (h : srt i j k a b c) : (loN M i j k = loN M a b c ∧ ∀ w u, upN M w i j k u = upN M w a b c u) ∨ (loN M i j k = -loN M a b c ∧ ∀ w u, upN M w i j k u = -upN M w a b c u) := by
  obtain ⟨-, -, h⟩ := h
  unfold loN upN
  rcases h with ⟨rfl, rfl, rfl⟩ | ⟨rfl, rfl, rfl⟩ | ⟨rfl, rfl, rfl⟩ | ⟨rfl, rfl, rfl⟩ | ⟨rfl, rfl, rfl⟩ | ⟨rfl, rfl, rfl⟩
  · exact Or.inl ⟨rfl, fun w u => rfl⟩
  · refine Or.inr ⟨?_, fun w u => ?_⟩
    · generalize tmL M i = x
      generalize tmL M j = y
      generalize tmL M k = z
      grind
    · generalize (M (1 + w) i).toInt64 = p
      generalize (M (1 + w) j).toInt64 = q
      generalize (M (1 + w) k).toInt64 = r
      generalize tmL M i = x
      generalize tmL M j = y
      generalize tmL M k = z
      grind
  · refine Or.inr ⟨?_, fun w u => ?_⟩
    · generalize tmL M i = x
      generalize tmL M j = y
      generalize tmL M k = z
      grind
    · generalize (M (1 + w) i).toInt64 = p
      generalize (M (1 + w) j).toInt64 = q
      generalize (M (1 + w) k).toInt64 = r
      generalize tmL M i = x
      generalize tmL M j = y
      generalize tmL M k = z
      grind
  · refine Or.inl ⟨?_, fun w u => ?_⟩
    · generalize tmL M i = x
      generalize tmL M j = y
      generalize tmL M k = z
      grind
    · generalize (M (1 + w) i).toInt64 = p
      generalize (M (1 + w) j).toInt64 = q
      generalize (M (1 + w) k).toInt64 = r
      generalize tmL M i = x
      generalize tmL M j = y
      generalize tmL M k = z
      grind
  · refine Or.inl ⟨?_, fun w u => ?_⟩
    · generalize tmL M i = x
      generalize tmL M j = y
      generalize tmL M k = z
      grind
    · generalize (M (1 + w) i).toInt64 = p
      generalize (M (1 + w) j).toInt64 = q
      generalize (M (1 + w) k).toInt64 = r
      generalize tmL M i = x
      generalize tmL M j = y
      generalize tmL M k = z
      grind
  · refine Or.inr ⟨?_, fun w u => ?_⟩
    · generalize tmL M i = x
      generalize tmL M j = y
      generalize tmL M k = z
      grind
    · generalize (M (1 + w) i).toInt64 = p
      generalize (M (1 + w) j).toInt64 = q
      generalize (M (1 + w) k).toInt64 = r
      generalize tmL M i = x
      generalize tmL M j = y
      generalize tmL M k = z
      grind
theorem hit_srt {M : Nat → Nat → Int32} {i j k a b c q : Nat} (h : srt i j k a b c) : hitB M i j k q = hitB M a b c q := by
  have key : abL (loN M i j k) = abL (loN M a b c) ∧ ∀ w, abL (awN M w i j k q) = abL (awN M w a b c q) := by
    rcases up_perm (M := M) h with ⟨h1, h2⟩ | ⟨h1, h2⟩
    · refine ⟨by rw [h1], fun w => ?_⟩
      unfold awN
      rw [h1, h2]
    · refine ⟨by rw [h1, abL_neg], fun w => ?_⟩
      have : awN M w i j k q = -awN M w a b c q := by
        unfold awN
        rw [h1, h2]
        generalize (M (1 + w) q).toInt64 = p
        generalize upN M w a b c (tmL M q) = x
        generalize loN M a b c = y
        grind
      rw [this, abL_neg]
  unfold hitB
  rw [key.1, key.2, key.2]
theorem srt_n {i j k a b c n : Nat} (h : srt i j k a b c) (hi : i < n) (hj : j < n) (hk : k < n) : a < b ∧ b < c ∧ c < n := by
  obtain ⟨h1, h2, h3⟩ := h
  omega
theorem prt_srt {n : Nat} {M : Nat → Nat → Int32} (hv : vld n M) {i j k a b c v : Nat} {u : Int64} {q : Int32} (h : srt i j k a b c) (hi : i < n) (hj : j < n) (hk : k < n) : -9223372036854775808 < (loN M i j k).toInt ∧ ¬ loN M i j k = 0 ∧ prt (sgL (loN M i j k) * upN M v i j k u) (loN M i j k).toInt.natAbs q = prt (upN M v a b c u) (loN M a b c).toInt.toNat q := by
  obtain ⟨h1, h2, h3⟩ := srt_n h hi hj hk
  have hp := L_pos.mp (lo_pos hv h1 h2 h3)
  have hl := Int64.toInt_lt (loN M a b c)
  have e0 : (0 : Int64).toInt = 0 := by decide
  rcases up_perm (M := M) h with ⟨p1, p2⟩ | ⟨p1, p2⟩
  · rw [p1, p2]
    refine ⟨by omega, fun g => by rw [g, e0] at hp; omega, ?_⟩
    have hs : sgL (loN M a b c) = 1 := if_neg (fun g => by rw [Int64.lt_iff_toInt_lt, e0] at g; omega)
    rw [hs, Int64.one_mul, show (loN M a b c).toInt.natAbs = (loN M a b c).toInt.toNat by omega]
  · have hn : (-loN M a b c).toInt = -(loN M a b c).toInt := by
      rw [Int64.toInt_neg]
      exact Int.bmod_eq_of_le (by omega) (by omega)
    rw [p1, p2]
    refine ⟨by omega, fun g => by rw [g, e0] at hn; omega, ?_⟩
    have hs : sgL (-loN M a b c) = -1 := if_pos (by rw [Int64.lt_iff_toInt_lt, e0, hn]; omega)
    have hm : (-1 : Int64) * -upN M v a b c u = upN M v a b c u := by
      generalize upN M v a b c u = x
      grind
    rw [hs, hm, hn, show (-(loN M a b c).toInt).natAbs = (loN M a b c).toInt.toNat by omega]
theorem best3 {fa : Nat → Int32} {i j k v : Nat} {x y : Int32} (hv : v < 3) (h0 : fa 0 = nI i) (h1 : fa 1 = nI j) (h2 : fa 2 = nI k) : fa v = if nI v = 3 then x else if nI v = 4 then y else if nI v = 0 then nI i else if nI v = 1 then nI j else nI k := by
  have : v = 0 ∨ v = 1 ∨ v = 2 := by omega
  rcases this with rfl | rfl | rfl
  · rw [if_neg (by decide), if_neg (by decide), if_pos (by decide)]
    exact h0
  · rw [if_neg (by decide), if_neg (by decide), if_neg (by decide), if_pos (by decide)]
    exact h1
  · rw [if_neg (by decide), if_neg (by decide), if_neg (by decide), if_neg (by decide)]
    exact h2
theorem arc3 {fa : Nat → Int32} {i j k v : Nat} (hv3 : 3 ≤ v) (hv : v ≤ 5) (h0 : fa 0 = nI i) (h1 : fa 1 = nI j) (h2 : fa 2 = nI k) : fa (v - 3) = if nI v = 3 then nI i else if nI v = 4 then nI j else nI k := by
  have : v = 3 ∨ v = 4 ∨ v = 5 := by omega
  rcases this with rfl | rfl | rfl
  · rw [if_pos (by decide)]
    exact h0
  · rw [if_neg (by decide), if_pos (by decide)]
    exact h1
  · rw [if_neg (by decide), if_neg (by decide)]
    exact h2
def sp_rw (M : Nat → Nat → Int32) (n : Nat) (P : Nat → Bool) (w r : Int32) : Prop := (w = 0 ∧ ∃ e, e < n ∧ P e = true ∧ (∀ q, q < e → ¬ P q = true) ∧ r = nI e) ∨ (w = 1 ∧ ∃ e, e < n ∧ P e = true ∧ (∀ q, e < q → q < n → ¬ P q = true) ∧ r = nI e) ∨ (w = 2 ∧ r = nI (mk P n)) ∨ ((¬ w = 0 ∧ ¬ w = 1 ∧ ¬ w = 2) ∧ (((∀ i j k, ¬ trio P n i j k) ∧ r = -5) ∨ ∃ i j k, isBest M P n i j k ∧ r = if w = 3 then nI i else if w = 4 then nI j else nI k))
theorem sp_rw.row {M : Nat → Nat → Int32} {n a b : Nat} {P : Nat → Bool} {w r : Int32} (h : sp_rw M n P w r) (hP : ∀ q, q < n → P q = pB M a b q) : sp_row M n a b w r := by
  rcases h with ⟨h0, e, h1, h2, h3, h4⟩ | ⟨h0, e, h1, h2, h3, h4⟩ | ⟨h0, h1⟩ | ⟨h0, h1⟩
  · exact Or.inl ⟨h0, e, h1, by rw [← hP e h1]; exact h2, fun q hq => by rw [← hP q (by omega)]; exact h3 q hq, h4⟩
  · exact Or.inr (Or.inl ⟨h0, e, h1, by rw [← hP e h1]; exact h2, fun q hq hqn => by rw [← hP q hqn]; exact h3 q hq hqn, h4⟩)
  · exact Or.inr (Or.inr (Or.inl ⟨h0, by rw [h1, mk_congr hP]⟩))
  · refine Or.inr (Or.inr (Or.inr ⟨h0, ?_⟩))
    rcases h1 with ⟨h1, h2⟩ | ⟨i, j, k, h1, h2⟩
    · exact Or.inl ⟨fun i j k ht => h1 i j k (trio_congr (fun q hq => (hP q hq).symm) ht), h2⟩
    · exact Or.inr ⟨i, j, k, isBest_congr hP h1, h2⟩
theorem pC_iff {M : Nat → Nat → Int32} {p m q : Nat} : pC M p m q = true ↔ pU M q = true ∧ p ≤ cnt (pU M) q ∧ cnt (pU M) q < p + m := by
  unfold pC
  simp only [Bool.and_eq_true, decide_eq_true_eq]
theorem row_lo {M : Nat → Nat → Int32} {n p m : Nat} {fo : Nat → Int32} (ho : ordP M n fo) (hm : 0 < m) (hp : p < cnt (pU M) n) : ∃ e, e < n ∧ pC M p m e = true ∧ (∀ q, q < e → ¬ pC M p m q = true) ∧ fo p = nI e := by
  obtain ⟨e, h1, h2, h3⟩ := op_ex n p hp
  refine ⟨e, h1, pC_iff.mpr ⟨h2, by omega, by omega⟩, fun q hq h => ?_, by rw [← h3]; exact ho e h1 h2⟩
  obtain ⟨g1, g2, g3⟩ := pC_iff.mp h
  have := cnt_lt hq g1
  omega
theorem row_hi {M : Nat → Nat → Int32} {n p m : Nat} {fo : Nat → Int32} (ho : ordP M n fo) (hm : 0 < m) (hp : p + m ≤ cnt (pU M) n) : ∃ e, e < n ∧ pC M p m e = true ∧ (∀ q, e < q → q < n → ¬ pC M p m q = true) ∧ fo (p + m - 1) = nI e := by
  obtain ⟨e, h1, h2, h3⟩ := op_ex n (p + m - 1) (show p + m - 1 < cnt (pU M) n by omega)
  refine ⟨e, h1, pC_iff.mpr ⟨h2, by omega, by omega⟩, fun q hq hqn h => ?_, by rw [← h3]; exact ho e h1 h2⟩
  obtain ⟨g1, g2, g3⟩ := pC_iff.mp h
  have := cnt_lt hq h2
  omega
theorem itm_s {o w : Nat} {LG : Nat → Nat} (h : itm o LG w < o) : itm o LG (w + 1) = itm o LG w + LG (itm o LG w) := if_pos h
theorem itm_le {M : Nat → Nat → Int32} {n : Nat} {RW LG : Nat → Nat} (h : tw M n (cnt (pU M) n) RW LG 0) (w : Nat) : itm (cnt (pU M) n) LG w ≤ cnt (pU M) n := by
  obtain ⟨h1, h2⟩ := itm_itr h w
  rw [← h2]
  exact cnt_mo h1
/-- a row by places is the row by photos -/
theorem itm_row {M : Nat → Nat → Int32} {n : Nat} {RW LG : Nat → Nat} (h : tw M n (cnt (pU M) n) RW LG 0) {w : Nat} (hlt : itm (cnt (pU M) n) LG w < cnt (pU M) n) : ∀ q, q < n → pC M (itm (cnt (pU M) n) LG w) (LG (itm (cnt (pU M) n) LG w)) q = pB M (itr n (twT M n LG) w 0) (twT M n LG (itr n (twT M n LG) w 0)) q := by
  intro q _
  obtain ⟨h1, h2⟩ := itm_itr h w
  obtain ⟨t1, t2, t3⟩ := twT_cnt h h1
  rw [h2, if_pos hlt] at t3
  rw [pB_pC t1, h2, t3, show itm (cnt (pU M) n) LG w + LG (itm (cnt (pU M) n) LG w) - itm (cnt (pU M) n) LG w = LG (itm (cnt (pU M) n) LG w) by omega]
theorem ord_at {M : Nat → Nat → Int32} {n c k : Nat} {fo : Nat → Int32} (hn : n ≤ 10) (ho : ordP M n fo) (hk : k < n) (hu : pU M k = true) (hc : c ≤ cnt (pU M) k) (h : fo c = nI k) : c = cnt (pU M) k := by
  have hlt := cnt_lt hk hu
  obtain ⟨e, h1, h2, h3⟩ := op_ex n c (show c < cnt (pU M) n by omega)
  have := ho e h1 h2
  rw [h3, h] at this
  have := nI_inj (by omega) (by omega) this
  rw [this, h3]
/-- the longest row from a photo on -/
theorem long_row {M : Nat → Nat → Int32} {n k m : Nat} (hk : k < n) (hu : pU M k = true) (hm : 1 ≤ m) (hpm : cnt (pU M) k + m ≤ cnt (pU M) n) (hf : fitC M n (cnt (pU M) k) m) (hno : ∀ m', m < m' → cnt (pU M) k + m' ≤ cnt (pU M) n → ¬ fitC M n (cnt (pU M) k) m') : ∃ e, k < e ∧ e ≤ n ∧ fitR M n k e ∧ (∀ e', e < e' → e' ≤ n → ¬ fitR M n k e') ∧ nI m = nI (cnt (pB M k e) n) := by
  have hc := nxt_eq (P := pU M) (k := n) hpm
  have hle := nxt_le (pU M) (cnt (pU M) k + m) n
  have hke : k < nxt (pU M) (cnt (pU M) k + m) n := Nat.not_le.mp fun g => by
    have := cnt_mo (P := pU M) g
    omega
  have key : ∀ b, k < b → ∀ q, q < n → pB M k b q = pC M (cnt (pU M) k) (cnt (pU M) b - cnt (pU M) k) q := fun b hb q _ => pB_pC (by omega)
  have e1 : cnt (pU M) (nxt (pU M) (cnt (pU M) k + m) n) - cnt (pU M) k = m := by omega
  refine ⟨nxt (pU M) (cnt (pU M) k + m) n, hke, hle, ?_, fun e' h1 h2 h3 => ?_, ?_⟩
  · refine fitS_congr (fun q hq => (key _ hke q hq).symm) ?_
    rw [e1]
    exact hf
  · have h4 := nxt_gt (pU M) (cnt (pU M) k + m) n e' h1 h2
    have h5 := cnt_mo (P := pU M) h2
    refine hno (cnt (pU M) e' - cnt (pU M) k) (by omega) (by omega) ?_
    exact fitS_congr (fun q hq => key e' (by omega) q hq) h3
  · rw [cnt_congr (fun q hq => key _ hke q hq), e1, cnt_pCe hpm]
theorem bit_bI {P : Nat → Bool} {n k : Nat} (hn : n ≤ 10) (hk : k < n) : (nI (mk P n) >>> (nI k &&& 31)) &&& 1 = bI (P k) := by
  rw [bit_at (mk_lt10 P hn) (by omega), mk_in hk]
  rfl
set_option maxHeartbeats 4000000 in
set_option maxRecDepth 100000 in
theorem c_X7_arc (l : Launch) (g : xG) (hJ : xJ (xad g)) (E : Nat → va_E) {z : xS} (hz : sM g E z) (hv : vS z) (a b c9 t w q : Int32) : Met l yX7_arc wsX7_arc ({ frames := 3, cells := 0, slots := 0, locals := 66 }) (xPc g [.ref (xad g 65), .int a, .int b, .int c9, .int t, .int w, .int q] E) (xQl g (fun r E1 => sp_arc z a b c9 t w q r ∧ sM g E1 z ∧ ∀ j, j < 65 → E1 j = E j)) 0 0 (xA (xad g)) := by
  refine x_met (ws' := _) (by decide) rfl (Nat.le_of_ble_eq_true rfl) ?_
  intro pz ez s m below meth cz ls S hr hlocks hP hK hl
  have hl : lv_has ls 7 [(0, .ref (xad g 65)), (1, .int a), (2, .int b), (3, .int c9), (4, .int t), (5, .int w), (6, .int q)] := hl
  have hS : va_S (xA (xad g)) s.heap s.heap [] := va_S.rf
  obtain ⟨hi, od, bs, bb, bf, at9, nu, f, fh, fs, fa, fr, fl, fo, fd, h65, h66, h67, h68, h69, h70, h71, h72, h73, h74, hN, hHi, hSl⟩ := id hz
  have hn := hN.1
  have hn0 := hN.n0
  have hv1 := hv.1.2
  have hfm : ∀ j, j < 65 → E j = E j := fun _ _ => rfl
  have hs4 := hv.2.1.1
  have htl := hv.2.2.2
  refine lv_aload_n S.1 S.2.1 dX7_arc_0 rfl (lv_at hl 0 rfl) ?_
  refine lv_iload_n S.1 S.2.1 dX7_arc_1 rfl (lv_at hl 1 rfl) ?_
  refine x_si (va_runV (As := [.int a]) (rest := []) S (c_X7_no l g E h65 h66 hN a) (cwV 1 S.2.2.2.2 gX7_arc_X7_no rfl rfl rfl (by decide +kernel) ⟨Nat.le_of_ble_eq_true rfl, Nat.le_of_ble_eq_true rfl⟩) (x_preV hK hP h65 (by decide) rfl) rfl rfl hl.1 rfl (lv_room (Nat.le_of_ble_eq_true rfl)) dX7_arc_2 ⟨Nat.le_of_ble_eq_true rfl, Nat.le_of_ble_eq_true rfl⟩) (fun r2 hr2 => ?_)
  refine lv_if_ne (tgt := 24) S.1 S.2.1 dX7_arc_5 (by decide) (fun c5 => ?_) (fun c5 => ?_)
  · skip
    refine lv_ldc2 S.1 S.2.1 S.2.2.2.1 (S.2.2.2.2 (.constantLong RX7 70 (-1)) (by decide +kernel)) dX7_arc_24 ?_
    exact x_lret S hr hlocks hP hS dX7_arc_27 (⟨Or.inl ⟨fun h => by first | exact hr18.t c21 h.2.2 | exact hr10.t c13 h.2.1 | exact hr2.t c5 h.1, rfl⟩, sM.mk h65 rfl rfl rfl h66 h67 h68 h69 h70 h71 h72 h73 h74 hN hHi hSl, hfm⟩)
  · skip
    refine lv_aload_n S.1 S.2.1 dX7_arc_8 rfl (lv_at hl 0 rfl) ?_
    refine lv_iload_n S.1 S.2.1 dX7_arc_9 rfl (lv_at hl 2 rfl) ?_
    refine x_si (va_runV (As := [.int b]) (rest := []) S (c_X7_no l g E h65 h66 hN b) (cwV 1 S.2.2.2.2 gX7_arc_X7_no rfl rfl rfl (by decide +kernel) ⟨Nat.le_of_ble_eq_true rfl, Nat.le_of_ble_eq_true rfl⟩) (x_preV hK hP h65 (by decide) rfl) rfl rfl hl.1 rfl (lv_room (Nat.le_of_ble_eq_true rfl)) dX7_arc_10 ⟨Nat.le_of_ble_eq_true rfl, Nat.le_of_ble_eq_true rfl⟩) (fun r10 hr10 => ?_)
    refine lv_if_ne (tgt := 24) S.1 S.2.1 dX7_arc_13 (by decide) (fun c13 => ?_) (fun c13 => ?_)
    · skip
      refine lv_ldc2 S.1 S.2.1 S.2.2.2.1 (S.2.2.2.2 (.constantLong RX7 70 (-1)) (by decide +kernel)) dX7_arc_24 ?_
      exact x_lret S hr hlocks hP hS dX7_arc_27 (⟨Or.inl ⟨fun h => by first | exact hr18.t c21 h.2.2 | exact hr10.t c13 h.2.1 | exact hr2.t c5 h.1, rfl⟩, sM.mk h65 rfl rfl rfl h66 h67 h68 h69 h70 h71 h72 h73 h74 hN hHi hSl, hfm⟩)
    · skip
      refine lv_aload_n S.1 S.2.1 dX7_arc_16 rfl (lv_at hl 0 rfl) ?_
      refine lv_iload_n S.1 S.2.1 dX7_arc_17 rfl (lv_at hl 3 rfl) ?_
      refine x_si (va_runV (As := [.int c9]) (rest := []) S (c_X7_no l g E h65 h66 hN c9) (cwV 1 S.2.2.2.2 gX7_arc_X7_no rfl rfl rfl (by decide +kernel) ⟨Nat.le_of_ble_eq_true rfl, Nat.le_of_ble_eq_true rfl⟩) (x_preV hK hP h65 (by decide) rfl) rfl rfl hl.1 rfl (lv_room (Nat.le_of_ble_eq_true rfl)) dX7_arc_18 ⟨Nat.le_of_ble_eq_true rfl, Nat.le_of_ble_eq_true rfl⟩) (fun r18 hr18 => ?_)
      refine lv_if_eq (tgt := 28) S.1 S.2.1 dX7_arc_21 (by decide) (fun c21 => ?_) (fun c21 => ?_)
      · skip
        obtain ⟨i, hi, rfl⟩ := Classical.not_not.mp (hr2.f c5)
        obtain ⟨j, hj, rfl⟩ := Classical.not_not.mp (hr10.f c13)
        obtain ⟨k, hk, rfl⟩ := Classical.not_not.mp (hr18.f c21)
        have hs3 := same3 (i := i) (j := j) (k := k) (by omega) (by omega) (by omega)
        refine lv_iload S.1 S.2.1 dX7_arc_28 (lv_at hl 4 rfl) ?_
        refine lv_iload S.1 S.2.1 dX7_arc_30 (lv_at hl 5 rfl) ?_
        refine lv_iload S.1 S.2.1 dX7_arc_32 (lv_at hl 6 rfl) ?_
        refine x_si (va_runS (As := [.int t, .int w, .int q]) (rest := []) S (c_X7_isAsked l g E t w q) (va_cwS 3 S.2.2.2.2 gX7_arc_X7_isAsked rfl rfl rfl (by decide +kernel) ⟨Nat.le_of_ble_eq_true rfl, Nat.le_of_ble_eq_true rfl⟩) (x_preS hK hP) rfl rfl hl.1 rfl (lv_room (Nat.le_of_ble_eq_true rfl)) dX7_arc_34 ⟨Nat.le_of_ble_eq_true rfl, Nat.le_of_ble_eq_true rfl⟩) (fun r34 hr34 => ?_)
        refine lv_if_eq (tgt := 50) S.1 S.2.1 dX7_arc_37 (by decide) (fun c37 => ?_) (fun c37 => ?_)
        · skip
          refine lv_ldc2 S.1 S.2.1 S.2.2.2.1 (S.2.2.2.2 (.constantLong RX7 187 (-2)) (by decide +kernel)) dX7_arc_50 ?_
          exact x_lret S hr hlocks hP hS dX7_arc_53 (⟨Or.inr ⟨i, j, k, ⟨hi, hj, hk⟩, ⟨rfl, rfl, rfl⟩, Or.inl ⟨by first | exact Or.inr (hr34.f c37) | exact Or.inl (Classical.byContradiction (fun h => hr44.f c47 (fun h9 => h (hs3.mp h9)))), rfl⟩⟩, sM.mk h65 rfl rfl rfl h66 h67 h68 h69 h70 h71 h72 h73 h74 hN hHi hSl, hfm⟩)
        · skip
          refine lv_aload_n S.1 S.2.1 dX7_arc_40 rfl (lv_at hl 0 rfl) ?_
          refine lv_iload_n S.1 S.2.1 dX7_arc_41 rfl (lv_at hl 1 rfl) ?_
          refine lv_iload_n S.1 S.2.1 dX7_arc_42 rfl (lv_at hl 2 rfl) ?_
          refine lv_iload_n S.1 S.2.1 dX7_arc_43 rfl (lv_at hl 3 rfl) ?_
          refine x_si (va_runV (As := [.int (nI i), .int (nI j), .int (nI k)]) (rest := []) S (c_X7_areThree l g E 65 (nI i) (nI j) (nI k)) (cwV 3 S.2.2.2.2 gX7_arc_X7_areThree rfl rfl rfl (by decide +kernel) ⟨Nat.le_of_ble_eq_true rfl, Nat.le_of_ble_eq_true rfl⟩) (x_preV hK hP h65 (by decide) rfl) rfl rfl hl.1 rfl (lv_room (Nat.le_of_ble_eq_true rfl)) dX7_arc_44 ⟨Nat.le_of_ble_eq_true rfl, Nat.le_of_ble_eq_true rfl⟩) (fun r44 hr44 => ?_)
          refine lv_if_ne (tgt := 54) S.1 S.2.1 dX7_arc_47 (by decide) (fun c47 => ?_) (fun c47 => ?_)
          · skip
            have hask := hr34.t c37
            have hnn : ¬ (i = j ∨ i = k ∨ j = k) := fun h => hr44.t c47 (hs3.mpr h)
            obtain ⟨v8, hv8, rfl⟩ := in_nat (m := 1) (by decide) hask.2.1.1 hask.2.1.2
            refine lv_aload_n S.1 S.2.1 dX7_arc_54 rfl (lv_at hl 0 rfl) ?_
            refine lv_iload_n S.1 S.2.1 dX7_arc_55 rfl (lv_at hl 1 rfl) ?_
            refine lv_iload_n S.1 S.2.1 dX7_arc_56 rfl (lv_at hl 2 rfl) ?_
            refine lv_iload_n S.1 S.2.1 dX7_arc_57 rfl (lv_at hl 3 rfl) ?_
            refine x_si (va_runV (As := [.int (nI i), .int (nI j), .int (nI k)]) (rest := []) S (c_X7_areUsable l g E h65 h66 hN hi hj hk) (cwV 3 S.2.2.2.2 gX7_arc_X7_areUsable rfl rfl rfl (by decide +kernel) ⟨Nat.le_of_ble_eq_true rfl, Nat.le_of_ble_eq_true rfl⟩) (x_preV hK hP h65 (by decide) rfl) rfl rfl hl.1 rfl (lv_room (Nat.le_of_ble_eq_true rfl)) dX7_arc_58 ⟨Nat.le_of_ble_eq_true rfl, Nat.le_of_ble_eq_true rfl⟩) (fun r58 hr58 => ?_)
            refine lv_if_eq (tgt := 90) S.1 S.2.1 dX7_arc_61 (by decide) (fun c61 => ?_) (fun c61 => ?_)
            · skip
              refine lv_ldc2 S.1 S.2.1 S.2.2.2.1 (S.2.2.2.2 (.constantLong RX7 196 (-4)) (by decide +kernel)) dX7_arc_90 ?_
              exact x_lret S hr hlocks hP hS dX7_arc_93 (⟨Or.inr ⟨i, j, k, ⟨hi, hj, hk⟩, ⟨rfl, rfl, rfl⟩, Or.inr ⟨fun h => by rcases h with h | h; exact hnn h; exact h hask, Or.inl ⟨hr58.f c61, rfl⟩⟩⟩, sM.mk h65 rfl rfl rfl h66 h67 h68 h69 h70 h71 h72 h73 h74 hN hHi hSl, hfm⟩)
            · skip
              have hs := srt_of (fun h => hnn (Or.inl h)) (fun h => hnn (Or.inr (Or.inl h))) (fun h => hnn (Or.inr (Or.inr h)))
              have hps := prt_srt hv1 (v := v8) (u := t.toInt64) (q := q) hs hi hj hk
              refine lv_aload_n S.1 S.2.1 dX7_arc_64 rfl (lv_at hl 0 rfl) ?_
              refine lv_iload_n S.1 S.2.1 dX7_arc_65 rfl (lv_at hl 1 rfl) ?_
              refine lv_iload_n S.1 S.2.1 dX7_arc_66 rfl (lv_at hl 2 rfl) ?_
              refine lv_iload_n S.1 S.2.1 dX7_arc_67 rfl (lv_at hl 3 rfl) ?_
              refine lv_iload S.1 S.2.1 dX7_arc_68 (lv_at hl 4 rfl) ?_
              refine lv_iload S.1 S.2.1 dX7_arc_70 (lv_at hl 5 rfl) ?_
              refine x_sl (va_runV (As := [.int (nI i), .int (nI j), .int (nI k), .int t, .int (nI v8)]) (rest := []) S (c_X7_upper l g E h65 h66 hN (i := i) (j := j) (k := k) hi hj hk (w := v8) (by omega) t) (cwV 5 S.2.2.2.2 gX7_arc_X7_upper rfl rfl rfl (by decide +kernel) ⟨Nat.le_of_ble_eq_true rfl, Nat.le_of_ble_eq_true rfl⟩) (x_preV hK hP h65 (by decide) rfl) rfl rfl hl.1 rfl (lv_room (Nat.le_of_ble_eq_true rfl)) dX7_arc_72 ⟨Nat.le_of_ble_eq_true rfl, Nat.le_of_ble_eq_true rfl⟩) (fun r72 hr72 => ?_)
              subst hr72
              refine lv_aload_n S.1 S.2.1 dX7_arc_75 rfl (lv_at hl 0 rfl) ?_
              refine lv_iload_n S.1 S.2.1 dX7_arc_76 rfl (lv_at hl 1 rfl) ?_
              refine lv_iload_n S.1 S.2.1 dX7_arc_77 rfl (lv_at hl 2 rfl) ?_
              refine lv_iload_n S.1 S.2.1 dX7_arc_78 rfl (lv_at hl 3 rfl) ?_
              refine x_sl (va_runV (As := [.int (nI i), .int (nI j), .int (nI k)]) (rest := [.long (upN (zM z) v8 i j k t.toInt64)]) S (c_X7_lower l g E h65 h66 hN (i := i) (j := j) (k := k) hi hj hk) (cwV 3 S.2.2.2.2 gX7_arc_X7_lower rfl rfl rfl (by decide +kernel) ⟨Nat.le_of_ble_eq_true rfl, Nat.le_of_ble_eq_true rfl⟩) (x_preV hK hP h65 (by decide) rfl) rfl rfl hl.1 rfl (lv_room (Nat.le_of_ble_eq_true rfl)) dX7_arc_79 ⟨Nat.le_of_ble_eq_true rfl, Nat.le_of_ble_eq_true rfl⟩) (fun r79 hr79 => ?_)
              subst hr79
              refine lv_iload S.1 S.2.1 dX7_arc_82 (lv_at hl 6 rfl) ?_
              refine x_sl (va_runS (As := [.long (upN (zM z) v8 i j k t.toInt64), .long (loN (zM z) i j k), .int q]) (rest := []) S (c_X7_part l g E (u := upN (zM z) v8 i j k t.toInt64) (d9 := loN (zM z) i j k) q (up_bound hv1 (by omega) (by omega) (by omega) (by omega) (by rw [Int32.toInt_toInt64]; exact rng_toInt hask.1)) hps.1 hps.2.1) (va_cwS 3 S.2.2.2.2 gX7_arc_X7_part rfl rfl rfl (by decide +kernel) ⟨Nat.le_of_ble_eq_true rfl, Nat.le_of_ble_eq_true rfl⟩) (x_preS hK hP) rfl rfl hl.1 rfl (lv_room (Nat.le_of_ble_eq_true rfl)) dX7_arc_84 ⟨Nat.le_of_ble_eq_true rfl, Nat.le_of_ble_eq_true rfl⟩) (fun r84 hr84 => ?_)
              refine lv_goto (tgt := 93) S.1 S.2.1 dX7_arc_87 (by decide) ?_
              exact x_lret S hr hlocks hP hS dX7_arc_93 (⟨Or.inr ⟨i, j, k, ⟨hi, hj, hk⟩, ⟨rfl, rfl, rfl⟩, Or.inr ⟨fun h => by rcases h with h | h; exact hnn h; exact h hask, Or.inr ⟨hr58.t c61, _, _, _, v8, hs, by omega, rfl, hr84.trans hps.2.2⟩⟩⟩, sM.mk h65 rfl rfl rfl h66 h67 h68 h69 h70 h71 h72 h73 h74 hN hHi hSl, hfm⟩)
          · skip
            refine lv_ldc2 S.1 S.2.1 S.2.2.2.1 (S.2.2.2.2 (.constantLong RX7 187 (-2)) (by decide +kernel)) dX7_arc_50 ?_
            exact x_lret S hr hlocks hP hS dX7_arc_53 (⟨Or.inr ⟨i, j, k, ⟨hi, hj, hk⟩, ⟨rfl, rfl, rfl⟩, Or.inl ⟨by first | exact Or.inr (hr34.f c37) | exact Or.inl (Classical.byContradiction (fun h => hr44.f c47 (fun h9 => h (hs3.mp h9)))), rfl⟩⟩, sM.mk h65 rfl rfl rfl h66 h67 h68 h69 h70 h71 h72 h73 h74 hN hHi hSl, hfm⟩)
      · skip
        refine lv_ldc2 S.1 S.2.1 S.2.2.2.1 (S.2.2.2.2 (.constantLong RX7 70 (-1)) (by decide +kernel)) dX7_arc_24 ?_
        exact x_lret S hr hlocks hP hS dX7_arc_27 (⟨Or.inl ⟨fun h => by first | exact hr18.t c21 h.2.2 | exact hr10.t c13 h.2.1 | exact hr2.t c5 h.1, rfl⟩, sM.mk h65 rfl rfl rfl h66 h67 h68 h69 h70 h71 h72 h73 h74 hN hHi hSl, hfm⟩)
set_option maxHeartbeats 4000000 in
set_option maxRecDepth 100000 in
theorem c_X7_hits (l : Launch) (g : xG) (hJ : xJ (xad g)) (E : Nat → va_E) {z : xS} (hz : sM g E z) (hv : vS z) (a b c9 : Int32) : Met l yX7_hits wsX7_hits ({ frames := 4, cells := 0, slots := 0, locals := 110 }) (xPc g [.ref (xad g 65), .int a, .int b, .int c9] E) (xQi g (fun r E1 => sp_hits z a b c9 r ∧ sM g E1 z ∧ ∀ j, j < 65 → E1 j = E j)) 0 0 (xA (xad g)) := by
  refine x_met (ws' := _) (by decide) rfl (Nat.le_of_ble_eq_true rfl) ?_
  intro pz ez s m below meth cz ls S hr hlocks hP hK hl
  have hl : lv_has ls 4 [(0, .ref (xad g 65)), (1, .int a), (2, .int b), (3, .int c9)] := hl
  have hS : va_S (xA (xad g)) s.heap s.heap [] := va_S.rf
  obtain ⟨hi, od, bs, bb, bf, at9, nu, f, fh, fs, fa, fr, fl, fo, fd, h65, h66, h67, h68, h69, h70, h71, h72, h73, h74, hN, hHi, hSl⟩ := id hz
  have hn := hN.1
  have hn0 := hN.n0
  have hv1 := hv.1.2
  have hfm : ∀ j, j < 65 → E j = E j := fun _ _ => rfl
  have hs4 := hv.2.1.1
  have htl := hv.2.2.2
  refine lv_aload_n S.1 S.2.1 dX7_hits_0 rfl (lv_at hl 0 rfl) ?_
  refine lv_iload_n S.1 S.2.1 dX7_hits_1 rfl (lv_at hl 1 rfl) ?_
  refine x_si (va_runV (As := [.int a]) (rest := []) S (c_X7_no l g E h65 h66 hN a) (cwV 1 S.2.2.2.2 gX7_hits_X7_no rfl rfl rfl (by decide +kernel) ⟨Nat.le_of_ble_eq_true rfl, Nat.le_of_ble_eq_true rfl⟩) (x_preV hK hP h65 (by decide) rfl) rfl rfl hl.1 rfl (lv_room (Nat.le_of_ble_eq_true rfl)) dX7_hits_2 ⟨Nat.le_of_ble_eq_true rfl, Nat.le_of_ble_eq_true rfl⟩) (fun r2 hr2 => ?_)
  refine lv_if_ne (tgt := 24) S.1 S.2.1 dX7_hits_5 (by decide) (fun c5 => ?_) (fun c5 => ?_)
  · skip
    refine lv_iconst (v := (-1)) S.1 S.2.1 dX7_hits_24 (by decide) ?_
    exact x_iret S hr hlocks hP hS dX7_hits_25 (⟨Or.inl ⟨fun h => by first | exact hr18.t c21 h.2.2 | exact hr10.t c13 h.2.1 | exact hr2.t c5 h.1, rfl⟩, sM.mk h65 rfl rfl rfl h66 h67 h68 h69 h70 h71 h72 h73 h74 hN hHi hSl, hfm⟩)
  · skip
    refine lv_aload_n S.1 S.2.1 dX7_hits_8 rfl (lv_at hl 0 rfl) ?_
    refine lv_iload_n S.1 S.2.1 dX7_hits_9 rfl (lv_at hl 2 rfl) ?_
    refine x_si (va_runV (As := [.int b]) (rest := []) S (c_X7_no l g E h65 h66 hN b) (cwV 1 S.2.2.2.2 gX7_hits_X7_no rfl rfl rfl (by decide +kernel) ⟨Nat.le_of_ble_eq_true rfl, Nat.le_of_ble_eq_true rfl⟩) (x_preV hK hP h65 (by decide) rfl) rfl rfl hl.1 rfl (lv_room (Nat.le_of_ble_eq_true rfl)) dX7_hits_10 ⟨Nat.le_of_ble_eq_true rfl, Nat.le_of_ble_eq_true rfl⟩) (fun r10 hr10 => ?_)
    refine lv_if_ne (tgt := 24) S.1 S.2.1 dX7_hits_13 (by decide) (fun c13 => ?_) (fun c13 => ?_)
    · skip
      refine lv_iconst (v := (-1)) S.1 S.2.1 dX7_hits_24 (by decide) ?_
      exact x_iret S hr hlocks hP hS dX7_hits_25 (⟨Or.inl ⟨fun h => by first | exact hr18.t c21 h.2.2 | exact hr10.t c13 h.2.1 | exact hr2.t c5 h.1, rfl⟩, sM.mk h65 rfl rfl rfl h66 h67 h68 h69 h70 h71 h72 h73 h74 hN hHi hSl, hfm⟩)
    · skip
      refine lv_aload_n S.1 S.2.1 dX7_hits_16 rfl (lv_at hl 0 rfl) ?_
      refine lv_iload_n S.1 S.2.1 dX7_hits_17 rfl (lv_at hl 3 rfl) ?_
      refine x_si (va_runV (As := [.int c9]) (rest := []) S (c_X7_no l g E h65 h66 hN c9) (cwV 1 S.2.2.2.2 gX7_hits_X7_no rfl rfl rfl (by decide +kernel) ⟨Nat.le_of_ble_eq_true rfl, Nat.le_of_ble_eq_true rfl⟩) (x_preV hK hP h65 (by decide) rfl) rfl rfl hl.1 rfl (lv_room (Nat.le_of_ble_eq_true rfl)) dX7_hits_18 ⟨Nat.le_of_ble_eq_true rfl, Nat.le_of_ble_eq_true rfl⟩) (fun r18 hr18 => ?_)
      refine lv_if_eq (tgt := 26) S.1 S.2.1 dX7_hits_21 (by decide) (fun c21 => ?_) (fun c21 => ?_)
      · skip
        obtain ⟨i, hi, rfl⟩ := Classical.not_not.mp (hr2.f c5)
        obtain ⟨j, hj, rfl⟩ := Classical.not_not.mp (hr10.f c13)
        obtain ⟨k, hk, rfl⟩ := Classical.not_not.mp (hr18.f c21)
        have hs3 := same3 (i := i) (j := j) (k := k) (by omega) (by omega) (by omega)
        refine lv_aload_n S.1 S.2.1 dX7_hits_26 rfl (lv_at hl 0 rfl) ?_
        refine lv_iload_n S.1 S.2.1 dX7_hits_27 rfl (lv_at hl 1 rfl) ?_
        refine lv_iload_n S.1 S.2.1 dX7_hits_28 rfl (lv_at hl 2 rfl) ?_
        refine lv_iload_n S.1 S.2.1 dX7_hits_29 rfl (lv_at hl 3 rfl) ?_
        refine x_si (va_runV (As := [.int (nI i), .int (nI j), .int (nI k)]) (rest := []) S (c_X7_areThree l g E 65 (nI i) (nI j) (nI k)) (cwV 3 S.2.2.2.2 gX7_hits_X7_areThree rfl rfl rfl (by decide +kernel) ⟨Nat.le_of_ble_eq_true rfl, Nat.le_of_ble_eq_true rfl⟩) (x_preV hK hP h65 (by decide) rfl) rfl rfl hl.1 rfl (lv_room (Nat.le_of_ble_eq_true rfl)) dX7_hits_30 ⟨Nat.le_of_ble_eq_true rfl, Nat.le_of_ble_eq_true rfl⟩) (fun r30 hr30 => ?_)
        refine lv_if_ne (tgt := 39) S.1 S.2.1 dX7_hits_33 (by decide) (fun c33 => ?_) (fun c33 => ?_)
        · skip
          have hnn : ¬ (i = j ∨ i = k ∨ j = k) := fun h => hr30.t c33 (hs3.mpr h)
          refine lv_aload_n S.1 S.2.1 dX7_hits_39 rfl (lv_at hl 0 rfl) ?_
          refine lv_iload_n S.1 S.2.1 dX7_hits_40 rfl (lv_at hl 1 rfl) ?_
          refine lv_iload_n S.1 S.2.1 dX7_hits_41 rfl (lv_at hl 2 rfl) ?_
          refine lv_iload_n S.1 S.2.1 dX7_hits_42 rfl (lv_at hl 3 rfl) ?_
          refine x_si (va_runV (As := [.int (nI i), .int (nI j), .int (nI k)]) (rest := []) S (c_X7_areUsable l g E h65 h66 hN hi hj hk) (cwV 3 S.2.2.2.2 gX7_hits_X7_areUsable rfl rfl rfl (by decide +kernel) ⟨Nat.le_of_ble_eq_true rfl, Nat.le_of_ble_eq_true rfl⟩) (x_preV hK hP h65 (by decide) rfl) rfl rfl hl.1 rfl (lv_room (Nat.le_of_ble_eq_true rfl)) dX7_hits_43 ⟨Nat.le_of_ble_eq_true rfl, Nat.le_of_ble_eq_true rfl⟩) (fun r43 hr43 => ?_)
          refine lv_if_eq (tgt := 59) S.1 S.2.1 dX7_hits_46 (by decide) (fun c46 => ?_) (fun c46 => ?_)
          · skip
            refine lv_bipush (v := (-4)) S.1 S.2.1 dX7_hits_59 (by decide) ?_
            exact x_iret S hr hlocks hP hS dX7_hits_61 (⟨Or.inr ⟨i, j, k, ⟨hi, hj, hk⟩, ⟨rfl, rfl, rfl⟩, Or.inr ⟨hnn, Or.inl ⟨hr43.f c46, rfl⟩⟩⟩, sM.mk h65 rfl rfl rfl h66 h67 h68 h69 h70 h71 h72 h73 h74 hN hHi hSl, hfm⟩)
          · skip
            refine lv_aload_n S.1 S.2.1 dX7_hits_49 rfl (lv_at hl 0 rfl) ?_
            refine lv_iload_n S.1 S.2.1 dX7_hits_50 rfl (lv_at hl 1 rfl) ?_
            refine lv_iload_n S.1 S.2.1 dX7_hits_51 rfl (lv_at hl 2 rfl) ?_
            refine lv_iload_n S.1 S.2.1 dX7_hits_52 rfl (lv_at hl 3 rfl) ?_
            refine x_si (va_runV (As := [.int (nI i), .int (nI j), .int (nI k)]) (rest := []) S (c_X7_hitBy l g E h65 h66 hN hi hj hk) (cwV 3 S.2.2.2.2 gX7_hits_X7_hitBy rfl rfl rfl (by decide +kernel) ⟨Nat.le_of_ble_eq_true rfl, Nat.le_of_ble_eq_true rfl⟩) (x_preV hK hP h65 (by decide) rfl) rfl rfl hl.1 rfl (lv_room (Nat.le_of_ble_eq_true rfl)) dX7_hits_53 ⟨Nat.le_of_ble_eq_true rfl, Nat.le_of_ble_eq_true rfl⟩) (fun r53 hr53 => ?_)
            refine lv_goto (tgt := 61) S.1 S.2.1 dX7_hits_56 (by decide) ?_
            exact x_iret S hr hlocks hP hS dX7_hits_61 (⟨Or.inr ⟨i, j, k, ⟨hi, hj, hk⟩, ⟨rfl, rfl, rfl⟩, Or.inr ⟨hnn, Or.inr ⟨hr43.t c46, _, _, _, srt_of (fun h => hnn (Or.inl h)) (fun h => hnn (Or.inr (Or.inl h))) (fun h => hnn (Or.inr (Or.inr h))), hr53.trans (by congr 1; exact mk_congr (fun q _ => by rw [hit_srt (srt_of (fun h => hnn (Or.inl h)) (fun h => hnn (Or.inr (Or.inl h))) (fun h => hnn (Or.inr (Or.inr h))))]))⟩⟩⟩, sM.mk h65 rfl rfl rfl h66 h67 h68 h69 h70 h71 h72 h73 h74 hN hHi hSl, hfm⟩)
        · skip
          refine lv_bipush (v := (-2)) S.1 S.2.1 dX7_hits_36 (by decide) ?_
          exact x_iret S hr hlocks hP hS dX7_hits_38 (⟨Or.inr ⟨i, j, k, ⟨hi, hj, hk⟩, ⟨rfl, rfl, rfl⟩, Or.inl ⟨Classical.byContradiction (fun h => hr30.f c33 (fun h9 => h (hs3.mp h9))), rfl⟩⟩, sM.mk h65 rfl rfl rfl h66 h67 h68 h69 h70 h71 h72 h73 h74 hN hHi hSl, hfm⟩)
      · skip
        refine lv_iconst (v := (-1)) S.1 S.2.1 dX7_hits_24 (by decide) ?_
        exact x_iret S hr hlocks hP hS dX7_hits_25 (⟨Or.inl ⟨fun h => by first | exact hr18.t c21 h.2.2 | exact hr10.t c13 h.2.1 | exact hr2.t c5 h.1, rfl⟩, sM.mk h65 rfl rfl rfl h66 h67 h68 h69 h70 h71 h72 h73 h74 hN hHi hSl, hfm⟩)
set_option maxHeartbeats 4000000 in
set_option maxRecDepth 100000 in
theorem c_X7_best (l : Launch) (g : xG) (hJ : xJ (xad g)) (E : Nat → va_E) {z : xS} (hz : sM g E z) (hv : vS z) (w : Int32) : Met l yX7_best wsX7_best ({ frames := 7, cells := 0, slots := 0, locals := 176 }) (xPc g [.ref (xad g 65), .int w] E) (xQi g (fun r E1 => sp_best z w r ∧ sM g E1 z ∧ ∀ j, j < 65 → E1 j = E j)) 0 0 (xA (xad g)) := by
  refine x_met (ws' := _) (by decide) rfl (Nat.le_of_ble_eq_true rfl) ?_
  intro pz ez s m below meth cz ls S hr hlocks hP hK hl
  have hl : lv_has ls 2 [(0, .ref (xad g 65)), (1, .int w)] := hl
  have hS : va_S (xA (xad g)) s.heap s.heap [] := va_S.rf
  have hin7 : ∀ w ∈ u_ws RX7 TX7 19, w ∈ wsX7_best := by decide +kernel
  have fl19 : Cond.fieldLink RX7 19 "DiscArcsModel" "arc" "[I" ∈ wsX7_best := by decide +kernel
  obtain ⟨hi, od, bs, bb, bf, at9, nu, f, fh, fs, fa, fr, fl, fo, fd, h65, h66, h67, h68, h69, h70, h71, h72, h73, h74, hN, hHi, hSl⟩ := id hz
  have hn := hN.1
  have hn0 := hN.n0
  have hv1 := hv.1.2
  have hfm : ∀ j, j < 65 → E j = E j := fun _ _ => rfl
  have hs4 := hv.2.1.1
  have htl := hv.2.2.2
  refine lv_iload_n S.1 S.2.1 dX7_best_0 rfl (lv_at hl 1 rfl) ?_
  refine lv_iconst (v := 0) S.1 S.2.1 dX7_best_1 (by decide) ?_
  refine lv_iconst (v := 4) S.1 S.2.1 dX7_best_2 (by decide) ?_
  refine x_si (va_runS (As := [.int w, .int 0, .int 4]) (rest := []) S (c_X7_in l g E w 0 4) (va_cwS 3 S.2.2.2.2 gX7_best_X7_in rfl rfl rfl (by decide +kernel) ⟨Nat.le_of_ble_eq_true rfl, Nat.le_of_ble_eq_true rfl⟩) (x_preS hK hP) rfl rfl hl.1 rfl (lv_room (Nat.le_of_ble_eq_true rfl)) dX7_best_3 ⟨Nat.le_of_ble_eq_true rfl, Nat.le_of_ble_eq_true rfl⟩) (fun r3 hr3 => ?_)
  refine lv_if_ne (tgt := 12) S.1 S.2.1 dX7_best_6 (by decide) (fun c6 => ?_) (fun c6 => ?_)
  · skip
    refine lv_aload_n S.1 S.2.1 dX7_best_12 rfl (lv_at hl 0 rfl) ?_
    refine x_qi (va_runV (As := []) (rest := []) S (c_X7_hasBest l g hJ E h65 h66 hN h69) (cwV 0 S.2.2.2.2 gX7_best_X7_hasBest rfl rfl rfl (by decide +kernel) ⟨Nat.le_of_ble_eq_true rfl, Nat.le_of_ble_eq_true rfl⟩) (x_preV hK hP h65 (by decide) rfl) rfl rfl hl.1 rfl (lv_room (Nat.le_of_ble_eq_true rfl)) dX7_best_13 ⟨Nat.le_of_ble_eq_true rfl, Nat.le_of_ble_eq_true rfl⟩) hS (fun r13 E1 H locs hq13 hP hS => ?_)
    obtain ⟨hfr13, h9, fa9, h65, h69, hor⟩ := hq13
    have h66 := (hfr13 66 (by decide) (by decide)).trans h66
    have h67 := (hfr13 67 (by decide) (by decide)).trans h67
    have h68 := (hfr13 68 (by decide) (by decide)).trans h68
    have h70 := (hfr13 70 (by decide) (by decide)).trans h70
    have h71 := (hfr13 71 (by decide) (by decide)).trans h71
    have h72 := (hfr13 72 (by decide) (by decide)).trans h72
    have h73 := (hfr13 73 (by decide) (by decide)).trans h73
    have h74 := (hfr13 74 (by decide) (by decide)).trans h74
    have hfm : ∀ j, j < 65 → E1 j = E j := fun j hj => (hfr13 j (by omega) (by omega)).trans (hfm j hj)
    refine lv_if_ne (tgt := 22) S.1 S.2.1 dX7_best_16 (by decide) (fun c16 => ?_) (fun c16 => ?_)
    · skip
      obtain ⟨i, j, k, hb, ⟨ha0, ha1, ha2⟩, hh9⟩ : ∃ i j k, isBest (zM z) (pU (zM z)) (zn z) i j k ∧ (fa9 0 = nI i ∧ fa9 1 = nI j ∧ fa9 2 = nI k) ∧ h9 = nI (mk (fun q => pU (zM z) q && hitB (zM z) i j k q) (zn z)) := by rcases hor with ⟨-, h⟩ | ⟨h0, -⟩; exact h; exact absurd h0 c16
      obtain ⟨g1, g2, g3, -⟩ := id hb.1
      have hw9 := hr3.t c6
      obtain ⟨v8, hv8, rfl⟩ := in_nat (m := 4) (by decide) hw9.1 hw9.2
      refine lv_iload_n S.1 S.2.1 dX7_best_22 rfl (lv_at hl 1 rfl) ?_
      refine lv_iconst (v := 3) S.1 S.2.1 dX7_best_23 (by decide) ?_
      refine lv_icmp_ge (tgt := 36) S.1 S.2.1 dX7_best_24 (by decide) (fun c24 => ?_) (fun c24 => ?_)
      · skip
        refine lv_iload_n S.1 S.2.1 dX7_best_36 rfl (lv_at hl 1 rfl) ?_
        refine lv_iconst (v := 3) S.1 S.2.1 dX7_best_37 (by decide) ?_
        refine lv_icmp_ne (tgt := 51) S.1 S.2.1 dX7_best_38 (by decide) (fun c38 => ?_) (fun c38 => ?_)
        · skip
          have hv4 : 3 ≤ v8 := (nI_leI (a := 3) (by omega) (by omega)).mp c24
          have hv5 : ¬ v8 = 3 := fun h => c38 (congrArg nI h)
          refine lv_aload_n S.1 S.2.1 dX7_best_51 rfl (lv_at hl 0 rfl) ?_
          refine x_qi (va_runV (As := []) (rest := []) S (c_X7_missed l g hJ E1 h65 h66 hN h69) (cwV 0 S.2.2.2.2 gX7_best_X7_missed rfl rfl rfl (by decide +kernel) ⟨Nat.le_of_ble_eq_true rfl, Nat.le_of_ble_eq_true rfl⟩) (x_preV hK hP h65 (by decide) rfl) rfl rfl hl.1 rfl (lv_room (Nat.le_of_ble_eq_true rfl)) dX7_best_52 ⟨Nat.le_of_ble_eq_true rfl, Nat.le_of_ble_eq_true rfl⟩) hS (fun r52 E1_1 H locs hq52 hP hS => ?_)
          obtain ⟨hfr52, ⟨h9b, fa9b, h65, h69⟩, v, hmv, hr52⟩ := hq52
          have h66 := (hfr52 66 (by decide) (by decide)).trans h66
          have h67 := (hfr52 67 (by decide) (by decide)).trans h67
          have h68 := (hfr52 68 (by decide) (by decide)).trans h68
          have h70 := (hfr52 70 (by decide) (by decide)).trans h70
          have h71 := (hfr52 71 (by decide) (by decide)).trans h71
          have h72 := (hfr52 72 (by decide) (by decide)).trans h72
          have h73 := (hfr52 73 (by decide) (by decide)).trans h73
          have h74 := (hfr52 74 (by decide) (by decide)).trans h74
          have hfm : ∀ j, j < 65 → E1_1 j = E j := fun j hj => (hfr52 j (by omega) (by omega)).trans (hfm j hj)
          obtain rfl : v = mk (pM (zM z) (pU (zM z)) i j k) (zn z) := hmv.uniq hn (Or.inr ⟨i, j, k, hb, rfl⟩)
          subst hr52
          exact x_iret S hr hlocks hP hS dX7_best_55 (⟨Or.inr ⟨hr3.t c6, Or.inr ⟨i, j, k, hb, by rw [if_neg c38, if_pos (show nI v8 = 4 from congrArg nI (show v8 = 4 by omega))]⟩⟩, sM.mk h65 rfl rfl rfl h66 h67 h68 h69 h70 h71 h72 h73 h74 hN hHi hSl, hfm⟩)
        · skip
          refine lv_aload_n S.1 S.2.1 dX7_best_41 rfl (lv_at hl 0 rfl) ?_
          refine x_qi (va_runV (As := []) (rest := []) S (c_X7_missed l g hJ E1 h65 h66 hN h69) (cwV 0 S.2.2.2.2 gX7_best_X7_missed rfl rfl rfl (by decide +kernel) ⟨Nat.le_of_ble_eq_true rfl, Nat.le_of_ble_eq_true rfl⟩) (x_preV hK hP h65 (by decide) rfl) rfl rfl hl.1 rfl (lv_room (Nat.le_of_ble_eq_true rfl)) dX7_best_42 ⟨Nat.le_of_ble_eq_true rfl, Nat.le_of_ble_eq_true rfl⟩) hS (fun r42 E1_2 H locs hq42 hP hS => ?_)
          obtain ⟨hfr42, ⟨h9b, fa9b, h65, h69⟩, v, hmv, hr42⟩ := hq42
          have h66 := (hfr42 66 (by decide) (by decide)).trans h66
          have h67 := (hfr42 67 (by decide) (by decide)).trans h67
          have h68 := (hfr42 68 (by decide) (by decide)).trans h68
          have h70 := (hfr42 70 (by decide) (by decide)).trans h70
          have h71 := (hfr42 71 (by decide) (by decide)).trans h71
          have h72 := (hfr42 72 (by decide) (by decide)).trans h72
          have h73 := (hfr42 73 (by decide) (by decide)).trans h73
          have h74 := (hfr42 74 (by decide) (by decide)).trans h74
          have hfm : ∀ j, j < 65 → E1_2 j = E j := fun j hj => (hfr42 j (by omega) (by omega)).trans (hfm j hj)
          obtain rfl : v = mk (pM (zM z) (pU (zM z)) i j k) (zn z) := hmv.uniq hn (Or.inr ⟨i, j, k, hb, rfl⟩)
          subst hr42
          refine x_si (va_runS (As := [.int (nI (mk (pM (zM z) (pU (zM z)) i j k) (zn z)))]) (rest := []) S (c_X7_bits l g E1_2 (mk_lt10 (pM (zM z) (pU (zM z)) i j k) hn)) (va_cwS 1 S.2.2.2.2 gX7_best_X7_bits rfl rfl rfl (by decide +kernel) ⟨Nat.le_of_ble_eq_true rfl, Nat.le_of_ble_eq_true rfl⟩) (x_preS hK hP) rfl rfl hl.1 rfl (lv_room (Nat.le_of_ble_eq_true rfl)) dX7_best_45 ⟨Nat.le_of_ble_eq_true rfl, Nat.le_of_ble_eq_true rfl⟩) (fun r45 hr45 => ?_)
          rw [pop_mk hn] at hr45
          refine lv_goto (tgt := 55) S.1 S.2.1 dX7_best_48 (by decide) ?_
          exact x_iret S hr hlocks hP hS dX7_best_55 (⟨Or.inr ⟨hr3.t c6, Or.inr ⟨i, j, k, hb, by rw [if_pos c38]; exact hr45⟩⟩, sM.mk h65 rfl rfl rfl h66 h67 h68 h69 h70 h71 h72 h73 h74 hN hHi hSl, hfm⟩)
      · skip
        have hv3 : v8 < 3 := Nat.not_le.mp (fun h => c24 ((nI_leI (a := 3) (by omega) (by omega)).mpr h))
        refine lv_aload_n S.1 S.2.1 dX7_best_27 rfl (lv_at hl 0 rfl) ?_
        refine x_get S hK hP dX7_best_28 h65 (by decide) (RX7, TX7, 19) rfl hin7 5 (by decide) fl19 rfl ?_
        refine lv_iload_n S.1 S.2.1 dX7_best_31 rfl (lv_at hl 1 rfl) ?_
        refine x_iald S hK hP dX7_best_32 h69 (by decide) (j := v8) rfl hv3 (by decide) ?_
        refine lv_goto (tgt := 55) S.1 S.2.1 dX7_best_33 (by decide) ?_
        exact x_iret S hr hlocks hP hS dX7_best_55 (⟨Or.inr ⟨hr3.t c6, Or.inr ⟨i, j, k, hb, best3 hv3 ha0 ha1 ha2⟩⟩, sM.mk h65 rfl rfl rfl h66 h67 h68 h69 h70 h71 h72 h73 h74 hN hHi hSl, hfm⟩)
    · skip
      refine lv_bipush (v := (-4)) S.1 S.2.1 dX7_best_19 (by decide) ?_
      exact x_iret S hr hlocks hP hS dX7_best_21 (by rcases hor with ⟨h1, -⟩ | ⟨-, hno⟩; rw [h1] at c16; exact absurd c16 (by decide); exact ⟨Or.inr ⟨hr3.t c6, Or.inl ⟨hno, rfl⟩⟩, sM.mk h65 rfl rfl rfl h66 h67 h68 h69 h70 h71 h72 h73 h74 hN hHi hSl, hfm⟩)
  · skip
    refine lv_bipush (v := (-2)) S.1 S.2.1 dX7_best_9 (by decide) ?_
    exact x_iret S hr hlocks hP hS dX7_best_11 (⟨Or.inl ⟨hr3.f c6, rfl⟩, sM.mk h65 rfl rfl rfl h66 h67 h68 h69 h70 h71 h72 h73 h74 hN hHi hSl, hfm⟩)
set_option maxHeartbeats 4000000 in
set_option maxRecDepth 100000 in
theorem c_X7_bestAt (l : Launch) (g : xG) (hJ : xJ (xad g)) (E : Nat → va_E) {z : xS} (hz : sM g E z) (hv : vS z) (t w q : Int32) : Met l yX7_bestAt wsX7_bestAt ({ frames := 6, cells := 0, slots := 0, locals := 156 }) (xPc g [.ref (xad g 65), .int t, .int w, .int q] E) (xQl g (fun r E1 => sp_bestAt z t w q r ∧ sM g E1 z ∧ ∀ j, j < 65 → E1 j = E j)) 0 0 (xA (xad g)) := by
  refine x_met (ws' := _) (by decide) rfl (Nat.le_of_ble_eq_true rfl) ?_
  intro pz ez s m below meth cz ls S hr hlocks hP hK hl
  have hl : lv_has ls 4 [(0, .ref (xad g 65)), (1, .int t), (2, .int w), (3, .int q)] := hl
  have hS : va_S (xA (xad g)) s.heap s.heap [] := va_S.rf
  have hin7 : ∀ w ∈ u_ws RX7 TX7 19, w ∈ wsX7_bestAt := by decide +kernel
  have fl19 : Cond.fieldLink RX7 19 "DiscArcsModel" "arc" "[I" ∈ wsX7_bestAt := by decide +kernel
  obtain ⟨hi, od, bs, bb, bf, at9, nu, f, fh, fs, fa, fr, fl, fo, fd, h65, h66, h67, h68, h69, h70, h71, h72, h73, h74, hN, hHi, hSl⟩ := id hz
  have hn := hN.1
  have hn0 := hN.n0
  have hv1 := hv.1.2
  have hfm : ∀ j, j < 65 → E j = E j := fun _ _ => rfl
  have hs4 := hv.2.1.1
  have htl := hv.2.2.2
  refine lv_iload_n S.1 S.2.1 dX7_bestAt_0 rfl (lv_at hl 1 rfl) ?_
  refine lv_iload_n S.1 S.2.1 dX7_bestAt_1 rfl (lv_at hl 2 rfl) ?_
  refine lv_iload_n S.1 S.2.1 dX7_bestAt_2 rfl (lv_at hl 3 rfl) ?_
  refine x_si (va_runS (As := [.int t, .int w, .int q]) (rest := []) S (c_X7_isAsked l g E t w q) (va_cwS 3 S.2.2.2.2 gX7_bestAt_X7_isAsked rfl rfl rfl (by decide +kernel) ⟨Nat.le_of_ble_eq_true rfl, Nat.le_of_ble_eq_true rfl⟩) (x_preS hK hP) rfl rfl hl.1 rfl (lv_room (Nat.le_of_ble_eq_true rfl)) dX7_bestAt_3 ⟨Nat.le_of_ble_eq_true rfl, Nat.le_of_ble_eq_true rfl⟩) (fun r3 hr3 => ?_)
  refine lv_if_ne (tgt := 13) S.1 S.2.1 dX7_bestAt_6 (by decide) (fun c6 => ?_) (fun c6 => ?_)
  · skip
    have hask := hr3.t c6
    obtain ⟨v8, hv8, rfl⟩ := in_nat (m := 1) (by decide) hask.2.1.1 hask.2.1.2
    refine lv_aload_n S.1 S.2.1 dX7_bestAt_13 rfl (lv_at hl 0 rfl) ?_
    refine x_qi (va_runV (As := []) (rest := []) S (c_X7_hasBest l g hJ E h65 h66 hN h69) (cwV 0 S.2.2.2.2 gX7_bestAt_X7_hasBest rfl rfl rfl (by decide +kernel) ⟨Nat.le_of_ble_eq_true rfl, Nat.le_of_ble_eq_true rfl⟩) (x_preV hK hP h65 (by decide) rfl) rfl rfl hl.1 rfl (lv_room (Nat.le_of_ble_eq_true rfl)) dX7_bestAt_14 ⟨Nat.le_of_ble_eq_true rfl, Nat.le_of_ble_eq_true rfl⟩) hS (fun r14 E1 H locs hq14 hP hS => ?_)
    obtain ⟨hfr14, h9, fa9, h65, h69, hor⟩ := hq14
    have h66 := (hfr14 66 (by decide) (by decide)).trans h66
    have h67 := (hfr14 67 (by decide) (by decide)).trans h67
    have h68 := (hfr14 68 (by decide) (by decide)).trans h68
    have h70 := (hfr14 70 (by decide) (by decide)).trans h70
    have h71 := (hfr14 71 (by decide) (by decide)).trans h71
    have h72 := (hfr14 72 (by decide) (by decide)).trans h72
    have h73 := (hfr14 73 (by decide) (by decide)).trans h73
    have h74 := (hfr14 74 (by decide) (by decide)).trans h74
    have hfm : ∀ j, j < 65 → E1 j = E j := fun j hj => (hfr14 j (by omega) (by omega)).trans (hfm j hj)
    refine lv_if_eq (tgt := 73) S.1 S.2.1 dX7_bestAt_17 (by decide) (fun c17 => ?_) (fun c17 => ?_)
    · skip
      refine lv_ldc2 S.1 S.2.1 S.2.2.2.1 (S.2.2.2.2 (.constantLong RX7 196 (-4)) (by decide +kernel)) dX7_bestAt_73 ?_
      exact x_lret S hr hlocks hP hS dX7_bestAt_76 (by rcases hor with ⟨h1, -⟩ | ⟨-, hno⟩; rw [h1] at c17; exact absurd c17 (by decide); exact ⟨Or.inr ⟨hask, Or.inl ⟨hno, rfl⟩⟩, sM.mk h65 rfl rfl rfl h66 h67 h68 h69 h70 h71 h72 h73 h74 hN hHi hSl, hfm⟩)
    · skip
      obtain ⟨i, j, k, hb, ⟨ha0, ha1, ha2⟩, hh9⟩ : ∃ i j k, isBest (zM z) (pU (zM z)) (zn z) i j k ∧ (fa9 0 = nI i ∧ fa9 1 = nI j ∧ fa9 2 = nI k) ∧ h9 = nI (mk (fun q => pU (zM z) q && hitB (zM z) i j k q) (zn z)) := by rcases hor with ⟨-, h⟩ | ⟨h0, -⟩; exact h; exact absurd h0 c17
      obtain ⟨g1, g2, g3, -⟩ := id hb.1
      have hps := prt_srt hv1 (v := v8) (u := t.toInt64) (q := q) (show srt i j k i j k from ⟨g1, g2, Or.inl ⟨rfl, rfl, rfl⟩⟩) (by omega) (by omega) g3
      refine lv_aload_n S.1 S.2.1 dX7_bestAt_20 rfl (lv_at hl 0 rfl) ?_
      refine lv_aload_n S.1 S.2.1 dX7_bestAt_21 rfl (lv_at hl 0 rfl) ?_
      refine x_get S hK hP dX7_bestAt_22 h65 (by decide) (RX7, TX7, 19) rfl hin7 5 (by decide) fl19 rfl ?_
      refine lv_iconst (v := 0) S.1 S.2.1 dX7_bestAt_25 (by decide) ?_
      refine x_iald S hK hP dX7_bestAt_26 h69 (by decide) (j := 0) rfl (by omega) (by decide) ?_
      refine lv_aload_n S.1 S.2.1 dX7_bestAt_27 rfl (lv_at hl 0 rfl) ?_
      refine x_get S hK hP dX7_bestAt_28 h65 (by decide) (RX7, TX7, 19) rfl hin7 5 (by decide) fl19 rfl ?_
      refine lv_iconst (v := 1) S.1 S.2.1 dX7_bestAt_31 (by decide) ?_
      refine x_iald S hK hP dX7_bestAt_32 h69 (by decide) (j := 1) rfl (by omega) (by decide) ?_
      refine lv_aload_n S.1 S.2.1 dX7_bestAt_33 rfl (lv_at hl 0 rfl) ?_
      refine x_get S hK hP dX7_bestAt_34 h65 (by decide) (RX7, TX7, 19) rfl hin7 5 (by decide) fl19 rfl ?_
      refine lv_iconst (v := 2) S.1 S.2.1 dX7_bestAt_37 (by decide) ?_
      refine x_iald S hK hP dX7_bestAt_38 h69 (by decide) (j := 2) rfl (by omega) (by decide) ?_
      refine W.eq (g2 := F0 m 39 ls [.int (nI k), .int (nI j), .int (nI i), .ref (xad g 65)]) (by rw [ha0, ha1, ha2]) ?_
      refine lv_iload_n S.1 S.2.1 dX7_bestAt_39 rfl (lv_at hl 1 rfl) ?_
      refine lv_iload_n S.1 S.2.1 dX7_bestAt_40 rfl (lv_at hl 2 rfl) ?_
      refine x_sl (va_runV (As := [.int (nI i), .int (nI j), .int (nI k), .int t, .int (nI v8)]) (rest := []) S (c_X7_upper l g E1 h65 h66 hN (i := i) (j := j) (k := k) (by omega) (by omega) g3 (w := v8) (by omega) t) (cwV 5 S.2.2.2.2 gX7_bestAt_X7_upper rfl rfl rfl (by decide +kernel) ⟨Nat.le_of_ble_eq_true rfl, Nat.le_of_ble_eq_true rfl⟩) (x_preV hK hP h65 (by decide) rfl) rfl rfl hl.1 rfl (lv_room (Nat.le_of_ble_eq_true rfl)) dX7_bestAt_41 ⟨Nat.le_of_ble_eq_true rfl, Nat.le_of_ble_eq_true rfl⟩) (fun r41 hr41 => ?_)
      subst hr41
      refine lv_aload_n S.1 S.2.1 dX7_bestAt_44 rfl (lv_at hl 0 rfl) ?_
      refine lv_aload_n S.1 S.2.1 dX7_bestAt_45 rfl (lv_at hl 0 rfl) ?_
      refine x_get S hK hP dX7_bestAt_46 h65 (by decide) (RX7, TX7, 19) rfl hin7 5 (by decide) fl19 rfl ?_
      refine lv_iconst (v := 0) S.1 S.2.1 dX7_bestAt_49 (by decide) ?_
      refine x_iald S hK hP dX7_bestAt_50 h69 (by decide) (j := 0) rfl (by omega) (by decide) ?_
      refine lv_aload_n S.1 S.2.1 dX7_bestAt_51 rfl (lv_at hl 0 rfl) ?_
      refine x_get S hK hP dX7_bestAt_52 h65 (by decide) (RX7, TX7, 19) rfl hin7 5 (by decide) fl19 rfl ?_
      refine lv_iconst (v := 1) S.1 S.2.1 dX7_bestAt_55 (by decide) ?_
      refine x_iald S hK hP dX7_bestAt_56 h69 (by decide) (j := 1) rfl (by omega) (by decide) ?_
      refine lv_aload_n S.1 S.2.1 dX7_bestAt_57 rfl (lv_at hl 0 rfl) ?_
      refine x_get S hK hP dX7_bestAt_58 h65 (by decide) (RX7, TX7, 19) rfl hin7 5 (by decide) fl19 rfl ?_
      refine lv_iconst (v := 2) S.1 S.2.1 dX7_bestAt_61 (by decide) ?_
      refine x_iald S hK hP dX7_bestAt_62 h69 (by decide) (j := 2) rfl (by omega) (by decide) ?_
      refine W.eq (g2 := F0 m 63 ls [.int (nI k), .int (nI j), .int (nI i), .ref (xad g 65), .long (upN (zM z) v8 i j k t.toInt64)]) (by rw [ha0, ha1, ha2]) ?_
      refine x_sl (va_runV (As := [.int (nI i), .int (nI j), .int (nI k)]) (rest := [.long (upN (zM z) v8 i j k t.toInt64)]) S (c_X7_lower l g E1 h65 h66 hN (i := i) (j := j) (k := k) (by omega) (by omega) g3) (cwV 3 S.2.2.2.2 gX7_bestAt_X7_lower rfl rfl rfl (by decide +kernel) ⟨Nat.le_of_ble_eq_true rfl, Nat.le_of_ble_eq_true rfl⟩) (x_preV hK hP h65 (by decide) rfl) rfl rfl hl.1 rfl (lv_room (Nat.le_of_ble_eq_true rfl)) dX7_bestAt_63 ⟨Nat.le_of_ble_eq_true rfl, Nat.le_of_ble_eq_true rfl⟩) (fun r63 hr63 => ?_)
      subst hr63
      refine lv_iload_n S.1 S.2.1 dX7_bestAt_66 rfl (lv_at hl 3 rfl) ?_
      refine x_sl (va_runS (As := [.long (upN (zM z) v8 i j k t.toInt64), .long (loN (zM z) i j k), .int q]) (rest := []) S (c_X7_part l g E1 (u := upN (zM z) v8 i j k t.toInt64) (d9 := loN (zM z) i j k) q (up_bound hv1 (by omega) (by omega) (by omega) (by omega) (by rw [Int32.toInt_toInt64]; exact rng_toInt hask.1)) hps.1 hps.2.1) (va_cwS 3 S.2.2.2.2 gX7_bestAt_X7_part rfl rfl rfl (by decide +kernel) ⟨Nat.le_of_ble_eq_true rfl, Nat.le_of_ble_eq_true rfl⟩) (x_preS hK hP) rfl rfl hl.1 rfl (lv_room (Nat.le_of_ble_eq_true rfl)) dX7_bestAt_67 ⟨Nat.le_of_ble_eq_true rfl, Nat.le_of_ble_eq_true rfl⟩) (fun r67 hr67 => ?_)
      refine lv_goto (tgt := 76) S.1 S.2.1 dX7_bestAt_70 (by decide) ?_
      exact x_lret S hr hlocks hP hS dX7_bestAt_76 (⟨Or.inr ⟨hask, Or.inr ⟨i, j, k, v8, hb, by omega, rfl, hr67.trans hps.2.2⟩⟩, sM.mk h65 rfl rfl rfl h66 h67 h68 h69 h70 h71 h72 h73 h74 hN hHi hSl, hfm⟩)
  · skip
    refine lv_ldc2 S.1 S.2.1 S.2.2.2.1 (S.2.2.2.2 (.constantLong RX7 187 (-2)) (by decide +kernel)) dX7_bestAt_9 ?_
    exact x_lret S hr hlocks hP hS dX7_bestAt_12 (⟨Or.inl ⟨hr3.f c6, rfl⟩, sM.mk h65 rfl rfl rfl h66 h67 h68 h69 h70 h71 h72 h73 h74 hN hHi hSl, hfm⟩)
set_option maxHeartbeats 4000000 in
set_option maxRecDepth 100000 in
theorem c_X7_lands (l : Launch) (g : xG) (hJ : xJ (xad g)) (E : Nat → va_E) {z : xS} (hz : sM g E z) (hv : vS z)  : Met l yX7_lands wsX7_lands ({ frames := 6, cells := 0, slots := 0, locals := 156 }) (xPc g [.ref (xad g 65)] E) (xQi g (fun r E1 => sp_lands z r ∧ sM g E1 z ∧ ∀ j, j < 65 → E1 j = E j)) 0 0 (xA (xad g)) := by
  refine x_met (ws' := _) (by decide) rfl (Nat.le_of_ble_eq_true rfl) ?_
  intro pz ez s m below meth cz ls S hr hlocks hP hK hl
  have hl : lv_has ls 2 [(0, .ref (xad g 65))] := hl
  have hS : va_S (xA (xad g)) s.heap s.heap [] := va_S.rf
  have hin7 : ∀ w ∈ u_ws RX7 TX7 19, w ∈ wsX7_lands := by decide +kernel
  have fl19 : Cond.fieldLink RX7 19 "DiscArcsModel" "arc" "[I" ∈ wsX7_lands := by decide +kernel
  obtain ⟨hi, od, bs, bb, bf, at9, nu, f, fh, fs, fa, fr, fl, fo, fd, h65, h66, h67, h68, h69, h70, h71, h72, h73, h74, hN, hHi, hSl⟩ := id hz
  have hn := hN.1
  have hn0 := hN.n0
  have hv1 := hv.1.2
  have hfm : ∀ j, j < 65 → E j = E j := fun _ _ => rfl
  have hs4 := hv.2.1.1
  have htl := hv.2.2.2
  refine lv_aload_n S.1 S.2.1 dX7_lands_0 rfl (lv_at hl 0 rfl) ?_
  refine x_qi (va_runV (As := []) (rest := []) S (c_X7_hasBest l g hJ E h65 h66 hN h69) (cwV 0 S.2.2.2.2 gX7_lands_X7_hasBest rfl rfl rfl (by decide +kernel) ⟨Nat.le_of_ble_eq_true rfl, Nat.le_of_ble_eq_true rfl⟩) (x_preV hK hP h65 (by decide) rfl) rfl rfl hl.1 rfl (lv_room (Nat.le_of_ble_eq_true rfl)) dX7_lands_1 ⟨Nat.le_of_ble_eq_true rfl, Nat.le_of_ble_eq_true rfl⟩) hS (fun r1 E1 H locs hq1 hP hS => ?_)
  obtain ⟨hfr1, h9, fa9, h65, h69, hor⟩ := hq1
  have h66 := (hfr1 66 (by decide) (by decide)).trans h66
  have h67 := (hfr1 67 (by decide) (by decide)).trans h67
  have h68 := (hfr1 68 (by decide) (by decide)).trans h68
  have h70 := (hfr1 70 (by decide) (by decide)).trans h70
  have h71 := (hfr1 71 (by decide) (by decide)).trans h71
  have h72 := (hfr1 72 (by decide) (by decide)).trans h72
  have h73 := (hfr1 73 (by decide) (by decide)).trans h73
  have h74 := (hfr1 74 (by decide) (by decide)).trans h74
  have hfm : ∀ j, j < 65 → E1 j = E j := fun j hj => (hfr1 j (by omega) (by omega)).trans (hfm j hj)
  refine lv_if_ne (tgt := 10) S.1 S.2.1 dX7_lands_4 (by decide) (fun c4 => ?_) (fun c4 => ?_)
  · skip
    obtain ⟨i, j, k, hb, ⟨ha0, ha1, ha2⟩, hh9⟩ : ∃ i j k, isBest (zM z) (pU (zM z)) (zn z) i j k ∧ (fa9 0 = nI i ∧ fa9 1 = nI j ∧ fa9 2 = nI k) ∧ h9 = nI (mk (fun q => pU (zM z) q && hitB (zM z) i j k q) (zn z)) := by rcases hor with ⟨-, h⟩ | ⟨h0, -⟩; exact h; exact absurd h0 c4
    obtain ⟨g1, g2, g3, -⟩ := id hb.1
    refine lv_aload_n S.1 S.2.1 dX7_lands_10 rfl (lv_at hl 0 rfl) ?_
    refine lv_aload_n S.1 S.2.1 dX7_lands_11 rfl (lv_at hl 0 rfl) ?_
    refine x_get S hK hP dX7_lands_12 h65 (by decide) (RX7, TX7, 19) rfl hin7 5 (by decide) fl19 rfl ?_
    refine lv_iconst (v := 0) S.1 S.2.1 dX7_lands_15 (by decide) ?_
    refine x_iald S hK hP dX7_lands_16 h69 (by decide) (j := 0) rfl (by omega) (by decide) ?_
    refine W.eq (g2 := F0 m 17 ls [.int (nI i), .ref (xad g 65)]) (by rw [ha0]) ?_
    refine lv_iconst (v := 0) S.1 S.2.1 dX7_lands_17 (by decide) ?_
    refine x_si (va_runV (As := [.int (nI i), .int 0]) (rest := []) S (c_X7_of l g E1 h65 h66 (k := i) (w := 0) (by omega)) (cwV 2 S.2.2.2.2 gX7_lands_X7_of rfl rfl rfl (by decide +kernel) ⟨Nat.le_of_ble_eq_true rfl, Nat.le_of_ble_eq_true rfl⟩) (x_preV hK hP h65 (by decide) rfl) rfl rfl hl.1 rfl (lv_room (Nat.le_of_ble_eq_true rfl)) dX7_lands_18 ⟨Nat.le_of_ble_eq_true rfl, Nat.le_of_ble_eq_true rfl⟩) (fun r18 hr18 => ?_)
    rw [hN.at0 (k := i) (w := 0) (show i < zn z by omega) (by omega)] at hr18
    subst hr18
    obtain ⟨a, ha, ha9⟩ := tm_nat hv1 (show i < zn z by omega)
    refine W.eq (g2 := F0 m 21 ls [.int (nI a)]) (by rw [ha]) ?_
    refine lv_istore_n (lv' := [(1, .int (nI a)), (0, .ref (xad g 65))]) S.1 S.2.1 dX7_lands_21 rfl hl (by decide) rfl (fun ls hl => ?_)
    have loop22 : ∀ (d : Nat) (u : Nat) (EL : Nat → va_E) (H : Heap) (locs : List Loc), (hau : a ≤ u) → (hule : u ≤ 100) → (hnu : ∀ v, a ≤ v → v < u → ¬ upN (zM z) 1 i j k (nI v).toInt64 ≤ 0) → (101 - u) < d → (h65 : EL 65 = mO g (nI (zh z)) (bI (zf z)) h9 od bs bb bf (nI (ztl z)) at9 nu) → (h66 : EL 66 = .inl (xI g, 71, .inl f)) → (h67 : EL 67 = .inl (xI g, 284, .inl fh)) → (h68 : EL 68 = .inl (xI g, 71, .inl fs)) → (h69 : EL 69 = .inl (xI g, 3, .inl fa9)) → (h70 : EL 70 = .inl (xI g, 11, .inl fr)) → (h71 : EL 71 = .inl (xI g, 10, .inl fl)) → (h72 : EL 72 = .inl (xI g, 10, .inl fo)) → (h73 : EL 73 = .inl (xC g, 60, .inl (ztf z))) → (h74 : EL 74 = .inl (xI g, 6, .inl fd)) → (hfm : ∀ j, j < 65 → EL j = E j) → xP g EL H → va_S (xA (xad g)) s.heap H locs → ∀ ls : Array Slot, lv_has ls 2 [(1, .int (nI u)), (0, .ref (xad g 65))] → W pz l ez ({ frames := 6, cells := 0, slots := 0, locals := 156 }) s m ([.ref (xad g 65)] : List Value).toArray below meth cz H locs 0 0 (MQ below (xQi g (fun r E1 => sp_lands z r ∧ sM g E1 z ∧ ∀ j, j < 65 → E1 j = E j)) ([.ref (xad g 65)] : List Value).toArray s 0 0 (xA (xad g))) (F0 m 22 ls []) := by
      intro d
      induction d with
      | zero => intro u EL H locs hau hule hnu hd; exact absurd hd (Nat.not_lt_zero _)
      | succ d ih22 =>
        intro u EL H locs hau hule hnu hd h65 h66 h67 h68 h69 h70 h71 h72 h73 h74 hfm hP hS ls hl
        refine lv_iload_n S.1 S.2.1 dX7_lands_22 rfl (lv_at hl 0 rfl) ?_
        refine lv_bipush (v := 99) S.1 S.2.1 dX7_lands_23 (by decide) ?_
        refine lv_icmp_gt (tgt := 65) S.1 S.2.1 dX7_lands_25 (by decide) (fun c25 => ?_) (fun c25 => ?_)
        · skip
          refine lv_bipush (v := (-5)) S.1 S.2.1 dX7_lands_65 (by decide) ?_
          exact x_iret S hr hlocks hP hS dX7_lands_67 (⟨Or.inr ⟨i, j, k, a, hb, ha, ha9, Or.inr ⟨fun v h1 h2 => hnu v h1 (by have := (nI_ltI (a := 99) (by decide) (by omega)).mp c25; omega), rfl⟩⟩, sM.mk h65 rfl rfl rfl h66 h67 h68 h69 h70 h71 h72 h73 h74 hN hHi hSl, hfm⟩)
        · skip
          have hu9 : u ≤ 99 := Nat.not_lt.mp (fun h => c25 ((nI_ltI (a := 99) (by decide) (by omega)).mpr h))
          refine lv_aload_n S.1 S.2.1 dX7_lands_28 rfl (lv_at hl 1 rfl) ?_
          refine lv_aload_n S.1 S.2.1 dX7_lands_29 rfl (lv_at hl 1 rfl) ?_
          refine x_get S hK hP dX7_lands_30 h65 (by decide) (RX7, TX7, 19) rfl hin7 5 (by decide) fl19 rfl ?_
          refine lv_iconst (v := 0) S.1 S.2.1 dX7_lands_33 (by decide) ?_
          refine x_iald S hK hP dX7_lands_34 h69 (by decide) (j := 0) rfl (by omega) (by decide) ?_
          refine lv_aload_n S.1 S.2.1 dX7_lands_35 rfl (lv_at hl 1 rfl) ?_
          refine x_get S hK hP dX7_lands_36 h65 (by decide) (RX7, TX7, 19) rfl hin7 5 (by decide) fl19 rfl ?_
          refine lv_iconst (v := 1) S.1 S.2.1 dX7_lands_39 (by decide) ?_
          refine x_iald S hK hP dX7_lands_40 h69 (by decide) (j := 1) rfl (by omega) (by decide) ?_
          refine lv_aload_n S.1 S.2.1 dX7_lands_41 rfl (lv_at hl 1 rfl) ?_
          refine x_get S hK hP dX7_lands_42 h65 (by decide) (RX7, TX7, 19) rfl hin7 5 (by decide) fl19 rfl ?_
          refine lv_iconst (v := 2) S.1 S.2.1 dX7_lands_45 (by decide) ?_
          refine x_iald S hK hP dX7_lands_46 h69 (by decide) (j := 2) rfl (by omega) (by decide) ?_
          refine W.eq (g2 := F0 m 47 ls [.int (nI k), .int (nI j), .int (nI i), .ref (xad g 65)]) (by rw [ha0, ha1, ha2]) ?_
          refine lv_iload_n S.1 S.2.1 dX7_lands_47 rfl (lv_at hl 0 rfl) ?_
          refine lv_iconst (v := 1) S.1 S.2.1 dX7_lands_48 (by decide) ?_
          refine x_sl (va_runV (As := [.int (nI i), .int (nI j), .int (nI k), .int (nI u), .int 1]) (rest := []) S (c_X7_upper l g EL h65 h66 hN (i := i) (j := j) (k := k) (by omega) (by omega) g3 (w := 1) (by omega) (nI u)) (cwV 5 S.2.2.2.2 gX7_lands_X7_upper rfl rfl rfl (by decide +kernel) ⟨Nat.le_of_ble_eq_true rfl, Nat.le_of_ble_eq_true rfl⟩) (x_preV hK hP h65 (by decide) rfl) rfl rfl hl.1 rfl (lv_room (Nat.le_of_ble_eq_true rfl)) dX7_lands_49 ⟨Nat.le_of_ble_eq_true rfl, Nat.le_of_ble_eq_true rfl⟩) (fun r49 hr49 => ?_)
          subst hr49
          refine lv_lconst (v := 0) S.1 S.2.1 dX7_lands_52 rfl ?_
          refine W.lcmp S.1 S.2.1 dX7_lands_53 ?_
          refine lv_if_gt (tgt := 59) S.1 S.2.1 dX7_lands_54 (by decide) (fun c54 => ?_) (fun c54 => ?_)
          · skip
            refine lv_iinc (v := nI (u + 1)) (lv' := [(1, .int (nI (u + 1))), (0, .ref (xad g 65))]) S.1 S.2.1 dX7_lands_59 hl (k := 0) rfl (show nI u + Int32.ofInt 1 = _ from nI_1 _) (by decide) rfl (fun ls hl => ?_)
            refine lv_goto (tgt := 22) S.1 S.2.1 dX7_lands_62 (by decide) ?_
            exact ih22 (u + 1) _ _ _ (by omega) (by omega) (fun v h1 h2 => by rcases Classical.em (v = u) with e9 | e9; subst e9; exact Int64.not_le.mpr ((lg_cmp_gt _ _).mp c54); exact hnu v h1 (by omega)) (by omega) h65 h66 h67 h68 h69 h70 h71 h72 h73 h74 hfm hP hS ls (lv_sub hl [0, 1] rfl)
          · skip
            refine lv_iload_n S.1 S.2.1 dX7_lands_57 rfl (lv_at hl 0 rfl) ?_
            exact x_iret S hr hlocks hP hS dX7_lands_58 (⟨Or.inr ⟨i, j, k, a, hb, ha, ha9, Or.inl ⟨u, hau, hu9, Int64.not_lt.mp (fun h => c54 ((lg_cmp_gt _ _).mpr h)), hnu, rfl⟩⟩, sM.mk h65 rfl rfl rfl h66 h67 h68 h69 h70 h71 h72 h73 h74 hN hHi hSl, hfm⟩)
    exact loop22 _ a _ _ _ (Nat.le_refl _) (by omega) (fun v h1 h2 => by omega) (Nat.lt_succ_self _) h65 h66 h67 h68 h69 h70 h71 h72 h73 h74 hfm hP hS ls (lv_sub hl [0, 1] rfl)
  · skip
    refine lv_bipush (v := (-4)) S.1 S.2.1 dX7_lands_7 (by decide) ?_
    exact x_iret S hr hlocks hP hS dX7_lands_9 (by rcases hor with ⟨h1, -⟩ | ⟨-, hno⟩; rw [h1] at c4; exact absurd c4 (by decide); exact ⟨Or.inl ⟨hno, rfl⟩, sM.mk h65 rfl rfl rfl h66 h67 h68 h69 h70 h71 h72 h73 h74 hN hHi hSl, hfm⟩)
set_option maxHeartbeats 4000000 in
set_option maxRecDepth 100000 in
theorem c_X7_track (l : Launch) (g : xG) (hJ : xJ (xad g)) (E : Nat → va_E) {z : xS} (hz : sM g E z) (hv : vS z) (x w : Int32) : Met l yX7_track wsX7_track ({ frames := 7, cells := 0, slots := 0, locals := 181 }) (xPc g [.ref (xad g 65), .int x, .int w] E) (xQi g (fun r E1 => sp_track z x w r ∧ sM g E1 z ∧ ∀ j, j < 65 → E1 j = E j)) 0 0 (xA (xad g)) := by
  refine x_met (ws' := _) (by decide) rfl (Nat.le_of_ble_eq_true rfl) ?_
  intro pz ez s m below meth cz ls S hr hlocks hP hK hl
  have hl : lv_has ls 6 [(0, .ref (xad g 65)), (1, .int x), (2, .int w)] := hl
  have hS : va_S (xA (xad g)) s.heap s.heap [] := va_S.rf
  have hin7 : ∀ w ∈ u_ws RX7 TX7 19, w ∈ wsX7_track := by decide +kernel
  have fl19 : Cond.fieldLink RX7 19 "DiscArcsModel" "arc" "[I" ∈ wsX7_track := by decide +kernel
  have fl25 : Cond.fieldLink RX7 25 "DiscArcsModel" "longest" "[I" ∈ wsX7_track := by decide +kernel
  have fl28 : Cond.fieldLink RX7 28 "DiscArcsModel" "order" "[I" ∈ wsX7_track := by decide +kernel
  have fl96 : Cond.fieldLink RX7 96 "DiscArcsModel" "ordered" "I" ∈ wsX7_track := by decide +kernel
  obtain ⟨hi, od, bs, bb, bf, at9, nu, f, fh, fs, fa, fr, fl, fo, fd, h65, h66, h67, h68, h69, h70, h71, h72, h73, h74, hN, hHi, hSl⟩ := id hz
  have hn := hN.1
  have hn0 := hN.n0
  have hv1 := hv.1.2
  have hfm : ∀ j, j < 65 → E j = E j := fun _ _ => rfl
  have hs4 := hv.2.1.1
  have htl := hv.2.2.2
  refine lv_iload_n S.1 S.2.1 dX7_track_0 rfl (lv_at hl 1 rfl) ?_
  refine lv_if_lt (tgt := 13) S.1 S.2.1 dX7_track_1 (by decide) (fun c1 => ?_) (fun c1 => ?_)
  · skip
    refine lv_bipush (v := (-2)) S.1 S.2.1 dX7_track_13 (by decide) ?_
    exact x_iret S hr hlocks hP hS dX7_track_15 (⟨Or.inl ⟨by first | exact Or.inr (hr7.f c10) | exact Or.inl c1, rfl⟩, sM.mk h65 rfl rfl rfl h66 h67 h68 h69 h70 h71 h72 h73 h74 hN hHi hSl, hfm⟩)
  · skip
    refine lv_iload_n S.1 S.2.1 dX7_track_4 rfl (lv_at hl 2 rfl) ?_
    refine lv_iconst (v := 0) S.1 S.2.1 dX7_track_5 (by decide) ?_
    refine lv_iconst (v := 5) S.1 S.2.1 dX7_track_6 (by decide) ?_
    refine x_si (va_runS (As := [.int w, .int 0, .int 5]) (rest := []) S (c_X7_in l g E w 0 5) (va_cwS 3 S.2.2.2.2 gX7_track_X7_in rfl rfl rfl (by decide +kernel) ⟨Nat.le_of_ble_eq_true rfl, Nat.le_of_ble_eq_true rfl⟩) (x_preS hK hP) rfl rfl hl.1 rfl (lv_room (Nat.le_of_ble_eq_true rfl)) dX7_track_7 ⟨Nat.le_of_ble_eq_true rfl, Nat.le_of_ble_eq_true rfl⟩) (fun r7 hr7 => ?_)
    refine lv_if_ne (tgt := 16) S.1 S.2.1 dX7_track_10 (by decide) (fun c10 => ?_) (fun c10 => ?_)
    · skip
      have hin : ¬ (x < 0 ∨ ¬ (0 ≤ w ∧ w ≤ 5)) := fun h => by rcases h with h | h; exact c1 h; exact h (hr7.t c10)
      obtain ⟨v9, hv9, hxv⟩ := nI_of c1
      rw [hxv] at hl
      have hw9 := hr7.t c10
      obtain ⟨u9, hu9, hwu⟩ := in_nat (m := 5) (by decide) hw9.1 hw9.2
      have hcn := cnt_le (pU (zM z)) (zn z)
      refine lv_aload_n S.1 S.2.1 dX7_track_16 rfl (lv_at hl 0 rfl) ?_
      refine x_qv (va_runV (As := []) (rest := []) S (c_X7_findsTrack l g hJ E h65 h66 hN h69 h70 h71 h72) (cwV 0 S.2.2.2.2 gX7_track_X7_findsTrack rfl rfl rfl (by decide +kernel) ⟨Nat.le_of_ble_eq_true rfl, Nat.le_of_ble_eq_true rfl⟩) (x_preV hK hP h65 (by decide) rfl) rfl rfl hl.1 rfl (lv_room (Nat.le_of_ble_eq_true rfl)) dX7_track_17 ⟨Nat.le_of_ble_eq_true rfl, Nat.le_of_ble_eq_true rfl⟩) hS (fun E1 H locs hq17 hP hS => ?_)
      obtain ⟨hfr17, ⟨h9, h65⟩, ⟨fa9, h69⟩, fr9, fl9, fo9, RW, LG, h70, h71, h72, ho, htw, hfr9, hfl9⟩ := hq17
      have h66 := (hfr17 66 (by decide)).trans h66
      have h67 := (hfr17 67 (by decide)).trans h67
      have h68 := (hfr17 68 (by decide)).trans h68
      have h73 := (hfr17 73 (by decide)).trans h73
      have h74 := (hfr17 74 (by decide)).trans h74
      have hfm : ∀ j, j < 65 → E1 j = E j := fun j hj => (hfr17 j (by omega)).trans (hfm j hj)
      refine lv_iconst (v := 0) S.1 S.2.1 dX7_track_20 (by decide) ?_
      refine lv_istore_n (lv' := [(3, .int 0), (0, .ref (xad g 65)), (1, .int (nI v9)), (2, .int w)]) S.1 S.2.1 dX7_track_21 rfl hl (by decide) rfl (fun ls hl => ?_)
      refine lv_iconst (v := 0) S.1 S.2.1 dX7_track_22 (by decide) ?_
      refine lv_istore (lv' := [(4, .int 0), (3, .int 0), (0, .ref (xad g 65)), (1, .int (nI v9)), (2, .int w)]) S.1 S.2.1 dX7_track_23 hl (by decide) rfl (fun ls hl => ?_)
      have loop25 : ∀ (d : Nat) (c : Nat) (EL : Nat → va_E) (H : Heap) (locs : List Loc), (hcle : c ≤ v9) → (v9 - c) < d → (h65 : EL 65 = mO g (nI (zh z)) (bI (zf z)) h9 (nI (cnt (pU (zM z)) (zn z))) bs bb bf (nI (ztl z)) at9 nu) → (h66 : EL 66 = .inl (xI g, 71, .inl f)) → (h67 : EL 67 = .inl (xI g, 284, .inl fh)) → (h68 : EL 68 = .inl (xI g, 71, .inl fs)) → (h69 : EL 69 = .inl (xI g, 3, .inl fa9)) → (h70 : EL 70 = .inl (xI g, 11, .inl fr9)) → (h71 : EL 71 = .inl (xI g, 10, .inl fl9)) → (h72 : EL 72 = .inl (xI g, 10, .inl fo9)) → (h73 : EL 73 = .inl (xC g, 60, .inl (ztf z))) → (h74 : EL 74 = .inl (xI g, 6, .inl fd)) → (hfm : ∀ j, j < 65 → EL j = E j) → xP g EL H → va_S (xA (xad g)) s.heap H locs → ∀ ls : Array Slot, lv_has ls 6 [(4, .int (nI c)), (3, .int (nI (itm (cnt (pU (zM z)) (zn z)) LG c))), (0, .ref (xad g 65)), (1, .int (nI v9)), (2, .int w)] → W pz l ez ({ frames := 7, cells := 0, slots := 0, locals := 181 }) s m ([.ref (xad g 65), .int x, .int w] : List Value).toArray below meth cz H locs 0 0 (MQ below (xQi g (fun r E1 => sp_track z x w r ∧ sM g E1 z ∧ ∀ j, j < 65 → E1 j = E j)) ([.ref (xad g 65), .int x, .int w] : List Value).toArray s 0 0 (xA (xad g))) (F0 m 25 ls []) := by
        intro d
        induction d with
        | zero => intro c EL H locs hcle hd; exact absurd hd (Nat.not_lt_zero _)
        | succ d ih25 =>
          intro c EL H locs hcle hd h65 h66 h67 h68 h69 h70 h71 h72 h73 h74 hfm hP hS ls hl
          have hile := itm_le htw c
          refine lv_iload S.1 S.2.1 dX7_track_25 (lv_at hl 0 rfl) ?_
          refine lv_iload_n S.1 S.2.1 dX7_track_27 rfl (lv_at hl 3 rfl) ?_
          refine lv_icmp_ge (tgt := 54) S.1 S.2.1 dX7_track_28 (by decide) (fun c28 => ?_) (fun c28 => ?_)
          · skip
            refine lv_iload_n S.1 S.2.1 dX7_track_54 rfl (lv_at hl 1 rfl) ?_
            refine lv_aload_n S.1 S.2.1 dX7_track_55 rfl (lv_at hl 2 rfl) ?_
            refine x_get S hK hP dX7_track_56 h65 (by decide) (RX7, TX7, 19) rfl hin7 10 (by decide) fl96 rfl ?_
            refine lv_icmp_lt (tgt := 65) S.1 S.2.1 dX7_track_59 (by decide) (fun c59 => ?_) (fun c59 => ?_)
            · skip
              have hlt : (itm (cnt (pU (zM z)) (zn z)) LG c) < (cnt (pU (zM z)) (zn z)) := (nI_ltI (by omega) (by omega)).mp c59
              have hcv : c = v9 := Nat.le_antisymm hcle ((nI_leI (by omega) (by omega)).mp c28)
              have hcR := (itm_lt htw).mp hlt
              obtain ⟨q1, q2, -⟩ := htw.2.2 (itm (cnt (pU (zM z)) (zn z)) LG c) (Nat.zero_le _) hlt
              refine lv_aload_n S.1 S.2.1 dX7_track_65 rfl (lv_at hl 2 rfl) ?_
              refine x_get S hK hP dX7_track_66 h65 (by decide) (RX7, TX7, 19) rfl hin7 8 (by decide) fl25 rfl ?_
              refine lv_iload_n S.1 S.2.1 dX7_track_69 rfl (lv_at hl 1 rfl) ?_
              refine x_iald S hK hP dX7_track_70 h71 (by decide) (j := (itm (cnt (pU (zM z)) (zn z)) LG c)) rfl (by omega) (by decide) ?_
              refine W.eq (g2 := F0 m 71 ls [.int (nI (LG (itm (cnt (pU (zM z)) (zn z)) LG c)))]) (by rw [hfl9 _ hlt]) ?_
              refine lv_istore (lv' := [(4, .int (nI (LG (itm (cnt (pU (zM z)) (zn z)) LG c)))), (3, .int (nI (itm (cnt (pU (zM z)) (zn z)) LG c))), (0, .ref (xad g 65)), (1, .int (nI v9)), (2, .int w)]) S.1 S.2.1 dX7_track_71 hl (by decide) rfl (fun ls hl => ?_)
              refine lv_aload_n S.1 S.2.1 dX7_track_73 rfl (lv_at hl 2 rfl) ?_
              refine lv_iload_n S.1 S.2.1 dX7_track_74 rfl (lv_at hl 1 rfl) ?_
              refine lv_iload S.1 S.2.1 dX7_track_75 (lv_at hl 0 rfl) ?_
              refine x_si (va_runV (As := [.int (nI (itm (cnt (pU (zM z)) (zn z)) LG c)), .int (nI (LG (itm (cnt (pU (zM z)) (zn z)) LG c)))]) (rest := []) S (c_X7_setOf l g EL h65 hn h72 ho (p := (itm (cnt (pU (zM z)) (zn z)) LG c)) (m9 := LG (itm (cnt (pU (zM z)) (zn z)) LG c)) q2) (cwV 2 S.2.2.2.2 gX7_track_X7_setOf rfl rfl rfl (by decide +kernel) ⟨Nat.le_of_ble_eq_true rfl, Nat.le_of_ble_eq_true rfl⟩) (x_preV hK hP h65 (by decide) rfl) rfl rfl hl.1 rfl (lv_room (Nat.le_of_ble_eq_true rfl)) dX7_track_77 ⟨Nat.le_of_ble_eq_true rfl, Nat.le_of_ble_eq_true rfl⟩) (fun r77 hr77 => ?_)
              subst hr77
              refine lv_istore (lv' := [(5, .int (nI (mk (pC (zM z) (itm (cnt (pU (zM z)) (zn z)) LG c) (LG (itm (cnt (pU (zM z)) (zn z)) LG c))) (zn z)))), (4, .int (nI (LG (itm (cnt (pU (zM z)) (zn z)) LG c)))), (3, .int (nI (itm (cnt (pU (zM z)) (zn z)) LG c))), (0, .ref (xad g 65)), (1, .int (nI v9)), (2, .int w)]) S.1 S.2.1 dX7_track_80 hl (by decide) rfl (fun ls hl => ?_)
              refine lv_iload_n S.1 S.2.1 dX7_track_82 rfl (lv_at hl 5 rfl) ?_
              refine lv_iconst (v := 3) S.1 S.2.1 dX7_track_83 (by decide) ?_
              refine lv_icmp_ge (tgt := 122) S.1 S.2.1 dX7_track_84 (by decide) (fun c84 => ?_) (fun c84 => ?_)
              · skip
                have hu3 : 3 ≤ u9 := (nI_leI (a := 3) (by decide) (by omega)).mp (by rw [← hwu]; exact c84)
                refine lv_iload S.1 S.2.1 dX7_track_122 (lv_at hl 1 rfl) ?_
                refine lv_iconst (v := 2) S.1 S.2.1 dX7_track_124 (by decide) ?_
                refine lv_icmp_le (tgt := 148) S.1 S.2.1 dX7_track_125 (by decide) (fun c125 => ?_) (fun c125 => ?_)
                · skip
                  refine lv_bipush (v := (-5)) S.1 S.2.1 dX7_track_148 (by decide) ?_
                  exact x_iret S hr hlocks hP hS dX7_track_150 (⟨Or.inr ⟨hin, _, _, htw.trk, Or.inr ⟨c, hcR, by rw [hcv]; exact hxv, sp_rw.row (Or.inr (Or.inr (Or.inr ⟨⟨fun h => by rw [hwu] at h; have := (nI_eq (b := 0) (by omega) (by decide)).mp h; omega, fun h => by rw [hwu] at h; have := (nI_eq (b := 1) (by omega) (by decide)).mp h; omega, fun h => by rw [hwu] at h; have := (nI_eq (b := 2) (by omega) (by decide)).mp h; omega⟩, Or.inl ⟨fun i j k ht => by have h3 := trio_cnt ht; rw [cnt_pCe q2] at h3; have := (nI_leI (b := 2) (by omega) (by decide)).mp c125; omega, rfl⟩⟩))) (itm_row htw hlt)⟩⟩, sM.mk h65 rfl rfl rfl h66 h67 h68 h69 h70 h71 h72 h73 h74 hN hHi hSl, hfm⟩)
                · skip
                  refine lv_aload_n S.1 S.2.1 dX7_track_128 rfl (lv_at hl 3 rfl) ?_
                  refine lv_iload S.1 S.2.1 dX7_track_129 (lv_at hl 0 rfl) ?_
                  refine x_qi (va_runV (As := [.int (nI (mk (pC (zM z) (itm (cnt (pU (zM z)) (zn z)) LG c) (LG (itm (cnt (pU (zM z)) (zn z)) LG c))) (zn z)))]) (rest := []) S (c_X7_finds l g hJ EL h65 h66 hN (P := (pC (zM z) (itm (cnt (pU (zM z)) (zn z)) LG c) (LG (itm (cnt (pU (zM z)) (zn z)) LG c)))) pC_pU h69) (cwV 1 S.2.2.2.2 gX7_track_X7_finds rfl rfl rfl (by decide +kernel) ⟨Nat.le_of_ble_eq_true rfl, Nat.le_of_ble_eq_true rfl⟩) (x_preV hK hP h65 (by decide) rfl) rfl rfl hl.1 rfl (lv_room (Nat.le_of_ble_eq_true rfl)) dX7_track_131 ⟨Nat.le_of_ble_eq_true rfl, Nat.le_of_ble_eq_true rfl⟩) hS (fun r131 E1_1 H locs hq131 hP hS => ?_)
                  obtain ⟨hfr131, h9b, fa9b, h65, h69, hor⟩ := hq131
                  have h66 := (hfr131 66 (by decide) (by decide)).trans h66
                  have h67 := (hfr131 67 (by decide) (by decide)).trans h67
                  have h68 := (hfr131 68 (by decide) (by decide)).trans h68
                  have h70 := (hfr131 70 (by decide) (by decide)).trans h70
                  have h71 := (hfr131 71 (by decide) (by decide)).trans h71
                  have h72 := (hfr131 72 (by decide) (by decide)).trans h72
                  have h73 := (hfr131 73 (by decide) (by decide)).trans h73
                  have h74 := (hfr131 74 (by decide) (by decide)).trans h74
                  have hfm : ∀ j, j < 65 → E1_1 j = E j := fun j hj => (hfr131 j (by omega) (by omega)).trans (hfm j hj)
                  refine lv_if_eq (tgt := 148) S.1 S.2.1 dX7_track_134 (by decide) (fun c134 => ?_) (fun c134 => ?_)
                  · skip
                    refine lv_bipush (v := (-5)) S.1 S.2.1 dX7_track_148 (by decide) ?_
                    exact x_iret S hr hlocks hP hS dX7_track_150 (by rcases hor with ⟨h1, -⟩ | ⟨-, hno⟩; rw [h1] at c134; exact absurd c134 (by decide); exact ⟨Or.inr ⟨hin, _, _, htw.trk, Or.inr ⟨c, hcR, by rw [hcv]; exact hxv, sp_rw.row (Or.inr (Or.inr (Or.inr ⟨⟨fun h => by rw [hwu] at h; have := (nI_eq (b := 0) (by omega) (by decide)).mp h; omega, fun h => by rw [hwu] at h; have := (nI_eq (b := 1) (by omega) (by decide)).mp h; omega, fun h => by rw [hwu] at h; have := (nI_eq (b := 2) (by omega) (by decide)).mp h; omega⟩, Or.inl ⟨hno, rfl⟩⟩))) (itm_row htw hlt)⟩⟩, sM.mk h65 rfl rfl rfl h66 h67 h68 h69 h70 h71 h72 h73 h74 hN hHi hSl, hfm⟩)
                  · skip
                    refine lv_aload_n S.1 S.2.1 dX7_track_137 rfl (lv_at hl 3 rfl) ?_
                    refine x_get S hK hP dX7_track_138 h65 (by decide) (RX7, TX7, 19) rfl hin7 5 (by decide) fl19 rfl ?_
                    refine lv_iload_n S.1 S.2.1 dX7_track_141 rfl (lv_at hl 5 rfl) ?_
                    refine lv_iconst (v := 3) S.1 S.2.1 dX7_track_142 (by decide) ?_
                    refine lv_isub S.1 S.2.1 dX7_track_143 ?_
                    refine x_iald S hK hP dX7_track_144 h69 (by decide) (j := (u9 - 3)) (by rw [hwu, show (3 : Int32) = nI 3 from rfl, pk_sub hu3]) (by omega) (by decide) ?_
                    refine lv_goto (tgt := 150) S.1 S.2.1 dX7_track_145 (by decide) ?_
                    exact x_iret S hr hlocks hP hS dX7_track_150 (by obtain ⟨i, j, k, hb, ⟨ha0, ha1, ha2⟩, -⟩ : ∃ i j k, isBest (zM z) (pC (zM z) (itm (cnt (pU (zM z)) (zn z)) LG c) (LG (itm (cnt (pU (zM z)) (zn z)) LG c))) (zn z) i j k ∧ (fa9b 0 = nI i ∧ fa9b 1 = nI j ∧ fa9b 2 = nI k) ∧ h9b = nI (mk (fun q => (pC (zM z) (itm (cnt (pU (zM z)) (zn z)) LG c) (LG (itm (cnt (pU (zM z)) (zn z)) LG c))) q && hitB (zM z) i j k q) (zn z)) := (by rcases hor with ⟨-, h⟩ | ⟨h0, -⟩; exact h; exact absurd h0 c134); exact ⟨Or.inr ⟨hin, _, _, htw.trk, Or.inr ⟨c, hcR, by rw [hcv]; exact hxv, sp_rw.row (Or.inr (Or.inr (Or.inr ⟨⟨fun h => by rw [hwu] at h; have := (nI_eq (b := 0) (by omega) (by decide)).mp h; omega, fun h => by rw [hwu] at h; have := (nI_eq (b := 1) (by omega) (by decide)).mp h; omega, fun h => by rw [hwu] at h; have := (nI_eq (b := 2) (by omega) (by decide)).mp h; omega⟩, Or.inr ⟨i, j, k, hb, by rw [hwu]; exact arc3 hu3 hu9 ha0 ha1 ha2⟩⟩))) (itm_row htw hlt)⟩⟩, sM.mk h65 rfl rfl rfl h66 h67 h68 h69 h70 h71 h72 h73 h74 hN hHi hSl, hfm⟩)
              · skip
                refine lv_iload_n S.1 S.2.1 dX7_track_87 rfl (lv_at hl 5 rfl) ?_
                refine lv_if_ne (tgt := 100) S.1 S.2.1 dX7_track_88 (by decide) (fun c88 => ?_) (fun c88 => ?_)
                · skip
                  refine lv_iload_n S.1 S.2.1 dX7_track_100 rfl (lv_at hl 5 rfl) ?_
                  refine lv_iconst (v := 1) S.1 S.2.1 dX7_track_101 (by decide) ?_
                  refine lv_icmp_ne (tgt := 119) S.1 S.2.1 dX7_track_102 (by decide) (fun c102 => ?_) (fun c102 => ?_)
                  · skip
                    have hu3 : u9 < 3 := Nat.not_le.mp (fun h => c84 (by rw [hwu]; exact (nI_leI (a := 3) (by decide) (by omega)).mpr h))
                    have hu0 : ¬ u9 = 0 := fun h => c88 (by rw [hwu]; exact congrArg nI h)
                    have hu1 : ¬ u9 = 1 := fun h => c102 (by rw [hwu]; exact congrArg nI h)
                    refine lv_iload S.1 S.2.1 dX7_track_119 (lv_at hl 0 rfl) ?_
                    exact x_iret S hr hlocks hP hS dX7_track_121 (⟨Or.inr ⟨hin, _, _, htw.trk, Or.inr ⟨c, hcR, by rw [hcv]; exact hxv, sp_rw.row (Or.inr (Or.inr (Or.inl ⟨by rw [hwu]; exact congrArg nI (show u9 = 2 by omega), rfl⟩))) (itm_row htw hlt)⟩⟩, sM.mk h65 rfl rfl rfl h66 h67 h68 h69 h70 h71 h72 h73 h74 hN hHi hSl, hfm⟩)
                  · skip
                    refine lv_aload_n S.1 S.2.1 dX7_track_105 rfl (lv_at hl 3 rfl) ?_
                    refine x_get S hK hP dX7_track_106 h65 (by decide) (RX7, TX7, 19) rfl hin7 9 (by decide) fl28 rfl ?_
                    refine lv_iload_n S.1 S.2.1 dX7_track_109 rfl (lv_at hl 2 rfl) ?_
                    refine lv_iload S.1 S.2.1 dX7_track_110 (lv_at hl 1 rfl) ?_
                    refine lv_iadd S.1 S.2.1 dX7_track_112 ?_
                    refine lv_iconst (v := 1) S.1 S.2.1 dX7_track_113 (by decide) ?_
                    refine lv_isub S.1 S.2.1 dX7_track_114 ?_
                    refine x_iald S hK hP dX7_track_115 h72 (by decide) (j := ((itm (cnt (pU (zM z)) (zn z)) LG c) + LG (itm (cnt (pU (zM z)) (zn z)) LG c) - 1)) (by rw [nI_add, show (1 : Int32) = nI 1 from rfl, pk_sub (by omega)]) (by omega) (by decide) ?_
                    refine lv_goto (tgt := 121) S.1 S.2.1 dX7_track_116 (by decide) ?_
                    exact x_iret S hr hlocks hP hS dX7_track_121 (⟨Or.inr ⟨hin, _, _, htw.trk, Or.inr ⟨c, hcR, by rw [hcv]; exact hxv, sp_rw.row (Or.inr (Or.inl ⟨c102, row_hi ho (by omega) q2⟩)) (itm_row htw hlt)⟩⟩, sM.mk h65 rfl rfl rfl h66 h67 h68 h69 h70 h71 h72 h73 h74 hN hHi hSl, hfm⟩)
                · skip
                  refine lv_aload_n S.1 S.2.1 dX7_track_91 rfl (lv_at hl 3 rfl) ?_
                  refine x_get S hK hP dX7_track_92 h65 (by decide) (RX7, TX7, 19) rfl hin7 9 (by decide) fl28 rfl ?_
                  refine lv_iload_n S.1 S.2.1 dX7_track_95 rfl (lv_at hl 2 rfl) ?_
                  refine x_iald S hK hP dX7_track_96 h72 (by decide) (j := (itm (cnt (pU (zM z)) (zn z)) LG c)) rfl (by omega) (by decide) ?_
                  refine lv_goto (tgt := 121) S.1 S.2.1 dX7_track_97 (by decide) ?_
                  exact x_iret S hr hlocks hP hS dX7_track_121 (⟨Or.inr ⟨hin, _, _, htw.trk, Or.inr ⟨c, hcR, by rw [hcv]; exact hxv, sp_rw.row (Or.inl ⟨c88, row_lo ho (by omega) hlt⟩) (itm_row htw hlt)⟩⟩, sM.mk h65 rfl rfl rfl h66 h67 h68 h69 h70 h71 h72 h73 h74 hN hHi hSl, hfm⟩)
            · skip
              refine lv_bipush (v := (-5)) S.1 S.2.1 dX7_track_62 (by decide) ?_
              exact x_iret S hr hlocks hP hS dX7_track_64 (⟨Or.inr ⟨hin, _, _, htw.trk, Or.inl ⟨by rw [hxv]; exact (nI_leI (by have := htw.2.1 0 (Nat.le_refl _) (Nat.zero_le _); show RW 0 < _; omega) (by omega)).mpr (by have h9 : ¬ c < RW 0 := fun h => c59 ((nI_ltI (by omega) (by omega)).mpr ((itm_lt htw).mpr h)); show RW 0 ≤ v9; omega), rfl⟩⟩, sM.mk h65 rfl rfl rfl h66 h67 h68 h69 h70 h71 h72 h73 h74 hN hHi hSl, hfm⟩)
          · skip
            have hcv9 : c < v9 := Nat.not_le.mp (fun h => c28 ((nI_leI (by omega) (by omega)).mpr h))
            refine lv_iload_n S.1 S.2.1 dX7_track_31 rfl (lv_at hl 1 rfl) ?_
            refine lv_aload_n S.1 S.2.1 dX7_track_32 rfl (lv_at hl 2 rfl) ?_
            refine x_get S hK hP dX7_track_33 h65 (by decide) (RX7, TX7, 19) rfl hin7 10 (by decide) fl96 rfl ?_
            refine lv_icmp_ge (tgt := 54) S.1 S.2.1 dX7_track_36 (by decide) (fun c36 => ?_) (fun c36 => ?_)
            · skip
              refine lv_iload_n S.1 S.2.1 dX7_track_54 rfl (lv_at hl 1 rfl) ?_
              refine lv_aload_n S.1 S.2.1 dX7_track_55 rfl (lv_at hl 2 rfl) ?_
              refine x_get S hK hP dX7_track_56 h65 (by decide) (RX7, TX7, 19) rfl hin7 10 (by decide) fl96 rfl ?_
              refine lv_icmp_lt (tgt := 65) S.1 S.2.1 dX7_track_59 (by decide) (fun c59 => ?_) (fun c59 => ?_)
              · skip
                exact absurd ((nI_ltI (by omega) (by omega)).mp c59) (Nat.not_lt.mpr ((nI_leI (by omega) (by omega)).mp c36))
              · skip
                refine lv_bipush (v := (-5)) S.1 S.2.1 dX7_track_62 (by decide) ?_
                exact x_iret S hr hlocks hP hS dX7_track_64 (⟨Or.inr ⟨hin, _, _, htw.trk, Or.inl ⟨by rw [hxv]; exact (nI_leI (by have := htw.2.1 0 (Nat.le_refl _) (Nat.zero_le _); show RW 0 < _; omega) (by omega)).mpr (by have h9 : ¬ c < RW 0 := fun h => c59 ((nI_ltI (by omega) (by omega)).mpr ((itm_lt htw).mpr h)); show RW 0 ≤ v9; omega), rfl⟩⟩, sM.mk h65 rfl rfl rfl h66 h67 h68 h69 h70 h71 h72 h73 h74 hN hHi hSl, hfm⟩)
            · skip
              have hlt : (itm (cnt (pU (zM z)) (zn z)) LG c) < (cnt (pU (zM z)) (zn z)) := Nat.not_le.mp (fun h => c36 ((nI_leI (by omega) (by omega)).mpr h))
              refine lv_iload_n S.1 S.2.1 dX7_track_39 rfl (lv_at hl 1 rfl) ?_
              refine lv_aload_n S.1 S.2.1 dX7_track_40 rfl (lv_at hl 2 rfl) ?_
              refine x_get S hK hP dX7_track_41 h65 (by decide) (RX7, TX7, 19) rfl hin7 8 (by decide) fl25 rfl ?_
              refine lv_iload_n S.1 S.2.1 dX7_track_44 rfl (lv_at hl 1 rfl) ?_
              refine x_iald S hK hP dX7_track_45 h71 (by decide) (j := (itm (cnt (pU (zM z)) (zn z)) LG c)) rfl (by omega) (by decide) ?_
              refine lv_iadd S.1 S.2.1 dX7_track_46 ?_
              refine W.eq (g2 := F0 m 47 ls [.int (nI (itm (cnt (pU (zM z)) (zn z)) LG (c + 1)))]) (by rw [hfl9 _ hlt, nI_add, itm_s hlt]) ?_
              refine lv_istore_n (lv' := [(3, .int (nI (itm (cnt (pU (zM z)) (zn z)) LG (c + 1)))), (4, .int (nI c)), (0, .ref (xad g 65)), (1, .int (nI v9)), (2, .int w)]) S.1 S.2.1 dX7_track_47 rfl hl (by decide) rfl (fun ls hl => ?_)
              refine lv_iinc (v := nI (c + 1)) (lv' := [(4, .int (nI (c + 1))), (3, .int (nI (itm (cnt (pU (zM z)) (zn z)) LG (c + 1)))), (0, .ref (xad g 65)), (1, .int (nI v9)), (2, .int w)]) S.1 S.2.1 dX7_track_48 hl (k := 1) rfl (show nI c + Int32.ofInt 1 = _ from nI_1 _) (by decide) rfl (fun ls hl => ?_)
              refine lv_goto (tgt := 25) S.1 S.2.1 dX7_track_51 (by decide) ?_
              exact ih25 (c + 1) _ _ _ (by omega) (by omega) h65 h66 h67 h68 h69 h70 h71 h72 h73 h74 hfm hP hS ls (lv_sub hl [0, 1, 2, 3, 4] rfl)
      exact loop25 _ 0 _ _ _ (Nat.zero_le _) (Nat.lt_succ_self _) h65 h66 h67 h68 h69 h70 h71 h72 h73 h74 hfm hP hS ls (lv_sub hl [0, 1, 2, 3, 4] rfl)
    · skip
      refine lv_bipush (v := (-2)) S.1 S.2.1 dX7_track_13 (by decide) ?_
      exact x_iret S hr hlocks hP hS dX7_track_15 (⟨Or.inl ⟨by first | exact Or.inr (hr7.f c10) | exact Or.inl c1, rfl⟩, sM.mk h65 rfl rfl rfl h66 h67 h68 h69 h70 h71 h72 h73 h74 hN hHi hSl, hfm⟩)
set_option maxHeartbeats 4000000 in
set_option maxRecDepth 100000 in
theorem c_X7_fitsFrom (l : Launch) (g : xG) (hJ : xJ (xad g)) (E : Nat → va_E) {z : xS} (hz : sM g E z) (hv : vS z) (x : Int32) : Met l yX7_fitsFrom wsX7_fitsFrom ({ frames := 6, cells := 0, slots := 0, locals := 159 }) (xPc g [.ref (xad g 65), .int x] E) (xQi g (fun r E1 => sp_fitsFrom z x r ∧ sM g E1 z ∧ ∀ j, j < 65 → E1 j = E j)) 0 0 (xA (xad g)) := by
  refine x_met (ws' := _) (by decide) rfl (Nat.le_of_ble_eq_true rfl) ?_
  intro pz ez s m below meth cz ls S hr hlocks hP hK hl
  have hl : lv_has ls 4 [(0, .ref (xad g 65)), (1, .int x)] := hl
  have hS : va_S (xA (xad g)) s.heap s.heap [] := va_S.rf
  have hin7 : ∀ w ∈ u_ws RX7 TX7 19, w ∈ wsX7_fitsFrom := by decide +kernel
  have fl28 : Cond.fieldLink RX7 28 "DiscArcsModel" "order" "[I" ∈ wsX7_fitsFrom := by decide +kernel
  have fl96 : Cond.fieldLink RX7 96 "DiscArcsModel" "ordered" "I" ∈ wsX7_fitsFrom := by decide +kernel
  obtain ⟨hi, od, bs, bb, bf, at9, nu, f, fh, fs, fa, fr, fl, fo, fd, h65, h66, h67, h68, h69, h70, h71, h72, h73, h74, hN, hHi, hSl⟩ := id hz
  have hn := hN.1
  have hn0 := hN.n0
  have hv1 := hv.1.2
  have hfm : ∀ j, j < 65 → E j = E j := fun _ _ => rfl
  have hs4 := hv.2.1.1
  have htl := hv.2.2.2
  refine lv_aload_n S.1 S.2.1 dX7_fitsFrom_0 rfl (lv_at hl 0 rfl) ?_
  refine lv_iload_n S.1 S.2.1 dX7_fitsFrom_1 rfl (lv_at hl 1 rfl) ?_
  refine x_si (va_runV (As := [.int x]) (rest := []) S (c_X7_no l g E h65 h66 hN x) (cwV 1 S.2.2.2.2 gX7_fitsFrom_X7_no rfl rfl rfl (by decide +kernel) ⟨Nat.le_of_ble_eq_true rfl, Nat.le_of_ble_eq_true rfl⟩) (x_preV hK hP h65 (by decide) rfl) rfl rfl hl.1 rfl (lv_room (Nat.le_of_ble_eq_true rfl)) dX7_fitsFrom_2 ⟨Nat.le_of_ble_eq_true rfl, Nat.le_of_ble_eq_true rfl⟩) (fun r2 hr2 => ?_)
  refine lv_if_eq (tgt := 10) S.1 S.2.1 dX7_fitsFrom_5 (by decide) (fun c5 => ?_) (fun c5 => ?_)
  · skip
    obtain ⟨k, hk, hxk⟩ := Classical.not_not.mp (hr2.f c5)
    rw [hxk] at hl
    have hcn := cnt_le (pU (zM z)) (zn z)
    refine lv_aload_n S.1 S.2.1 dX7_fitsFrom_10 rfl (lv_at hl 0 rfl) ?_
    refine lv_iload_n S.1 S.2.1 dX7_fitsFrom_11 rfl (lv_at hl 1 rfl) ?_
    refine x_si (va_runV (As := [.int (nI k)]) (rest := []) S (c_X7_isUsable l g E h65 h66 hN hk) (cwV 1 S.2.2.2.2 gX7_fitsFrom_X7_isUsable rfl rfl rfl (by decide +kernel) ⟨Nat.le_of_ble_eq_true rfl, Nat.le_of_ble_eq_true rfl⟩) (x_preV hK hP h65 (by decide) rfl) rfl rfl hl.1 rfl (lv_room (Nat.le_of_ble_eq_true rfl)) dX7_fitsFrom_12 ⟨Nat.le_of_ble_eq_true rfl, Nat.le_of_ble_eq_true rfl⟩) (fun r12 hr12 => ?_)
    refine lv_if_ne (tgt := 21) S.1 S.2.1 dX7_fitsFrom_15 (by decide) (fun c15 => ?_) (fun c15 => ?_)
    · skip
      have hus := hr12.t c15
      have hKO := cnt_lt hk hus
      refine lv_aload_n S.1 S.2.1 dX7_fitsFrom_21 rfl (lv_at hl 0 rfl) ?_
      refine x_qv (va_runV (As := []) (rest := []) S (c_X7_orders l g hJ E h65 h66 hN h72) (cwV 0 S.2.2.2.2 gX7_fitsFrom_X7_orders rfl rfl rfl (by decide +kernel) ⟨Nat.le_of_ble_eq_true rfl, Nat.le_of_ble_eq_true rfl⟩) (x_preV hK hP h65 (by decide) rfl) rfl rfl hl.1 rfl (lv_room (Nat.le_of_ble_eq_true rfl)) dX7_fitsFrom_22 ⟨Nat.le_of_ble_eq_true rfl, Nat.le_of_ble_eq_true rfl⟩) hS (fun E1 H locs hq22 hP hS => ?_)
      obtain ⟨hfr22, h65, fo9, h72, ho⟩ := hq22
      have h66 := (hfr22 66 (by decide) (by decide)).trans h66
      have h67 := (hfr22 67 (by decide) (by decide)).trans h67
      have h68 := (hfr22 68 (by decide) (by decide)).trans h68
      have h69 := (hfr22 69 (by decide) (by decide)).trans h69
      have h70 := (hfr22 70 (by decide) (by decide)).trans h70
      have h71 := (hfr22 71 (by decide) (by decide)).trans h71
      have h73 := (hfr22 73 (by decide) (by decide)).trans h73
      have h74 := (hfr22 74 (by decide) (by decide)).trans h74
      have hfm : ∀ j, j < 65 → E1 j = E j := fun j hj => (hfr22 j (by omega) (by omega)).trans (hfm j hj)
      refine lv_iconst (v := 0) S.1 S.2.1 dX7_fitsFrom_25 (by decide) ?_
      refine lv_istore_n (lv' := [(2, .int 0), (0, .ref (xad g 65)), (1, .int (nI k))]) S.1 S.2.1 dX7_fitsFrom_26 rfl hl (by decide) rfl (fun ls hl => ?_)
      have loop27 : ∀ (d : Nat) (c : Nat) (EL : Nat → va_E) (H : Heap) (locs : List Loc), (hcle : c ≤ (cnt (pU (zM z)) k)) → ((cnt (pU (zM z)) k) - c) < d → (h65 : EL 65 = mO g (nI (zh z)) (bI (zf z)) hi (nI (cnt (pU (zM z)) (zn z))) bs bb bf (nI (ztl z)) at9 nu) → (h66 : EL 66 = .inl (xI g, 71, .inl f)) → (h67 : EL 67 = .inl (xI g, 284, .inl fh)) → (h68 : EL 68 = .inl (xI g, 71, .inl fs)) → (h69 : EL 69 = .inl (xI g, 3, .inl fa)) → (h70 : EL 70 = .inl (xI g, 11, .inl fr)) → (h71 : EL 71 = .inl (xI g, 10, .inl fl)) → (h72 : EL 72 = .inl (xI g, 10, .inl fo9)) → (h73 : EL 73 = .inl (xC g, 60, .inl (ztf z))) → (h74 : EL 74 = .inl (xI g, 6, .inl fd)) → (hfm : ∀ j, j < 65 → EL j = E j) → xP g EL H → va_S (xA (xad g)) s.heap H locs → ∀ ls : Array Slot, lv_has ls 4 [(2, .int (nI c)), (0, .ref (xad g 65)), (1, .int (nI k))] → W pz l ez ({ frames := 6, cells := 0, slots := 0, locals := 159 }) s m ([.ref (xad g 65), .int x] : List Value).toArray below meth cz H locs 0 0 (MQ below (xQi g (fun r E1 => sp_fitsFrom z x r ∧ sM g E1 z ∧ ∀ j, j < 65 → E1 j = E j)) ([.ref (xad g 65), .int x] : List Value).toArray s 0 0 (xA (xad g))) (F0 m 27 ls []) := by
        intro d
        induction d with
        | zero => intro c EL H locs hcle hd; exact absurd hd (Nat.not_lt_zero _)
        | succ d ih27 =>
          intro c EL H locs hcle hd h65 h66 h67 h68 h69 h70 h71 h72 h73 h74 hfm hP hS ls hl
          refine lv_aload_n S.1 S.2.1 dX7_fitsFrom_27 rfl (lv_at hl 1 rfl) ?_
          refine x_get S hK hP dX7_fitsFrom_28 h65 (by decide) (RX7, TX7, 19) rfl hin7 9 (by decide) fl28 rfl ?_
          refine lv_iload_n S.1 S.2.1 dX7_fitsFrom_31 rfl (lv_at hl 0 rfl) ?_
          refine x_iald S hK hP dX7_fitsFrom_32 h72 (by decide) (j := c) rfl (by omega) (by decide) ?_
          refine lv_iload_n S.1 S.2.1 dX7_fitsFrom_33 rfl (lv_at hl 2 rfl) ?_
          refine lv_icmp_eq (tgt := 43) S.1 S.2.1 dX7_fitsFrom_34 (by decide) (fun c34 => ?_) (fun c34 => ?_)
          · skip
            have hcK : c = (cnt (pU (zM z)) k) := ord_at hn ho hk hus hcle c34
            refine lv_aload_n S.1 S.2.1 dX7_fitsFrom_43 rfl (lv_at hl 1 rfl) ?_
            refine x_get S hK hP dX7_fitsFrom_44 h65 (by decide) (RX7, TX7, 19) rfl hin7 10 (by decide) fl96 rfl ?_
            refine lv_iload_n S.1 S.2.1 dX7_fitsFrom_47 rfl (lv_at hl 0 rfl) ?_
            refine lv_isub S.1 S.2.1 dX7_fitsFrom_48 ?_
            refine W.eq (g2 := F0 m 49 ls [.int (nI ((cnt (pU (zM z)) (zn z)) - c))]) (by rw [pk_sub (show c ≤ (cnt (pU (zM z)) (zn z)) by omega)]) ?_
            refine lv_istore_n (lv' := [(3, .int (nI ((cnt (pU (zM z)) (zn z)) - c))), (2, .int (nI c)), (0, .ref (xad g 65)), (1, .int (nI k))]) S.1 S.2.1 dX7_fitsFrom_49 rfl hl (by decide) rfl (fun ls hl => ?_)
            have loop50 : ∀ (d : Nat) (m8 : Nat) (fa : Nat → Int32) (h9 : Int32) (EL : Nat → va_E) (H : Heap) (locs : List Loc), (hm8 : 1 ≤ m8) → (hcm : c + m8 ≤ (cnt (pU (zM z)) (zn z))) → (hno : ∀ m', m8 < m' → c + m' ≤ (cnt (pU (zM z)) (zn z)) → ¬ fitC (zM z) (zn z) c m') → (m8) < d → (h65 : EL 65 = mO g (nI (zh z)) (bI (zf z)) h9 (nI (cnt (pU (zM z)) (zn z))) bs bb bf (nI (ztl z)) at9 nu) → (h66 : EL 66 = .inl (xI g, 71, .inl f)) → (h67 : EL 67 = .inl (xI g, 284, .inl fh)) → (h68 : EL 68 = .inl (xI g, 71, .inl fs)) → (h69 : EL 69 = .inl (xI g, 3, .inl fa)) → (h70 : EL 70 = .inl (xI g, 11, .inl fr)) → (h71 : EL 71 = .inl (xI g, 10, .inl fl)) → (h72 : EL 72 = .inl (xI g, 10, .inl fo9)) → (h73 : EL 73 = .inl (xC g, 60, .inl (ztf z))) → (h74 : EL 74 = .inl (xI g, 6, .inl fd)) → (hfm : ∀ j, j < 65 → EL j = E j) → xP g EL H → va_S (xA (xad g)) s.heap H locs → ∀ ls : Array Slot, lv_has ls 4 [(3, .int (nI m8)), (2, .int (nI c)), (0, .ref (xad g 65)), (1, .int (nI k))] → W pz l ez ({ frames := 6, cells := 0, slots := 0, locals := 159 }) s m ([.ref (xad g 65), .int x] : List Value).toArray below meth cz H locs 0 0 (MQ below (xQi g (fun r E1 => sp_fitsFrom z x r ∧ sM g E1 z ∧ ∀ j, j < 65 → E1 j = E j)) ([.ref (xad g 65), .int x] : List Value).toArray s 0 0 (xA (xad g))) (F0 m 50 ls []) := by
              intro d
              induction d with
              | zero => intro m8 fa h9 EL H locs hm8 hcm hno hd; exact absurd hd (Nat.not_lt_zero _)
              | succ d ih50 =>
                intro m8 fa h9 EL H locs hm8 hcm hno hd h65 h66 h67 h68 h69 h70 h71 h72 h73 h74 hfm hP hS ls hl
                refine lv_aload_n S.1 S.2.1 dX7_fitsFrom_50 rfl (lv_at hl 2 rfl) ?_
                refine lv_iload_n S.1 S.2.1 dX7_fitsFrom_51 rfl (lv_at hl 1 rfl) ?_
                refine lv_iload_n S.1 S.2.1 dX7_fitsFrom_52 rfl (lv_at hl 0 rfl) ?_
                refine x_qi (va_runV (As := [.int (nI c), .int (nI m8)]) (rest := []) S (c_X7_fitsAsRow l g hJ EL h65 h66 hN h69 h72 ho (p := c) (m9 := m8) hcm) (cwV 2 S.2.2.2.2 gX7_fitsFrom_X7_fitsAsRow rfl rfl rfl (by decide +kernel) ⟨Nat.le_of_ble_eq_true rfl, Nat.le_of_ble_eq_true rfl⟩) (x_preV hK hP h65 (by decide) rfl) rfl rfl hl.1 rfl (lv_room (Nat.le_of_ble_eq_true rfl)) dX7_fitsFrom_53 ⟨Nat.le_of_ble_eq_true rfl, Nat.le_of_ble_eq_true rfl⟩) hS (fun r53 E1_1 H locs hq53 hP hS => ?_)
                obtain ⟨hfr53, ⟨h9b, fa9b, h65, h69⟩, hr53⟩ := hq53
                have h66 := (hfr53 66 (by decide) (by decide)).trans h66
                have h67 := (hfr53 67 (by decide) (by decide)).trans h67
                have h68 := (hfr53 68 (by decide) (by decide)).trans h68
                have h70 := (hfr53 70 (by decide) (by decide)).trans h70
                have h71 := (hfr53 71 (by decide) (by decide)).trans h71
                have h72 := (hfr53 72 (by decide) (by decide)).trans h72
                have h73 := (hfr53 73 (by decide) (by decide)).trans h73
                have h74 := (hfr53 74 (by decide) (by decide)).trans h74
                have hfm : ∀ j, j < 65 → E1_1 j = E j := fun j hj => (hfr53 j (by omega) (by omega)).trans (hfm j hj)
                refine lv_if_ne (tgt := 65) S.1 S.2.1 dX7_fitsFrom_56 (by decide) (fun c56 => ?_) (fun c56 => ?_)
                · skip
                  refine lv_iload_n S.1 S.2.1 dX7_fitsFrom_65 rfl (lv_at hl 0 rfl) ?_
                  exact x_iret S hr hlocks hP hS dX7_fitsFrom_66 (⟨Or.inr ⟨k, hk, hxk, Or.inr ⟨hus, by rw [hcK] at hcm hno hr53; exact long_row hk hus hm8 hcm (hr53.t c56) hno⟩⟩, sM.mk h65 rfl rfl rfl h66 h67 h68 h69 h70 h71 h72 h73 h74 hN hHi hSl, hfm⟩)
                · skip
                  have hm1 : ¬ m8 = 1 := fun h => hr53.f c56 (by rw [h]; exact fitC_1)
                  refine lv_iinc (v := nI (m8 - 1)) (lv' := [(3, .int (nI (m8 - 1))), (2, .int (nI c)), (0, .ref (xad g 65)), (1, .int (nI k))]) S.1 S.2.1 dX7_fitsFrom_59 hl (k := 0) rfl (by rw [← pk_sub (show 1 ≤ m8 by omega), Int32.sub_eq_add_neg]; rfl) (by decide) rfl (fun ls hl => ?_)
                  refine lv_goto (tgt := 50) S.1 S.2.1 dX7_fitsFrom_62 (by decide) ?_
                  exact ih50 (m8 - 1) fa9b h9b _ _ _ (by omega) (by omega) (fun m1 h1 h2 => by rcases Classical.em (m1 = m8) with e | e; rw [e]; exact hr53.f c56; exact hno m1 (by omega) h2) (by omega) h65 h66 h67 h68 h69 h70 h71 h72 h73 h74 hfm hP hS ls (lv_sub hl [0, 1, 2, 3] rfl)
            exact loop50 _ _ fa hi _ _ _ (by omega) (by omega) (fun m1 h1 h2 => by omega) (Nat.lt_succ_self _) h65 h66 h67 h68 h69 h70 h71 h72 h73 h74 hfm hP hS ls (lv_sub hl [0, 1, 2, 3] rfl)
          · skip
            have hcK9 : c < (cnt (pU (zM z)) k) := by have : ¬ c = (cnt (pU (zM z)) k) := fun h => c34 (by rw [h]; exact ho k hk hus); omega
            refine lv_iinc (v := nI (c + 1)) (lv' := [(2, .int (nI (c + 1))), (0, .ref (xad g 65)), (1, .int (nI k))]) S.1 S.2.1 dX7_fitsFrom_37 hl (k := 0) rfl (show nI c + Int32.ofInt 1 = _ from nI_1 _) (by decide) rfl (fun ls hl => ?_)
            refine lv_goto (tgt := 27) S.1 S.2.1 dX7_fitsFrom_40 (by decide) ?_
            exact ih27 (c + 1) _ _ _ (by omega) (by omega) h65 h66 h67 h68 h69 h70 h71 h72 h73 h74 hfm hP hS ls (lv_sub hl [0, 1, 2] rfl)
      exact loop27 _ 0 _ _ _ (Nat.zero_le _) (Nat.lt_succ_self _) h65 h66 h67 h68 h69 h70 h71 h72 h73 h74 hfm hP hS ls (lv_sub hl [0, 1, 2] rfl)
    · skip
      refine lv_bipush (v := (-4)) S.1 S.2.1 dX7_fitsFrom_18 (by decide) ?_
      exact x_iret S hr hlocks hP hS dX7_fitsFrom_20 (⟨Or.inr ⟨k, hk, hxk, Or.inl ⟨hr12.f c15, rfl⟩⟩, sM.mk h65 rfl rfl rfl h66 h67 h68 h69 h70 h71 h72 h73 h74 hN hHi hSl, hfm⟩)
  · skip
    refine lv_iconst (v := (-1)) S.1 S.2.1 dX7_fitsFrom_8 (by decide) ?_
    exact x_iret S hr hlocks hP hS dX7_fitsFrom_9 (⟨Or.inl ⟨hr2.t c5, rfl⟩, sM.mk h65 rfl rfl rfl h66 h67 h68 h69 h70 h71 h72 h73 h74 hN hHi hSl, hfm⟩)
set_option maxHeartbeats 4000000 in
set_option maxRecDepth 100000 in
theorem c_X7_spin (l : Launch) (g : xG) (hJ : xJ (xad g)) (E : Nat → va_E) {z : xS} (hz : sM g E z) (hv : vS z) (w : Int32) : Met l yX7_spin wsX7_spin ({ frames := 5, cells := 0, slots := 0, locals := 114 }) (xPc g [.ref (xad g 65), .int w] E) (xQi g (fun r E1 => sp_spin z w r ∧ sM g E1 z ∧ ∀ j, j < 65 → E1 j = E j)) 0 0 (xA (xad g)) := by
  refine x_met (ws' := _) (by decide) rfl (Nat.le_of_ble_eq_true rfl) ?_
  intro pz ez s m below meth cz ls S hr hlocks hP hK hl
  have hl : lv_has ls 2 [(0, .ref (xad g 65)), (1, .int w)] := hl
  have hS : va_S (xA (xad g)) s.heap s.heap [] := va_S.rf
  have hin7 : ∀ w ∈ u_ws RX7 TX7 19, w ∈ wsX7_spin := by decide +kernel
  have fl121 : Cond.fieldLink RX7 121 "DiscArcsModel" "bestSpin" "I" ∈ wsX7_spin := by decide +kernel
  have fl124 : Cond.fieldLink RX7 124 "DiscArcsModel" "bestBeginning" "I" ∈ wsX7_spin := by decide +kernel
  have fl127 : Cond.fieldLink RX7 127 "DiscArcsModel" "bestFitted" "I" ∈ wsX7_spin := by decide +kernel
  obtain ⟨hi, od, bs, bb, bf, at9, nu, f, fh, fs, fa, fr, fl, fo, fd, h65, h66, h67, h68, h69, h70, h71, h72, h73, h74, hN, hHi, hSl⟩ := id hz
  have hn := hN.1
  have hn0 := hN.n0
  have hv1 := hv.1.2
  have hfm : ∀ j, j < 65 → E j = E j := fun _ _ => rfl
  have hs4 := hv.2.1.1
  have htl := hv.2.2.2
  refine lv_iload_n S.1 S.2.1 dX7_spin_0 rfl (lv_at hl 1 rfl) ?_
  refine lv_iconst (v := 0) S.1 S.2.1 dX7_spin_1 (by decide) ?_
  refine lv_iconst (v := 3) S.1 S.2.1 dX7_spin_2 (by decide) ?_
  refine x_si (va_runS (As := [.int w, .int 0, .int 3]) (rest := []) S (c_X7_in l g E w 0 3) (va_cwS 3 S.2.2.2.2 gX7_spin_X7_in rfl rfl rfl (by decide +kernel) ⟨Nat.le_of_ble_eq_true rfl, Nat.le_of_ble_eq_true rfl⟩) (x_preS hK hP) rfl rfl hl.1 rfl (lv_room (Nat.le_of_ble_eq_true rfl)) dX7_spin_3 ⟨Nat.le_of_ble_eq_true rfl, Nat.le_of_ble_eq_true rfl⟩) (fun r3 hr3 => ?_)
  refine lv_if_ne (tgt := 12) S.1 S.2.1 dX7_spin_6 (by decide) (fun c6 => ?_) (fun c6 => ?_)
  · skip
    refine lv_aload_n S.1 S.2.1 dX7_spin_12 rfl (lv_at hl 0 rfl) ?_
    refine x_qi (va_runV (As := []) (rest := []) S (c_X7_findsSpin l g hJ E h65 h66 hN hv1) (cwV 0 S.2.2.2.2 gX7_spin_X7_findsSpin rfl rfl rfl (by decide +kernel) ⟨Nat.le_of_ble_eq_true rfl, Nat.le_of_ble_eq_true rfl⟩) (x_preV hK hP h65 (by decide) rfl) rfl rfl hl.1 rfl (lv_room (Nat.le_of_ble_eq_true rfl)) dX7_spin_13 ⟨Nat.le_of_ble_eq_true rfl, Nat.le_of_ble_eq_true rfl⟩) hS (fun r13 E1 H locs hq13 hP hS => ?_)
    obtain ⟨hfr13, hr13, T9, B9, F9, h65, hsp⟩ := hq13
    have h66 := (hfr13 66 (by decide)).trans h66
    have h67 := (hfr13 67 (by decide)).trans h67
    have h68 := (hfr13 68 (by decide)).trans h68
    have h69 := (hfr13 69 (by decide)).trans h69
    have h70 := (hfr13 70 (by decide)).trans h70
    have h71 := (hfr13 71 (by decide)).trans h71
    have h72 := (hfr13 72 (by decide)).trans h72
    have h73 := (hfr13 73 (by decide)).trans h73
    have h74 := (hfr13 74 (by decide)).trans h74
    have hfm : ∀ j, j < 65 → E1 j = E j := fun j hj => (hfr13 j (by omega)).trans (hfm j hj)
    refine lv_if_ne (tgt := 22) S.1 S.2.1 dX7_spin_16 (by decide) (fun c16 => ?_) (fun c16 => ?_)
    · skip
      obtain ⟨hspn, hF9⟩ := hsp c16
      have hex := hr13.t c16
      refine lv_iload_n S.1 S.2.1 dX7_spin_22 rfl (lv_at hl 1 rfl) ?_
      refine lv_if_ne (tgt := 37) S.1 S.2.1 dX7_spin_23 (by decide) (fun c23 => ?_) (fun c23 => ?_)
      · skip
        refine lv_iload_n S.1 S.2.1 dX7_spin_37 rfl (lv_at hl 1 rfl) ?_
        refine lv_iconst (v := 1) S.1 S.2.1 dX7_spin_38 (by decide) ?_
        refine lv_icmp_ne (tgt := 49) S.1 S.2.1 dX7_spin_39 (by decide) (fun c39 => ?_) (fun c39 => ?_)
        · skip
          refine lv_iload_n S.1 S.2.1 dX7_spin_49 rfl (lv_at hl 1 rfl) ?_
          refine lv_iconst (v := 2) S.1 S.2.1 dX7_spin_50 (by decide) ?_
          refine lv_icmp_ne (tgt := 64) S.1 S.2.1 dX7_spin_51 (by decide) (fun c51 => ?_) (fun c51 => ?_)
          · skip
            refine lv_aload_n S.1 S.2.1 dX7_spin_64 rfl (lv_at hl 0 rfl) ?_
            refine x_get S hK hP dX7_spin_65 h65 (by decide) (RX7, TX7, 19) rfl hin7 13 (by decide) fl127 rfl ?_
            exact x_iret S hr hlocks hP hS dX7_spin_68 (⟨Or.inr ⟨hr3.t c6, Or.inr ⟨hex, T9, B9, hspn, by rw [if_neg c23, if_neg c39, if_neg c51]; exact hF9⟩⟩, sM.mk h65 rfl rfl rfl h66 h67 h68 h69 h70 h71 h72 h73 h74 hN hHi hSl, hfm⟩)
          · skip
            refine lv_aload_n S.1 S.2.1 dX7_spin_54 rfl (lv_at hl 0 rfl) ?_
            refine x_get S hK hP dX7_spin_55 h65 (by decide) (RX7, TX7, 19) rfl hin7 13 (by decide) fl127 rfl ?_
            refine W.eq (g2 := F0 m 58 ls [.int (nI (mk (pF (zM z) T9.toInt B9.toInt) (zn z)))]) (by rw [hF9]) ?_
            refine x_si (va_runS (As := [.int (nI (mk (pF (zM z) T9.toInt B9.toInt) (zn z)))]) (rest := []) S (c_X7_bits l g E1 (mk_lt10 (pF (zM z) T9.toInt B9.toInt) hn)) (va_cwS 1 S.2.2.2.2 gX7_spin_X7_bits rfl rfl rfl (by decide +kernel) ⟨Nat.le_of_ble_eq_true rfl, Nat.le_of_ble_eq_true rfl⟩) (x_preS hK hP) rfl rfl hl.1 rfl (lv_room (Nat.le_of_ble_eq_true rfl)) dX7_spin_58 ⟨Nat.le_of_ble_eq_true rfl, Nat.le_of_ble_eq_true rfl⟩) (fun r58 hr58 => ?_)
            rw [pop_mk hn] at hr58
            refine lv_goto (tgt := 68) S.1 S.2.1 dX7_spin_61 (by decide) ?_
            exact x_iret S hr hlocks hP hS dX7_spin_68 (⟨Or.inr ⟨hr3.t c6, Or.inr ⟨hex, T9, B9, hspn, by rw [if_neg c23, if_neg c39, if_pos c51]; exact hr58⟩⟩, sM.mk h65 rfl rfl rfl h66 h67 h68 h69 h70 h71 h72 h73 h74 hN hHi hSl, hfm⟩)
        · skip
          refine lv_aload_n S.1 S.2.1 dX7_spin_42 rfl (lv_at hl 0 rfl) ?_
          refine x_get S hK hP dX7_spin_43 h65 (by decide) (RX7, TX7, 19) rfl hin7 12 (by decide) fl124 rfl ?_
          refine lv_goto (tgt := 68) S.1 S.2.1 dX7_spin_46 (by decide) ?_
          exact x_iret S hr hlocks hP hS dX7_spin_68 (⟨Or.inr ⟨hr3.t c6, Or.inr ⟨hex, T9, B9, hspn, by rw [if_neg c23, if_pos c39]⟩⟩, sM.mk h65 rfl rfl rfl h66 h67 h68 h69 h70 h71 h72 h73 h74 hN hHi hSl, hfm⟩)
      · skip
        refine lv_aload_n S.1 S.2.1 dX7_spin_26 rfl (lv_at hl 0 rfl) ?_
        refine x_get S hK hP dX7_spin_27 h65 (by decide) (RX7, TX7, 19) rfl hin7 11 (by decide) fl121 rfl ?_
        refine lv_sipush (v := 200) S.1 S.2.1 dX7_spin_30 (by decide) ?_
        refine lv_iadd S.1 S.2.1 dX7_spin_33 ?_
        refine lv_goto (tgt := 68) S.1 S.2.1 dX7_spin_34 (by decide) ?_
        exact x_iret S hr hlocks hP hS dX7_spin_68 (⟨Or.inr ⟨hr3.t c6, Or.inr ⟨hex, T9, B9, hspn, by rw [if_pos c23]⟩⟩, sM.mk h65 rfl rfl rfl h66 h67 h68 h69 h70 h71 h72 h73 h74 hN hHi hSl, hfm⟩)
    · skip
      refine lv_bipush (v := (-4)) S.1 S.2.1 dX7_spin_19 (by decide) ?_
      exact x_iret S hr hlocks hP hS dX7_spin_21 (⟨Or.inr ⟨hr3.t c6, Or.inl ⟨fun k hk h => hr13.f c16 ⟨k, hk, h⟩, rfl⟩⟩, sM.mk h65 rfl rfl rfl h66 h67 h68 h69 h70 h71 h72 h73 h74 hN hHi hSl, hfm⟩)
  · skip
    refine lv_bipush (v := (-2)) S.1 S.2.1 dX7_spin_9 (by decide) ?_
    exact x_iret S hr hlocks hP hS dX7_spin_11 (⟨Or.inl ⟨hr3.f c6, rfl⟩, sM.mk h65 rfl rfl rfl h66 h67 h68 h69 h70 h71 h72 h73 h74 hN hHi hSl, hfm⟩)
set_option maxHeartbeats 4000000 in
set_option maxRecDepth 100000 in
theorem c_X7_fits (l : Launch) (g : xG) (hJ : xJ (xad g)) (E : Nat → va_E) {z : xS} (hz : sM g E z) (hv : vS z) (t b : Int32) : Met l yX7_fits wsX7_fits ({ frames := 4, cells := 0, slots := 0, locals := 88 }) (xPc g [.ref (xad g 65), .int t, .int b] E) (xQi g (fun r E1 => sp_fits z t b r ∧ sM g E1 z ∧ ∀ j, j < 65 → E1 j = E j)) 0 0 (xA (xad g)) := by
  refine x_met (ws' := _) (by decide) rfl (Nat.le_of_ble_eq_true rfl) ?_
  intro pz ez s m below meth cz ls S hr hlocks hP hK hl
  have hl : lv_has ls 3 [(0, .ref (xad g 65)), (1, .int t), (2, .int b)] := hl
  have hS : va_S (xA (xad g)) s.heap s.heap [] := va_S.rf
  obtain ⟨hi, od, bs, bb, bf, at9, nu, f, fh, fs, fa, fr, fl, fo, fd, h65, h66, h67, h68, h69, h70, h71, h72, h73, h74, hN, hHi, hSl⟩ := id hz
  have hn := hN.1
  have hn0 := hN.n0
  have hv1 := hv.1.2
  have hfm : ∀ j, j < 65 → E j = E j := fun _ _ => rfl
  have hs4 := hv.2.1.1
  have htl := hv.2.2.2
  refine lv_iload_n S.1 S.2.1 dX7_fits_0 rfl (lv_at hl 1 rfl) ?_
  refine lv_sipush (v := (-179)) S.1 S.2.1 dX7_fits_1 (by decide) ?_
  refine lv_sipush (v := 180) S.1 S.2.1 dX7_fits_4 (by decide) ?_
  refine x_si (va_runS (As := [.int t, .int (-179), .int 180]) (rest := []) S (c_X7_in l g E t (-179) 180) (va_cwS 3 S.2.2.2.2 gX7_fits_X7_in rfl rfl rfl (by decide +kernel) ⟨Nat.le_of_ble_eq_true rfl, Nat.le_of_ble_eq_true rfl⟩) (x_preS hK hP) rfl rfl hl.1 rfl (lv_room (Nat.le_of_ble_eq_true rfl)) dX7_fits_7 ⟨Nat.le_of_ble_eq_true rfl, Nat.le_of_ble_eq_true rfl⟩) (fun r7 hr7 => ?_)
  refine lv_if_eq (tgt := 36) S.1 S.2.1 dX7_fits_10 (by decide) (fun c10 => ?_) (fun c10 => ?_)
  · skip
    refine lv_bipush (v := (-2)) S.1 S.2.1 dX7_fits_36 (by decide) ?_
    exact x_iret S hr hlocks hP hS dX7_fits_38 (⟨Or.inl ⟨fun h => by first | exact hr18.f c21 h.2 | exact hr7.f c10 h.1, rfl⟩, sM.mk h65 rfl rfl rfl h66 h67 h68 h69 h70 h71 h72 h73 h74 hN hHi hSl, hfm⟩)
  · skip
    refine lv_iload_n S.1 S.2.1 dX7_fits_13 rfl (lv_at hl 2 rfl) ?_
    refine lv_iconst (v := 0) S.1 S.2.1 dX7_fits_14 (by decide) ?_
    refine lv_sipush (v := 359) S.1 S.2.1 dX7_fits_15 (by decide) ?_
    refine x_si (va_runS (As := [.int b, .int 0, .int 359]) (rest := []) S (c_X7_in l g E b 0 359) (va_cwS 3 S.2.2.2.2 gX7_fits_X7_in rfl rfl rfl (by decide +kernel) ⟨Nat.le_of_ble_eq_true rfl, Nat.le_of_ble_eq_true rfl⟩) (x_preS hK hP) rfl rfl hl.1 rfl (lv_room (Nat.le_of_ble_eq_true rfl)) dX7_fits_18 ⟨Nat.le_of_ble_eq_true rfl, Nat.le_of_ble_eq_true rfl⟩) (fun r18 hr18 => ?_)
    refine lv_if_eq (tgt := 36) S.1 S.2.1 dX7_fits_21 (by decide) (fun c21 => ?_) (fun c21 => ?_)
    · skip
      refine lv_bipush (v := (-2)) S.1 S.2.1 dX7_fits_36 (by decide) ?_
      exact x_iret S hr hlocks hP hS dX7_fits_38 (⟨Or.inl ⟨fun h => by first | exact hr18.f c21 h.2 | exact hr7.f c10 h.1, rfl⟩, sM.mk h65 rfl rfl rfl h66 h67 h68 h69 h70 h71 h72 h73 h74 hN hHi hSl, hfm⟩)
    · skip
      refine lv_aload_n S.1 S.2.1 dX7_fits_24 rfl (lv_at hl 0 rfl) ?_
      refine lv_iload_n S.1 S.2.1 dX7_fits_25 rfl (lv_at hl 1 rfl) ?_
      refine lv_iload_n S.1 S.2.1 dX7_fits_26 rfl (lv_at hl 2 rfl) ?_
      refine x_si (va_runV (As := [.int t, .int b]) (rest := []) S (c_X7_fitted l g E h65 h66 hN hv1 (okSp_t (hr7.t c10) (hr18.t c21)).1 (okSp_t (hr7.t c10) (hr18.t c21)).2) (cwV 2 S.2.2.2.2 gX7_fits_X7_fitted rfl rfl rfl (by decide +kernel) ⟨Nat.le_of_ble_eq_true rfl, Nat.le_of_ble_eq_true rfl⟩) (x_preV hK hP h65 (by decide) rfl) rfl rfl hl.1 rfl (lv_room (Nat.le_of_ble_eq_true rfl)) dX7_fits_27 ⟨Nat.le_of_ble_eq_true rfl, Nat.le_of_ble_eq_true rfl⟩) (fun r27 hr27 => ?_)
      subst hr27
      refine x_si (va_runS (As := [.int (nI (mk (pF (zM z) t.toInt b.toInt) (zn z)))]) (rest := []) S (c_X7_bits l g E (mk_lt10 (pF (zM z) t.toInt b.toInt) hn)) (va_cwS 1 S.2.2.2.2 gX7_fits_X7_bits rfl rfl rfl (by decide +kernel) ⟨Nat.le_of_ble_eq_true rfl, Nat.le_of_ble_eq_true rfl⟩) (x_preS hK hP) rfl rfl hl.1 rfl (lv_room (Nat.le_of_ble_eq_true rfl)) dX7_fits_30 ⟨Nat.le_of_ble_eq_true rfl, Nat.le_of_ble_eq_true rfl⟩) (fun r30 hr30 => ?_)
      rw [pop_mk hn] at hr30
      refine lv_goto (tgt := 38) S.1 S.2.1 dX7_fits_33 (by decide) ?_
      exact x_iret S hr hlocks hP hS dX7_fits_38 (⟨Or.inr ⟨⟨hr7.t c10, hr18.t c21⟩, hr30⟩, sM.mk h65 rfl rfl rfl h66 h67 h68 h69 h70 h71 h72 h73 h74 hN hHi hSl, hfm⟩)
set_option maxHeartbeats 4000000 in
set_option maxRecDepth 100000 in
theorem c_X7_angleAt (l : Launch) (g : xG) (hJ : xJ (xad g)) (E : Nat → va_E) {z : xS} (hz : sM g E z) (hv : vS z) (u : Int32) : Met l yX7_angleAt wsX7_angleAt ({ frames := 5, cells := 0, slots := 0, locals := 114 }) (xPc g [.ref (xad g 65), .int u] E) (xQi g (fun r E1 => sp_angleAt z u r ∧ sM g E1 z ∧ ∀ j, j < 65 → E1 j = E j)) 0 0 (xA (xad g)) := by
  refine x_met (ws' := _) (by decide) rfl (Nat.le_of_ble_eq_true rfl) ?_
  intro pz ez s m below meth cz ls S hr hlocks hP hK hl
  have hl : lv_has ls 2 [(0, .ref (xad g 65)), (1, .int u)] := hl
  have hS : va_S (xA (xad g)) s.heap s.heap [] := va_S.rf
  have hin7 : ∀ w ∈ u_ws RX7 TX7 19, w ∈ wsX7_angleAt := by decide +kernel
  have fl121 : Cond.fieldLink RX7 121 "DiscArcsModel" "bestSpin" "I" ∈ wsX7_angleAt := by decide +kernel
  have fl124 : Cond.fieldLink RX7 124 "DiscArcsModel" "bestBeginning" "I" ∈ wsX7_angleAt := by decide +kernel
  obtain ⟨hi, od, bs, bb, bf, at9, nu, f, fh, fs, fa, fr, fl, fo, fd, h65, h66, h67, h68, h69, h70, h71, h72, h73, h74, hN, hHi, hSl⟩ := id hz
  have hn := hN.1
  have hn0 := hN.n0
  have hv1 := hv.1.2
  have hfm : ∀ j, j < 65 → E j = E j := fun _ _ => rfl
  have hs4 := hv.2.1.1
  have htl := hv.2.2.2
  refine lv_iload_n S.1 S.2.1 dX7_angleAt_0 rfl (lv_at hl 1 rfl) ?_
  refine lv_iconst (v := 0) S.1 S.2.1 dX7_angleAt_1 (by decide) ?_
  refine lv_bipush (v := 99) S.1 S.2.1 dX7_angleAt_2 (by decide) ?_
  refine x_si (va_runS (As := [.int u, .int 0, .int 99]) (rest := []) S (c_X7_in l g E u 0 99) (va_cwS 3 S.2.2.2.2 gX7_angleAt_X7_in rfl rfl rfl (by decide +kernel) ⟨Nat.le_of_ble_eq_true rfl, Nat.le_of_ble_eq_true rfl⟩) (x_preS hK hP) rfl rfl hl.1 rfl (lv_room (Nat.le_of_ble_eq_true rfl)) dX7_angleAt_4 ⟨Nat.le_of_ble_eq_true rfl, Nat.le_of_ble_eq_true rfl⟩) (fun r4 hr4 => ?_)
  refine lv_if_ne (tgt := 13) S.1 S.2.1 dX7_angleAt_7 (by decide) (fun c7 => ?_) (fun c7 => ?_)
  · skip
    refine lv_aload_n S.1 S.2.1 dX7_angleAt_13 rfl (lv_at hl 0 rfl) ?_
    refine x_qi (va_runV (As := []) (rest := []) S (c_X7_findsSpin l g hJ E h65 h66 hN hv1) (cwV 0 S.2.2.2.2 gX7_angleAt_X7_findsSpin rfl rfl rfl (by decide +kernel) ⟨Nat.le_of_ble_eq_true rfl, Nat.le_of_ble_eq_true rfl⟩) (x_preV hK hP h65 (by decide) rfl) rfl rfl hl.1 rfl (lv_room (Nat.le_of_ble_eq_true rfl)) dX7_angleAt_14 ⟨Nat.le_of_ble_eq_true rfl, Nat.le_of_ble_eq_true rfl⟩) hS (fun r14 E1 H locs hq14 hP hS => ?_)
    obtain ⟨hfr14, hr14, T9, B9, F9, h65, hsp⟩ := hq14
    have h66 := (hfr14 66 (by decide)).trans h66
    have h67 := (hfr14 67 (by decide)).trans h67
    have h68 := (hfr14 68 (by decide)).trans h68
    have h69 := (hfr14 69 (by decide)).trans h69
    have h70 := (hfr14 70 (by decide)).trans h70
    have h71 := (hfr14 71 (by decide)).trans h71
    have h72 := (hfr14 72 (by decide)).trans h72
    have h73 := (hfr14 73 (by decide)).trans h73
    have h74 := (hfr14 74 (by decide)).trans h74
    have hfm : ∀ j, j < 65 → E1 j = E j := fun j hj => (hfr14 j (by omega)).trans (hfm j hj)
    refine lv_if_eq (tgt := 35) S.1 S.2.1 dX7_angleAt_17 (by decide) (fun c17 => ?_) (fun c17 => ?_)
    · skip
      refine lv_bipush (v := (-4)) S.1 S.2.1 dX7_angleAt_35 (by decide) ?_
      exact x_iret S hr hlocks hP hS dX7_angleAt_37 (⟨Or.inr ⟨hr4.t c7, Or.inl ⟨fun k hk h => hr14.f c17 ⟨k, hk, h⟩, rfl⟩⟩, sM.mk h65 rfl rfl rfl h66 h67 h68 h69 h70 h71 h72 h73 h74 hN hHi hSl, hfm⟩)
    · skip
      obtain ⟨hspn, hF9⟩ := hsp c17
      have hex := hr14.t c17
      refine lv_aload_n S.1 S.2.1 dX7_angleAt_20 rfl (lv_at hl 0 rfl) ?_
      refine x_get S hK hP dX7_angleAt_21 h65 (by decide) (RX7, TX7, 19) rfl hin7 11 (by decide) fl121 rfl ?_
      refine lv_aload_n S.1 S.2.1 dX7_angleAt_24 rfl (lv_at hl 0 rfl) ?_
      refine x_get S hK hP dX7_angleAt_25 h65 (by decide) (RX7, TX7, 19) rfl hin7 12 (by decide) fl124 rfl ?_
      refine lv_iload_n S.1 S.2.1 dX7_angleAt_28 rfl (lv_at hl 1 rfl) ?_
      refine x_si (va_runS (As := [.int T9, .int B9, .int u]) (rest := []) S (c_X7_angle l g E1 (t := T9) (b := B9) (u := u) (by have := hspn.1.1; omega) (by have := hspn.1.2; omega) (rng_toInt (hr4.t c7))) (va_cwS 3 S.2.2.2.2 gX7_angleAt_X7_angle rfl rfl rfl (by decide +kernel) ⟨Nat.le_of_ble_eq_true rfl, Nat.le_of_ble_eq_true rfl⟩) (x_preS hK hP) rfl rfl hl.1 rfl (lv_room (Nat.le_of_ble_eq_true rfl)) dX7_angleAt_29 ⟨Nat.le_of_ble_eq_true rfl, Nat.le_of_ble_eq_true rfl⟩) (fun r29 hr29 => ?_)
      refine lv_goto (tgt := 37) S.1 S.2.1 dX7_angleAt_32 (by decide) ?_
      exact x_iret S hr hlocks hP hS dX7_angleAt_37 (⟨Or.inr ⟨hr4.t c7, Or.inr ⟨hex, T9, B9, hspn, hr29⟩⟩, sM.mk h65 rfl rfl rfl h66 h67 h68 h69 h70 h71 h72 h73 h74 hN hHi hSl, hfm⟩)
  · skip
    refine lv_bipush (v := (-2)) S.1 S.2.1 dX7_angleAt_10 (by decide) ?_
    exact x_iret S hr hlocks hP hS dX7_angleAt_12 (⟨Or.inl ⟨hr4.f c7, rfl⟩, sM.mk h65 rfl rfl rfl h66 h67 h68 h69 h70 h71 h72 h73 h74 hN hHi hSl, hfm⟩)
set_option maxHeartbeats 4000000 in
set_option maxRecDepth 100000 in
theorem c_X7_count (l : Launch) (g : xG) (hJ : xJ (xad g)) (E : Nat → va_E) {z : xS} (hz : sM g E z) (hv : vS z) (w : Int32) : Met l yX7_count wsX7_count ({ frames := 7, cells := 0, slots := 0, locals := 181 }) (xPc g [.ref (xad g 65), .int w] E) (xQi g (fun r E1 => sp_count z w r ∧ sM g E1 z ∧ ∀ j, j < 65 → E1 j = E j)) 0 0 (xA (xad g)) := by
  refine x_met (ws' := _) (by decide) rfl (Nat.le_of_ble_eq_true rfl) ?_
  intro pz ez s m below meth cz ls S hr hlocks hP hK hl
  have hl : lv_has ls 2 [(0, .ref (xad g 65)), (1, .int w)] := hl
  have hS : va_S (xA (xad g)) s.heap s.heap [] := va_S.rf
  have hin7 : ∀ w ∈ u_ws RX7 TX7 19, w ∈ wsX7_count := by decide +kernel
  have fl7 : Cond.fieldLink RX7 7 "DiscArcsModel" "now" "[I" ∈ wsX7_count := by decide +kernel
  have fl22 : Cond.fieldLink RX7 22 "DiscArcsModel" "rows" "[I" ∈ wsX7_count := by decide +kernel
  have fl50 : Cond.fieldLink RX7 50 "DiscArcsModel" "kept" "I" ∈ wsX7_count := by decide +kernel
  have fl149 : Cond.fieldLink RX7 149 "DiscArcsModel" "typed" "I" ∈ wsX7_count := by decide +kernel
  obtain ⟨hi, od, bs, bb, bf, at9, nu, f, fh, fs, fa, fr, fl, fo, fd, h65, h66, h67, h68, h69, h70, h71, h72, h73, h74, hN, hHi, hSl⟩ := id hz
  have hn := hN.1
  have hn0 := hN.n0
  have hv1 := hv.1.2
  have hfm : ∀ j, j < 65 → E j = E j := fun _ _ => rfl
  have hs4 := hv.2.1.1
  have htl := hv.2.2.2
  refine lv_iload_n S.1 S.2.1 dX7_count_0 rfl (lv_at hl 1 rfl) ?_
  rcases Classical.em (w = 0) with s1_0 | s1_0
  · refine lv_tableIn (off := 39) (tgt := 40) S.1 S.2.1 dX7_count_1 (by rw [s1_0]; decide) (by rw [s1_0]; decide) (by rw [s1_0]; rfl) rfl ?_
    refine lv_aload_n S.1 S.2.1 dX7_count_40 rfl (lv_at hl 0 rfl) ?_
    refine x_get S hK hP dX7_count_41 h65 (by decide) (RX7, TX7, 19) rfl hin7 0 (by decide) fl7 rfl ?_
    refine lv_bipush (v := 70) S.1 S.2.1 dX7_count_44 (by decide) ?_
    refine x_iald S hK hP dX7_count_46 h66 (by decide) (j := 70) rfl (by omega) (by decide) ?_
    exact x_iret S hr hlocks hP hS dX7_count_47 (⟨Or.inl ⟨s1_0, hn0⟩, sM.mk h65 rfl rfl rfl h66 h67 h68 h69 h70 h71 h72 h73 h74 hN hHi hSl, hfm⟩)
  rcases Classical.em (w = 1) with s1_1 | s1_1
  · refine lv_tableIn (off := 47) (tgt := 48) S.1 S.2.1 dX7_count_1 (by rw [s1_1]; decide) (by rw [s1_1]; decide) (by rw [s1_1]; rfl) rfl ?_
    refine lv_aload_n S.1 S.2.1 dX7_count_48 rfl (lv_at hl 0 rfl) ?_
    refine x_si (va_runV (As := []) (rest := []) S (c_X7_usable l g E h65 h66 hN) (cwV 0 S.2.2.2.2 gX7_count_X7_usable rfl rfl rfl (by decide +kernel) ⟨Nat.le_of_ble_eq_true rfl, Nat.le_of_ble_eq_true rfl⟩) (x_preV hK hP h65 (by decide) rfl) rfl rfl hl.1 rfl (lv_room (Nat.le_of_ble_eq_true rfl)) dX7_count_49 ⟨Nat.le_of_ble_eq_true rfl, Nat.le_of_ble_eq_true rfl⟩) (fun r49 hr49 => ?_)
    exact x_iret S hr hlocks hP hS dX7_count_52 (⟨Or.inr (Or.inl ⟨s1_1, hr49⟩), sM.mk h65 rfl rfl rfl h66 h67 h68 h69 h70 h71 h72 h73 h74 hN hHi hSl, hfm⟩)
  rcases Classical.em (w = 2) with s1_2 | s1_2
  · refine lv_tableIn (off := 52) (tgt := 53) S.1 S.2.1 dX7_count_1 (by rw [s1_2]; decide) (by rw [s1_2]; decide) (by rw [s1_2]; rfl) rfl ?_
    refine lv_aload_n S.1 S.2.1 dX7_count_53 rfl (lv_at hl 0 rfl) ?_
    refine x_si (va_runV (As := []) (rest := []) S (c_X7_withAngle l g E h65 h66 hN hv1) (cwV 0 S.2.2.2.2 gX7_count_X7_withAngle rfl rfl rfl (by decide +kernel) ⟨Nat.le_of_ble_eq_true rfl, Nat.le_of_ble_eq_true rfl⟩) (x_preV hK hP h65 (by decide) rfl) rfl rfl hl.1 rfl (lv_room (Nat.le_of_ble_eq_true rfl)) dX7_count_54 ⟨Nat.le_of_ble_eq_true rfl, Nat.le_of_ble_eq_true rfl⟩) (fun r54 hr54 => ?_)
    exact x_iret S hr hlocks hP hS dX7_count_57 (⟨Or.inr (Or.inr (Or.inl ⟨s1_2, hr54⟩)), sM.mk h65 rfl rfl rfl h66 h67 h68 h69 h70 h71 h72 h73 h74 hN hHi hSl, hfm⟩)
  rcases Classical.em (w = 3) with s1_3 | s1_3
  · refine lv_tableIn (off := 57) (tgt := 58) S.1 S.2.1 dX7_count_1 (by rw [s1_3]; decide) (by rw [s1_3]; decide) (by rw [s1_3]; rfl) rfl ?_
    refine lv_aload_n S.1 S.2.1 dX7_count_58 rfl (lv_at hl 0 rfl) ?_
    refine x_qv (va_runV (As := []) (rest := []) S (c_X7_findsTrack l g hJ E h65 h66 hN h69 h70 h71 h72) (cwV 0 S.2.2.2.2 gX7_count_X7_findsTrack rfl rfl rfl (by decide +kernel) ⟨Nat.le_of_ble_eq_true rfl, Nat.le_of_ble_eq_true rfl⟩) (x_preV hK hP h65 (by decide) rfl) rfl rfl hl.1 rfl (lv_room (Nat.le_of_ble_eq_true rfl)) dX7_count_59 ⟨Nat.le_of_ble_eq_true rfl, Nat.le_of_ble_eq_true rfl⟩) hS (fun E1 H locs hq59 hP hS => ?_)
    obtain ⟨hfr59, ⟨h9, h65⟩, ⟨fa9, h69⟩, fr9, fl9, fo9, RW, LG, h70, h71, h72, ho, htw, hfr9, hfl9⟩ := hq59
    have h66 := (hfr59 66 (by decide)).trans h66
    have h67 := (hfr59 67 (by decide)).trans h67
    have h68 := (hfr59 68 (by decide)).trans h68
    have h73 := (hfr59 73 (by decide)).trans h73
    have h74 := (hfr59 74 (by decide)).trans h74
    have hfm : ∀ j, j < 65 → E1 j = E j := fun j hj => (hfr59 j (by omega)).trans (hfm j hj)
    refine lv_aload_n S.1 S.2.1 dX7_count_62 rfl (lv_at hl 0 rfl) ?_
    refine x_get S hK hP dX7_count_63 h65 (by decide) (RX7, TX7, 19) rfl hin7 7 (by decide) fl22 rfl ?_
    refine lv_iconst (v := 0) S.1 S.2.1 dX7_count_66 (by decide) ?_
    refine x_iald S hK hP dX7_count_67 h70 (by decide) (j := 0) rfl (by omega) (by decide) ?_
    exact x_iret S hr hlocks hP hS dX7_count_68 (⟨Or.inr (Or.inr (Or.inr (Or.inl ⟨s1_3, _, _, htw.trk, hfr9 0 (Nat.zero_le _)⟩))), sM.mk h65 rfl rfl rfl h66 h67 h68 h69 h70 h71 h72 h73 h74 hN hHi hSl, hfm⟩)
  rcases Classical.em (w = 4) with s1_4 | s1_4
  · refine lv_tableIn (off := 68) (tgt := 69) S.1 S.2.1 dX7_count_1 (by rw [s1_4]; decide) (by rw [s1_4]; decide) (by rw [s1_4]; rfl) rfl ?_
    refine lv_aload_n S.1 S.2.1 dX7_count_69 rfl (lv_at hl 0 rfl) ?_
    refine x_get S hK hP dX7_count_70 h65 (by decide) (RX7, TX7, 19) rfl hin7 2 (by decide) fl50 rfl ?_
    exact x_iret S hr hlocks hP hS dX7_count_73 (⟨Or.inr (Or.inr (Or.inr (Or.inr (Or.inl ⟨s1_4, rfl⟩)))), sM.mk h65 rfl rfl rfl h66 h67 h68 h69 h70 h71 h72 h73 h74 hN hHi hSl, hfm⟩)
  rcases Classical.em (w = 5) with s1_5 | s1_5
  · refine lv_tableIn (off := 73) (tgt := 74) S.1 S.2.1 dX7_count_1 (by rw [s1_5]; decide) (by rw [s1_5]; decide) (by rw [s1_5]; rfl) rfl ?_
    refine lv_aload_n S.1 S.2.1 dX7_count_74 rfl (lv_at hl 0 rfl) ?_
    refine x_get S hK hP dX7_count_75 h65 (by decide) (RX7, TX7, 19) rfl hin7 14 (by decide) fl149 rfl ?_
    exact x_iret S hr hlocks hP hS dX7_count_78 (⟨Or.inr (Or.inr (Or.inr (Or.inr (Or.inr (Or.inl ⟨s1_5, rfl⟩))))), sM.mk h65 rfl rfl rfl h66 h67 h68 h69 h70 h71 h72 h73 h74 hN hHi hSl, hfm⟩)
  refine lv_tableOut (tgt := 79) S.1 S.2.1 dX7_count_1 (by have := lv_neT s1_0 (a := 0) (by decide); have := lv_neT s1_1 (a := 1) (by decide); have := lv_neT s1_2 (a := 2) (by decide); have := lv_neT s1_3 (a := 3) (by decide); have := lv_neT s1_4 (a := 4) (by decide); have := lv_neT s1_5 (a := 5) (by decide); omega) rfl ?_
  refine lv_bipush (v := (-2)) S.1 S.2.1 dX7_count_79 (by decide) ?_
  exact x_iret S hr hlocks hP hS dX7_count_81 (⟨Or.inr (Or.inr (Or.inr (Or.inr (Or.inr (Or.inr ⟨fun h => by rcases h with h | h | h | h | h | h; exact s1_0 h; exact s1_1 h; exact s1_2 h; exact s1_3 h; exact s1_4 h; exact s1_5 h, rfl⟩))))), sM.mk h65 rfl rfl rfl h66 h67 h68 h69 h70 h71 h72 h73 h74 hN hHi hSl, hfm⟩)
set_option maxHeartbeats 4000000 in
set_option maxRecDepth 100000 in
theorem c_X7_photo (l : Launch) (g : xG) (hJ : xJ (xad g)) (E : Nat → va_E) {z : xS} (hz : sM g E z) (hv : vS z) (x w : Int32) : Met l yX7_photo wsX7_photo ({ frames := 5, cells := 0, slots := 0, locals := 114 }) (xPc g [.ref (xad g 65), .int x, .int w] E) (xQi g (fun r E1 => sp_photo z x w r ∧ sM g E1 z ∧ ∀ j, j < 65 → E1 j = E j)) 0 0 (xA (xad g)) := by
  refine x_met (ws' := _) (by decide) rfl (Nat.le_of_ble_eq_true rfl) ?_
  intro pz ez s m below meth cz ls S hr hlocks hP hK hl
  have hl : lv_has ls 4 [(0, .ref (xad g 65)), (1, .int x), (2, .int w)] := hl
  have hS : va_S (xA (xad g)) s.heap s.heap [] := va_S.rf
  have hin7 : ∀ w ∈ u_ws RX7 TX7 19, w ∈ wsX7_photo := by decide +kernel
  have fl127 : Cond.fieldLink RX7 127 "DiscArcsModel" "bestFitted" "I" ∈ wsX7_photo := by decide +kernel
  obtain ⟨hi, od, bs, bb, bf, at9, nu, f, fh, fs, fa, fr, fl, fo, fd, h65, h66, h67, h68, h69, h70, h71, h72, h73, h74, hN, hHi, hSl⟩ := id hz
  have hn := hN.1
  have hn0 := hN.n0
  have hv1 := hv.1.2
  have hfm : ∀ j, j < 65 → E j = E j := fun _ _ => rfl
  have hs4 := hv.2.1.1
  have htl := hv.2.2.2
  refine lv_aload_n S.1 S.2.1 dX7_photo_0 rfl (lv_at hl 0 rfl) ?_
  refine lv_iload_n S.1 S.2.1 dX7_photo_1 rfl (lv_at hl 1 rfl) ?_
  refine x_si (va_runV (As := [.int x]) (rest := []) S (c_X7_no l g E h65 h66 hN x) (cwV 1 S.2.2.2.2 gX7_photo_X7_no rfl rfl rfl (by decide +kernel) ⟨Nat.le_of_ble_eq_true rfl, Nat.le_of_ble_eq_true rfl⟩) (x_preV hK hP h65 (by decide) rfl) rfl rfl hl.1 rfl (lv_room (Nat.le_of_ble_eq_true rfl)) dX7_photo_2 ⟨Nat.le_of_ble_eq_true rfl, Nat.le_of_ble_eq_true rfl⟩) (fun r2 hr2 => ?_)
  refine lv_if_eq (tgt := 10) S.1 S.2.1 dX7_photo_5 (by decide) (fun c5 => ?_) (fun c5 => ?_)
  · skip
    obtain ⟨k, hk, rfl⟩ := Classical.not_not.mp (hr2.f c5)
    refine lv_aload_n S.1 S.2.1 dX7_photo_10 rfl (lv_at hl 0 rfl) ?_
    refine lv_iload_n S.1 S.2.1 dX7_photo_11 rfl (lv_at hl 1 rfl) ?_
    refine lv_iconst (v := 4) S.1 S.2.1 dX7_photo_12 (by decide) ?_
    refine x_si (va_runV (As := [.int (nI k), .int 4]) (rest := []) S (c_X7_of l g E h65 h66 (k := k) (w := 4) (by omega)) (cwV 2 S.2.2.2.2 gX7_photo_X7_of rfl rfl rfl (by decide +kernel) ⟨Nat.le_of_ble_eq_true rfl, Nat.le_of_ble_eq_true rfl⟩) (x_preV hK hP h65 (by decide) rfl) rfl rfl hl.1 rfl (lv_room (Nat.le_of_ble_eq_true rfl)) dX7_photo_13 ⟨Nat.le_of_ble_eq_true rfl, Nat.le_of_ble_eq_true rfl⟩) (fun r13 hr13 => ?_)
    rw [hN.at0 (k := k) (w := 4) hk (by omega)] at hr13
    subst hr13
    refine lv_sipush (v := 360) S.1 S.2.1 dX7_photo_16 (by decide) ?_
    refine lv_icmp_ne (tgt := 26) S.1 S.2.1 dX7_photo_19 (by decide) (fun c19 => ?_) (fun c19 => ?_)
    · skip
      refine lv_iconst (v := 0) S.1 S.2.1 dX7_photo_26 (by decide) ?_
      refine lv_istore_n (lv' := [(3, .int 0), (0, .ref (xad g 65)), (1, .int (nI k)), (2, .int w)]) S.1 S.2.1 dX7_photo_27 rfl hl (by decide) rfl (fun ls hl => ?_)
      refine lv_iload_n S.1 S.2.1 dX7_photo_28 rfl (lv_at hl 3 rfl) ?_
      rcases Classical.em (w = 0) with s29_0 | s29_0
      · refine lv_tableIn (off := 47) (tgt := 76) S.1 S.2.1 dX7_photo_29 (by rw [s29_0]; decide) (by rw [s29_0]; decide) (by rw [s29_0]; rfl) rfl ?_
        refine lv_aload_n S.1 S.2.1 dX7_photo_76 rfl (lv_at hl 1 rfl) ?_
        refine lv_iload_n S.1 S.2.1 dX7_photo_77 rfl (lv_at hl 2 rfl) ?_
        refine lv_iload_n S.1 S.2.1 dX7_photo_78 rfl (lv_at hl 3 rfl) ?_
        refine W.eq (g2 := F0 m 79 ls [.int (nI 0), .int (nI k), .ref (xad g 65)]) (by rw [s29_0]; rfl) ?_
        refine x_si (va_runV (As := [.int (nI k), .int (nI 0)]) (rest := []) S (c_X7_of l g E h65 h66 (k := k) (w := 0) (by omega)) (cwV 2 S.2.2.2.2 gX7_photo_X7_of rfl rfl rfl (by decide +kernel) ⟨Nat.le_of_ble_eq_true rfl, Nat.le_of_ble_eq_true rfl⟩) (x_preV hK hP h65 (by decide) rfl) rfl rfl hl.1 rfl (lv_room (Nat.le_of_ble_eq_true rfl)) dX7_photo_79 ⟨Nat.le_of_ble_eq_true rfl, Nat.le_of_ble_eq_true rfl⟩) (fun r79 hr79 => ?_)
        rw [hN.at0 (k := k) (w := 0) hk (by omega)] at hr79
        subst hr79
        exact x_iret S hr hlocks hP hS dX7_photo_82 (⟨Or.inr ⟨k, hk, rfl, Or.inr (Or.inl ⟨0, by decide, s29_0, by simp [phv]⟩)⟩, sM.mk h65 rfl rfl rfl h66 h67 h68 h69 h70 h71 h72 h73 h74 hN hHi hSl, hfm⟩)
      rcases Classical.em (w = 1) with s29_1 | s29_1
      · refine lv_tableIn (off := 54) (tgt := 83) S.1 S.2.1 dX7_photo_29 (by rw [s29_1]; decide) (by rw [s29_1]; decide) (by rw [s29_1]; rfl) rfl ?_
        refine lv_aload_n S.1 S.2.1 dX7_photo_83 rfl (lv_at hl 1 rfl) ?_
        refine lv_iload_n S.1 S.2.1 dX7_photo_84 rfl (lv_at hl 2 rfl) ?_
        refine lv_iload_n S.1 S.2.1 dX7_photo_85 rfl (lv_at hl 3 rfl) ?_
        refine W.eq (g2 := F0 m 86 ls [.int (nI 1), .int (nI k), .ref (xad g 65)]) (by rw [s29_1]; rfl) ?_
        refine x_si (va_runV (As := [.int (nI k), .int (nI 1)]) (rest := []) S (c_X7_of l g E h65 h66 (k := k) (w := 1) (by omega)) (cwV 2 S.2.2.2.2 gX7_photo_X7_of rfl rfl rfl (by decide +kernel) ⟨Nat.le_of_ble_eq_true rfl, Nat.le_of_ble_eq_true rfl⟩) (x_preV hK hP h65 (by decide) rfl) rfl rfl hl.1 rfl (lv_room (Nat.le_of_ble_eq_true rfl)) dX7_photo_86 ⟨Nat.le_of_ble_eq_true rfl, Nat.le_of_ble_eq_true rfl⟩) (fun r86 hr86 => ?_)
        rw [hN.at0 (k := k) (w := 1) hk (by omega)] at hr86
        subst hr86
        refine lv_sipush (v := 1000) S.1 S.2.1 dX7_photo_89 (by decide) ?_
        refine lv_iadd S.1 S.2.1 dX7_photo_92 ?_
        exact x_iret S hr hlocks hP hS dX7_photo_93 (⟨Or.inr ⟨k, hk, rfl, Or.inr (Or.inl ⟨1, by decide, s29_1, by simp [phv]⟩)⟩, sM.mk h65 rfl rfl rfl h66 h67 h68 h69 h70 h71 h72 h73 h74 hN hHi hSl, hfm⟩)
      rcases Classical.em (w = 2) with s29_2 | s29_2
      · refine lv_tableIn (off := 54) (tgt := 83) S.1 S.2.1 dX7_photo_29 (by rw [s29_2]; decide) (by rw [s29_2]; decide) (by rw [s29_2]; rfl) rfl ?_
        refine lv_aload_n S.1 S.2.1 dX7_photo_83 rfl (lv_at hl 1 rfl) ?_
        refine lv_iload_n S.1 S.2.1 dX7_photo_84 rfl (lv_at hl 2 rfl) ?_
        refine lv_iload_n S.1 S.2.1 dX7_photo_85 rfl (lv_at hl 3 rfl) ?_
        refine W.eq (g2 := F0 m 86 ls [.int (nI 2), .int (nI k), .ref (xad g 65)]) (by rw [s29_2]; rfl) ?_
        refine x_si (va_runV (As := [.int (nI k), .int (nI 2)]) (rest := []) S (c_X7_of l g E h65 h66 (k := k) (w := 2) (by omega)) (cwV 2 S.2.2.2.2 gX7_photo_X7_of rfl rfl rfl (by decide +kernel) ⟨Nat.le_of_ble_eq_true rfl, Nat.le_of_ble_eq_true rfl⟩) (x_preV hK hP h65 (by decide) rfl) rfl rfl hl.1 rfl (lv_room (Nat.le_of_ble_eq_true rfl)) dX7_photo_86 ⟨Nat.le_of_ble_eq_true rfl, Nat.le_of_ble_eq_true rfl⟩) (fun r86 hr86 => ?_)
        rw [hN.at0 (k := k) (w := 2) hk (by omega)] at hr86
        subst hr86
        refine lv_sipush (v := 1000) S.1 S.2.1 dX7_photo_89 (by decide) ?_
        refine lv_iadd S.1 S.2.1 dX7_photo_92 ?_
        exact x_iret S hr hlocks hP hS dX7_photo_93 (⟨Or.inr ⟨k, hk, rfl, Or.inr (Or.inl ⟨2, by decide, s29_2, by simp [phv]⟩)⟩, sM.mk h65 rfl rfl rfl h66 h67 h68 h69 h70 h71 h72 h73 h74 hN hHi hSl, hfm⟩)
      rcases Classical.em (w = 3) with s29_3 | s29_3
      · refine lv_tableIn (off := 47) (tgt := 76) S.1 S.2.1 dX7_photo_29 (by rw [s29_3]; decide) (by rw [s29_3]; decide) (by rw [s29_3]; rfl) rfl ?_
        refine lv_aload_n S.1 S.2.1 dX7_photo_76 rfl (lv_at hl 1 rfl) ?_
        refine lv_iload_n S.1 S.2.1 dX7_photo_77 rfl (lv_at hl 2 rfl) ?_
        refine lv_iload_n S.1 S.2.1 dX7_photo_78 rfl (lv_at hl 3 rfl) ?_
        refine W.eq (g2 := F0 m 79 ls [.int (nI 3), .int (nI k), .ref (xad g 65)]) (by rw [s29_3]; rfl) ?_
        refine x_si (va_runV (As := [.int (nI k), .int (nI 3)]) (rest := []) S (c_X7_of l g E h65 h66 (k := k) (w := 3) (by omega)) (cwV 2 S.2.2.2.2 gX7_photo_X7_of rfl rfl rfl (by decide +kernel) ⟨Nat.le_of_ble_eq_true rfl, Nat.le_of_ble_eq_true rfl⟩) (x_preV hK hP h65 (by decide) rfl) rfl rfl hl.1 rfl (lv_room (Nat.le_of_ble_eq_true rfl)) dX7_photo_79 ⟨Nat.le_of_ble_eq_true rfl, Nat.le_of_ble_eq_true rfl⟩) (fun r79 hr79 => ?_)
        rw [hN.at0 (k := k) (w := 3) hk (by omega)] at hr79
        subst hr79
        exact x_iret S hr hlocks hP hS dX7_photo_82 (⟨Or.inr ⟨k, hk, rfl, Or.inr (Or.inl ⟨3, by decide, s29_3, by simp [phv]⟩)⟩, sM.mk h65 rfl rfl rfl h66 h67 h68 h69 h70 h71 h72 h73 h74 hN hHi hSl, hfm⟩)
      rcases Classical.em (w = 4) with s29_4 | s29_4
      · refine lv_tableIn (off := 65) (tgt := 94) S.1 S.2.1 dX7_photo_29 (by rw [s29_4]; decide) (by rw [s29_4]; decide) (by rw [s29_4]; rfl) rfl ?_
        refine lv_iload_n S.1 S.2.1 dX7_photo_94 rfl (lv_at hl 0 rfl) ?_
        refine lv_if_eq (tgt := 103) S.1 S.2.1 dX7_photo_95 (by decide) (fun c95 => ?_) (fun c95 => ?_)
        · skip
          refine lv_aload_n S.1 S.2.1 dX7_photo_103 rfl (lv_at hl 1 rfl) ?_
          refine lv_iload_n S.1 S.2.1 dX7_photo_104 rfl (lv_at hl 2 rfl) ?_
          refine lv_iload_n S.1 S.2.1 dX7_photo_105 rfl (lv_at hl 3 rfl) ?_
          refine W.eq (g2 := F0 m 106 ls [.int (nI 4), .int (nI k), .ref (xad g 65)]) (by rw [s29_4]; rfl) ?_
          refine x_si (va_runV (As := [.int (nI k), .int (nI 4)]) (rest := []) S (c_X7_of l g E h65 h66 (k := k) (w := 4) (by omega)) (cwV 2 S.2.2.2.2 gX7_photo_X7_of rfl rfl rfl (by decide +kernel) ⟨Nat.le_of_ble_eq_true rfl, Nat.le_of_ble_eq_true rfl⟩) (x_preV hK hP h65 (by decide) rfl) rfl rfl hl.1 rfl (lv_room (Nat.le_of_ble_eq_true rfl)) dX7_photo_106 ⟨Nat.le_of_ble_eq_true rfl, Nat.le_of_ble_eq_true rfl⟩) (fun r106 hr106 => ?_)
          rw [hN.at0 (k := k) (w := 4) hk (by omega)] at hr106
          subst hr106
          exact x_iret S hr hlocks hP hS dX7_photo_109 (⟨Or.inr ⟨k, hk, rfl, Or.inr (Or.inl ⟨4, by decide, s29_4, by simp [phv, c19]⟩)⟩, sM.mk h65 rfl rfl rfl h66 h67 h68 h69 h70 h71 h72 h73 h74 hN hHi hSl, hfm⟩)
        · skip
          exact absurd c95 (by decide)
      rcases Classical.em (w = 5) with s29_5 | s29_5
      · refine lv_tableIn (off := 65) (tgt := 94) S.1 S.2.1 dX7_photo_29 (by rw [s29_5]; decide) (by rw [s29_5]; decide) (by rw [s29_5]; rfl) rfl ?_
        refine lv_iload_n S.1 S.2.1 dX7_photo_94 rfl (lv_at hl 0 rfl) ?_
        refine lv_if_eq (tgt := 103) S.1 S.2.1 dX7_photo_95 (by decide) (fun c95_1 => ?_) (fun c95_1 => ?_)
        · skip
          refine lv_aload_n S.1 S.2.1 dX7_photo_103 rfl (lv_at hl 1 rfl) ?_
          refine lv_iload_n S.1 S.2.1 dX7_photo_104 rfl (lv_at hl 2 rfl) ?_
          refine lv_iload_n S.1 S.2.1 dX7_photo_105 rfl (lv_at hl 3 rfl) ?_
          refine W.eq (g2 := F0 m 106 ls [.int (nI 5), .int (nI k), .ref (xad g 65)]) (by rw [s29_5]; rfl) ?_
          refine x_si (va_runV (As := [.int (nI k), .int (nI 5)]) (rest := []) S (c_X7_of l g E h65 h66 (k := k) (w := 5) (by omega)) (cwV 2 S.2.2.2.2 gX7_photo_X7_of rfl rfl rfl (by decide +kernel) ⟨Nat.le_of_ble_eq_true rfl, Nat.le_of_ble_eq_true rfl⟩) (x_preV hK hP h65 (by decide) rfl) rfl rfl hl.1 rfl (lv_room (Nat.le_of_ble_eq_true rfl)) dX7_photo_106 ⟨Nat.le_of_ble_eq_true rfl, Nat.le_of_ble_eq_true rfl⟩) (fun r106 hr106 => ?_)
          rw [hN.at0 (k := k) (w := 5) hk (by omega)] at hr106
          subst hr106
          exact x_iret S hr hlocks hP hS dX7_photo_109 (⟨Or.inr ⟨k, hk, rfl, Or.inr (Or.inl ⟨5, by decide, s29_5, by simp [phv, c19]⟩)⟩, sM.mk h65 rfl rfl rfl h66 h67 h68 h69 h70 h71 h72 h73 h74 hN hHi hSl, hfm⟩)
        · skip
          exact absurd c95_1 (by decide)
      rcases Classical.em (w = 6) with s29_6 | s29_6
      · refine lv_tableIn (off := 47) (tgt := 76) S.1 S.2.1 dX7_photo_29 (by rw [s29_6]; decide) (by rw [s29_6]; decide) (by rw [s29_6]; rfl) rfl ?_
        refine lv_aload_n S.1 S.2.1 dX7_photo_76 rfl (lv_at hl 1 rfl) ?_
        refine lv_iload_n S.1 S.2.1 dX7_photo_77 rfl (lv_at hl 2 rfl) ?_
        refine lv_iload_n S.1 S.2.1 dX7_photo_78 rfl (lv_at hl 3 rfl) ?_
        refine W.eq (g2 := F0 m 79 ls [.int (nI 6), .int (nI k), .ref (xad g 65)]) (by rw [s29_6]; rfl) ?_
        refine x_si (va_runV (As := [.int (nI k), .int (nI 6)]) (rest := []) S (c_X7_of l g E h65 h66 (k := k) (w := 6) (by omega)) (cwV 2 S.2.2.2.2 gX7_photo_X7_of rfl rfl rfl (by decide +kernel) ⟨Nat.le_of_ble_eq_true rfl, Nat.le_of_ble_eq_true rfl⟩) (x_preV hK hP h65 (by decide) rfl) rfl rfl hl.1 rfl (lv_room (Nat.le_of_ble_eq_true rfl)) dX7_photo_79 ⟨Nat.le_of_ble_eq_true rfl, Nat.le_of_ble_eq_true rfl⟩) (fun r79 hr79 => ?_)
        rw [hN.at0 (k := k) (w := 6) hk (by omega)] at hr79
        subst hr79
        exact x_iret S hr hlocks hP hS dX7_photo_82 (⟨Or.inr ⟨k, hk, rfl, Or.inr (Or.inl ⟨6, by decide, s29_6, by simp [phv]⟩)⟩, sM.mk h65 rfl rfl rfl h66 h67 h68 h69 h70 h71 h72 h73 h74 hN hHi hSl, hfm⟩)
      rcases Classical.em (w = 7) with s29_7 | s29_7
      · refine lv_tableIn (off := 81) (tgt := 110) S.1 S.2.1 dX7_photo_29 (by rw [s29_7]; decide) (by rw [s29_7]; decide) (by rw [s29_7]; rfl) rfl ?_
        refine lv_aload_n S.1 S.2.1 dX7_photo_110 rfl (lv_at hl 1 rfl) ?_
        refine lv_iload_n S.1 S.2.1 dX7_photo_111 rfl (lv_at hl 2 rfl) ?_
        refine x_si (va_runV (As := [.int (nI k)]) (rest := []) S (c_X7_hasAngle l g E h65 h66 hN hv1 hk) (cwV 1 S.2.2.2.2 gX7_photo_X7_hasAngle rfl rfl rfl (by decide +kernel) ⟨Nat.le_of_ble_eq_true rfl, Nat.le_of_ble_eq_true rfl⟩) (x_preV hK hP h65 (by decide) rfl) rfl rfl hl.1 rfl (lv_room (Nat.le_of_ble_eq_true rfl)) dX7_photo_112 ⟨Nat.le_of_ble_eq_true rfl, Nat.le_of_ble_eq_true rfl⟩) (fun r112 hr112 => ?_)
        refine lv_if_eq (tgt := 136) S.1 S.2.1 dX7_photo_115 (by decide) (fun c115 => ?_) (fun c115 => ?_)
        · skip
          refine lv_bipush (v := (-5)) S.1 S.2.1 dX7_photo_136 (by decide) ?_
          exact x_iret S hr hlocks hP hS dX7_photo_138 (⟨Or.inr ⟨k, hk, rfl, Or.inr (Or.inr ⟨s29_7, Or.inl ⟨hr112.f c115, rfl⟩⟩)⟩, sM.mk h65 rfl rfl rfl h66 h67 h68 h69 h70 h71 h72 h73 h74 hN hHi hSl, hfm⟩)
        · skip
          refine lv_aload_n S.1 S.2.1 dX7_photo_118 rfl (lv_at hl 1 rfl) ?_
          refine x_qi (va_runV (As := []) (rest := []) S (c_X7_findsSpin l g hJ E h65 h66 hN hv1) (cwV 0 S.2.2.2.2 gX7_photo_X7_findsSpin rfl rfl rfl (by decide +kernel) ⟨Nat.le_of_ble_eq_true rfl, Nat.le_of_ble_eq_true rfl⟩) (x_preV hK hP h65 (by decide) rfl) rfl rfl hl.1 rfl (lv_room (Nat.le_of_ble_eq_true rfl)) dX7_photo_119 ⟨Nat.le_of_ble_eq_true rfl, Nat.le_of_ble_eq_true rfl⟩) hS (fun r119 E1 H locs hq119 hP hS => ?_)
          obtain ⟨hfr119, hr119, T9, B9, F9, h65, hsp⟩ := hq119
          have h66 := (hfr119 66 (by decide)).trans h66
          have h67 := (hfr119 67 (by decide)).trans h67
          have h68 := (hfr119 68 (by decide)).trans h68
          have h69 := (hfr119 69 (by decide)).trans h69
          have h70 := (hfr119 70 (by decide)).trans h70
          have h71 := (hfr119 71 (by decide)).trans h71
          have h72 := (hfr119 72 (by decide)).trans h72
          have h73 := (hfr119 73 (by decide)).trans h73
          have h74 := (hfr119 74 (by decide)).trans h74
          have hfm : ∀ j, j < 65 → E1 j = E j := fun j hj => (hfr119 j (by omega)).trans (hfm j hj)
          refine lv_if_eq (tgt := 136) S.1 S.2.1 dX7_photo_122 (by decide) (fun c122 => ?_) (fun c122 => ?_)
          · skip
            refine lv_bipush (v := (-5)) S.1 S.2.1 dX7_photo_136 (by decide) ?_
            exact x_iret S hr hlocks hP hS dX7_photo_138 (absurd ⟨k, hk, hr112.t c115⟩ (hr119.f c122))
          · skip
            refine lv_aload_n S.1 S.2.1 dX7_photo_125 rfl (lv_at hl 1 rfl) ?_
            refine x_get S hK hP dX7_photo_126 h65 (by decide) (RX7, TX7, 19) rfl hin7 13 (by decide) fl127 rfl ?_
            refine lv_iload_n S.1 S.2.1 dX7_photo_129 rfl (lv_at hl 2 rfl) ?_
            refine lv_ishr S.1 S.2.1 dX7_photo_130 ?_
            refine lv_iconst (v := 1) S.1 S.2.1 dX7_photo_131 (by decide) ?_
            refine lv_iand S.1 S.2.1 dX7_photo_132 ?_
            refine lv_goto (tgt := 138) S.1 S.2.1 dX7_photo_133 (by decide) ?_
            exact x_iret S hr hlocks hP hS dX7_photo_138 (⟨Or.inr ⟨k, hk, rfl, Or.inr (Or.inr ⟨s29_7, Or.inr ⟨hr112.t c115, T9, B9, (hsp c122).1, by rw [(hsp c122).2]; exact bit_bI hn hk⟩⟩)⟩, sM.mk h65 rfl rfl rfl h66 h67 h68 h69 h70 h71 h72 h73 h74 hN hHi hSl, hfm⟩)
      refine lv_tableOut (tgt := 139) S.1 S.2.1 dX7_photo_29 (by have := lv_neT s29_0 (a := 0) (by decide); have := lv_neT s29_1 (a := 1) (by decide); have := lv_neT s29_2 (a := 2) (by decide); have := lv_neT s29_3 (a := 3) (by decide); have := lv_neT s29_4 (a := 4) (by decide); have := lv_neT s29_5 (a := 5) (by decide); have := lv_neT s29_6 (a := 6) (by decide); have := lv_neT s29_7 (a := 7) (by decide); omega) rfl ?_
      refine lv_bipush (v := (-2)) S.1 S.2.1 dX7_photo_139 (by decide) ?_
      exact x_iret S hr hlocks hP hS dX7_photo_141 (⟨Or.inr ⟨k, hk, rfl, Or.inl ⟨fun ⟨v, hv, h⟩ => by have h8 : v = 0 ∨ v = 1 ∨ v = 2 ∨ v = 3 ∨ v = 4 ∨ v = 5 ∨ v = 6 ∨ v = 7 := (by omega); rcases h8 with e | e | e | e | e | e | e | e <;> subst e; exact s29_0 h; exact s29_1 h; exact s29_2 h; exact s29_3 h; exact s29_4 h; exact s29_5 h; exact s29_6 h; exact s29_7 h, rfl⟩⟩, sM.mk h65 rfl rfl rfl h66 h67 h68 h69 h70 h71 h72 h73 h74 hN hHi hSl, hfm⟩)
    · skip
      refine lv_iconst (v := 1) S.1 S.2.1 dX7_photo_22 (by decide) ?_
      refine lv_goto (tgt := 27) S.1 S.2.1 dX7_photo_23 (by decide) ?_
      refine lv_istore_n (lv' := [(3, .int 1), (0, .ref (xad g 65)), (1, .int (nI k)), (2, .int w)]) S.1 S.2.1 dX7_photo_27 rfl hl (by decide) rfl (fun ls hl => ?_)
      refine lv_iload_n S.1 S.2.1 dX7_photo_28 rfl (lv_at hl 3 rfl) ?_
      rcases Classical.em (w = 0) with s29_0 | s29_0
      · refine lv_tableIn (off := 47) (tgt := 76) S.1 S.2.1 dX7_photo_29 (by rw [s29_0]; decide) (by rw [s29_0]; decide) (by rw [s29_0]; rfl) rfl ?_
        refine lv_aload_n S.1 S.2.1 dX7_photo_76 rfl (lv_at hl 1 rfl) ?_
        refine lv_iload_n S.1 S.2.1 dX7_photo_77 rfl (lv_at hl 2 rfl) ?_
        refine lv_iload_n S.1 S.2.1 dX7_photo_78 rfl (lv_at hl 3 rfl) ?_
        refine W.eq (g2 := F0 m 79 ls [.int (nI 0), .int (nI k), .ref (xad g 65)]) (by rw [s29_0]; rfl) ?_
        refine x_si (va_runV (As := [.int (nI k), .int (nI 0)]) (rest := []) S (c_X7_of l g E h65 h66 (k := k) (w := 0) (by omega)) (cwV 2 S.2.2.2.2 gX7_photo_X7_of rfl rfl rfl (by decide +kernel) ⟨Nat.le_of_ble_eq_true rfl, Nat.le_of_ble_eq_true rfl⟩) (x_preV hK hP h65 (by decide) rfl) rfl rfl hl.1 rfl (lv_room (Nat.le_of_ble_eq_true rfl)) dX7_photo_79 ⟨Nat.le_of_ble_eq_true rfl, Nat.le_of_ble_eq_true rfl⟩) (fun r79 hr79 => ?_)
        rw [hN.at0 (k := k) (w := 0) hk (by omega)] at hr79
        subst hr79
        exact x_iret S hr hlocks hP hS dX7_photo_82 (⟨Or.inr ⟨k, hk, rfl, Or.inr (Or.inl ⟨0, by decide, s29_0, by simp [phv]⟩)⟩, sM.mk h65 rfl rfl rfl h66 h67 h68 h69 h70 h71 h72 h73 h74 hN hHi hSl, hfm⟩)
      rcases Classical.em (w = 1) with s29_1 | s29_1
      · refine lv_tableIn (off := 54) (tgt := 83) S.1 S.2.1 dX7_photo_29 (by rw [s29_1]; decide) (by rw [s29_1]; decide) (by rw [s29_1]; rfl) rfl ?_
        refine lv_aload_n S.1 S.2.1 dX7_photo_83 rfl (lv_at hl 1 rfl) ?_
        refine lv_iload_n S.1 S.2.1 dX7_photo_84 rfl (lv_at hl 2 rfl) ?_
        refine lv_iload_n S.1 S.2.1 dX7_photo_85 rfl (lv_at hl 3 rfl) ?_
        refine W.eq (g2 := F0 m 86 ls [.int (nI 1), .int (nI k), .ref (xad g 65)]) (by rw [s29_1]; rfl) ?_
        refine x_si (va_runV (As := [.int (nI k), .int (nI 1)]) (rest := []) S (c_X7_of l g E h65 h66 (k := k) (w := 1) (by omega)) (cwV 2 S.2.2.2.2 gX7_photo_X7_of rfl rfl rfl (by decide +kernel) ⟨Nat.le_of_ble_eq_true rfl, Nat.le_of_ble_eq_true rfl⟩) (x_preV hK hP h65 (by decide) rfl) rfl rfl hl.1 rfl (lv_room (Nat.le_of_ble_eq_true rfl)) dX7_photo_86 ⟨Nat.le_of_ble_eq_true rfl, Nat.le_of_ble_eq_true rfl⟩) (fun r86 hr86 => ?_)
        rw [hN.at0 (k := k) (w := 1) hk (by omega)] at hr86
        subst hr86
        refine lv_sipush (v := 1000) S.1 S.2.1 dX7_photo_89 (by decide) ?_
        refine lv_iadd S.1 S.2.1 dX7_photo_92 ?_
        exact x_iret S hr hlocks hP hS dX7_photo_93 (⟨Or.inr ⟨k, hk, rfl, Or.inr (Or.inl ⟨1, by decide, s29_1, by simp [phv]⟩)⟩, sM.mk h65 rfl rfl rfl h66 h67 h68 h69 h70 h71 h72 h73 h74 hN hHi hSl, hfm⟩)
      rcases Classical.em (w = 2) with s29_2 | s29_2
      · refine lv_tableIn (off := 54) (tgt := 83) S.1 S.2.1 dX7_photo_29 (by rw [s29_2]; decide) (by rw [s29_2]; decide) (by rw [s29_2]; rfl) rfl ?_
        refine lv_aload_n S.1 S.2.1 dX7_photo_83 rfl (lv_at hl 1 rfl) ?_
        refine lv_iload_n S.1 S.2.1 dX7_photo_84 rfl (lv_at hl 2 rfl) ?_
        refine lv_iload_n S.1 S.2.1 dX7_photo_85 rfl (lv_at hl 3 rfl) ?_
        refine W.eq (g2 := F0 m 86 ls [.int (nI 2), .int (nI k), .ref (xad g 65)]) (by rw [s29_2]; rfl) ?_
        refine x_si (va_runV (As := [.int (nI k), .int (nI 2)]) (rest := []) S (c_X7_of l g E h65 h66 (k := k) (w := 2) (by omega)) (cwV 2 S.2.2.2.2 gX7_photo_X7_of rfl rfl rfl (by decide +kernel) ⟨Nat.le_of_ble_eq_true rfl, Nat.le_of_ble_eq_true rfl⟩) (x_preV hK hP h65 (by decide) rfl) rfl rfl hl.1 rfl (lv_room (Nat.le_of_ble_eq_true rfl)) dX7_photo_86 ⟨Nat.le_of_ble_eq_true rfl, Nat.le_of_ble_eq_true rfl⟩) (fun r86 hr86 => ?_)
        rw [hN.at0 (k := k) (w := 2) hk (by omega)] at hr86
        subst hr86
        refine lv_sipush (v := 1000) S.1 S.2.1 dX7_photo_89 (by decide) ?_
        refine lv_iadd S.1 S.2.1 dX7_photo_92 ?_
        exact x_iret S hr hlocks hP hS dX7_photo_93 (⟨Or.inr ⟨k, hk, rfl, Or.inr (Or.inl ⟨2, by decide, s29_2, by simp [phv]⟩)⟩, sM.mk h65 rfl rfl rfl h66 h67 h68 h69 h70 h71 h72 h73 h74 hN hHi hSl, hfm⟩)
      rcases Classical.em (w = 3) with s29_3 | s29_3
      · refine lv_tableIn (off := 47) (tgt := 76) S.1 S.2.1 dX7_photo_29 (by rw [s29_3]; decide) (by rw [s29_3]; decide) (by rw [s29_3]; rfl) rfl ?_
        refine lv_aload_n S.1 S.2.1 dX7_photo_76 rfl (lv_at hl 1 rfl) ?_
        refine lv_iload_n S.1 S.2.1 dX7_photo_77 rfl (lv_at hl 2 rfl) ?_
        refine lv_iload_n S.1 S.2.1 dX7_photo_78 rfl (lv_at hl 3 rfl) ?_
        refine W.eq (g2 := F0 m 79 ls [.int (nI 3), .int (nI k), .ref (xad g 65)]) (by rw [s29_3]; rfl) ?_
        refine x_si (va_runV (As := [.int (nI k), .int (nI 3)]) (rest := []) S (c_X7_of l g E h65 h66 (k := k) (w := 3) (by omega)) (cwV 2 S.2.2.2.2 gX7_photo_X7_of rfl rfl rfl (by decide +kernel) ⟨Nat.le_of_ble_eq_true rfl, Nat.le_of_ble_eq_true rfl⟩) (x_preV hK hP h65 (by decide) rfl) rfl rfl hl.1 rfl (lv_room (Nat.le_of_ble_eq_true rfl)) dX7_photo_79 ⟨Nat.le_of_ble_eq_true rfl, Nat.le_of_ble_eq_true rfl⟩) (fun r79 hr79 => ?_)
        rw [hN.at0 (k := k) (w := 3) hk (by omega)] at hr79
        subst hr79
        exact x_iret S hr hlocks hP hS dX7_photo_82 (⟨Or.inr ⟨k, hk, rfl, Or.inr (Or.inl ⟨3, by decide, s29_3, by simp [phv]⟩)⟩, sM.mk h65 rfl rfl rfl h66 h67 h68 h69 h70 h71 h72 h73 h74 hN hHi hSl, hfm⟩)
      rcases Classical.em (w = 4) with s29_4 | s29_4
      · refine lv_tableIn (off := 65) (tgt := 94) S.1 S.2.1 dX7_photo_29 (by rw [s29_4]; decide) (by rw [s29_4]; decide) (by rw [s29_4]; rfl) rfl ?_
        refine lv_iload_n S.1 S.2.1 dX7_photo_94 rfl (lv_at hl 0 rfl) ?_
        refine lv_if_eq (tgt := 103) S.1 S.2.1 dX7_photo_95 (by decide) (fun c95_2 => ?_) (fun c95_2 => ?_)
        · skip
          exact absurd c95_2 (by decide)
        · skip
          refine lv_bipush (v := (-5)) S.1 S.2.1 dX7_photo_98 (by decide) ?_
          refine lv_goto (tgt := 109) S.1 S.2.1 dX7_photo_100 (by decide) ?_
          exact x_iret S hr hlocks hP hS dX7_photo_109 (⟨Or.inr ⟨k, hk, rfl, Or.inr (Or.inl ⟨4, by decide, s29_4, by simp [phv, c19]⟩)⟩, sM.mk h65 rfl rfl rfl h66 h67 h68 h69 h70 h71 h72 h73 h74 hN hHi hSl, hfm⟩)
      rcases Classical.em (w = 5) with s29_5 | s29_5
      · refine lv_tableIn (off := 65) (tgt := 94) S.1 S.2.1 dX7_photo_29 (by rw [s29_5]; decide) (by rw [s29_5]; decide) (by rw [s29_5]; rfl) rfl ?_
        refine lv_iload_n S.1 S.2.1 dX7_photo_94 rfl (lv_at hl 0 rfl) ?_
        refine lv_if_eq (tgt := 103) S.1 S.2.1 dX7_photo_95 (by decide) (fun c95_3 => ?_) (fun c95_3 => ?_)
        · skip
          exact absurd c95_3 (by decide)
        · skip
          refine lv_bipush (v := (-5)) S.1 S.2.1 dX7_photo_98 (by decide) ?_
          refine lv_goto (tgt := 109) S.1 S.2.1 dX7_photo_100 (by decide) ?_
          exact x_iret S hr hlocks hP hS dX7_photo_109 (⟨Or.inr ⟨k, hk, rfl, Or.inr (Or.inl ⟨5, by decide, s29_5, by simp [phv, c19]⟩)⟩, sM.mk h65 rfl rfl rfl h66 h67 h68 h69 h70 h71 h72 h73 h74 hN hHi hSl, hfm⟩)
      rcases Classical.em (w = 6) with s29_6 | s29_6
      · refine lv_tableIn (off := 47) (tgt := 76) S.1 S.2.1 dX7_photo_29 (by rw [s29_6]; decide) (by rw [s29_6]; decide) (by rw [s29_6]; rfl) rfl ?_
        refine lv_aload_n S.1 S.2.1 dX7_photo_76 rfl (lv_at hl 1 rfl) ?_
        refine lv_iload_n S.1 S.2.1 dX7_photo_77 rfl (lv_at hl 2 rfl) ?_
        refine lv_iload_n S.1 S.2.1 dX7_photo_78 rfl (lv_at hl 3 rfl) ?_
        refine W.eq (g2 := F0 m 79 ls [.int (nI 6), .int (nI k), .ref (xad g 65)]) (by rw [s29_6]; rfl) ?_
        refine x_si (va_runV (As := [.int (nI k), .int (nI 6)]) (rest := []) S (c_X7_of l g E h65 h66 (k := k) (w := 6) (by omega)) (cwV 2 S.2.2.2.2 gX7_photo_X7_of rfl rfl rfl (by decide +kernel) ⟨Nat.le_of_ble_eq_true rfl, Nat.le_of_ble_eq_true rfl⟩) (x_preV hK hP h65 (by decide) rfl) rfl rfl hl.1 rfl (lv_room (Nat.le_of_ble_eq_true rfl)) dX7_photo_79 ⟨Nat.le_of_ble_eq_true rfl, Nat.le_of_ble_eq_true rfl⟩) (fun r79 hr79 => ?_)
        rw [hN.at0 (k := k) (w := 6) hk (by omega)] at hr79
        subst hr79
        exact x_iret S hr hlocks hP hS dX7_photo_82 (⟨Or.inr ⟨k, hk, rfl, Or.inr (Or.inl ⟨6, by decide, s29_6, by simp [phv]⟩)⟩, sM.mk h65 rfl rfl rfl h66 h67 h68 h69 h70 h71 h72 h73 h74 hN hHi hSl, hfm⟩)
      rcases Classical.em (w = 7) with s29_7 | s29_7
      · refine lv_tableIn (off := 81) (tgt := 110) S.1 S.2.1 dX7_photo_29 (by rw [s29_7]; decide) (by rw [s29_7]; decide) (by rw [s29_7]; rfl) rfl ?_
        refine lv_aload_n S.1 S.2.1 dX7_photo_110 rfl (lv_at hl 1 rfl) ?_
        refine lv_iload_n S.1 S.2.1 dX7_photo_111 rfl (lv_at hl 2 rfl) ?_
        refine x_si (va_runV (As := [.int (nI k)]) (rest := []) S (c_X7_hasAngle l g E h65 h66 hN hv1 hk) (cwV 1 S.2.2.2.2 gX7_photo_X7_hasAngle rfl rfl rfl (by decide +kernel) ⟨Nat.le_of_ble_eq_true rfl, Nat.le_of_ble_eq_true rfl⟩) (x_preV hK hP h65 (by decide) rfl) rfl rfl hl.1 rfl (lv_room (Nat.le_of_ble_eq_true rfl)) dX7_photo_112 ⟨Nat.le_of_ble_eq_true rfl, Nat.le_of_ble_eq_true rfl⟩) (fun r112 hr112 => ?_)
        refine lv_if_eq (tgt := 136) S.1 S.2.1 dX7_photo_115 (by decide) (fun c115 => ?_) (fun c115 => ?_)
        · skip
          refine lv_bipush (v := (-5)) S.1 S.2.1 dX7_photo_136 (by decide) ?_
          exact x_iret S hr hlocks hP hS dX7_photo_138 (⟨Or.inr ⟨k, hk, rfl, Or.inr (Or.inr ⟨s29_7, Or.inl ⟨hr112.f c115, rfl⟩⟩)⟩, sM.mk h65 rfl rfl rfl h66 h67 h68 h69 h70 h71 h72 h73 h74 hN hHi hSl, hfm⟩)
        · skip
          refine lv_aload_n S.1 S.2.1 dX7_photo_118 rfl (lv_at hl 1 rfl) ?_
          refine x_qi (va_runV (As := []) (rest := []) S (c_X7_findsSpin l g hJ E h65 h66 hN hv1) (cwV 0 S.2.2.2.2 gX7_photo_X7_findsSpin rfl rfl rfl (by decide +kernel) ⟨Nat.le_of_ble_eq_true rfl, Nat.le_of_ble_eq_true rfl⟩) (x_preV hK hP h65 (by decide) rfl) rfl rfl hl.1 rfl (lv_room (Nat.le_of_ble_eq_true rfl)) dX7_photo_119 ⟨Nat.le_of_ble_eq_true rfl, Nat.le_of_ble_eq_true rfl⟩) hS (fun r119 E1_1 H locs hq119 hP hS => ?_)
          obtain ⟨hfr119, hr119, T9, B9, F9, h65, hsp⟩ := hq119
          have h66 := (hfr119 66 (by decide)).trans h66
          have h67 := (hfr119 67 (by decide)).trans h67
          have h68 := (hfr119 68 (by decide)).trans h68
          have h69 := (hfr119 69 (by decide)).trans h69
          have h70 := (hfr119 70 (by decide)).trans h70
          have h71 := (hfr119 71 (by decide)).trans h71
          have h72 := (hfr119 72 (by decide)).trans h72
          have h73 := (hfr119 73 (by decide)).trans h73
          have h74 := (hfr119 74 (by decide)).trans h74
          have hfm : ∀ j, j < 65 → E1_1 j = E j := fun j hj => (hfr119 j (by omega)).trans (hfm j hj)
          refine lv_if_eq (tgt := 136) S.1 S.2.1 dX7_photo_122 (by decide) (fun c122 => ?_) (fun c122 => ?_)
          · skip
            refine lv_bipush (v := (-5)) S.1 S.2.1 dX7_photo_136 (by decide) ?_
            exact x_iret S hr hlocks hP hS dX7_photo_138 (absurd ⟨k, hk, hr112.t c115⟩ (hr119.f c122))
          · skip
            refine lv_aload_n S.1 S.2.1 dX7_photo_125 rfl (lv_at hl 1 rfl) ?_
            refine x_get S hK hP dX7_photo_126 h65 (by decide) (RX7, TX7, 19) rfl hin7 13 (by decide) fl127 rfl ?_
            refine lv_iload_n S.1 S.2.1 dX7_photo_129 rfl (lv_at hl 2 rfl) ?_
            refine lv_ishr S.1 S.2.1 dX7_photo_130 ?_
            refine lv_iconst (v := 1) S.1 S.2.1 dX7_photo_131 (by decide) ?_
            refine lv_iand S.1 S.2.1 dX7_photo_132 ?_
            refine lv_goto (tgt := 138) S.1 S.2.1 dX7_photo_133 (by decide) ?_
            exact x_iret S hr hlocks hP hS dX7_photo_138 (⟨Or.inr ⟨k, hk, rfl, Or.inr (Or.inr ⟨s29_7, Or.inr ⟨hr112.t c115, T9, B9, (hsp c122).1, by rw [(hsp c122).2]; exact bit_bI hn hk⟩⟩)⟩, sM.mk h65 rfl rfl rfl h66 h67 h68 h69 h70 h71 h72 h73 h74 hN hHi hSl, hfm⟩)
      refine lv_tableOut (tgt := 139) S.1 S.2.1 dX7_photo_29 (by have := lv_neT s29_0 (a := 0) (by decide); have := lv_neT s29_1 (a := 1) (by decide); have := lv_neT s29_2 (a := 2) (by decide); have := lv_neT s29_3 (a := 3) (by decide); have := lv_neT s29_4 (a := 4) (by decide); have := lv_neT s29_5 (a := 5) (by decide); have := lv_neT s29_6 (a := 6) (by decide); have := lv_neT s29_7 (a := 7) (by decide); omega) rfl ?_
      refine lv_bipush (v := (-2)) S.1 S.2.1 dX7_photo_139 (by decide) ?_
      exact x_iret S hr hlocks hP hS dX7_photo_141 (⟨Or.inr ⟨k, hk, rfl, Or.inl ⟨fun ⟨v, hv, h⟩ => by have h8 : v = 0 ∨ v = 1 ∨ v = 2 ∨ v = 3 ∨ v = 4 ∨ v = 5 ∨ v = 6 ∨ v = 7 := (by omega); rcases h8 with e | e | e | e | e | e | e | e <;> subst e; exact s29_0 h; exact s29_1 h; exact s29_2 h; exact s29_3 h; exact s29_4 h; exact s29_5 h; exact s29_6 h; exact s29_7 h, rfl⟩⟩, sM.mk h65 rfl rfl rfl h66 h67 h68 h69 h70 h71 h72 h73 h74 hN hHi hSl, hfm⟩)
  · skip
    refine lv_iconst (v := (-1)) S.1 S.2.1 dX7_photo_8 (by decide) ?_
    exact x_iret S hr hlocks hP hS dX7_photo_9 (⟨Or.inl ⟨hr2.t c5, rfl⟩, sM.mk h65 rfl rfl rfl h66 h67 h68 h69 h70 h71 h72 h73 h74 hN hHi hSl, hfm⟩)
