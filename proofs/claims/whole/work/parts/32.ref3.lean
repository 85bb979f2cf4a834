/-! THE REFERENCE: the track out of the order; the spin; the record -/
/-- the last place whose count is not above q -/
def nxt (P : Nat → Bool) (q : Nat) : Nat → Nat
  | 0 => 0
  | k + 1 => if cnt P (k + 1) ≤ q then k + 1 else nxt P q k
theorem nxt_le (P : Nat → Bool) (q : Nat) : ∀ k, nxt P q k ≤ k
  | 0 => Nat.le_refl _
  | k + 1 => by
    unfold nxt
    split
    · exact Nat.le_refl _
    · have := nxt_le P q k
      omega
theorem nxt_cnt (P : Nat → Bool) (q : Nat) : ∀ k, cnt P (nxt P q k) ≤ q
  | 0 => Nat.zero_le _
  | k + 1 => by
    unfold nxt
    split
    · assumption
    · exact nxt_cnt P q k
theorem nxt_gt (P : Nat → Bool) (q : Nat) : ∀ k b, nxt P q k < b → b ≤ k → q < cnt P b
  | 0, b, h1, h2 => by
    have h1 : 0 < b := h1
    omega
  | k + 1, b, h1, h2 => by
    unfold nxt at h1
    split at h1
    · omega
    · rename_i h
      by_cases e : b = k + 1
      · subst e
        omega
      · exact nxt_gt P q k b h1 (by omega)
theorem nxt_eq {P : Nat → Bool} {q k : Nat} (h : q ≤ cnt P k) : cnt P (nxt P q k) = q := by
  have h1 := nxt_cnt P q k
  have h2 := nxt_le P q k
  by_cases e : nxt P q k = k
  · rw [e] at h1 ⊢
    omega
  · have h3 := nxt_gt P q k (nxt P q k + 1) (Nat.lt_succ_self _) (by omega)
    have h4 : cnt P (nxt P q k + 1) ≤ cnt P (nxt P q k) + 1 := by
      show cnt P (nxt P q k) + (if P (nxt P q k) = true then 1 else 0) ≤ _
      split <;> omega
    omega
theorem pB_pC {M : Nat → Nat → Int32} {a b q : Nat} (hab : a ≤ b) : pB M a b q = pC M (cnt (pU M) a) (cnt (pU M) b - cnt (pU M) a) q := by
  unfold pB pC
  cases hu : pU M q
  · rfl
  · have h0 := cnt_mo (P := pU M) hab
    have h1 : a ≤ q ↔ cnt (pU M) a ≤ cnt (pU M) q := ⟨fun h => cnt_mo h, fun h => Nat.not_lt.mp fun g => by
      have := cnt_lt g hu
      omega⟩
    have h2 : q < b ↔ cnt (pU M) q < cnt (pU M) b := ⟨fun h => cnt_lt h hu, fun h => Nat.not_le.mp fun g => by
      have := cnt_mo (P := pU M) g
      omega⟩
    rw [show cnt (pU M) a + (cnt (pU M) b - cnt (pU M) a) = cnt (pU M) b by omega]
    simp [h1, h2]
def twR (M : Nat → Nat → Int32) (RW : Nat → Nat) (a : Nat) : Nat := RW (cnt (pU M) a)
def twT (M : Nat → Nat → Int32) (n : Nat) (LG : Nat → Nat) (a : Nat) : Nat := if cnt (pU M) a < cnt (pU M) n then nxt (pU M) (cnt (pU M) a + LG (cnt (pU M) a)) n else n
theorem tw.trk {M : Nat → Nat → Int32} {n : Nat} {RW LG : Nat → Nat} (h : tw M n (cnt (pU M) n) RW LG 0) : trk M n (twR M RW) (twT M n LG) := by
  obtain ⟨h1, h2, h3⟩ := h
  refine ⟨h1, if_neg (Nat.lt_irrefl _), fun a ha => ⟨fun hu => ?_, fun hu => ?_⟩⟩
  · unfold twR twT
    rw [cnt_no hu]
    exact ⟨rfl, rfl⟩
  · have hlt := cnt_lt ha hu
    obtain ⟨a1, a2, a3, a4, a5⟩ := h3 _ (Nat.zero_le _) hlt
    have hT : twT M n LG a = nxt (pU M) (cnt (pU M) a + LG (cnt (pU M) a)) n := if_pos hlt
    have hc : cnt (pU M) (twT M n LG a) = cnt (pU M) a + LG (cnt (pU M) a) := by rw [hT]; exact nxt_eq a2
    have hn : twT M n LG a ≤ n := by rw [hT]; exact nxt_le _ _ _
    have hat : a < twT M n LG a := Nat.not_le.mp fun g => by
      have := cnt_mo (P := pU M) g
      omega
    have key : ∀ b, a < b → (fitR M n a b ↔ fitC M n (cnt (pU M) a) (cnt (pU M) b - cnt (pU M) a)) := fun b hb =>
      ⟨fun g => fitS_congr (fun q _ => pB_pC (by omega)) g, fun g => fitS_congr (fun q _ => (pB_pC (by omega)).symm) g⟩
    refine ⟨hat, hn, (key _ hat).mpr (by rw [hc, show cnt (pU M) a + LG (cnt (pU M) a) - cnt (pU M) a = LG (cnt (pU M) a) by omega]; exact a3), ?_, fun b b1 b2 b3 => ?_⟩
    · show RW (cnt (pU M) a) = 1 + RW (cnt (pU M) (twT M n LG a))
      rw [hc]
      exact a4
    · have hb := cnt_lt b1 hu
      have hb2 := cnt_mo (P := pU M) b2
      obtain ⟨c1, c2⟩ := a5 (cnt (pU M) b - cnt (pU M) a) (by omega) (by omega) ((key b b1).mp b3)
      rw [show cnt (pU M) a + (cnt (pU M) b - cnt (pU M) a) = cnt (pU M) b by omega] at c1 c2
      refine ⟨c1, fun g => c2 ?_⟩
      have := nxt_gt (pU M) (cnt (pU M) a + LG (cnt (pU M) a)) n b (by rw [← hT]; exact g) b2
      omega
/-- where the w-th row begins, by places -/
def itm (o : Nat) (LG : Nat → Nat) : Nat → Nat
  | 0 => 0
  | w + 1 => if itm o LG w < o then itm o LG w + LG (itm o LG w) else itm o LG w
theorem twT_cnt {M : Nat → Nat → Int32} {n : Nat} {RW LG : Nat → Nat} (h : tw M n (cnt (pU M) n) RW LG 0) {a : Nat} (ha : a ≤ n) : a ≤ twT M n LG a ∧ twT M n LG a ≤ n ∧ cnt (pU M) (twT M n LG a) = if cnt (pU M) a < cnt (pU M) n then cnt (pU M) a + LG (cnt (pU M) a) else cnt (pU M) n := by
  unfold twT
  by_cases hlt : cnt (pU M) a < cnt (pU M) n
  · rw [if_pos hlt, if_pos hlt]
    obtain ⟨a1, a2, -⟩ := h.2.2 _ (Nat.zero_le _) hlt
    have hc := nxt_eq (P := pU M) (k := n) a2
    refine ⟨Nat.le_of_lt (Nat.not_le.mp fun g => ?_), nxt_le _ _ _, hc⟩
    have := cnt_mo (P := pU M) g
    omega
  · rw [if_neg hlt, if_neg hlt]
    exact ⟨ha, Nat.le_refl _, rfl⟩
theorem itm_itr {M : Nat → Nat → Int32} {n : Nat} {RW LG : Nat → Nat} (h : tw M n (cnt (pU M) n) RW LG 0) : ∀ w, itr n (twT M n LG) w 0 ≤ n ∧ cnt (pU M) (itr n (twT M n LG) w 0) = itm (cnt (pU M) n) LG w
  | 0 => ⟨Nat.zero_le _, rfl⟩
  | w + 1 => by
    obtain ⟨h1, h2⟩ := itm_itr h w
    obtain ⟨t1, t2, t3⟩ := twT_cnt h h1
    rw [itr_succ]
    show _ ∧ _ = if itm (cnt (pU M) n) LG w < cnt (pU M) n then itm (cnt (pU M) n) LG w + LG (itm (cnt (pU M) n) LG w) else itm (cnt (pU M) n) LG w
    rw [← h2]
    by_cases hlt : cnt (pU M) (itr n (twT M n LG) w 0) < cnt (pU M) n
    · have ha : itr n (twT M n LG) w 0 < n := Nat.not_le.mp fun g => by
        have := cnt_mo (P := pU M) g
        omega
      rw [if_pos ha, if_pos hlt, t3, if_pos hlt]
      exact ⟨t2, rfl⟩
    · rw [if_neg hlt]
      rw [if_neg hlt] at t3
      by_cases ha : itr n (twT M n LG) w 0 < n
      · rw [if_pos ha, t3]
        have := cnt_mo (P := pU M) h1
        exact ⟨t2, by omega⟩
      · rw [if_neg ha]
        exact ⟨h1, rfl⟩
theorem itm_end {o : Nat} {LG : Nat → Nat} {k w : Nat} (h : ¬ itm o LG k < o) (hw : k ≤ w) : itm o LG w = itm o LG k := by
  obtain ⟨d, rfl⟩ : ∃ d, w = k + d := ⟨w - k, by omega⟩
  clear hw
  induction d with
  | zero => rfl
  | succ d ih =>
    show (if itm o LG (k + d) < o then _ else itm o LG (k + d)) = _
    rw [if_neg (by rw [ih]; exact h)]
    exact ih
/-- there is a w-th row if its place is one of the order -/
theorem itm_lt {M : Nat → Nat → Int32} {n : Nat} {RW LG : Nat → Nat} (h : tw M n (cnt (pU M) n) RW LG 0) {w : Nat} : itm (cnt (pU M) n) LG w < cnt (pU M) n ↔ w < RW 0 := by
  have ht := h.trk
  have hR0 : twR M RW 0 = RW 0 := rfl
  constructor
  · intro hw
    refine Nat.not_le.mp fun hge => ?_
    rcases Nat.eq_zero_or_pos (RW 0) with h0 | h0
    · have hp : itm (cnt (pU M) n) LG 0 < cnt (pU M) n := Nat.not_le.mp fun g => by
        have := itm_end (o := cnt (pU M) n) (LG := LG) (k := 0) (w := w) (by omega) (Nat.zero_le _)
        omega
      have := (h.2.2 0 (Nat.le_refl _) hp).2.2.2.1
      omega
    · obtain ⟨a1, a2⟩ := trk_itr ht (RW 0 - 1) (by rw [hR0]; omega)
      obtain ⟨b1, b2⟩ := itm_itr h (RW 0 - 1)
      obtain ⟨c1, c2⟩ := itm_itr h (RW 0)
      rw [hR0] at a2
      have hlast : ¬ itm (cnt (pU M) n) LG (RW 0) < cnt (pU M) n := by
        intro hlt
        have e1 : RW (itm (cnt (pU M) n) LG (RW 0 - 1)) = 1 := by
          rw [← b2]
          have : RW (cnt (pU M) (itr n (twT M n LG) (RW 0 - 1) 0)) + (RW 0 - 1) = RW 0 := a2
          omega
        have hlt1 : itm (cnt (pU M) n) LG (RW 0 - 1) < cnt (pU M) n := Nat.not_le.mp fun g => by
          have := itm_end (o := cnt (pU M) n) (LG := LG) (k := RW 0 - 1) (w := RW 0) (by omega) (by omega)
          omega
        have e2 : itm (cnt (pU M) n) LG (RW 0) = itm (cnt (pU M) n) LG (RW 0 - 1) + LG (itm (cnt (pU M) n) LG (RW 0 - 1)) := by
          have : RW 0 = (RW 0 - 1) + 1 := by omega
          rw [this]
          exact if_pos hlt1
        have e3 := (h.2.2 _ (Nat.zero_le _) hlt1).2.2.2.1
        have e4 := (h.2.2 _ (Nat.zero_le _) hlt).2.2.2.1
        rw [e2] at e4 hlt
        omega
      have := itm_end hlast hge
      omega
  · intro hw
    obtain ⟨a1, a2⟩ := trk_itr ht w (by rw [hR0]; exact hw)
    obtain ⟨b1, b2⟩ := itm_itr h w
    rw [hR0] at a2
    refine Nat.not_le.mp fun g => ?_
    have hle := cnt_mo (P := pU M) b1
    have e : itm (cnt (pU M) n) LG w = cnt (pU M) n := by omega
    have : RW (cnt (pU M) (itr n (twT M n LG) w 0)) + w = RW 0 := a2
    rw [b2, e, h.1] at this
    omega
theorem isBest_congr {M : Nat → Nat → Int32} {n : Nat} {P Q : Nat → Bool} (h : ∀ q, q < n → P q = Q q) {i j k : Nat} (hb : isBest M P n i j k) : isBest M Q n i j k := by
  have htr : ∀ i j k, trio P n i j k ↔ trio Q n i j k := by
    intro i j k
    unfold trio
    constructor
    · rintro ⟨h1, h2, h3, h4, h5, h6⟩
      exact ⟨h1, h2, h3, by rw [← h i (by omega)]; exact h4, by rw [← h j (by omega)]; exact h5, by rw [← h k h3]; exact h6⟩
    · rintro ⟨h1, h2, h3, h4, h5, h6⟩
      exact ⟨h1, h2, h3, by rw [h i (by omega)]; exact h4, by rw [h j (by omega)]; exact h5, by rw [h k h3]; exact h6⟩
  have hsc : ∀ i j k, sco M P n i j k = sco M Q n i j k := fun i j k => cnt_congr fun q hq => by rw [h q hq]
  obtain ⟨b1, b2, b3, b4⟩ := hb
  refine ⟨(htr i j k).mp b1, b2, fun r s t ht hl => ?_, fun r s t ht hl => ?_⟩
  · rw [← hsc, ← hsc]
    exact b3 r s t ((htr r s t).mpr ht) hl
  · rw [← hsc, ← hsc]
    exact b4 r s t ((htr r s t).mpr ht) hl
theorem trio_congr {n : Nat} {P Q : Nat → Bool} (h : ∀ q, q < n → P q = Q q) {i j k : Nat} (ht : trio P n i j k) : trio Q n i j k := by
  obtain ⟨h1, h2, h3, h4, h5, h6⟩ := ht
  exact ⟨h1, h2, h3, by rw [← h i (by omega)]; exact h4, by rw [← h j (by omega)]; exact h5, by rw [← h k h3]; exact h6⟩
/-! spins in the order in which they are tried -/
def bef (k b t' b' : Int) : Prop := ordT t' < k ∨ (ordT t' = k ∧ b' < b)
def bsS (M : Nat → Nat → Int32) (n : Nat) (k b : Int) (x T B F : Int32) : Prop := (x = -1 ∧ ∀ t' b', inR t' b' → ¬ bef k b t' b') ∨ (inR T.toInt B.toInt ∧ bef k b T.toInt B.toInt ∧ (∀ t' b', inR t' b' → bef k b t' b' → spB M n T.toInt B.toInt t' b') ∧ x = nI (ssc M n T.toInt B.toInt) ∧ F = nI (mk (pF M T.toInt B.toInt) n))
theorem bsS.take {M : Nat → Nat → Int32} {n : Nat} {t b x T B F F' : Int32} (hn : n ≤ 10) (h : bsS M n (ordT t.toInt) b.toInt x T B F) (hr : inR t.toInt b.toInt) (hlt : ¬ nI (ssc M n t.toInt b.toInt) ≤ x) (hF : F' = nI (mk (pF M t.toInt b.toInt) n)) : bsS M n (ordT t.toInt) (b.toInt + 1) (nI (ssc M n t.toInt b.toInt)) t b F' := by
  have hs : ∀ t' b', ssc M n t' b' ≤ 10 := fun t' b' => Nat.le_trans (cnt_le _ n) hn
  refine Or.inr ⟨hr, Or.inr ⟨rfl, by omega⟩, fun t' b' hr' hb' => ?_, rfl, hF⟩
  by_cases e : bef (ordT t.toInt) b.toInt t' b'
  · rcases h with ⟨-, h2⟩ | ⟨h1, h2, h3, h4, -⟩
    · exact absurd e (h2 t' b' hr')
    · obtain ⟨c1, c2⟩ := h3 t' b' hr' e
      have := hs t.toInt b.toInt
      have := hs T.toInt B.toInt
      rw [h4, nI_leI (by omega) (by omega)] at hlt
      exact ⟨by omega, fun g => by omega⟩
  · rcases hb' with g | ⟨g1, g2⟩
    · exact absurd (Or.inl g) e
    · have e2 := ordT_inj g1
      have e3 : ¬ b' < b.toInt := fun g => e (Or.inr ⟨g1, g⟩)
      have e4 : b' = b.toInt := by omega
      subst e2 e4
      exact ⟨Nat.le_refl _, fun _ => Or.inr ⟨rfl, Int.le_refl _⟩⟩
theorem bsS.keep {M : Nat → Nat → Int32} {n : Nat} {t b x T B F : Int32} (hn : n ≤ 10) (h : bsS M n (ordT t.toInt) b.toInt x T B F) (hle : nI (ssc M n t.toInt b.toInt) ≤ x) : bsS M n (ordT t.toInt) (b.toInt + 1) x T B F := by
  have hs : ∀ t' b', ssc M n t' b' ≤ 10 := fun t' b' => Nat.le_trans (cnt_le _ n) hn
  have := hs t.toInt b.toInt
  rcases h with ⟨h1, -⟩ | ⟨h1, h2, h3, h4, h5⟩
  · rw [h1, I_le, nI_Z (by omega), show (-1 : Int32).toInt = -1 by decide] at hle
    omega
  · have := hs T.toInt B.toInt
    rw [h4, nI_leI (by omega) (by omega)] at hle
    have h2' : bef (ordT t.toInt) (b.toInt + 1) T.toInt B.toInt := by
      rcases h2 with g | ⟨g1, g2⟩
      · exact Or.inl g
      · exact Or.inr ⟨g1, by omega⟩
    refine Or.inr ⟨h1, h2', fun t' b' hr' hb' => ?_, h4, h5⟩
    by_cases e : bef (ordT t.toInt) b.toInt t' b'
    · exact h3 t' b' hr' e
    · rcases hb' with g | ⟨g1, g2⟩
      · exact absurd (Or.inl g) e
      · have e2 := ordT_inj g1
        have e3 : ¬ b' < b.toInt := fun g => e (Or.inr ⟨g1, g⟩)
        have e4 : b' = b.toInt := by omega
        subst e2 e4
        refine ⟨by omega, fun _ => ?_⟩
        rcases h2 with g | ⟨g3, g4⟩
        · exact Or.inl g
        · exact Or.inr ⟨ordT_inj g3, by omega⟩
theorem bsS.turn {M : Nat → Nat → Int32} {n : Nat} {k : Int} {x T B F : Int32} (h : bsS M n k 360 x T B F) : bsS M n (k + 1) 0 x T B F := by
  have key : ∀ t' b', inR t' b' → (bef (k + 1) 0 t' b' ↔ bef k 360 t' b') := fun t' b' hr => by
    obtain ⟨-, r1, r2⟩ := hr
    unfold bef
    omega
  rcases h with ⟨h1, h2⟩ | ⟨h1, h2, h3, h4⟩
  · exact Or.inl ⟨h1, fun t' b' hr hb => h2 t' b' hr ((key t' b' hr).mp hb)⟩
  · exact Or.inr ⟨h1, (key _ _ h1).mpr h2, fun t' b' hr hb => h3 t' b' hr ((key t' b' hr).mp hb), h4⟩
theorem bsS.fin {M : Nat → Nat → Int32} {n : Nat} {x T B F : Int32} (h : bsS M n 360 0 x T B F) : isSpin M n T.toInt B.toInt ∧ F = nI (mk (pF M T.toInt B.toInt) n) := by
  have key : ∀ t' b', inR t' b' → bef 360 0 t' b' := fun t' b' hr => by
    obtain ⟨⟨r1, r2⟩, -⟩ := hr
    refine Or.inl ?_
    unfold ordT
    split <;> omega
  rcases h with ⟨h1, h2⟩ | ⟨h1, h2, h3, h4, h5⟩
  · exact absurd (key 0 0 ⟨by omega, by omega, by omega⟩) (h2 0 0 ⟨by omega, by omega, by omega⟩)
  · exact ⟨⟨h1, fun t' b' hr => h3 t' b' hr (key t' b' hr)⟩, h5⟩
theorem bsS.start {M : Nat → Nat → Int32} {n : Nat} {T B F : Int32} : bsS M n 0 0 (-1) T B F := Or.inl ⟨rfl, fun t' b' hr hb => by
  obtain ⟨-, r1, r2⟩ := hr
  unfold bef ordT at hb
  split at hb <;> omega⟩
def spO : Nat → Int32 := fun k => if nI k - nI k / 2 * 2 = 1 then (nI k + 1) / 2 else (-(nI k)) / 2
theorem spO_ok : ∀ k, k < 360 → ordT (spO k).toInt = (k : Int) ∧ -179 ≤ (spO k).toInt ∧ (spO k).toInt ≤ 180 := by decide +kernel
theorem ex_or {P : Nat → Prop} {q : Nat} {y r : Int32} {B : Prop} (h : xb (∃ k, k < q ∧ P k) y) (hr : xb B r) (hB : B ↔ P q) : xb (∃ k, k < q + 1 ∧ P k) (y ||| r) := by
  rcases hr.1 with e | e
  · subst e
    exact ex_next h (fun g => hr.f rfl (hB.mpr g))
  · subst e
    exact ex_yes h (hB.mp (hr.t (by decide)))
set_option maxHeartbeats 4000000 in
set_option maxRecDepth 100000 in
theorem c_X7_findsSpin (l : Launch) (g : xG) (hJ : xJ (xad g)) (E : Nat → va_E) {kp fi hi od bs bb bf ty at9 nu : Int32} (h65 : E 65 = mO g kp fi hi od bs bb bf ty at9 nu) {f : Nat → Int32} (h66 : E 66 = .inl (xI g, 71, .inl f)) {n : Nat} {M : Nat → Nat → Int32} (hN : nH f 0 n M) (hv : vld n M)  : Met l yX7_findsSpin wsX7_findsSpin ({ frames := 4, cells := 0, slots := 0, locals := 88 }) (xPc g [.ref (xad g 65)] E) (xQi g (fun r E1 => (∀ j, j ≠ 65 → E1 j = E j) ∧ xb (∃ k, k < n ∧ pK M k = true) r ∧ ∃ T9 B9 F9 : Int32, E1 65 = mO g kp fi hi od T9 B9 F9 ty at9 nu ∧ (¬ r = 0 → isSpin M n T9.toInt B9.toInt ∧ F9 = nI (mk (pF M T9.toInt B9.toInt) n)))) 0 0 (xA (xad g)) := by
  refine x_met (ws' := _) (by decide) rfl (Nat.le_of_ble_eq_true rfl) ?_
  intro pz ez s m below meth cz ls S hr hlocks hP hK hl
  have hl : lv_has ls 7 [(0, .ref (xad g 65))] := hl
  have hS : va_S (xA (xad g)) s.heap s.heap [] := va_S.rf
  have hin7 : ∀ w ∈ u_ws RX7 TX7 19, w ∈ wsX7_findsSpin := by decide +kernel
  have fl7 : Cond.fieldLink RX7 7 "DiscArcsModel" "now" "[I" ∈ wsX7_findsSpin := by decide +kernel
  have fl121 : Cond.fieldLink RX7 121 "DiscArcsModel" "bestSpin" "I" ∈ wsX7_findsSpin := by decide +kernel
  have fl124 : Cond.fieldLink RX7 124 "DiscArcsModel" "bestBeginning" "I" ∈ wsX7_findsSpin := by decide +kernel
  have fl127 : Cond.fieldLink RX7 127 "DiscArcsModel" "bestFitted" "I" ∈ wsX7_findsSpin := by decide +kernel
  have hn := hN.1
  have hn0 := hN.n0
  have hfr : ∀ j, j ≠ 65 → E j = E j := fun _ _ => rfl
  refine lv_iconst (v := 0) S.1 S.2.1 dX7_findsSpin_0 (by decide) ?_
  refine lv_istore_n (lv' := [(1, .int 0), (0, .ref (xad g 65))]) S.1 S.2.1 dX7_findsSpin_1 rfl hl (by decide) rfl (fun ls hl => ?_)
  refine lv_iconst (v := 0) S.1 S.2.1 dX7_findsSpin_2 (by decide) ?_
  refine lv_istore_n (lv' := [(2, .int 0), (1, .int 0), (0, .ref (xad g 65))]) S.1 S.2.1 dX7_findsSpin_3 rfl hl (by decide) rfl (fun ls hl => ?_)
  have loop4 : ∀ (d : Nat) (q : Nat) (y : Int32) (EL : Nat → va_E) (H : Heap) (locs : List Loc), (hq : q ≤ n) → (hy : xb (∃ k, k < q ∧ pK M k = true) y) → (n - q) < d → (h65 : EL 65 = mO g kp fi hi od bs bb bf ty at9 nu) → (h66 : EL 66 = .inl (xI g, 71, .inl f)) → (hfr : ∀ j, j ≠ 65 → EL j = E j) → xP g EL H → va_S (xA (xad g)) s.heap H locs → ∀ ls : Array Slot, lv_has ls 7 [(2, .int (nI q)), (1, .int y), (0, .ref (xad g 65))] → W pz l ez ({ frames := 4, cells := 0, slots := 0, locals := 88 }) s m ([.ref (xad g 65)] : List Value).toArray below meth cz H locs 0 0 (MQ below (xQi g (fun r E1 => (∀ j, j ≠ 65 → E1 j = E j) ∧ xb (∃ k, k < n ∧ pK M k = true) r ∧ ∃ T9 B9 F9 : Int32, E1 65 = mO g kp fi hi od T9 B9 F9 ty at9 nu ∧ (¬ r = 0 → isSpin M n T9.toInt B9.toInt ∧ F9 = nI (mk (pF M T9.toInt B9.toInt) n)))) ([.ref (xad g 65)] : List Value).toArray s 0 0 (xA (xad g))) (F0 m 4 ls []) := by
    intro d
    induction d with
    | zero => intro q y EL H locs hq hy hd; exact absurd hd (Nat.not_lt_zero _)
    | succ d ih4 =>
      intro q y EL H locs hq hy hd h65 h66 hfr hP hS ls hl
      refine lv_iload_n S.1 S.2.1 dX7_findsSpin_4 rfl (lv_at hl 0 rfl) ?_
      refine lv_aload_n S.1 S.2.1 dX7_findsSpin_5 rfl (lv_at hl 2 rfl) ?_
      refine x_get S hK hP dX7_findsSpin_6 h65 (by decide) (RX7, TX7, 19) rfl hin7 0 (by decide) fl7 rfl ?_
      refine lv_bipush (v := 70) S.1 S.2.1 dX7_findsSpin_9 (by decide) ?_
      refine x_iald S hK hP dX7_findsSpin_11 h66 (by decide) (j := 70) rfl (by omega) (by decide) ?_
      refine lv_icmp_ge (tgt := 29) S.1 S.2.1 dX7_findsSpin_12 (by decide) (fun c12 => ?_) (fun c12 => ?_)
      · skip
        have hyy : xb (∃ k, k < n ∧ pK M k = true) y := by rw [hn0] at c12; rw [← show q = n from Nat.le_antisymm hq ((nI_leI (by omega) (by omega)).mp c12)]; exact hy
        refine lv_iconst (v := (-1)) S.1 S.2.1 dX7_findsSpin_29 (by decide) ?_
        refine lv_istore_n (lv' := [(2, .int (-1)), (1, .int y), (0, .ref (xad g 65))]) S.1 S.2.1 dX7_findsSpin_30 rfl hl (by decide) rfl (fun ls hl => ?_)
        refine lv_iconst (v := 0) S.1 S.2.1 dX7_findsSpin_31 (by decide) ?_
        refine lv_istore_n (lv' := [(3, .int 0), (2, .int (-1)), (1, .int y), (0, .ref (xad g 65))]) S.1 S.2.1 dX7_findsSpin_32 rfl hl (by decide) rfl (fun ls hl => ?_)
        have loop33 : ∀ (d : Nat) (k : Nat) (x9 : Int32) (T9 : Int32) (B9 : Int32) (F9 : Int32) (EL : Nat → va_E) (H : Heap) (locs : List Loc), (hk : k ≤ 360) → (hbs : bsS M n k 0 x9 T9 B9 F9) → (360 - k) < d → (h65 : EL 65 = mO g kp fi hi od T9 B9 F9 ty at9 nu) → (h66 : EL 66 = .inl (xI g, 71, .inl f)) → (hfr : ∀ j, j ≠ 65 → EL j = E j) → xP g EL H → va_S (xA (xad g)) s.heap H locs → ∀ ls : Array Slot, lv_has ls 7 [(3, .int (nI k)), (2, .int x9), (1, .int y), (0, .ref (xad g 65))] → W pz l ez ({ frames := 4, cells := 0, slots := 0, locals := 88 }) s m ([.ref (xad g 65)] : List Value).toArray below meth cz H locs 0 0 (MQ below (xQi g (fun r E1 => (∀ j, j ≠ 65 → E1 j = E j) ∧ xb (∃ k, k < n ∧ pK M k = true) r ∧ ∃ T9 B9 F9 : Int32, E1 65 = mO g kp fi hi od T9 B9 F9 ty at9 nu ∧ (¬ r = 0 → isSpin M n T9.toInt B9.toInt ∧ F9 = nI (mk (pF M T9.toInt B9.toInt) n)))) ([.ref (xad g 65)] : List Value).toArray s 0 0 (xA (xad g))) (F0 m 33 ls []) := by
          intro d
          induction d with
          | zero => intro k x9 T9 B9 F9 EL H locs hk hbs hd; exact absurd hd (Nat.not_lt_zero _)
          | succ d ih33 =>
            intro k x9 T9 B9 F9 EL H locs hk hbs hd h65 h66 hfr hP hS ls hl
            refine lv_iload_n S.1 S.2.1 dX7_findsSpin_33 rfl (lv_at hl 0 rfl) ?_
            refine lv_sipush (v := 360) S.1 S.2.1 dX7_findsSpin_34 (by decide) ?_
            refine lv_icmp_ge (tgt := 131) S.1 S.2.1 dX7_findsSpin_37 (by decide) (fun c37 => ?_) (fun c37 => ?_)
            · skip
              refine lv_iload_n S.1 S.2.1 dX7_findsSpin_131 rfl (lv_at hl 2 rfl) ?_
              exact x_zret S hr hlocks hP hS dX7_findsSpin_132 hyy.nar (⟨hfr, hyy, T9, B9, F9, h65, fun h => by have hk36 : k = 360 := Nat.le_antisymm hk ((nI_leI (a := 360) (by omega) (by omega)).mp c37); subst hk36; exact hbs.fin⟩)
            · skip
              refine lv_iload_n S.1 S.2.1 dX7_findsSpin_40 rfl (lv_at hl 2 rfl) ?_
              refine lv_if_eq (tgt := 131) S.1 S.2.1 dX7_findsSpin_41 (by decide) (fun c41 => ?_) (fun c41 => ?_)
              · skip
                refine lv_iload_n S.1 S.2.1 dX7_findsSpin_131 rfl (lv_at hl 2 rfl) ?_
                exact x_zret S hr hlocks hP hS dX7_findsSpin_132 hyy.nar (⟨hfr, hyy, T9, B9, F9, h65, fun h => absurd c41 h⟩)
              · skip
                have hk36 : k < 360 := Nat.not_le.mp (fun h => c37 ((nI_leI (a := 360) (by omega) (by omega)).mpr h))
                refine lv_iload_n S.1 S.2.1 dX7_findsSpin_44 rfl (lv_at hl 0 rfl) ?_
                refine lv_iconst (v := 2) S.1 S.2.1 dX7_findsSpin_45 (by decide) ?_
                refine lv_irem S.1 S.2.1 dX7_findsSpin_46 (by decide) ?_
                refine lv_iconst (v := 1) S.1 S.2.1 dX7_findsSpin_47 (by decide) ?_
                refine lv_icmp_ne (tgt := 59) S.1 S.2.1 dX7_findsSpin_48 (by decide) (fun c48 => ?_) (fun c48 => ?_)
                · skip
                  refine lv_iload_n S.1 S.2.1 dX7_findsSpin_59 rfl (lv_at hl 0 rfl) ?_
                  refine lv_ineg S.1 S.2.1 dX7_findsSpin_60 ?_
                  refine lv_iconst (v := 2) S.1 S.2.1 dX7_findsSpin_61 (by decide) ?_
                  refine lv_idiv S.1 S.2.1 dX7_findsSpin_62 (by decide) ?_
                  obtain ⟨t9, ht9⟩ : ∃ t9, t9 = spO k := ⟨_, rfl⟩
                  refine W.eq (g2 := F0 m 63 ls [.int t9]) (by rw [ht9]; unfold spO; rw [if_neg c48]) ?_
                  obtain ⟨ho9, ht9b⟩ : ordT t9.toInt = (k : Int) ∧ -179 ≤ t9.toInt ∧ t9.toInt ≤ 180 := by rw [ht9]; exact spO_ok k hk36
                  refine lv_istore (lv' := [(4, .int t9), (3, .int (nI k)), (2, .int x9), (1, .int y), (0, .ref (xad g 65))]) S.1 S.2.1 dX7_findsSpin_63 hl (by decide) rfl (fun ls hl => ?_)
                  refine lv_iconst (v := 0) S.1 S.2.1 dX7_findsSpin_65 (by decide) ?_
                  refine lv_istore (lv' := [(5, .int 0), (4, .int t9), (3, .int (nI k)), (2, .int x9), (1, .int y), (0, .ref (xad g 65))]) S.1 S.2.1 dX7_findsSpin_66 hl (by decide) rfl (fun ls hl => ?_)
                  have loop68 : ∀ (d : Nat) (b9 : Nat) (x9 : Int32) (T9 : Int32) (B9 : Int32) (F9 : Int32) (EL : Nat → va_E) (H : Heap) (locs : List Loc), (hb : b9 ≤ 360) → (hbs : bsS M n (ordT t9.toInt) (b9 : Int) x9 T9 B9 F9) → (360 - b9) < d → (h65 : EL 65 = mO g kp fi hi od T9 B9 F9 ty at9 nu) → (h66 : EL 66 = .inl (xI g, 71, .inl f)) → (hfr : ∀ j, j ≠ 65 → EL j = E j) → xP g EL H → va_S (xA (xad g)) s.heap H locs → ∀ ls : Array Slot, lv_has ls 7 [(5, .int (nI b9)), (4, .int t9), (3, .int (nI k)), (2, .int x9), (1, .int y), (0, .ref (xad g 65))] → W pz l ez ({ frames := 4, cells := 0, slots := 0, locals := 88 }) s m ([.ref (xad g 65)] : List Value).toArray below meth cz H locs 0 0 (MQ below (xQi g (fun r E1 => (∀ j, j ≠ 65 → E1 j = E j) ∧ xb (∃ k, k < n ∧ pK M k = true) r ∧ ∃ T9 B9 F9 : Int32, E1 65 = mO g kp fi hi od T9 B9 F9 ty at9 nu ∧ (¬ r = 0 → isSpin M n T9.toInt B9.toInt ∧ F9 = nI (mk (pF M T9.toInt B9.toInt) n)))) ([.ref (xad g 65)] : List Value).toArray s 0 0 (xA (xad g))) (F0 m 68 ls []) := by
                    intro d
                    induction d with
                    | zero => intro b9 x9 T9 B9 F9 EL H locs hb hbs hd; exact absurd hd (Nat.not_lt_zero _)
                    | succ d ih68 =>
                      intro b9 x9 T9 B9 F9 EL H locs hb hbs hd h65 h66 hfr hP hS ls hl
                      refine lv_iload S.1 S.2.1 dX7_findsSpin_68 (lv_at hl 0 rfl) ?_
                      refine lv_sipush (v := 360) S.1 S.2.1 dX7_findsSpin_70 (by decide) ?_
                      refine lv_icmp_ge (tgt := 125) S.1 S.2.1 dX7_findsSpin_73 (by decide) (fun c73 => ?_) (fun c73 => ?_)
                      · skip
                        refine lv_iinc (v := nI (k + 1)) (lv' := [(3, .int (nI (k + 1))), (5, .int (nI b9)), (4, .int t9), (2, .int x9), (1, .int y), (0, .ref (xad g 65))]) S.1 S.2.1 dX7_findsSpin_125 hl (k := 2) rfl (show nI k + Int32.ofInt 1 = _ from nI_1 _) (by decide) rfl (fun ls hl => ?_)
                        refine lv_goto (tgt := 33) S.1 S.2.1 dX7_findsSpin_128 (by decide) ?_
                        exact ih33 (k + 1) x9 T9 B9 F9 _ _ _ (by omega) (by have hbe : b9 = 360 := Nat.le_antisymm hb ((nI_leI (a := 360) (by omega) (by omega)).mp c73); subst hbe; rw [ho9] at hbs; exact hbs.turn) (by omega) h65 h66 hfr hP hS ls (lv_sub hl [0, 3, 4, 5] rfl)
                      · skip
                        have hb36 : b9 < 360 := Nat.not_le.mp (fun h => c73 ((nI_leI (a := 360) (by omega) (by omega)).mpr h))
                        have hb9z : 0 ≤ (nI b9).toInt ∧ (nI b9).toInt < 360 := by rw [nI_Z (by omega)]; omega
                        have hbz : (nI b9).toInt = (b9 : Int) := nI_Z (by omega)
                        refine lv_aload_n S.1 S.2.1 dX7_findsSpin_76 rfl (lv_at hl 5 rfl) ?_
                        refine lv_iload S.1 S.2.1 dX7_findsSpin_77 (lv_at hl 1 rfl) ?_
                        refine lv_iload S.1 S.2.1 dX7_findsSpin_79 (lv_at hl 0 rfl) ?_
                        refine x_si (va_runV (As := [.int t9, .int (nI b9)]) (rest := []) S (c_X7_fitted l g EL h65 h66 hN hv (t := t9) (b := nI b9) ht9b hb9z) (cwV 2 S.2.2.2.2 gX7_findsSpin_X7_fitted rfl rfl rfl (by decide +kernel) ⟨Nat.le_of_ble_eq_true rfl, Nat.le_of_ble_eq_true rfl⟩) (x_preV hK hP h65 (by decide) rfl) rfl rfl hl.1 rfl (lv_room (Nat.le_of_ble_eq_true rfl)) dX7_findsSpin_81 ⟨Nat.le_of_ble_eq_true rfl, Nat.le_of_ble_eq_true rfl⟩) (fun r81 hr81 => ?_)
                        subst hr81
                        refine lv_istore (lv' := [(6, .int (nI (mk (pF M t9.toInt (nI b9).toInt) n))), (5, .int (nI b9)), (4, .int t9), (3, .int (nI k)), (2, .int x9), (1, .int y), (0, .ref (xad g 65))]) S.1 S.2.1 dX7_findsSpin_84 hl (by decide) rfl (fun ls hl => ?_)
                        refine lv_iload S.1 S.2.1 dX7_findsSpin_86 (lv_at hl 0 rfl) ?_
                        refine x_si (va_runS (As := [.int (nI (mk (pF M t9.toInt (nI b9).toInt) n))]) (rest := []) S (c_X7_bits l g EL (mk_lt10 (pF M t9.toInt (nI b9).toInt) hn)) (va_cwS 1 S.2.2.2.2 gX7_findsSpin_X7_bits rfl rfl rfl (by decide +kernel) ⟨Nat.le_of_ble_eq_true rfl, Nat.le_of_ble_eq_true rfl⟩) (x_preS hK hP) rfl rfl hl.1 rfl (lv_room (Nat.le_of_ble_eq_true rfl)) dX7_findsSpin_88 ⟨Nat.le_of_ble_eq_true rfl, Nat.le_of_ble_eq_true rfl⟩) (fun r88 hr88 => ?_)
                        rw [pop_mk hn] at hr88
                        subst hr88
                        refine lv_iload_n S.1 S.2.1 dX7_findsSpin_91 rfl (lv_at hl 4 rfl) ?_
                        refine lv_icmp_le (tgt := 119) S.1 S.2.1 dX7_findsSpin_92 (by decide) (fun c92 => ?_) (fun c92 => ?_)
                        · skip
                          refine lv_iinc (v := nI (b9 + 1)) (lv' := [(5, .int (nI (b9 + 1))), (6, .int (nI (mk (pF M t9.toInt (nI b9).toInt) n))), (4, .int t9), (3, .int (nI k)), (2, .int x9), (1, .int y), (0, .ref (xad g 65))]) S.1 S.2.1 dX7_findsSpin_119 hl (k := 1) rfl (show nI b9 + Int32.ofInt 1 = _ from nI_1 _) (by decide) rfl (fun ls hl => ?_)
                          refine lv_goto (tgt := 68) S.1 S.2.1 dX7_findsSpin_122 (by decide) ?_
                          exact ih68 (b9 + 1) x9 T9 B9 F9 _ _ _ (by omega) (by rw [← hbz] at hbs; have h := hbs.keep hn c92; rw [hbz] at h; exact h) (by omega) h65 h66 hfr hP hS ls (lv_sub hl [0, 2, 3, 4, 5, 6] rfl)
                        · skip
                          refine lv_iload S.1 S.2.1 dX7_findsSpin_95 (lv_at hl 0 rfl) ?_
                          refine x_si (va_runS (As := [.int (nI (mk (pF M t9.toInt (nI b9).toInt) n))]) (rest := []) S (c_X7_bits l g EL (mk_lt10 (pF M t9.toInt (nI b9).toInt) hn)) (va_cwS 1 S.2.2.2.2 gX7_findsSpin_X7_bits rfl rfl rfl (by decide +kernel) ⟨Nat.le_of_ble_eq_true rfl, Nat.le_of_ble_eq_true rfl⟩) (x_preS hK hP) rfl rfl hl.1 rfl (lv_room (Nat.le_of_ble_eq_true rfl)) dX7_findsSpin_97 ⟨Nat.le_of_ble_eq_true rfl, Nat.le_of_ble_eq_true rfl⟩) (fun r97 hr97 => ?_)
                          rw [pop_mk hn] at hr97
                          subst hr97
                          refine lv_istore_n (lv' := [(2, .int (nI (ssc M n t9.toInt (nI b9).toInt))), (6, .int (nI (mk (pF M t9.toInt (nI b9).toInt) n))), (5, .int (nI b9)), (4, .int t9), (3, .int (nI k)), (1, .int y), (0, .ref (xad g 65))]) S.1 S.2.1 dX7_findsSpin_100 rfl hl (by decide) rfl (fun ls hl => ?_)
                          refine lv_aload_n S.1 S.2.1 dX7_findsSpin_101 rfl (lv_at hl 6 rfl) ?_
                          refine lv_iload S.1 S.2.1 dX7_findsSpin_102 (lv_at hl 3 rfl) ?_
                          refine x_put S hK hJ hP hS dX7_findsSpin_104 h65 (by decide) (RX7, TX7, 19) rfl hin7 tyX7 tyX7_ok nmX7 11 (by decide) fl121 rfl rfl rfl (Nat.le_of_ble_eq_true rfl) (fun H locs E1 hu hP hS => ?_)
                          have h65 : E1 65 = mO g kp fi hi od t9 B9 F9 ty at9 nu := hu.1
                          have h66 : E1 66 = .inl (xI g, 71, .inl f) := (hu.2 _ (by omega)).trans h66
                          have hfr : ∀ j, j ≠ 65 → E1 j = E j := fun j hj => (hu.2 j (by omega)).trans (hfr j hj)
                          refine lv_aload_n S.1 S.2.1 dX7_findsSpin_107 rfl (lv_at hl 6 rfl) ?_
                          refine lv_iload S.1 S.2.1 dX7_findsSpin_108 (lv_at hl 2 rfl) ?_
                          refine x_put S hK hJ hP hS dX7_findsSpin_110 h65 (by decide) (RX7, TX7, 19) rfl hin7 tyX7 tyX7_ok nmX7 12 (by decide) fl124 rfl rfl rfl (Nat.le_of_ble_eq_true rfl) (fun H locs E1_1 hu hP hS => ?_)
                          have h65 : E1_1 65 = mO g kp fi hi od t9 (nI b9) F9 ty at9 nu := hu.1
                          have h66 : E1_1 66 = .inl (xI g, 71, .inl f) := (hu.2 _ (by omega)).trans h66
                          have hfr : ∀ j, j ≠ 65 → E1_1 j = E j := fun j hj => (hu.2 j (by omega)).trans (hfr j hj)
                          refine lv_aload_n S.1 S.2.1 dX7_findsSpin_113 rfl (lv_at hl 6 rfl) ?_
                          refine lv_iload S.1 S.2.1 dX7_findsSpin_114 (lv_at hl 1 rfl) ?_
                          refine x_put S hK hJ hP hS dX7_findsSpin_116 h65 (by decide) (RX7, TX7, 19) rfl hin7 tyX7 tyX7_ok nmX7 13 (by decide) fl127 rfl rfl rfl (Nat.le_of_ble_eq_true rfl) (fun H locs E1_2 hu hP hS => ?_)
                          have h65 : E1_2 65 = mO g kp fi hi od t9 (nI b9) (nI (mk (pF M t9.toInt (nI b9).toInt) n)) ty at9 nu := hu.1
                          have h66 : E1_2 66 = .inl (xI g, 71, .inl f) := (hu.2 _ (by omega)).trans h66
                          have hfr : ∀ j, j ≠ 65 → E1_2 j = E j := fun j hj => (hu.2 j (by omega)).trans (hfr j hj)
                          refine lv_iinc (v := nI (b9 + 1)) (lv' := [(5, .int (nI (b9 + 1))), (2, .int (nI (ssc M n t9.toInt (nI b9).toInt))), (6, .int (nI (mk (pF M t9.toInt (nI b9).toInt) n))), (4, .int t9), (3, .int (nI k)), (1, .int y), (0, .ref (xad g 65))]) S.1 S.2.1 dX7_findsSpin_119 hl (k := 2) rfl (show nI b9 + Int32.ofInt 1 = _ from nI_1 _) (by decide) rfl (fun ls hl => ?_)
                          refine lv_goto (tgt := 68) S.1 S.2.1 dX7_findsSpin_122 (by decide) ?_
                          exact ih68 (b9 + 1) (nI (ssc M n t9.toInt (nI b9).toInt)) t9 (nI b9) (nI (mk (pF M t9.toInt (nI b9).toInt) n)) _ _ _ (by omega) (by rw [← hbz] at hbs; have h := hbs.take hn ⟨ht9b, hb9z⟩ c92 rfl; rw [hbz] at h ⊢; exact h) (by omega) h65 h66 hfr hP hS ls (lv_sub hl [0, 3, 4, 1, 5, 6] rfl)
                  exact loop68 _ 0 x9 T9 B9 F9 _ _ _ (Nat.zero_le _) (by rw [ho9]; exact hbs) (Nat.lt_succ_self _) h65 h66 hfr hP hS ls (lv_sub hl [0, 1, 2, 3, 4, 5] rfl)
                · skip
                  refine lv_iload_n S.1 S.2.1 dX7_findsSpin_51 rfl (lv_at hl 0 rfl) ?_
                  refine lv_iconst (v := 1) S.1 S.2.1 dX7_findsSpin_52 (by decide) ?_
                  refine lv_iadd S.1 S.2.1 dX7_findsSpin_53 ?_
                  refine lv_iconst (v := 2) S.1 S.2.1 dX7_findsSpin_54 (by decide) ?_
                  refine lv_idiv S.1 S.2.1 dX7_findsSpin_55 (by decide) ?_
                  refine lv_goto (tgt := 63) S.1 S.2.1 dX7_findsSpin_56 (by decide) ?_
                  obtain ⟨t9, ht9⟩ : ∃ t9, t9 = spO k := ⟨_, rfl⟩
                  refine W.eq (g2 := F0 m 63 ls [.int t9]) (by rw [ht9]; unfold spO; rw [if_pos c48]) ?_
                  obtain ⟨ho9, ht9b⟩ : ordT t9.toInt = (k : Int) ∧ -179 ≤ t9.toInt ∧ t9.toInt ≤ 180 := by rw [ht9]; exact spO_ok k hk36
                  refine lv_istore (lv' := [(4, .int t9), (3, .int (nI k)), (2, .int x9), (1, .int y), (0, .ref (xad g 65))]) S.1 S.2.1 dX7_findsSpin_63 hl (by decide) rfl (fun ls hl => ?_)
                  refine lv_iconst (v := 0) S.1 S.2.1 dX7_findsSpin_65 (by decide) ?_
                  refine lv_istore (lv' := [(5, .int 0), (4, .int t9), (3, .int (nI k)), (2, .int x9), (1, .int y), (0, .ref (xad g 65))]) S.1 S.2.1 dX7_findsSpin_66 hl (by decide) rfl (fun ls hl => ?_)
                  have loop68 : ∀ (d : Nat) (b9 : Nat) (x9 : Int32) (T9 : Int32) (B9 : Int32) (F9 : Int32) (EL : Nat → va_E) (H : Heap) (locs : List Loc), (hb : b9 ≤ 360) → (hbs : bsS M n (ordT t9.toInt) (b9 : Int) x9 T9 B9 F9) → (360 - b9) < d → (h65 : EL 65 = mO g kp fi hi od T9 B9 F9 ty at9 nu) → (h66 : EL 66 = .inl (xI g, 71, .inl f)) → (hfr : ∀ j, j ≠ 65 → EL j = E j) → xP g EL H → va_S (xA (xad g)) s.heap H locs → ∀ ls : Array Slot, lv_has ls 7 [(5, .int (nI b9)), (4, .int t9), (3, .int (nI k)), (2, .int x9), (1, .int y), (0, .ref (xad g 65))] → W pz l ez ({ frames := 4, cells := 0, slots := 0, locals := 88 }) s m ([.ref (xad g 65)] : List Value).toArray below meth cz H locs 0 0 (MQ below (xQi g (fun r E1 => (∀ j, j ≠ 65 → E1 j = E j) ∧ xb (∃ k, k < n ∧ pK M k = true) r ∧ ∃ T9 B9 F9 : Int32, E1 65 = mO g kp fi hi od T9 B9 F9 ty at9 nu ∧ (¬ r = 0 → isSpin M n T9.toInt B9.toInt ∧ F9 = nI (mk (pF M T9.toInt B9.toInt) n)))) ([.ref (xad g 65)] : List Value).toArray s 0 0 (xA (xad g))) (F0 m 68 ls []) := by
                    intro d
                    induction d with
                    | zero => intro b9 x9 T9 B9 F9 EL H locs hb hbs hd; exact absurd hd (Nat.not_lt_zero _)
                    | succ d ih68 =>
                      intro b9 x9 T9 B9 F9 EL H locs hb hbs hd h65 h66 hfr hP hS ls hl
                      refine lv_iload S.1 S.2.1 dX7_findsSpin_68 (lv_at hl 0 rfl) ?_
                      refine lv_sipush (v := 360) S.1 S.2.1 dX7_findsSpin_70 (by decide) ?_
                      refine lv_icmp_ge (tgt := 125) S.1 S.2.1 dX7_findsSpin_73 (by decide) (fun c73 => ?_) (fun c73 => ?_)
                      · skip
                        refine lv_iinc (v := nI (k + 1)) (lv' := [(3, .int (nI (k + 1))), (5, .int (nI b9)), (4, .int t9), (2, .int x9), (1, .int y), (0, .ref (xad g 65))]) S.1 S.2.1 dX7_findsSpin_125 hl (k := 2) rfl (show nI k + Int32.ofInt 1 = _ from nI_1 _) (by decide) rfl (fun ls hl => ?_)
                        refine lv_goto (tgt := 33) S.1 S.2.1 dX7_findsSpin_128 (by decide) ?_
                        exact ih33 (k + 1) x9 T9 B9 F9 _ _ _ (by omega) (by have hbe : b9 = 360 := Nat.le_antisymm hb ((nI_leI (a := 360) (by omega) (by omega)).mp c73); subst hbe; rw [ho9] at hbs; exact hbs.turn) (by omega) h65 h66 hfr hP hS ls (lv_sub hl [0, 3, 4, 5] rfl)
                      · skip
                        have hb36 : b9 < 360 := Nat.not_le.mp (fun h => c73 ((nI_leI (a := 360) (by omega) (by omega)).mpr h))
                        have hb9z : 0 ≤ (nI b9).toInt ∧ (nI b9).toInt < 360 := by rw [nI_Z (by omega)]; omega
                        have hbz : (nI b9).toInt = (b9 : Int) := nI_Z (by omega)
                        refine lv_aload_n S.1 S.2.1 dX7_findsSpin_76 rfl (lv_at hl 5 rfl) ?_
                        refine lv_iload S.1 S.2.1 dX7_findsSpin_77 (lv_at hl 1 rfl) ?_
                        refine lv_iload S.1 S.2.1 dX7_findsSpin_79 (lv_at hl 0 rfl) ?_
                        refine x_si (va_runV (As := [.int t9, .int (nI b9)]) (rest := []) S (c_X7_fitted l g EL h65 h66 hN hv (t := t9) (b := nI b9) ht9b hb9z) (cwV 2 S.2.2.2.2 gX7_findsSpin_X7_fitted rfl rfl rfl (by decide +kernel) ⟨Nat.le_of_ble_eq_true rfl, Nat.le_of_ble_eq_true rfl⟩) (x_preV hK hP h65 (by decide) rfl) rfl rfl hl.1 rfl (lv_room (Nat.le_of_ble_eq_true rfl)) dX7_findsSpin_81 ⟨Nat.le_of_ble_eq_true rfl, Nat.le_of_ble_eq_true rfl⟩) (fun r81 hr81 => ?_)
                        subst hr81
                        refine lv_istore (lv' := [(6, .int (nI (mk (pF M t9.toInt (nI b9).toInt) n))), (5, .int (nI b9)), (4, .int t9), (3, .int (nI k)), (2, .int x9), (1, .int y), (0, .ref (xad g 65))]) S.1 S.2.1 dX7_findsSpin_84 hl (by decide) rfl (fun ls hl => ?_)
                        refine lv_iload S.1 S.2.1 dX7_findsSpin_86 (lv_at hl 0 rfl) ?_
                        refine x_si (va_runS (As := [.int (nI (mk (pF M t9.toInt (nI b9).toInt) n))]) (rest := []) S (c_X7_bits l g EL (mk_lt10 (pF M t9.toInt (nI b9).toInt) hn)) (va_cwS 1 S.2.2.2.2 gX7_findsSpin_X7_bits rfl rfl rfl (by decide +kernel) ⟨Nat.le_of_ble_eq_true rfl, Nat.le_of_ble_eq_true rfl⟩) (x_preS hK hP) rfl rfl hl.1 rfl (lv_room (Nat.le_of_ble_eq_true rfl)) dX7_findsSpin_88 ⟨Nat.le_of_ble_eq_true rfl, Nat.le_of_ble_eq_true rfl⟩) (fun r88 hr88 => ?_)
                        rw [pop_mk hn] at hr88
                        subst hr88
                        refine lv_iload_n S.1 S.2.1 dX7_findsSpin_91 rfl (lv_at hl 4 rfl) ?_
                        refine lv_icmp_le (tgt := 119) S.1 S.2.1 dX7_findsSpin_92 (by decide) (fun c92 => ?_) (fun c92 => ?_)
                        · skip
                          refine lv_iinc (v := nI (b9 + 1)) (lv' := [(5, .int (nI (b9 + 1))), (6, .int (nI (mk (pF M t9.toInt (nI b9).toInt) n))), (4, .int t9), (3, .int (nI k)), (2, .int x9), (1, .int y), (0, .ref (xad g 65))]) S.1 S.2.1 dX7_findsSpin_119 hl (k := 1) rfl (show nI b9 + Int32.ofInt 1 = _ from nI_1 _) (by decide) rfl (fun ls hl => ?_)
                          refine lv_goto (tgt := 68) S.1 S.2.1 dX7_findsSpin_122 (by decide) ?_
                          exact ih68 (b9 + 1) x9 T9 B9 F9 _ _ _ (by omega) (by rw [← hbz] at hbs; have h := hbs.keep hn c92; rw [hbz] at h; exact h) (by omega) h65 h66 hfr hP hS ls (lv_sub hl [0, 2, 3, 4, 5, 6] rfl)
                        · skip
                          refine lv_iload S.1 S.2.1 dX7_findsSpin_95 (lv_at hl 0 rfl) ?_
                          refine x_si (va_runS (As := [.int (nI (mk (pF M t9.toInt (nI b9).toInt) n))]) (rest := []) S (c_X7_bits l g EL (mk_lt10 (pF M t9.toInt (nI b9).toInt) hn)) (va_cwS 1 S.2.2.2.2 gX7_findsSpin_X7_bits rfl rfl rfl (by decide +kernel) ⟨Nat.le_of_ble_eq_true rfl, Nat.le_of_ble_eq_true rfl⟩) (x_preS hK hP) rfl rfl hl.1 rfl (lv_room (Nat.le_of_ble_eq_true rfl)) dX7_findsSpin_97 ⟨Nat.le_of_ble_eq_true rfl, Nat.le_of_ble_eq_true rfl⟩) (fun r97 hr97 => ?_)
                          rw [pop_mk hn] at hr97
                          subst hr97
                          refine lv_istore_n (lv' := [(2, .int (nI (ssc M n t9.toInt (nI b9).toInt))), (6, .int (nI (mk (pF M t9.toInt (nI b9).toInt) n))), (5, .int (nI b9)), (4, .int t9), (3, .int (nI k)), (1, .int y), (0, .ref (xad g 65))]) S.1 S.2.1 dX7_findsSpin_100 rfl hl (by decide) rfl (fun ls hl => ?_)
                          refine lv_aload_n S.1 S.2.1 dX7_findsSpin_101 rfl (lv_at hl 6 rfl) ?_
                          refine lv_iload S.1 S.2.1 dX7_findsSpin_102 (lv_at hl 3 rfl) ?_
                          refine x_put S hK hJ hP hS dX7_findsSpin_104 h65 (by decide) (RX7, TX7, 19) rfl hin7 tyX7 tyX7_ok nmX7 11 (by decide) fl121 rfl rfl rfl (Nat.le_of_ble_eq_true rfl) (fun H locs E1_3 hu hP hS => ?_)
                          have h65 : E1_3 65 = mO g kp fi hi od t9 B9 F9 ty at9 nu := hu.1
                          have h66 : E1_3 66 = .inl (xI g, 71, .inl f) := (hu.2 _ (by omega)).trans h66
                          have hfr : ∀ j, j ≠ 65 → E1_3 j = E j := fun j hj => (hu.2 j (by omega)).trans (hfr j hj)
                          refine lv_aload_n S.1 S.2.1 dX7_findsSpin_107 rfl (lv_at hl 6 rfl) ?_
                          refine lv_iload S.1 S.2.1 dX7_findsSpin_108 (lv_at hl 2 rfl) ?_
                          refine x_put S hK hJ hP hS dX7_findsSpin_110 h65 (by decide) (RX7, TX7, 19) rfl hin7 tyX7 tyX7_ok nmX7 12 (by decide) fl124 rfl rfl rfl (Nat.le_of_ble_eq_true rfl) (fun H locs E1_4 hu hP hS => ?_)
                          have h65 : E1_4 65 = mO g kp fi hi od t9 (nI b9) F9 ty at9 nu := hu.1
                          have h66 : E1_4 66 = .inl (xI g, 71, .inl f) := (hu.2 _ (by omega)).trans h66
                          have hfr : ∀ j, j ≠ 65 → E1_4 j = E j := fun j hj => (hu.2 j (by omega)).trans (hfr j hj)
                          refine lv_aload_n S.1 S.2.1 dX7_findsSpin_113 rfl (lv_at hl 6 rfl) ?_
                          refine lv_iload S.1 S.2.1 dX7_findsSpin_114 (lv_at hl 1 rfl) ?_
                          refine x_put S hK hJ hP hS dX7_findsSpin_116 h65 (by decide) (RX7, TX7, 19) rfl hin7 tyX7 tyX7_ok nmX7 13 (by decide) fl127 rfl rfl rfl (Nat.le_of_ble_eq_true rfl) (fun H locs E1_5 hu hP hS => ?_)
                          have h65 : E1_5 65 = mO g kp fi hi od t9 (nI b9) (nI (mk (pF M t9.toInt (nI b9).toInt) n)) ty at9 nu := hu.1
                          have h66 : E1_5 66 = .inl (xI g, 71, .inl f) := (hu.2 _ (by omega)).trans h66
                          have hfr : ∀ j, j ≠ 65 → E1_5 j = E j := fun j hj => (hu.2 j (by omega)).trans (hfr j hj)
                          refine lv_iinc (v := nI (b9 + 1)) (lv' := [(5, .int (nI (b9 + 1))), (2, .int (nI (ssc M n t9.toInt (nI b9).toInt))), (6, .int (nI (mk (pF M t9.toInt (nI b9).toInt) n))), (4, .int t9), (3, .int (nI k)), (1, .int y), (0, .ref (xad g 65))]) S.1 S.2.1 dX7_findsSpin_119 hl (k := 2) rfl (show nI b9 + Int32.ofInt 1 = _ from nI_1 _) (by decide) rfl (fun ls hl => ?_)
                          refine lv_goto (tgt := 68) S.1 S.2.1 dX7_findsSpin_122 (by decide) ?_
                          exact ih68 (b9 + 1) (nI (ssc M n t9.toInt (nI b9).toInt)) t9 (nI b9) (nI (mk (pF M t9.toInt (nI b9).toInt) n)) _ _ _ (by omega) (by rw [← hbz] at hbs; have h := hbs.take hn ⟨ht9b, hb9z⟩ c92 rfl; rw [hbz] at h ⊢; exact h) (by omega) h65 h66 hfr hP hS ls (lv_sub hl [0, 3, 4, 1, 5, 6] rfl)
                  exact loop68 _ 0 x9 T9 B9 F9 _ _ _ (Nat.zero_le _) (by rw [ho9]; exact hbs) (Nat.lt_succ_self _) h65 h66 hfr hP hS ls (lv_sub hl [0, 1, 2, 3, 4, 5] rfl)
        exact loop33 _ 0 (-1) bs bb bf _ _ _ (Nat.zero_le _) bsS.start (Nat.lt_succ_self _) h65 h66 hfr hP hS ls (lv_sub hl [0, 1, 2, 3] rfl)
      · skip
        have hqn : q < n := Nat.not_le.mp (fun h => c12 (by rw [hn0]; exact (nI_leI (by omega) (by omega)).mpr h))
        refine lv_iload_n S.1 S.2.1 dX7_findsSpin_15 rfl (lv_at hl 1 rfl) ?_
        refine lv_aload_n S.1 S.2.1 dX7_findsSpin_16 rfl (lv_at hl 2 rfl) ?_
        refine lv_iload_n S.1 S.2.1 dX7_findsSpin_17 rfl (lv_at hl 0 rfl) ?_
        refine x_si (va_runV (As := [.int (nI q)]) (rest := [.int y]) S (c_X7_hasAngle l g EL h65 h66 hN hv hqn) (cwV 1 S.2.2.2.2 gX7_findsSpin_X7_hasAngle rfl rfl rfl (by decide +kernel) ⟨Nat.le_of_ble_eq_true rfl, Nat.le_of_ble_eq_true rfl⟩) (x_preV hK hP h65 (by decide) rfl) rfl rfl hl.1 rfl (lv_room (Nat.le_of_ble_eq_true rfl)) dX7_findsSpin_18 ⟨Nat.le_of_ble_eq_true rfl, Nat.le_of_ble_eq_true rfl⟩) (fun r18 hr18 => ?_)
        refine lv_ior S.1 S.2.1 dX7_findsSpin_21 ?_
        refine lv_topi (fun y22 ey22 => ?_)
        refine lv_istore_n (lv' := [(1, .int y22), (2, .int (nI q)), (0, .ref (xad g 65))]) S.1 S.2.1 dX7_findsSpin_22 rfl hl (by decide) rfl (fun ls hl => ?_)
        refine lv_iinc (v := nI (q + 1)) (lv' := [(2, .int (nI (q + 1))), (1, .int y22), (0, .ref (xad g 65))]) S.1 S.2.1 dX7_findsSpin_23 hl (k := 1) rfl (show nI q + Int32.ofInt 1 = _ from nI_1 _) (by decide) rfl (fun ls hl => ?_)
        refine lv_goto (tgt := 4) S.1 S.2.1 dX7_findsSpin_26 (by decide) ?_
        exact ih4 (q + 1) y22 _ _ _ (by omega) (by rw [ey22]; exact ex_or hy hr18 Iff.rfl) (by omega) h65 h66 hfr hP hS ls (lv_sub hl [0, 1, 2] rfl)
  exact loop4 _ 0 0 _ _ _ (Nat.zero_le _) (xb.zero (fun ⟨k, h, _⟩ => absurd h (Nat.not_lt_zero _))) (Nat.lt_succ_self _) h65 h66 hfr hP hS ls (lv_sub hl [0, 1, 2] rfl)
theorem nH.move {f f' : Nat → Int32} {o o' n : Nat} {M : Nat → Nat → Int32} (h : nH f o n M) (he : ∀ x, x < 71 → f' (o' + x) = f (o + x)) : nH f' o' n M := by
  obtain ⟨h1, h2, h3⟩ := h
  refine ⟨h1, by rw [he 70 (by decide)]; exact h2, fun k w hk hw => ?_⟩
  rw [show o' + 7 * k + w = o' + (7 * k + w) by omega, he (7 * k + w) (by omega), show o + (7 * k + w) = o + 7 * k + w by omega]
  exact h3 k w hk hw
theorem mul71 (k q : Nat) : (71 : Int32) * nI k + nI q = nI (71 * k + q) := by
  rw [show (71 : Int32) = nI 71 from rfl, pk_mul, nI_add]
theorem rcd_small {fh f9 f : Nat → Int32} {hs n : Nat} {N : Nat → Nat} {MM : Nat → Nat → Nat → Int32} {M : Nat → Nat → Int32} (hs4 : hs < 4) (hH : ∀ i, i < hs → nH fh (71 * i) (N i) (MM i)) (hN : nH f 0 n M) (h1 : ∀ x, x < 71 * hs → f9 x = fh x) (h2 : ∀ x, x < 71 → f9 (71 * hs + x) = f x) : ∀ i, i < rcS hs → nH f9 (71 * i) (rcV hs N n i) (rcV hs MM M i) := by
  intro i hi
  unfold rcS at hi
  rw [if_pos hs4] at hi
  unfold rcV
  rw [if_pos hs4, if_pos hs4]
  by_cases e : i < hs
  · rw [if_pos e, if_pos e]
    exact (hH i e).move fun x hx => h1 _ (by omega)
  · rw [if_neg e, if_neg e, show i = hs by omega]
    exact hN.move fun x hx => by rw [h2 x hx, Nat.zero_add]
theorem rcd_big {fh f8 f9 f : Nat → Int32} {hs n : Nat} {N : Nat → Nat} {MM : Nat → Nat → Nat → Int32} {M : Nat → Nat → Int32} (hs4 : hs = 4) (hH : ∀ i, i < hs → nH fh (71 * i) (N i) (MM i)) (hN : nH f 0 n M) (h0 : ∀ x, x < 213 → f8 x = fh (x + 71)) (h1 : ∀ x, x < 71 * 3 → f9 x = f8 x) (h2 : ∀ x, x < 71 → f9 (71 * 3 + x) = f x) : ∀ i, i < rcS hs → nH f9 (71 * i) (rcV hs N n i) (rcV hs MM M i) := by
  subst hs4
  intro i hi
  have hi : i < 4 := hi
  unfold rcV
  rw [if_neg (show ¬ 4 < 4 by decide), if_neg (show ¬ 4 < 4 by decide)]
  by_cases e : i < 3
  · rw [if_pos e, if_pos e]
    exact (hH (i + 1) (by omega)).move fun x hx => by rw [h1 _ (by omega), h0 _ (by omega), show 71 * i + x + 71 = 71 * (i + 1) + x by omega]
  · rw [if_neg e, if_neg e, show i = 3 by omega]
    exact hN.move fun x hx => by rw [h2 x hx, Nat.zero_add]
set_option maxHeartbeats 4000000 in
set_option maxRecDepth 100000 in
theorem c_X7_record (l : Launch) (g : xG) (hJ : xJ (xad g)) (E : Nat → va_E) {hs : Nat} {fi hi od bs bb bf ty at9 nu : Int32} (h65 : E 65 = mO g (nI hs) fi hi od bs bb bf ty at9 nu) {f : Nat → Int32} (h66 : E 66 = .inl (xI g, 71, .inl f)) {n : Nat} {M : Nat → Nat → Int32} (hN : nH f 0 n M) {fh : Nat → Int32} (h67 : E 67 = .inl (xI g, 284, .inl fh)) (hs4 : hs ≤ 4) {N : Nat → Nat} {MM : Nat → Nat → Nat → Int32} (hH : ∀ i, i < hs → nH fh (71 * i) (N i) (MM i)) : Met l yX7_record wsX7_record ({ frames := 0, cells := 0, slots := 0, locals := 0 }) (xPc g [.ref (xad g 65)] E) (xQv g (fun E1 => (∀ j, j ≠ 65 → j ≠ 67 → E1 j = E j) ∧ E1 65 = mO g (nI (rcS hs)) fi hi od bs bb bf ty at9 nu ∧ ∃ fh9 : Nat → Int32, E1 67 = .inl (xI g, 284, .inl fh9) ∧ ∀ i, i < rcS hs → nH fh9 (71 * i) (rcV hs N n i) (rcV hs MM M i))) 0 0 (xA (xad g)) := by
  refine x_met (ws' := _) (by decide) rfl (Nat.le_of_ble_eq_true rfl) ?_
  intro pz ez s m below meth cz ls S hr hlocks hP hK hl
  have hl : lv_has ls 2 [(0, .ref (xad g 65))] := hl
  have hS : va_S (xA (xad g)) s.heap s.heap [] := va_S.rf
  have hin7 : ∀ w ∈ u_ws RX7 TX7 19, w ∈ wsX7_record := by decide +kernel
  have fl7 : Cond.fieldLink RX7 7 "DiscArcsModel" "now" "[I" ∈ wsX7_record := by decide +kernel
  have fl13 : Cond.fieldLink RX7 13 "DiscArcsModel" "history" "[I" ∈ wsX7_record := by decide +kernel
  have fl50 : Cond.fieldLink RX7 50 "DiscArcsModel" "kept" "I" ∈ wsX7_record := by decide +kernel
  have hn := hN.1
  have hn0 := hN.n0
  have hfr : ∀ j, j ≠ 65 ∧ j ≠ 67 → E j = E j := fun _ _ => rfl
  refine lv_aload_n S.1 S.2.1 dX7_record_0 rfl (lv_at hl 0 rfl) ?_
  refine x_get S hK hP dX7_record_1 h65 (by decide) (RX7, TX7, 19) rfl hin7 2 (by decide) fl50 rfl ?_
  refine lv_iconst (v := 4) S.1 S.2.1 dX7_record_4 (by decide) ?_
  refine lv_icmp_ne (tgt := 48) S.1 S.2.1 dX7_record_5 (by decide) (fun c5 => ?_) (fun c5 => ?_)
  · skip
    have hs3 : hs < 4 := by have : ¬ hs = 4 := fun h => c5 (by rw [h]; rfl); omega
    refine lv_iconst (v := 0) S.1 S.2.1 dX7_record_48 (by decide) ?_
    refine lv_istore_n (lv' := [(1, .int 0), (0, .ref (xad g 65))]) S.1 S.2.1 dX7_record_49 rfl hl (by decide) rfl (fun ls hl => ?_)
    have loop50 : ∀ (d : Nat) (q : Nat) (f9 : Nat → Int32) (EL : Nat → va_E) (H : Heap) (locs : List Loc), (hq : q ≤ 71) → (hC : ∀ x, x < 71 * hs → f9 x = fh x) → (hD : ∀ x, x < q → f9 (71 * hs + x) = f x) → (71 - q) < d → (h65 : EL 65 = mO g (nI hs) fi hi od bs bb bf ty at9 nu) → (h66 : EL 66 = .inl (xI g, 71, .inl f)) → (h67 : EL 67 = .inl (xI g, 284, .inl f9)) → (hfr : ∀ j, j ≠ 65 ∧ j ≠ 67 → EL j = E j) → xP g EL H → va_S (xA (xad g)) s.heap H locs → ∀ ls : Array Slot, lv_has ls 2 [(1, .int (nI q)), (0, .ref (xad g 65))] → W pz l ez ({ frames := 0, cells := 0, slots := 0, locals := 0 }) s m ([.ref (xad g 65)] : List Value).toArray below meth cz H locs 0 0 (MQ below (xQv g (fun E1 => (∀ j, j ≠ 65 → j ≠ 67 → E1 j = E j) ∧ E1 65 = mO g (nI (rcS hs)) fi hi od bs bb bf ty at9 nu ∧ ∃ fh9 : Nat → Int32, E1 67 = .inl (xI g, 284, .inl fh9) ∧ ∀ i, i < rcS hs → nH fh9 (71 * i) (rcV hs N n i) (rcV hs MM M i))) ([.ref (xad g 65)] : List Value).toArray s 0 0 (xA (xad g))) (F0 m 50 ls []) := by
      intro d
      induction d with
      | zero => intro q f9 EL H locs hq hC hD hd; exact absurd hd (Nat.not_lt_zero _)
      | succ d ih50 =>
        intro q f9 EL H locs hq hC hD hd h65 h66 h67 hfr hP hS ls hl
        refine lv_iload_n S.1 S.2.1 dX7_record_50 rfl (lv_at hl 0 rfl) ?_
        refine lv_bipush (v := 71) S.1 S.2.1 dX7_record_51 (by decide) ?_
        refine lv_icmp_ge (tgt := 82) S.1 S.2.1 dX7_record_53 (by decide) (fun c53 => ?_) (fun c53 => ?_)
        · skip
          refine lv_aload_n S.1 S.2.1 dX7_record_82 rfl (lv_at hl 1 rfl) ?_
          refine lv_dup S.1 S.2.1 dX7_record_83 rfl ?_
          refine x_get S hK hP dX7_record_84 h65 (by decide) (RX7, TX7, 19) rfl hin7 2 (by decide) fl50 rfl ?_
          refine lv_iconst (v := 1) S.1 S.2.1 dX7_record_87 (by decide) ?_
          refine lv_iadd S.1 S.2.1 dX7_record_88 ?_
          refine x_put S hK hJ hP hS dX7_record_89 h65 (by decide) (RX7, TX7, 19) rfl hin7 tyX7 tyX7_ok nmX7 2 (by decide) fl50 rfl rfl rfl (Nat.le_of_ble_eq_true rfl) (fun H locs E1 hu hP hS => ?_)
          have h65 : E1 65 = mO g ((nI hs) + 1) fi hi od bs bb bf ty at9 nu := hu.1
          have h66 : E1 66 = .inl (xI g, 71, .inl f) := (hu.2 _ (by omega)).trans h66
          have h67 : E1 67 = .inl (xI g, 284, .inl f9) := (hu.2 _ (by omega)).trans h67
          have hfr : ∀ j, j ≠ 65 ∧ j ≠ 67 → E1 j = E j := fun j hj => (hu.2 j (by omega)).trans (hfr j hj)
          exact x_vret S hr hlocks hP hS dX7_record_92 (⟨fun j g1 g2 => hfr j ⟨g1, g2⟩, by rw [show rcS hs = hs + 1 from if_pos hs3, ← nI_1]; exact h65, _, h67, rcd_small hs3 hH hN hC (fun x hx => hD x (by have := (nI_leI (a := 71) (b := q) (by omega) (by omega)).mp c53; omega))⟩)
        · skip
          have hq71 : q < 71 := Nat.not_le.mp (fun h => c53 ((nI_leI (a := 71) (by omega) (by omega)).mpr h))
          refine lv_aload_n S.1 S.2.1 dX7_record_56 rfl (lv_at hl 1 rfl) ?_
          refine x_get S hK hP dX7_record_57 h65 (by decide) (RX7, TX7, 19) rfl hin7 1 (by decide) fl13 rfl ?_
          refine lv_bipush (v := 71) S.1 S.2.1 dX7_record_60 (by decide) ?_
          refine lv_aload_n S.1 S.2.1 dX7_record_62 rfl (lv_at hl 1 rfl) ?_
          refine x_get S hK hP dX7_record_63 h65 (by decide) (RX7, TX7, 19) rfl hin7 2 (by decide) fl50 rfl ?_
          refine lv_imul S.1 S.2.1 dX7_record_66 ?_
          refine lv_iload_n S.1 S.2.1 dX7_record_67 rfl (lv_at hl 0 rfl) ?_
          refine lv_iadd S.1 S.2.1 dX7_record_68 ?_
          refine lv_aload_n S.1 S.2.1 dX7_record_69 rfl (lv_at hl 1 rfl) ?_
          refine x_get S hK hP dX7_record_70 h65 (by decide) (RX7, TX7, 19) rfl hin7 0 (by decide) fl7 rfl ?_
          refine lv_iload_n S.1 S.2.1 dX7_record_73 rfl (lv_at hl 0 rfl) ?_
          refine x_iald S hK hP dX7_record_74 h66 (by decide) (j := q) rfl (by omega) (by decide) ?_
          refine x_iast S hK hJ hP hS dX7_record_75 h67 (by decide) (j := (71 * hs + q)) (mul71 hs q) (by omega) (by decide) (fun H locs E1_1 hu hP hS => ?_)
          have h65 : E1_1 65 = mO g (nI hs) fi hi od bs bb bf ty at9 nu := (hu.2 _ (by omega)).trans h65
          have h66 : E1_1 66 = .inl (xI g, 71, .inl f) := (hu.2 _ (by omega)).trans h66
          have h67 : E1_1 67 = .inl (xI g, 284, .inl (upd f9 (71 * hs + q) (f q))) := hu.1
          have hfr : ∀ j, j ≠ 65 ∧ j ≠ 67 → E1_1 j = E j := fun j hj => (hu.2 j (by omega)).trans (hfr j hj)
          refine lv_iinc (v := nI (q + 1)) (lv' := [(1, .int (nI (q + 1))), (0, .ref (xad g 65))]) S.1 S.2.1 dX7_record_76 hl (k := 0) rfl (show nI q + Int32.ofInt 1 = _ from nI_1 _) (by decide) rfl (fun ls hl => ?_)
          refine lv_goto (tgt := 50) S.1 S.2.1 dX7_record_79 (by decide) ?_
          exact ih50 (q + 1) _ _ _ _ (by omega) (fun x hx => by rw [pk_un (by omega)]; exact hC x hx) (fun x hx => by rcases Nat.lt_or_ge x q with e | e; rw [pk_un (by omega)]; exact hD x e; rw [show x = q by omega, pk_us]) (by omega) h65 h66 h67 hfr hP hS ls (lv_sub hl [0, 1] rfl)
    exact loop50 _ 0 _ _ _ _ (Nat.zero_le _) (fun x _ => rfl) (fun x hx => absurd hx (Nat.not_lt_zero _)) (Nat.lt_succ_self _) h65 h66 h67 hfr hP hS ls (lv_sub hl [0, 1] rfl)
  · skip
    have hs4e : hs = 4 := (nI_eq (b := 4) (by omega) (by decide)).mp c5
    refine lv_iconst (v := 0) S.1 S.2.1 dX7_record_8 (by decide) ?_
    refine lv_istore_n (lv' := [(1, .int 0), (0, .ref (xad g 65))]) S.1 S.2.1 dX7_record_9 rfl hl (by decide) rfl (fun ls hl => ?_)
    have loop10 : ∀ (d : Nat) (q : Nat) (f8 : Nat → Int32) (EL : Nat → va_E) (H : Heap) (locs : List Loc), (hq : q ≤ 213) → (hA : ∀ x, x < q → f8 x = fh (x + 71)) → (hB : ∀ x, q ≤ x → f8 x = fh x) → (213 - q) < d → (h65 : EL 65 = mO g (nI hs) fi hi od bs bb bf ty at9 nu) → (h66 : EL 66 = .inl (xI g, 71, .inl f)) → (h67 : EL 67 = .inl (xI g, 284, .inl f8)) → (hfr : ∀ j, j ≠ 65 ∧ j ≠ 67 → EL j = E j) → xP g EL H → va_S (xA (xad g)) s.heap H locs → ∀ ls : Array Slot, lv_has ls 2 [(1, .int (nI q)), (0, .ref (xad g 65))] → W pz l ez ({ frames := 0, cells := 0, slots := 0, locals := 0 }) s m ([.ref (xad g 65)] : List Value).toArray below meth cz H locs 0 0 (MQ below (xQv g (fun E1 => (∀ j, j ≠ 65 → j ≠ 67 → E1 j = E j) ∧ E1 65 = mO g (nI (rcS hs)) fi hi od bs bb bf ty at9 nu ∧ ∃ fh9 : Nat → Int32, E1 67 = .inl (xI g, 284, .inl fh9) ∧ ∀ i, i < rcS hs → nH fh9 (71 * i) (rcV hs N n i) (rcV hs MM M i))) ([.ref (xad g 65)] : List Value).toArray s 0 0 (xA (xad g))) (F0 m 10 ls []) := by
      intro d
      induction d with
      | zero => intro q f8 EL H locs hq hA hB hd; exact absurd hd (Nat.not_lt_zero _)
      | succ d ih10 =>
        intro q f8 EL H locs hq hA hB hd h65 h66 h67 hfr hP hS ls hl
        refine lv_iload_n S.1 S.2.1 dX7_record_10 rfl (lv_at hl 0 rfl) ?_
        refine lv_sipush (v := 213) S.1 S.2.1 dX7_record_11 (by decide) ?_
        refine lv_icmp_ge (tgt := 38) S.1 S.2.1 dX7_record_14 (by decide) (fun c14 => ?_) (fun c14 => ?_)
        · skip
          have hsh : ∀ x, x < 213 → f8 x = fh (x + 71) := fun x hx => hA x (by have := (nI_leI (a := 213) (b := q) (by omega) (by omega)).mp c14; omega)
          refine lv_aload_n S.1 S.2.1 dX7_record_38 rfl (lv_at hl 1 rfl) ?_
          refine lv_dup S.1 S.2.1 dX7_record_39 rfl ?_
          refine x_get S hK hP dX7_record_40 h65 (by decide) (RX7, TX7, 19) rfl hin7 2 (by decide) fl50 rfl ?_
          refine lv_iconst (v := 1) S.1 S.2.1 dX7_record_43 (by decide) ?_
          refine lv_isub S.1 S.2.1 dX7_record_44 ?_
          refine W.eq (g2 := F0 m 45 ls [.int (nI 3), .ref (xad g 65)]) (by rw [hs4e]; rfl) ?_
          refine x_put S hK hJ hP hS dX7_record_45 h65 (by decide) (RX7, TX7, 19) rfl hin7 tyX7 tyX7_ok nmX7 2 (by decide) fl50 rfl rfl rfl (Nat.le_of_ble_eq_true rfl) (fun H locs E1_2 hu hP hS => ?_)
          have h65 : E1_2 65 = mO g (nI 3) fi hi od bs bb bf ty at9 nu := hu.1
          have h66 : E1_2 66 = .inl (xI g, 71, .inl f) := (hu.2 _ (by omega)).trans h66
          have h67 : E1_2 67 = .inl (xI g, 284, .inl f8) := (hu.2 _ (by omega)).trans h67
          have hfr : ∀ j, j ≠ 65 ∧ j ≠ 67 → E1_2 j = E j := fun j hj => (hu.2 j (by omega)).trans (hfr j hj)
          refine lv_iconst (v := 0) S.1 S.2.1 dX7_record_48 (by decide) ?_
          refine lv_istore_n (lv' := [(1, .int 0), (0, .ref (xad g 65))]) S.1 S.2.1 dX7_record_49 rfl hl (by decide) rfl (fun ls hl => ?_)
          have loop50 : ∀ (d : Nat) (q : Nat) (f9 : Nat → Int32) (EL : Nat → va_E) (H : Heap) (locs : List Loc), (hq : q ≤ 71) → (hC : ∀ x, x < 71 * 3 → f9 x = f8 x) → (hD : ∀ x, x < q → f9 (71 * 3 + x) = f x) → (71 - q) < d → (h65 : EL 65 = mO g (nI 3) fi hi od bs bb bf ty at9 nu) → (h66 : EL 66 = .inl (xI g, 71, .inl f)) → (h67 : EL 67 = .inl (xI g, 284, .inl f9)) → (hfr : ∀ j, j ≠ 65 ∧ j ≠ 67 → EL j = E j) → xP g EL H → va_S (xA (xad g)) s.heap H locs → ∀ ls : Array Slot, lv_has ls 2 [(1, .int (nI q)), (0, .ref (xad g 65))] → W pz l ez ({ frames := 0, cells := 0, slots := 0, locals := 0 }) s m ([.ref (xad g 65)] : List Value).toArray below meth cz H locs 0 0 (MQ below (xQv g (fun E1 => (∀ j, j ≠ 65 → j ≠ 67 → E1 j = E j) ∧ E1 65 = mO g (nI (rcS hs)) fi hi od bs bb bf ty at9 nu ∧ ∃ fh9 : Nat → Int32, E1 67 = .inl (xI g, 284, .inl fh9) ∧ ∀ i, i < rcS hs → nH fh9 (71 * i) (rcV hs N n i) (rcV hs MM M i))) ([.ref (xad g 65)] : List Value).toArray s 0 0 (xA (xad g))) (F0 m 50 ls []) := by
            intro d
            induction d with
            | zero => intro q f9 EL H locs hq hC hD hd; exact absurd hd (Nat.not_lt_zero _)
            | succ d ih50 =>
              intro q f9 EL H locs hq hC hD hd h65 h66 h67 hfr hP hS ls hl
              refine lv_iload_n S.1 S.2.1 dX7_record_50 rfl (lv_at hl 0 rfl) ?_
              refine lv_bipush (v := 71) S.1 S.2.1 dX7_record_51 (by decide) ?_
              refine lv_icmp_ge (tgt := 82) S.1 S.2.1 dX7_record_53 (by decide) (fun c53 => ?_) (fun c53 => ?_)
              · skip
                refine lv_aload_n S.1 S.2.1 dX7_record_82 rfl (lv_at hl 1 rfl) ?_
                refine lv_dup S.1 S.2.1 dX7_record_83 rfl ?_
                refine x_get S hK hP dX7_record_84 h65 (by decide) (RX7, TX7, 19) rfl hin7 2 (by decide) fl50 rfl ?_
                refine lv_iconst (v := 1) S.1 S.2.1 dX7_record_87 (by decide) ?_
                refine lv_iadd S.1 S.2.1 dX7_record_88 ?_
                refine x_put S hK hJ hP hS dX7_record_89 h65 (by decide) (RX7, TX7, 19) rfl hin7 tyX7 tyX7_ok nmX7 2 (by decide) fl50 rfl rfl rfl (Nat.le_of_ble_eq_true rfl) (fun H locs E1_3 hu hP hS => ?_)
                have h65 : E1_3 65 = mO g ((nI 3) + 1) fi hi od bs bb bf ty at9 nu := hu.1
                have h66 : E1_3 66 = .inl (xI g, 71, .inl f) := (hu.2 _ (by omega)).trans h66
                have h67 : E1_3 67 = .inl (xI g, 284, .inl f9) := (hu.2 _ (by omega)).trans h67
                have hfr : ∀ j, j ≠ 65 ∧ j ≠ 67 → E1_3 j = E j := fun j hj => (hu.2 j (by omega)).trans (hfr j hj)
                exact x_vret S hr hlocks hP hS dX7_record_92 (⟨fun j g1 g2 => hfr j ⟨g1, g2⟩, by rw [show rcS hs = 3 + 1 by rw [hs4e]; rfl, ← nI_1]; exact h65, _, h67, rcd_big hs4e hH hN hsh hC (fun x hx => hD x (by have := (nI_leI (a := 71) (b := q) (by omega) (by omega)).mp c53; omega))⟩)
              · skip
                have hq71 : q < 71 := Nat.not_le.mp (fun h => c53 ((nI_leI (a := 71) (by omega) (by omega)).mpr h))
                refine lv_aload_n S.1 S.2.1 dX7_record_56 rfl (lv_at hl 1 rfl) ?_
                refine x_get S hK hP dX7_record_57 h65 (by decide) (RX7, TX7, 19) rfl hin7 1 (by decide) fl13 rfl ?_
                refine lv_bipush (v := 71) S.1 S.2.1 dX7_record_60 (by decide) ?_
                refine lv_aload_n S.1 S.2.1 dX7_record_62 rfl (lv_at hl 1 rfl) ?_
                refine x_get S hK hP dX7_record_63 h65 (by decide) (RX7, TX7, 19) rfl hin7 2 (by decide) fl50 rfl ?_
                refine lv_imul S.1 S.2.1 dX7_record_66 ?_
                refine lv_iload_n S.1 S.2.1 dX7_record_67 rfl (lv_at hl 0 rfl) ?_
                refine lv_iadd S.1 S.2.1 dX7_record_68 ?_
                refine lv_aload_n S.1 S.2.1 dX7_record_69 rfl (lv_at hl 1 rfl) ?_
                refine x_get S hK hP dX7_record_70 h65 (by decide) (RX7, TX7, 19) rfl hin7 0 (by decide) fl7 rfl ?_
                refine lv_iload_n S.1 S.2.1 dX7_record_73 rfl (lv_at hl 0 rfl) ?_
                refine x_iald S hK hP dX7_record_74 h66 (by decide) (j := q) rfl (by omega) (by decide) ?_
                refine x_iast S hK hJ hP hS dX7_record_75 h67 (by decide) (j := (71 * 3 + q)) (mul71 3 q) (by omega) (by decide) (fun H locs E1_4 hu hP hS => ?_)
                have h65 : E1_4 65 = mO g (nI 3) fi hi od bs bb bf ty at9 nu := (hu.2 _ (by omega)).trans h65
                have h66 : E1_4 66 = .inl (xI g, 71, .inl f) := (hu.2 _ (by omega)).trans h66
                have h67 : E1_4 67 = .inl (xI g, 284, .inl (upd f9 (71 * 3 + q) (f q))) := hu.1
                have hfr : ∀ j, j ≠ 65 ∧ j ≠ 67 → E1_4 j = E j := fun j hj => (hu.2 j (by omega)).trans (hfr j hj)
                refine lv_iinc (v := nI (q + 1)) (lv' := [(1, .int (nI (q + 1))), (0, .ref (xad g 65))]) S.1 S.2.1 dX7_record_76 hl (k := 0) rfl (show nI q + Int32.ofInt 1 = _ from nI_1 _) (by decide) rfl (fun ls hl => ?_)
                refine lv_goto (tgt := 50) S.1 S.2.1 dX7_record_79 (by decide) ?_
                exact ih50 (q + 1) _ _ _ _ (by omega) (fun x hx => by rw [pk_un (by omega)]; exact hC x hx) (fun x hx => by rcases Nat.lt_or_ge x q with e | e; rw [pk_un (by omega)]; exact hD x e; rw [show x = q by omega, pk_us]) (by omega) h65 h66 h67 hfr hP hS ls (lv_sub hl [0, 1] rfl)
          exact loop50 _ 0 _ _ _ _ (Nat.zero_le _) (fun x _ => rfl) (fun x hx => absurd hx (Nat.not_lt_zero _)) (Nat.lt_succ_self _) h65 h66 h67 hfr hP hS ls (lv_sub hl [0, 1] rfl)
        · skip
          have hq21 : q < 213 := Nat.not_le.mp (fun h => c14 ((nI_leI (a := 213) (by omega) (by omega)).mpr h))
          refine lv_aload_n S.1 S.2.1 dX7_record_17 rfl (lv_at hl 1 rfl) ?_
          refine x_get S hK hP dX7_record_18 h65 (by decide) (RX7, TX7, 19) rfl hin7 1 (by decide) fl13 rfl ?_
          refine lv_iload_n S.1 S.2.1 dX7_record_21 rfl (lv_at hl 0 rfl) ?_
          refine lv_aload_n S.1 S.2.1 dX7_record_22 rfl (lv_at hl 1 rfl) ?_
          refine x_get S hK hP dX7_record_23 h65 (by decide) (RX7, TX7, 19) rfl hin7 1 (by decide) fl13 rfl ?_
          refine lv_iload_n S.1 S.2.1 dX7_record_26 rfl (lv_at hl 0 rfl) ?_
          refine lv_bipush (v := 71) S.1 S.2.1 dX7_record_27 (by decide) ?_
          refine lv_iadd S.1 S.2.1 dX7_record_29 ?_
          refine x_iald S hK hP dX7_record_30 h67 (by decide) (j := (q + 71)) (nI_add q 71) (by omega) (by decide) ?_
          refine x_iast S hK hJ hP hS dX7_record_31 h67 (by decide) (j := q) rfl (by omega) (by decide) (fun H locs E1_5 hu hP hS => ?_)
          have h65 : E1_5 65 = mO g (nI hs) fi hi od bs bb bf ty at9 nu := (hu.2 _ (by omega)).trans h65
          have h66 : E1_5 66 = .inl (xI g, 71, .inl f) := (hu.2 _ (by omega)).trans h66
          have h67 : E1_5 67 = .inl (xI g, 284, .inl (upd f8 q (f8 (q + 71)))) := hu.1
          have hfr : ∀ j, j ≠ 65 ∧ j ≠ 67 → E1_5 j = E j := fun j hj => (hu.2 j (by omega)).trans (hfr j hj)
          refine lv_iinc (v := nI (q + 1)) (lv' := [(1, .int (nI (q + 1))), (0, .ref (xad g 65))]) S.1 S.2.1 dX7_record_32 hl (k := 0) rfl (show nI q + Int32.ofInt 1 = _ from nI_1 _) (by decide) rfl (fun ls hl => ?_)
          refine lv_goto (tgt := 10) S.1 S.2.1 dX7_record_35 (by decide) ?_
          exact ih10 (q + 1) _ _ _ _ (by omega) (fun x hx => by rcases Nat.lt_or_ge x q with e | e; rw [pk_un (by omega)]; exact hA x e; rw [show x = q by omega, pk_us]; exact hB _ (by omega)) (fun x hx => by rw [pk_un (by omega)]; exact hB x (by omega)) (by omega) h65 h66 h67 hfr hP hS ls (lv_sub hl [0, 1] rfl)
    exact loop10 _ 0 fh _ _ _ (Nat.zero_le _) (fun x hx => absurd hx (Nat.not_lt_zero _)) (fun x _ => rfl) (Nat.lt_succ_self _) h65 h66 h67 hfr hP hS ls (lv_sub hl [0, 1] rfl)
