/-! what holds of every state's photos; an arc's lower number is above 0, and it hits its own photos -/
def vld (n : Nat) (M : Nat → Nat → Int32) : Prop := (∀ k, k < n → (0 ≤ (M 0 k).toInt ∧ (M 0 k).toInt ≤ 99) ∧ (-400 ≤ (M 1 k).toInt ∧ (M 1 k).toInt ≤ 400) ∧ (-400 ≤ (M 2 k).toInt ∧ (M 2 k).toInt ≤ 400) ∧ (0 ≤ (M 3 k).toInt ∧ (M 3 k).toInt ≤ 40) ∧ (0 ≤ (M 4 k).toInt ∧ (M 4 k).toInt ≤ 360) ∧ (0 ≤ (M 5 k).toInt ∧ (M 5 k).toInt ≤ 60) ∧ (M 6 k = 0 ∨ M 6 k = 1)) ∧ ∀ i j, i < j → j < n → (M 0 i).toInt < (M 0 j).toInt
theorem L_mul {a b : Int64} (h1 : -9223372036854775808 ≤ a.toInt * b.toInt) (h2 : a.toInt * b.toInt < 9223372036854775808) : (a * b).toInt = a.toInt * b.toInt := by
  rw [Int64.toInt_mul]
  exact Int.bmod_eq_of_le (by omega) (by omega)
theorem L_sub {a b : Int64} (h1 : -9223372036854775808 ≤ a.toInt - b.toInt) (h2 : a.toInt - b.toInt < 9223372036854775808) : (a - b).toInt = a.toInt - b.toInt := by
  rw [Int64.toInt_sub]
  exact Int.bmod_eq_of_le (by omega) (by omega)
theorem L_pos {x : Int64} : 0 < x ↔ 0 < x.toInt := by
  rw [Int64.lt_iff_toInt_lt]
  rfl
theorem tm_toInt (M : Nat → Nat → Int32) (k : Nat) : (tmL M k).toInt = (M 0 k).toInt := Int32.toInt_toInt64 _
theorem prod_bound {a b B C : Int} (h1 : -B ≤ a) (h2 : a ≤ B) (h3 : -C ≤ b) (h4 : b ≤ C) : -(B * C) ≤ a * b ∧ a * b ≤ B * C := by
  have hB : 0 ≤ B := by omega
  have hC : 0 ≤ C := by omega
  have k1 : (a.natAbs : Int) ≤ B := by omega
  have k2 : (b.natAbs : Int) ≤ C := by omega
  have k3 : ((a * b).natAbs : Int) ≤ B * C := by
    rw [Int.natAbs_mul, Int.natCast_mul]
    exact Int.mul_le_mul k1 k2 (by omega) hB
  omega
theorem lo_toInt {n : Nat} {M : Nat → Nat → Int32} (hv : vld n M) {r s t : Nat} (hr : r < n) (hs : s < n) (ht : t < n) : (loN M r s t).toInt = ((M 0 s).toInt - (M 0 r).toInt) * ((M 0 t).toInt - (M 0 r).toInt) * ((M 0 t).toInt - (M 0 s).toInt) := by
  obtain ⟨a1, a2⟩ := (hv.1 r hr).1
  obtain ⟨b1, b2⟩ := (hv.1 s hs).1
  obtain ⟨c1, c2⟩ := (hv.1 t ht).1
  have e1 : (tmL M s - tmL M r).toInt = (M 0 s).toInt - (M 0 r).toInt := by rw [L_sub (by rw [tm_toInt, tm_toInt]; omega) (by rw [tm_toInt, tm_toInt]; omega), tm_toInt, tm_toInt]
  have e2 : (tmL M t - tmL M r).toInt = (M 0 t).toInt - (M 0 r).toInt := by rw [L_sub (by rw [tm_toInt, tm_toInt]; omega) (by rw [tm_toInt, tm_toInt]; omega), tm_toInt, tm_toInt]
  have e3 : (tmL M t - tmL M s).toInt = (M 0 t).toInt - (M 0 s).toInt := by rw [L_sub (by rw [tm_toInt, tm_toInt]; omega) (by rw [tm_toInt, tm_toInt]; omega), tm_toInt, tm_toInt]
  unfold loN
  generalize (M 0 r).toInt = x at *
  generalize (M 0 s).toInt = y at *
  generalize (M 0 t).toInt = z at *
  have g1 : -9801 ≤ (y - x) * (z - x) ∧ (y - x) * (z - x) ≤ 9801 := prod_bound (B := 99) (C := 99) (by omega) (by omega) (by omega) (by omega)
  have e4 : ((tmL M s - tmL M r) * (tmL M t - tmL M r)).toInt = (y - x) * (z - x) := by rw [L_mul (by rw [e1, e2]; omega) (by rw [e1, e2]; omega), e1, e2]
  have g2 : -970299 ≤ (y - x) * (z - x) * (z - y) ∧ (y - x) * (z - x) * (z - y) ≤ 970299 := prod_bound (B := 9801) (C := 99) (by omega) (by omega) (by omega) (by omega)
  rw [L_mul (by rw [e4, e3]; omega) (by rw [e4, e3]; omega), e4, e3]
theorem lo_pos {n : Nat} {M : Nat → Nat → Int32} (hv : vld n M) {r s t : Nat} (h1 : r < s) (h2 : s < t) (ht : t < n) : 0 < loN M r s t := by
  have a := hv.2 r s h1 (by omega)
  have b := hv.2 r t (by omega) ht
  have c := hv.2 s t h2 ht
  rw [L_pos, lo_toInt hv (by omega) (by omega) ht]
  exact Int.mul_pos (Int.mul_pos (by omega) (by omega)) (by omega)
theorem aw_own {M : Nat → Nat → Int32} {w r s t q : Nat} (h : q = r ∨ q = s ∨ q = t) : awN M w r s t q = 0 := by
  unfold awN upN loN
  rcases h with rfl | rfl | rfl
  · generalize (M (1 + w) q).toInt64 = a
    generalize (M (1 + w) s).toInt64 = b
    generalize (M (1 + w) t).toInt64 = c
    generalize tmL M q = x
    generalize tmL M s = y
    generalize tmL M t = z
    grind
  · generalize (M (1 + w) q).toInt64 = a
    generalize (M (1 + w) r).toInt64 = b
    generalize (M (1 + w) t).toInt64 = c
    generalize tmL M q = x
    generalize tmL M r = y
    generalize tmL M t = z
    grind
  · generalize (M (1 + w) q).toInt64 = a
    generalize (M (1 + w) r).toInt64 = b
    generalize (M (1 + w) s).toInt64 = c
    generalize tmL M q = x
    generalize tmL M r = y
    generalize tmL M s = z
    grind
theorem err_nn {n : Nat} {M : Nat → Nat → Int32} (hv : vld n M) {r s t q : Nat} (h1 : r < s) (h2 : s < t) (ht : t < n) (hq : q < n) : 0 ≤ (M 3 q).toInt64 * abL (loN M r s t) := by
  have hp := lo_pos hv h1 h2 ht
  obtain ⟨a1, a2⟩ := (hv.1 r (by omega)).1
  obtain ⟨b1, b2⟩ := (hv.1 s (by omega)).1
  obtain ⟨c1, c2⟩ := (hv.1 t ht).1
  obtain ⟨-, -, -, ⟨d1, d2⟩, -⟩ := hv.1 q hq
  have e0 := lo_toInt hv (show r < n by omega) (show s < n by omega) ht
  rw [abL_pos hp, Int64.le_iff_toInt_le]
  have hl := L_pos.mp hp
  have g1 := prod_bound (a := (M 0 s).toInt - (M 0 r).toInt) (b := (M 0 t).toInt - (M 0 r).toInt) (B := 99) (C := 99) (by omega) (by omega) (by omega) (by omega)
  have g2 := prod_bound (a := ((M 0 s).toInt - (M 0 r).toInt) * ((M 0 t).toInt - (M 0 r).toInt)) (b := (M 0 t).toInt - (M 0 s).toInt) (B := 9801) (C := 99) (by omega) (by omega) (by omega) (by omega)
  rw [← e0] at g2
  have e3 : (M 3 q).toInt64.toInt = (M 3 q).toInt := Int32.toInt_toInt64 _
  have g3 := prod_bound (a := (M 3 q).toInt) (b := (loN M r s t).toInt) (B := 40) (C := 970299) (by omega) (by omega) (by omega) (by omega)
  rw [L_mul (by rw [e3]; omega) (by rw [e3]; omega), e3]
  exact Int.mul_nonneg d1 (by omega)
theorem hit_own {n : Nat} {M : Nat → Nat → Int32} (hv : vld n M) {r s t q : Nat} (h1 : r < s) (h2 : s < t) (ht : t < n) (h : q = r ∨ q = s ∨ q = t) : hitB M r s t q = true := by
  have h9 := err_nn hv h1 h2 ht (q := q) (by omega)
  refine decide_eq_true ?_
  rw [aw_own h, aw_own h]
  exact ⟨h9, h9⟩
theorem cnt_pos {P : Nat → Bool} {n k : Nat} (hk : k < n) (h : P k = true) : 0 < cnt P n := by
  induction n with
  | zero => omega
  | succ n ih =>
    unfold cnt
    by_cases e : k = n
    · subst e
      rw [if_pos h]
      omega
    · have := ih (by omega)
      omega
theorem sco_pos {n : Nat} {M : Nat → Nat → Int32} (hv : vld n M) {P : Nat → Bool} {r s t : Nat} (h : trio P n r s t) : 0 < sco M P n r s t := by
  obtain ⟨h1, h2, h3, h4, -, -⟩ := h
  refine cnt_pos (k := r) (by omega) ?_
  rw [h4, hit_own hv h1 h2 h3 (Or.inl rfl)]
  rfl
/-- the mask of three -/
def m3 (r s t : Nat) : Nat := 2 ^ r ||| 2 ^ s ||| 2 ^ t
theorem m3_tb (r s t q : Nat) : (m3 r s t).testBit q = true ↔ q = r ∨ q = s ∨ q = t := by
  unfold m3
  rw [Nat.testBit_or, Nat.testBit_or, Nat.testBit_two_pow, Nat.testBit_two_pow, Nat.testBit_two_pow]
  simp only [Bool.or_eq_true, decide_eq_true_eq]
  omega
theorem m3_lt {r s t : Nat} (hr : r < 10) (hs : s < 10) (ht : t < 10) : m3 r s t < 1024 := by
  have h : ∀ k, k < 10 → 2 ^ k < 2 ^ 10 := fun k hk => Nat.pow_lt_pow_right (by decide) hk
  exact Nat.or_lt_two_pow (n := 10) (Nat.or_lt_two_pow (h r hr) (h s hs)) (h t ht)
theorem m3_ne {r s t : Nat} : ¬ m3 r s t = 0 := by
  intro h
  have := (m3_tb r s t r).mpr (Or.inl rfl)
  rw [h] at this
  simp at this
theorem m3_nI {r s t : Nat} (hr : r < 10) (hs : s < 10) (ht : t < 10) : ((1 : Int32) <<< (nI r &&& 31) ||| (1 : Int32) <<< (nI s &&& 31)) ||| (1 : Int32) <<< (nI t &&& 31) = nI (m3 r s t) := by
  rw [bit_shl r hr, bit_shl s hs, bit_shl t ht, nI_or, nI_or]
  rfl
theorem m3_sub {P : Nat → Bool} {n r s t : Nat} (hn : n ≤ 10) (hr : r < n) (hs : s < n) (ht : t < n) : nI (mk P n) &&& nI (m3 r s t) = nI (m3 r s t) ↔ P r = true ∧ P s = true ∧ P t = true := by
  have hm := m3_lt (r := r) (s := s) (t := t) (by omega) (by omega) (by omega)
  rw [nI_and, nI_eq (Nat.lt_of_le_of_lt Nat.and_le_right (by omega)) (by omega)]
  constructor
  · intro h
    have key : ∀ q, q < n → (q = r ∨ q = s ∨ q = t) → P q = true := by
      intro q hq h2
      have h3 := (m3_tb r s t q).mpr h2
      rw [← h, Nat.testBit_and, mk_in hq, Bool.and_eq_true] at h3
      exact h3.1
    exact ⟨key r hr (Or.inl rfl), key s hs (Or.inr (Or.inl rfl)), key t ht (Or.inr (Or.inr rfl))⟩
  · rintro ⟨h1, h2, h3⟩
    apply Nat.eq_of_testBit_eq
    intro q
    rw [Nat.testBit_and]
    by_cases h : (m3 r s t).testBit q = true
    · have hq := (m3_tb r s t q).mp h
      have : (mk P n).testBit q = true := by
        rcases hq with rfl | rfl | rfl
        · rw [mk_in hr, h1]
        · rw [mk_in hs, h2]
        · rw [mk_in ht, h3]
      rw [this, h]
      rfl
    · simp [h]
/-- the search for the best arc, as far as a place: f is the fewest missed, b the mask of the three -/
def bsf (M : Nat → Nat → Int32) (P : Nat → Bool) (n c : Nat) (f b : Int32) : Prop := (f = 10 ∧ b = 0 ∧ ∀ r s t, trio P n r s t → c ≤ cod r s t) ∨ ∃ r s t, bestTo M P n c r s t ∧ b = nI (m3 r s t) ∧ f = nI (cnt P n - sco M P n r s t)
theorem bestTo.mono {M : Nat → Nat → Int32} {P : Nat → Bool} {n c c' r s t : Nat} (h : bestTo M P n c r s t) (hc : c ≤ c') (hno : ∀ r s t, trio P n r s t → c ≤ cod r s t → c' ≤ cod r s t) : bestTo M P n c' r s t := by
  obtain ⟨h1, h2, h3, h4⟩ := h
  refine ⟨h1, by omega, fun r' s' t' ht hl => h3 r' s' t' ht ?_, h4⟩
  exact Nat.not_le.mp fun h => by have := hno r' s' t' ht h; omega
theorem bsf.mono {M : Nat → Nat → Int32} {P : Nat → Bool} {n c c' : Nat} {f b : Int32} (h : bsf M P n c f b) (hc : c ≤ c') (hno : ∀ r s t, trio P n r s t → c ≤ cod r s t → c' ≤ cod r s t) : bsf M P n c' f b := by
  rcases h with ⟨h1, h2, h3⟩ | ⟨r, s, t, h1, h2, h3⟩
  · exact Or.inl ⟨h1, h2, fun r s t ht => hno r s t ht (h3 r s t ht)⟩
  · exact Or.inr ⟨r, s, t, h1.mono hc hno, h2, h3⟩
theorem sco_le (M : Nat → Nat → Int32) (P : Nat → Bool) (n r s t : Nat) : sco M P n r s t ≤ cnt P n := by
  have := cnt_split P (hitB M r s t) n
  unfold sco
  omega
theorem mis_eq (M : Nat → Nat → Int32) (P : Nat → Bool) (n r s t : Nat) : cnt (pM M P r s t) n = cnt P n - sco M P n r s t := by
  have := cnt_split P (hitB M r s t) n
  unfold sco
  show cnt (fun q => P q && !hitB M r s t q) n = _
  omega
theorem bsf.take {M : Nat → Nat → Int32} {P : Nat → Bool} {n i j k : Nat} {f b x : Int32} (hn : n ≤ 10) (hv : vld n M) (h : bsf M P n (cod i j k) f b) (ht : trio P n i j k) (hx : x = nI (cnt (pM M P i j k) n)) (hlt : ¬ f ≤ x) : bsf M P n (cod i j (k + 1)) x (nI (m3 i j k)) := by
  have hc : cod i j (k + 1) = cod i j k + 1 := rfl
  rw [hc]
  refine Or.inr ⟨i, j, k, ?_, rfl, by rw [hx, mis_eq]⟩
  have h8 := cnt_le P n
  rw [hx, mis_eq] at hlt
  rcases h with ⟨h1, h2, h3⟩ | ⟨r, s, t, h1, h2, h3⟩
  · refine ⟨ht, Nat.lt_succ_self _, fun r' s' t' ht' hl => ?_, fun r' s' t' ht' hl => ?_⟩
    · have := h3 r' s' t' ht'
      obtain ⟨rfl, rfl, rfl⟩ := cod_inj hn ht' ht (by omega)
      exact Nat.le_refl _
    · have := h3 r' s' t' ht'
      omega
  · rw [h3, nI_leI (by omega) (by omega)] at hlt
    have h5 := sco_le M P n i j k
    have h6 := sco_le M P n r s t
    refine ⟨ht, Nat.lt_succ_self _, fun r' s' t' ht' hl => ?_, fun r' s' t' ht' hl => ?_⟩
    · by_cases e : cod r' s' t' = cod i j k
      · obtain ⟨rfl, rfl, rfl⟩ := cod_inj hn ht' ht e
        exact Nat.le_refl _
      · have := h1.2.2.1 r' s' t' ht' (by omega)
        omega
    · have := h1.2.2.1 r' s' t' ht' hl
      omega
theorem bsf.keep {M : Nat → Nat → Int32} {P : Nat → Bool} {n i j k : Nat} {f b x : Int32} (hn : n ≤ 10) (hv : vld n M) (h : bsf M P n (cod i j k) f b) (ht : trio P n i j k) (hx : x = nI (cnt (pM M P i j k) n)) (hle : f ≤ x) : bsf M P n (cod i j (k + 1)) f b := by
  have hc : cod i j (k + 1) = cod i j k + 1 := rfl
  rw [hc]
  have h8 := cnt_le P n
  rw [hx, mis_eq] at hle
  have h9 := sco_pos hv ht
  have h5 := sco_le M P n i j k
  rcases h with ⟨h1, h2, h3⟩ | ⟨r, s, t, h1, h2, h3⟩
  · exfalso
    rw [h1, show (10 : Int32) = nI 10 from rfl, nI_leI (by omega) (by omega)] at hle
    omega
  · rw [h3, nI_leI (by omega) (by omega)] at hle
    have h6 := sco_le M P n r s t
    refine Or.inr ⟨r, s, t, ⟨h1.1, by have := h1.2.1; omega, fun r' s' t' ht' hl => ?_, h1.2.2.2⟩, h2, h3⟩
    by_cases e : cod r' s' t' = cod i j k
    · obtain ⟨rfl, rfl, rfl⟩ := cod_inj hn ht' ht e
      omega
    · exact h1.2.2.1 r' s' t' ht' (by omega)
theorem bsf.skip {M : Nat → Nat → Int32} {P : Nat → Bool} {n i j k : Nat} {f b : Int32} (hn : n ≤ 10) (hij : i < j) (hjk : j < k) (hk : k < n) (h : bsf M P n (cod i j k) f b) (ht : ¬ trio P n i j k) : bsf M P n (cod i j (k + 1)) f b := by
  refine h.mono (by unfold cod; omega) (fun r s t h1 h2 => ?_)
  by_cases e : cod r s t = cod i j k
  · exfalso
    obtain ⟨a1, a2, a3, -⟩ := id h1
    have : r = i ∧ s = j ∧ t = k := by unfold cod at e; omega
    obtain ⟨rfl, rfl, rfl⟩ := this
    exact ht h1
  · unfold cod at *
    omega
