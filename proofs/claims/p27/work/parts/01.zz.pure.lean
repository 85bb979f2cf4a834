/-! PURE ROWS: sets of photos as masks; what the ints of both sides say of them -/
theorem nI_or (a b : Nat) : nI a ||| nI b = nI (a ||| b) := by
  apply Int32.toBitVec_inj.mp
  apply BitVec.eq_of_toNat_eq
  rw [Int32.toBitVec_or, BitVec.toNat_or]
  show (BitVec.ofNat 32 a).toNat ||| (BitVec.ofNat 32 b).toNat = (BitVec.ofNat 32 (a ||| b)).toNat
  rw [BitVec.toNat_ofNat, BitVec.toNat_ofNat, BitVec.toNat_ofNat, Nat.or_mod_two_pow]
theorem nI_and (a b : Nat) : nI a &&& nI b = nI (a &&& b) := by
  apply Int32.toBitVec_inj.mp
  apply BitVec.eq_of_toNat_eq
  rw [Int32.toBitVec_and, BitVec.toNat_and]
  show (BitVec.ofNat 32 a).toNat &&& (BitVec.ofNat 32 b).toNat = (BitVec.ofNat 32 (a &&& b)).toNat
  rw [BitVec.toNat_ofNat, BitVec.toNat_ofNat, BitVec.toNat_ofNat, Nat.and_mod_two_pow]
theorem nI_inj {a b : Nat} (ha : a < 2 ^ 31) (hb : b < 2 ^ 31) (h : nI a = nI b) : a = b := (nI_eq ha hb).mp h
theorem bit_shl : ∀ k, k < 10 → (1 : Int32) <<< (nI k &&& 31) = nI (2 ^ k) := by decide +kernel
/-- the numbers under n for which P holds, as a mask -/
def mk (P : Nat → Bool) : Nat → Nat
  | 0 => 0
  | k + 1 => if P k then mk P k ||| 2 ^ k else mk P k
theorem mk_tb (P : Nat → Bool) (n i : Nat) : (mk P n).testBit i = (decide (i < n) && P i) := by
  induction n with
  | zero => simp [mk]
  | succ n ih =>
    unfold mk
    split
    · rename_i h
      rw [Nat.testBit_or, ih, Nat.testBit_two_pow]
      by_cases e : n = i
      · subst e
        simp [h]
      · by_cases h1 : i < n
        · simp [h1, e, Nat.lt_succ_of_lt h1]
        · simp [h1, e, show ¬ i < n + 1 by omega]
    · rename_i h
      rw [ih]
      by_cases e : i = n
      · subst e
        simp [h]
      · by_cases h1 : i < n
        · simp [h1, Nat.lt_succ_of_lt h1]
        · simp [h1, show ¬ i < n + 1 by omega]
theorem mk_lt (P : Nat → Bool) (n : Nat) : mk P n < 2 ^ n := by
  apply Nat.lt_pow_two_of_testBit
  intro i hi
  rw [mk_tb]
  simp [show ¬ i < n by omega]
theorem mk_lt10 (P : Nat → Bool) {n : Nat} (h : n ≤ 10) : mk P n < 1024 := Nat.lt_of_lt_of_le (mk_lt P n) (Nat.pow_le_pow_right (by decide) h)
theorem mk_ext {P Q : Nat → Bool} {n m : Nat} (h : ∀ i, (decide (i < n) && P i) = (decide (i < m) && Q i)) : mk P n = mk Q m := by
  apply Nat.eq_of_testBit_eq
  intro i
  rw [mk_tb, mk_tb]
  exact h i
theorem mk_congr {P Q : Nat → Bool} {n : Nat} (h : ∀ i, i < n → P i = Q i) : mk P n = mk Q n := mk_ext fun i => by
  by_cases hi : i < n
  · rw [h i hi]
  · simp [hi]
theorem mk_iff {P Q : Nat → Bool} {n : Nat} : mk P n = mk Q n ↔ ∀ i, i < n → P i = Q i := by
  refine ⟨fun h i hi => ?_, mk_congr⟩
  have := mk_tb P n i
  rw [h, mk_tb] at this
  simpa [hi] using this.symm
theorem mk_step {P : Nat → Bool} {k : Nat} (hk : k < 10) (h : P k = true) : nI (mk P k) ||| ((1 : Int32) <<< (nI k &&& 31)) = nI (mk P (k + 1)) := by
  rw [bit_shl k hk, nI_or]
  show _ = nI (if P k then mk P k ||| 2 ^ k else mk P k)
  rw [if_pos h]
theorem mk_skip {P : Nat → Bool} {k : Nat} (h : ¬ P k = true) : nI (mk P k) = nI (mk P (k + 1)) := by
  show _ = nI (if P k then mk P k ||| 2 ^ k else mk P k)
  rw [if_neg h]
/-- any mask is one of ten digits -/
theorem mk_10 {P : Nat → Bool} {n : Nat} (h : n ≤ 10) : mk P n = mk (fun i => decide (i < n) && P i) 10 := mk_ext fun i => by
  by_cases h1 : i < n
  · simp [h1, show i < 10 by omega]
  · simp [h1]
theorem mk_of {a : Nat} (h : a < 1024) : mk (fun i => a.testBit i) 10 = a := by
  apply Nat.eq_of_testBit_eq
  intro i
  rw [mk_tb]
  by_cases hi : i < 10
  · simp [hi]
  · have : a.testBit i = false := Nat.testBit_lt_two_pow (Nat.lt_of_lt_of_le h (Nat.pow_le_pow_right (n := 2) (i := 10) (by decide) (by omega)))
    simp [hi, this]
/-- how many numbers under n P holds for -/
def cnt (P : Nat → Bool) : Nat → Nat
  | 0 => 0
  | k + 1 => cnt P k + (if P k then 1 else 0)
theorem cnt_le (P : Nat → Bool) (n : Nat) : cnt P n ≤ n := by
  induction n with
  | zero => exact Nat.le_refl _
  | succ n ih => unfold cnt; split <;> omega
theorem cnt_congr {P Q : Nat → Bool} {n : Nat} (h : ∀ i, i < n → P i = Q i) : cnt P n = cnt Q n := by
  induction n with
  | zero => rfl
  | succ n ih =>
    unfold cnt
    rw [ih fun i hi => h i (by omega), h n (by omega)]
/-- a count of the digits of a number -/
def pop (a : Nat) : Nat := cnt (fun i => a.testBit i) 10
theorem pop_mk {P : Nat → Bool} {n : Nat} (h : n ≤ 10) : pop (mk P n) = cnt P n := by
  have key : ∀ d, n + d = 10 → cnt (fun i => (mk P n).testBit i) (n + d) = cnt P n := by
    intro d hd
    clear hd
    induction d with
    | zero =>
      refine cnt_congr (n := n) fun i hi => ?_
      rw [mk_tb]
      simp [hi]
    | succ d ih =>
      show cnt (fun i => (mk P n).testBit i) (n + d) + (if (mk P n).testBit (n + d) = true then 1 else 0) = _
      rw [ih, mk_tb]
      simp [show ¬ n + d < n by omega]
  have := key (10 - n) (by omega)
  rw [show n + (10 - n) = 10 by omega] at this
  exact this
/-- Integer.bitCount of the JDK, as its code counts -/
def bcI (x : Int32) : Int32 :=
  let a := x - ((x.toUInt32 >>> ((1 : Int32).toUInt32 &&& Int32.toUInt32 31)).toInt32 &&& 1431655765)
  let b := (a &&& 858993459) + ((a.toUInt32 >>> ((2 : Int32).toUInt32 &&& Int32.toUInt32 31)).toInt32 &&& 858993459)
  let c := (b + (b.toUInt32 >>> ((4 : Int32).toUInt32 &&& Int32.toUInt32 31)).toInt32) &&& 252645135
  let d := c + (c.toUInt32 >>> ((8 : Int32).toUInt32 &&& Int32.toUInt32 31)).toInt32
  let f := d + (d.toUInt32 >>> ((16 : Int32).toUInt32 &&& Int32.toUInt32 31)).toInt32
  f &&& 63
theorem bc_all : ∀ a, a < 1024 → bcI (nI a) = nI (pop a) := by decide +kernel
theorem bc_mk {P : Nat → Bool} {n : Nat} (h : n ≤ 10) : bcI (nI (mk P n)) = nI (cnt P n) := by
  rw [bc_all _ (mk_lt10 P h), pop_mk h]
/-- a photo's number among n -/
theorem hold_t {x : Int32} {n : Nat} (hn : n ≤ 10) (h0 : ¬ x < 0) (h1 : ¬ nI n ≤ x) : ∃ k : Nat, k < n ∧ x = nI k := by
  obtain ⟨j, hj, rfl⟩ := nI_of h0
  exact ⟨j, Nat.not_le.mp fun h => h1 ((nI_leI (by omega) hj).mpr h), rfl⟩
theorem hold_n {x : Int32} {n : Nat} (hn : n ≤ 10) (h0 : x < 0) : ¬ ∃ k : Nat, k < n ∧ x = nI k := by
  rintro ⟨k, hk, rfl⟩
  exact nI_pos (by omega) h0
theorem hold_f {x : Int32} {n : Nat} (hn : n ≤ 10) (h0 : nI n ≤ x) : ¬ ∃ k : Nat, k < n ∧ x = nI k := by
  rintro ⟨k, hk, rfl⟩
  have := (nI_leI (a := n) (b := k) (by omega) (by omega)).mp h0
  omega
/-- usable photos; those with an angle -/
def pU (M : Nat → Nat → Int32) (k : Nat) : Bool := decide (M 6 k = 0)
def pK (M : Nat → Nat → Int32) (k : Nat) : Bool := decide (M 6 k = 0 ∧ ¬ M 4 k = 360)
