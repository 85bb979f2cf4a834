/-! ARCS: the numbers of an arc, what it hits, the best one -/
theorem bit_in {a k : Nat} (ha : a < 1024) (hk : k < 10) : nI a &&& ((1 : Int32) <<< (nI k &&& 31)) = 0 ↔ ¬ a.testBit k = true := by
  rw [bit_shl k hk, nI_and, ← nI_0]
  have h1 : a &&& 2 ^ k < 2 ^ 31 := Nat.lt_of_le_of_lt Nat.and_le_left (by omega)
  rw [nI_eq h1 (by decide)]
  constructor
  · intro h t
    have : (a &&& 2 ^ k).testBit k = true := by rw [Nat.testBit_and, t, Nat.testBit_two_pow]; simp
    rw [h] at this
    simp at this
  · intro t
    apply Nat.eq_of_testBit_eq
    intro i
    rw [Nat.testBit_and, Nat.testBit_two_pow]
    by_cases e : k = i
    · subst e
      simp [t]
    · simp [e]
theorem bit_inF {a k : Nat} (ha : a < 1024) (hk : k < 10) (h : nI a &&& ((1 : Int32) <<< (nI k &&& 31)) = 0) : ¬ a.testBit k = true := (bit_in ha hk).mp h
theorem bit_inT {a k : Nat} (ha : a < 1024) (hk : k < 10) (h : ¬ nI a &&& ((1 : Int32) <<< (nI k &&& 31)) = 0) : a.testBit k = true := by
  by_cases t : a.testBit k = true
  · exact t
  · exact absurd ((bit_in ha hk).mpr t) h
theorem mk_in {P : Nat → Bool} {n k : Nat} (hk : k < n) : (mk P n).testBit k = P k := by rw [mk_tb]; simp [hk]
def tmL (M : Nat → Nat → Int32) (k : Nat) : Int64 := (M 0 k).toInt64
def upN (M : Nat → Nat → Int32) (w r s t : Nat) (u : Int64) : Int64 := (M (1 + w) r).toInt64 * (u - tmL M s) * (u - tmL M t) * (tmL M t - tmL M s) + (M (1 + w) s).toInt64 * (u - tmL M r) * (u - tmL M t) * (tmL M r - tmL M t) + (M (1 + w) t).toInt64 * (u - tmL M r) * (u - tmL M s) * (tmL M s - tmL M r)
def loN (M : Nat → Nat → Int32) (r s t : Nat) : Int64 := (tmL M s - tmL M r) * (tmL M t - tmL M r) * (tmL M t - tmL M s)
def abL (x : Int64) : Int64 := if 0 < x then x else -x
/-- how far an arc is from a photo, times its lower number -/
def awN (M : Nat → Nat → Int32) (w r s t q : Nat) : Int64 := upN M w r s t (tmL M q) - (M (1 + w) q).toInt64 * loN M r s t
def hitB (M : Nat → Nat → Int32) (r s t q : Nat) : Bool := decide (abL (awN M 0 r s t q) ≤ (M 3 q).toInt64 * abL (loN M r s t) ∧ abL (awN M 1 r s t q) ≤ (M 3 q).toInt64 * abL (loN M r s t))
theorem abL_pos {x : Int64} (h : 0 < x) : abL x = x := if_pos h
/-- how many of a set an arc hits -/
def sco (M : Nat → Nat → Int32) (P : Nat → Bool) (n r s t : Nat) : Nat := cnt (fun q => P q && hitB M r s t q) n
/-- three of a set, in order -/
def trio (P : Nat → Bool) (n r s t : Nat) : Prop := r < s ∧ s < t ∧ t < n ∧ P r = true ∧ P s = true ∧ P t = true
def cod (r s t : Nat) : Nat := 100 * r + 10 * s + t
/-- the best arc of those ahead of a place: it hits the most; of several the first -/
def bestTo (M : Nat → Nat → Int32) (P : Nat → Bool) (n c r s t : Nat) : Prop := trio P n r s t ∧ cod r s t < c ∧ (∀ r' s' t', trio P n r' s' t' → cod r' s' t' < c → sco M P n r' s' t' ≤ sco M P n r s t) ∧ ∀ r' s' t', trio P n r' s' t' → cod r' s' t' < cod r s t → sco M P n r' s' t' < sco M P n r s t
def isBest (M : Nat → Nat → Int32) (P : Nat → Bool) (n r s t : Nat) : Prop := bestTo M P n 1000 r s t
theorem cod_lt {P : Nat → Bool} {n r s t : Nat} (hn : n ≤ 10) (h : trio P n r s t) : cod r s t < 1000 := by
  obtain ⟨h1, h2, h3, -⟩ := h
  unfold cod
  omega
theorem cod_inj {P : Nat → Bool} {n r s t r' s' t' : Nat} (hn : n ≤ 10) (h : trio P n r s t) (h' : trio P n r' s' t') (e : cod r s t = cod r' s' t') : r = r' ∧ s = s' ∧ t = t' := by
  obtain ⟨h1, h2, h3, -⟩ := h
  obtain ⟨h4, h5, h6, -⟩ := h'
  unfold cod at e
  omega
theorem isBest.uniq {M : Nat → Nat → Int32} {P : Nat → Bool} {n r s t r' s' t' : Nat} (hn : n ≤ 10) (h : isBest M P n r s t) (h' : isBest M P n r' s' t') : r = r' ∧ s = s' ∧ t = t' := by
  obtain ⟨a1, a2, a3, a4⟩ := h
  obtain ⟨b1, b2, b3, b4⟩ := h'
  rcases Nat.lt_trichotomy (cod r s t) (cod r' s' t') with c | c | c
  · have := b4 r s t a1 c
    have := a3 r' s' t' b1 b2
    omega
  · exact cod_inj hn a1 b1 c
  · have := a4 r' s' t' b1 c
    have := b3 r s t a1 a2
    omega
theorem cnt_split (P Q : Nat → Bool) (n : Nat) : cnt (fun q => P q && Q q) n + cnt (fun q => P q && !Q q) n = cnt P n := by
  induction n with
  | zero => rfl
  | succ n ih =>
    show cnt _ n + (if (P n && Q n) = true then 1 else 0) + (cnt _ n + (if (P n && !Q n) = true then 1 else 0)) = cnt P n + (if P n = true then 1 else 0)
    rw [← ih]
    cases P n <;> cases Q n <;> simp <;> omega
/-- those of a set that an arc misses -/
def pM (M : Nat → Nat → Int32) (P : Nat → Bool) (i j k q : Nat) : Bool := P q && !hitB M i j k q
