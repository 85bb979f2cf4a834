/-! SPINS: the numbers -/
theorem I_mul {a b : Int32} (h1 : -2147483648 ≤ a.toInt * b.toInt) (h2 : a.toInt * b.toInt < 2147483648) : (a * b).toInt = a.toInt * b.toInt := by
  rw [Int32.toInt_mul]
  exact Int.bmod_eq_of_le (by omega) (by omega)
theorem I_sub {a b : Int32} (h1 : -2147483648 ≤ a.toInt - b.toInt) (h2 : a.toInt - b.toInt < 2147483648) : (a - b).toInt = a.toInt - b.toInt := by
  rw [Int32.toInt_sub]
  exact Int.bmod_eq_of_le (by omega) (by omega)
theorem I_add {a b : Int32} (h1 : -2147483648 ≤ a.toInt + b.toInt) (h2 : a.toInt + b.toInt < 2147483648) : (a + b).toInt = a.toInt + b.toInt := by
  rw [Int32.toInt_add]
  exact Int.bmod_eq_of_le (by omega) (by omega)
theorem I_neg {a : Int32} (h1 : -2147483648 < a.toInt) : (-a).toInt = -a.toInt := by
  rw [Int32.toInt_neg]
  have := Int32.toInt_lt a
  exact Int.bmod_eq_of_le (by omega) (by omega)
theorem I_le {a b : Int32} : a ≤ b ↔ a.toInt ≤ b.toInt := Int32.le_iff_toInt_le
theorem I_lt {a b : Int32} : a < b ↔ a.toInt < b.toInt := Int32.lt_iff_toInt_lt
theorem I_eq {a b : Int32} : a = b ↔ a.toInt = b.toInt := Int32.toInt_inj.symm
theorem nI_Z {n : Nat} (h : n < 2 ^ 31) : (nI n).toInt = (n : Int) := nI_toInt h
/-- the remainder as the machine has it -/
theorem tdiv360 (z : Int) : z.tdiv 360 = if 0 ≤ z then z / 360 else -((-z) / 360) := by
  by_cases h : 0 ≤ z
  · rw [if_pos h, Int.tdiv_eq_ediv_of_nonneg h]
  · rw [if_neg h, ← Int.tdiv_eq_ediv_of_nonneg (show 0 ≤ -z by omega), Int.neg_tdiv, Int.neg_neg]
theorem rem360 {x : Int32} : (x - x / 360 * 360).toInt = if 0 ≤ x.toInt then x.toInt % 360 else -((-x.toInt) % 360) := by
  have h0 := Int32.toInt_lt x
  have h1 := Int32.le_toInt x
  have e360 : (360 : Int32).toInt = 360 := by decide
  have hd : (x / 360).toInt = x.toInt.tdiv 360 := by
    rw [Int32.toInt_div, e360, tdiv360]
    refine Int.bmod_eq_of_le ?_ ?_ <;> split <;> omega
  rw [tdiv360] at hd
  have hm : (x / 360 * 360).toInt = (x / 360).toInt * 360 := by
    rw [I_mul (by rw [hd, e360]; split <;> omega) (by rw [hd, e360]; split <;> omega), e360]
  rw [I_sub (by rw [hm, hd]; split <;> omega) (by rw [hm, hd]; split <;> omega), hm, hd]
  split <;> omega
theorem xor_neg {x : Int32} : x ^^^ 360 < 0 ↔ x < 0 := by
  have key : ∀ y : Int32, y < 0 ↔ y.toBitVec.msb = true := by
    intro y
    rw [Int32.lt_iff_toBitVec_slt, show (0 : Int32).toBitVec = 0#32 from rfl, BitVec.slt_zero_iff_msb]
  rw [key, key, Int32.toBitVec_xor, BitVec.msb_xor, show (360 : Int32).toBitVec.msb = false by decide, Bool.xor_false]
def fitZ (M : Nat → Nat → Int32) (t b : Int) (k : Nat) : Bool := decide ((b + t * (M 0 k).toInt - (M 4 k).toInt + (M 5 k).toInt) % 360 ≤ 2 * (M 5 k).toInt)
def pF (M : Nat → Nat → Int32) (t b : Int) (k : Nat) : Bool := pK M k && fitZ M t b k
def ssc (M : Nat → Nat → Int32) (n : Nat) (t b : Int) : Nat := cnt (pF M t b) n
def ordT (t : Int) : Int := if 0 < t then 2 * t - 1 else -2 * t
def inR (t b : Int) : Prop := (-179 ≤ t ∧ t ≤ 180) ∧ 0 ≤ b ∧ b < 360
/-- one spin is as good as another or better -/
def spB (M : Nat → Nat → Int32) (n : Nat) (t b t' b' : Int) : Prop := ssc M n t' b' ≤ ssc M n t b ∧ (ssc M n t' b' = ssc M n t b → ordT t < ordT t' ∨ (t = t' ∧ b ≤ b'))
def spTo (M : Nat → Nat → Int32) (n : Nat) (o t b : Int) : Prop := inR t b ∧ ordT t < o ∧ ∀ t' b', inR t' b' → ordT t' < o → spB M n t b t' b'
def isSpin (M : Nat → Nat → Int32) (n : Nat) (t b : Int) : Prop := inR t b ∧ ∀ t' b', inR t' b' → spB M n t b t' b'
theorem isSpin.uniq {M : Nat → Nat → Int32} {n : Nat} {t b t' b' : Int} (h : isSpin M n t b) (h' : isSpin M n t' b') : t = t' ∧ b = b' := by
  obtain ⟨a1, a2⟩ := h
  obtain ⟨b1, b2⟩ := h'
  obtain ⟨c1, c2⟩ := a2 t' b' b1
  obtain ⟨d1, d2⟩ := b2 t b a1
  have e := Nat.le_antisymm c1 d1
  rcases c2 e with x | ⟨x1, x2⟩ <;> rcases d2 e.symm with y | ⟨y1, y2⟩
  · omega
  · subst y1; omega
  · subst x1; omega
  · exact ⟨x1, by omega⟩
theorem ordT_inj {t t' : Int} (h : ordT t = ordT t') : t = t' := by
  unfold ordT at h
  split at h <;> split at h <;> omega
/-- where a photo begins to fit -/
def stZ (M : Nat → Nat → Int32) (t : Int) (k : Nat) : Int := ((M 4 k).toInt - (M 5 k).toInt - t * (M 0 k).toInt) % 360
theorem fit_down {n : Nat} {M : Nat → Nat → Int32} (hv : vld n M) {t b : Int} {k : Nat} (hk : k < n) (h : fitZ M t b k = true) (hb : 0 < b) (hb2 : b < 360) (hs : ¬ b = stZ M t k) : fitZ M t (b - 1) k = true := by
  obtain ⟨-, -, -, -, ⟨a1, a2⟩, ⟨e1, e2⟩, -⟩ := hv.1 k hk
  unfold stZ at hs
  have h := of_decide_eq_true h
  refine decide_eq_true ?_
  generalize t * (M 0 k).toInt = x at *
  generalize (M 4 k).toInt = a at *
  generalize (M 5 k).toInt = e at *
  omega
/-- a beginning that is worth a try -/
def cd (M : Nat → Nat → Int32) (t : Int) (q : Nat) (c : Int) : Prop := c = 0 ∨ ∃ k, k < q ∧ pK M k = true ∧ c = stZ M t k
theorem cnt_mono {P Q : Nat → Bool} {n : Nat} (h : ∀ k, k < n → P k = true → Q k = true) : cnt P n ≤ cnt Q n := by
  induction n with
  | zero => exact Nat.le_refl _
  | succ n ih =>
    have h1 := ih fun k hk => h k (by omega)
    unfold cnt
    by_cases hp : P n = true
    · rw [if_pos hp, if_pos (h n (by omega) hp)]
      omega
    · rw [if_neg hp]
      split <;> omega
theorem cd_all {n : Nat} {M : Nat → Nat → Int32} (hv : vld n M) (t : Int) : ∀ d : Nat, d < 360 → ∃ c, cd M t n c ∧ 0 ≤ c ∧ c ≤ (d : Int) ∧ ssc M n t d ≤ ssc M n t c := by
  intro d
  induction d with
  | zero => intro _; exact ⟨0, Or.inl rfl, by omega, by omega, Nat.le_refl _⟩
  | succ d ih =>
    intro hd
    by_cases h : ∃ k, k < n ∧ pK M k = true ∧ ((d + 1 : Nat) : Int) = stZ M t k
    · exact ⟨((d + 1 : Nat) : Int), Or.inr h, by omega, by omega, Nat.le_refl _⟩
    · obtain ⟨c, c1, c2, c3, c4⟩ := ih (by omega)
      refine ⟨c, c1, c2, by omega, Nat.le_trans (cnt_mono fun k hk hp => ?_) c4⟩
      unfold pF at hp ⊢
      rw [Bool.and_eq_true] at hp ⊢
      refine ⟨hp.1, ?_⟩
      have := fit_down hv hk hp.2 (by omega) (by omega) (fun e => h ⟨k, hk, hp.1, e⟩)
      rw [show ((d + 1 : Nat) : Int) - 1 = (d : Int) by omega] at this
      exact this
/-- in the midst of a turn: the beginnings of q photos are tried -/
def spM (M : Nat → Nat → Int32) (n : Nat) (t : Int) (q : Nat) (T B : Int) : Prop := inR T B ∧ ordT T ≤ ordT t ∧ (∀ t' b', inR t' b' → ordT t' < ordT t → spB M n T B t' b') ∧ ∀ c, cd M t q c → spB M n T B t c
theorem spM.fin {M : Nat → Nat → Int32} {n : Nat} {t T B : Int} (hv : vld n M) (h : spM M n t n T B) : spTo M n (ordT t + 1) T B := by
  obtain ⟨h1, h2, h3, h4⟩ := h
  refine ⟨h1, by omega, fun t' b' hr ho => ?_⟩
  by_cases e : ordT t' < ordT t
  · exact h3 t' b' hr e
  · have e2 : t' = t := ordT_inj (by omega)
    subst e2
    obtain ⟨c, c1, c2, c3, c4⟩ := cd_all hv t' b'.toNat (by have := hr.2; omega)
    rw [show ((b'.toNat : Nat) : Int) = b' by have := hr.2; omega] at c3 c4
    obtain ⟨d1, d2⟩ := h4 c c1
    refine ⟨by omega, fun e3 => ?_⟩
    rcases d2 (by omega) with g | ⟨g1, g2⟩
    · exact Or.inl g
    · exact Or.inr ⟨g1, by omega⟩
/-- a beginning is tried, and taken -/
theorem spM.take {M : Nat → Nat → Int32} {n q q' : Nat} {t c T B : Int} (h : spM M n t q T B) (hr : inR t c) (hq : ∀ c', cd M t q' c' → cd M t q c' ∨ c' = c) (hw : ssc M n T B < ssc M n t c ∨ (ssc M n t c = ssc M n T B ∧ t = T ∧ c < B)) : spM M n t q' t c := by
  obtain ⟨h1, h2, h3, h4⟩ := h
  refine ⟨hr, Int.le_refl _, fun t' b' hr' ho => ?_, fun c' hc' => ?_⟩
  · obtain ⟨d1, d2⟩ := h3 t' b' hr' ho
    refine ⟨by omega, fun e => ?_⟩
    rcases hw with w | ⟨w1, w2, w3⟩
    · omega
    · subst w2
      rcases d2 (by omega) with g | ⟨g, -⟩
      · omega
      · subst g; omega
  · rcases hq c' hc' with g | g
    · obtain ⟨d1, d2⟩ := h4 c' g
      refine ⟨by omega, fun e => Or.inr ⟨rfl, ?_⟩⟩
      rcases hw with w | ⟨w1, w2, w3⟩
      · omega
      · subst w2
        rcases d2 (by omega) with g2 | ⟨-, g2⟩
        · omega
        · omega
    · subst g
      exact ⟨Nat.le_refl _, fun _ => Or.inr ⟨rfl, Int.le_refl _⟩⟩
/-- a beginning is tried, and not taken -/
theorem spM.pass {M : Nat → Nat → Int32} {n q q' : Nat} {t c T B : Int} (h : spM M n t q T B) (hq : ∀ c', cd M t q' c' → cd M t q c' ∨ c' = c) (hw : ¬ (ssc M n T B < ssc M n t c ∨ (ssc M n t c = ssc M n T B ∧ t = T ∧ c < B))) : spM M n t q' T B := by
  obtain ⟨h1, h2, h3, h4⟩ := h
  refine ⟨h1, h2, h3, fun c' hc' => ?_⟩
  rcases hq c' hc' with g | g
  · exact h4 c' g
  · subst g
    refine ⟨by omega, fun e => ?_⟩
    by_cases e2 : t = T
    · subst e2
      exact Or.inr ⟨rfl, by omega⟩
    · refine Or.inl ?_
      have : ¬ ordT T = ordT t := fun e3 => e2 (ordT_inj e3.symm)
      omega
theorem cd_next {M : Nat → Nat → Int32} {t : Int} {q : Nat} (c' : Int) (h : cd M t (q + 1) c') : cd M t q c' ∨ c' = stZ M t q := by
  rcases h with h | ⟨k, h1, h2, h3⟩
  · exact Or.inl (Or.inl h)
  · by_cases e : k = q
    · subst e; exact Or.inr h3
    · exact Or.inl (Or.inr ⟨k, by omega, h2, h3⟩)
theorem cd_skip {M : Nat → Nat → Int32} {t : Int} {q : Nat} (hp : ¬ pK M q = true) (c' : Int) (h : cd M t (q + 1) c') : cd M t q c' := by
  rcases h with h | ⟨k, h1, h2, h3⟩
  · exact Or.inl h
  · by_cases e : k = q
    · subst e; exact absurd h2 hp
    · exact Or.inr ⟨k, by omega, h2, h3⟩
theorem spM.skip {M : Nat → Nat → Int32} {n q : Nat} {t T B : Int} (h : spM M n t q T B) (hp : ¬ pK M q = true) : spM M n t (q + 1) T B := ⟨h.1, h.2.1, h.2.2.1, fun c hc => h.2.2.2 c (cd_skip hp c hc)⟩
theorem cd_0 {M : Nat → Nat → Int32} {t c : Int} (h : cd M t 0 c) : c = 0 := by
  rcases h with h | ⟨k, h1, -⟩
  · exact h
  · omega
/-- the first beginning of a turn -/
theorem spM.first_take {M : Nat → Nat → Int32} {n : Nat} {t T B : Int} (h : spTo M n (ordT t) T B) (ht : -179 ≤ t ∧ t ≤ 180) (hw : ssc M n T B < ssc M n t 0) : spM M n t 0 t 0 := by
  obtain ⟨h1, h2, h3⟩ := h
  refine ⟨⟨ht, by omega, by omega⟩, Int.le_refl _, fun t' b' hr ho => ?_, fun c hc => ?_⟩
  · obtain ⟨d1, d2⟩ := h3 t' b' hr ho
    exact ⟨by omega, fun e => by omega⟩
  · rw [cd_0 hc]
    exact ⟨Nat.le_refl _, fun _ => Or.inr ⟨rfl, Int.le_refl _⟩⟩
theorem spM.first_pass {M : Nat → Nat → Int32} {n : Nat} {t T B : Int} (h : spTo M n (ordT t) T B) (hw : ¬ ssc M n T B < ssc M n t 0) : spM M n t 0 T B := by
  obtain ⟨h1, h2, h3⟩ := h
  refine ⟨h1, by omega, h3, fun c hc => ?_⟩
  rw [cd_0 hc]
  exact ⟨by omega, fun _ => Or.inl h2⟩
theorem spM.zero {M : Nat → Nat → Int32} {n : Nat} : spM M n 0 0 0 0 := by
  refine ⟨⟨by omega, by omega, by omega⟩, Int.le_refl _, fun t' b' hr ho => ?_, fun c hc => ?_⟩
  · exfalso
    unfold ordT at ho
    split at ho <;> split at ho <;> omega
  · rw [cd_0 hc]
    exact ⟨Nat.le_refl _, fun _ => Or.inr ⟨rfl, Int.le_refl _⟩⟩
/-- when all fit, no later turn is better -/
theorem spTo.all {M : Nat → Nat → Int32} {n : Nat} {o T B : Int} (h : spTo M n o T B) (hf : mk (pF M T B) n = mk (pK M) n) : isSpin M n T B := by
  obtain ⟨h1, h2, h3⟩ := h
  refine ⟨h1, fun t' b' hr => ?_⟩
  by_cases e : ordT t' < o
  · exact h3 t' b' hr e
  · have hm : ssc M n T B = cnt (pK M) n := cnt_congr fun k hk => mk_iff.mp hf k hk
    have hle : ssc M n t' b' ≤ cnt (pK M) n := cnt_mono fun k _ hp => by
      unfold pF at hp
      rw [Bool.and_eq_true] at hp
      exact hp.1
    exact ⟨by omega, fun _ => Or.inl (by omega)⟩
theorem spTo.done {M : Nat → Nat → Int32} {n : Nat} {o T B : Int} (h : spTo M n o T B) (ho : 360 ≤ o) : isSpin M n T B := by
  obtain ⟨h1, h2, h3⟩ := h
  refine ⟨h1, fun t' b' hr => h3 t' b' hr ?_⟩
  obtain ⟨⟨r1, r2⟩, -⟩ := hr
  unfold ordT
  split <;> omega
theorem near_iff {r A e ap mn : Int32} {X : Int} (hr : r.toInt = X % 360) (hA : 0 ≤ A.toInt ∧ A.toInt < 360) (he : 0 ≤ e.toInt ∧ e.toInt ≤ 60) (hap : ap = if 0 ≤ r - A then r - A else 0 - (r - A)) (hmn : mn = if 360 - ap < ap then 360 - ap else ap) : mn ≤ e ↔ (X - A.toInt + e.toInt) % 360 ≤ 2 * e.toInt := by
  have e360 : (360 : Int32).toInt = 360 := by decide
  have e0 : (0 : Int32).toInt = 0 := by decide
  have h1 : (r - A).toInt = r.toInt - A.toInt := I_sub (by omega) (by omega)
  have h2 : ap.toInt = if 0 ≤ r.toInt - A.toInt then r.toInt - A.toInt else -(r.toInt - A.toInt) := by
    rw [hap]
    by_cases c : 0 ≤ r - A
    · rw [if_pos c, if_pos (by rw [I_le, e0, h1] at c; exact c), h1]
    · rw [if_neg c, if_neg (by rw [I_le, e0, h1] at c; exact c), I_sub (by omega) (by omega), e0, h1]
      omega
  have h4 : -1000 < ap.toInt ∧ ap.toInt < 1000 := by rw [h2]; split <;> omega
  have h3 : (360 - ap).toInt = 360 - ap.toInt := by rw [I_sub (by omega) (by omega), e360]
  have h5 : mn.toInt = if 360 - ap.toInt < ap.toInt then 360 - ap.toInt else ap.toInt := by
    rw [hmn]
    by_cases c : 360 - ap < ap
    · rw [if_pos c, if_pos (by rw [I_lt, h3] at c; exact c), h3]
    · rw [if_neg c, if_neg (by rw [I_lt, h3] at c; exact c)]
  rw [I_le, h5]
  clear h5 h3 hmn hap h1
  split at h2 <;> split <;> omega
theorem pK_A {n : Nat} {M : Nat → Nat → Int32} (hv : vld n M) {k : Nat} (hk : k < n) (h : pK M k = true) : 0 ≤ (M 4 k).toInt ∧ (M 4 k).toInt < 360 := by
  obtain ⟨-, -, -, -, ⟨a1, a2⟩, -⟩ := hv.1 k hk
  have h2 := (of_decide_eq_true h).2
  rw [I_eq, show (360 : Int32).toInt = 360 by decide] at h2
  omega
theorem sub_nI_pos {a b : Nat} (ha : a ≤ 10) (hb : b ≤ 10) : 0 < nI a - nI b ↔ b < a := by
  rw [I_lt, pk_sub_toInt (by omega) (by omega), show (0 : Int32).toInt = 0 by decide]
  omega
theorem sub_nI_0 {a b : Nat} (ha : a ≤ 10) (hb : b ≤ 10) : nI a - nI b = 0 ↔ a = b := by
  rw [I_eq, pk_sub_toInt (by omega) (by omega), show (0 : Int32).toInt = 0 by decide]
  omega
