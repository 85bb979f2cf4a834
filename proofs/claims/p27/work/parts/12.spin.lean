/-! SPINS: the numbers -/
theorem I_mul {a b : Int32} (h1 : -2147483648 ≤ a.toInt * b.toInt) (h2 : a.toInt * b.toInt < 2147483648) : (a * b).toInt = a.toInt * b.toInt := by
  rw [Int32.toInt_mul]
  exact Int.bmod_eq_of_le (by omega) (by omega)
theorem I_sub {a b : Int32} (h1 : -2147483648 ≤ a.toInt - b.toInt) (h2 : a.toInt - b.toInt < 2147483648) : (a - b).toInt = a.toInt - b.toInt := by
  rw [Int32.toInt_sub]
  exact Int.bmod_eq_of_le (by omega) (by omega)
theorem I_add {a b : Int32} (h1 : -2147483648 ≤ a.toInt + b.toInt) (h2 : a.toInt + b.toInt < 2147483648) : (a + b).toInt = a.toInt + b.toInt := by
  rw [Int32.toInt_add]
  exact Int.bmod_eq_of_le (by omega) (by omega)
theorem I_neg {a : Int32} (h1 : -2147483648 < a.toInt) : (-a).toInt = -a.toInt := by
  rw [Int32.toInt_neg]
  have := Int32.toInt_lt a
  exact Int.bmod_eq_of_le (by omega) (by omega)
theorem I_le {a b : Int32} : a ≤ b ↔ a.toInt ≤ b.toInt := Int32.le_iff_toInt_le
theorem I_lt {a b : Int32} : a < b ↔ a.toInt < b.toInt := Int32.lt_iff_toInt_lt
theorem I_eq {a b : Int32} : a = b ↔ a.toInt = b.toInt := Int32.toInt_inj.symm
theorem nI_Z {n : Nat} (h : n < 2 ^ 31) : (nI n).toInt = (n : Int) := nI_toInt h
/-- the remainder as the machine has it -/
theorem tdiv360 (z : Int) : z.tdiv 360 = if 0 ≤ z then z / 360 else -((-z) / 360) := by
  by_cases h : 0 ≤ z
  · rw [if_pos h, Int.tdiv_eq_ediv_of_nonneg h]
  · rw [if_neg h, ← Int.tdiv_eq_ediv_of_nonneg (show 0 ≤ -z by omega), Int.neg_tdiv, Int.neg_neg]
theorem rem360 {x : Int32} : (x - x / 360 * 360).toInt = if 0 ≤ x.toInt then x.toInt % 360 else -((-x.toInt) % 360) := by
  have h0 := Int32.toInt_lt x
  have h1 := Int32.le_toInt x
  have e360 : (360 : Int32).toInt = 360 := by decide
  have hd : (x / 360).toInt = x.toInt.tdiv 360 := by
    rw [Int32.toInt_div, e360, tdiv360]
    refine Int.bmod_eq_of_le ?_ ?_ <;> split <;> omega
  rw [tdiv360] at hd
  have hm : (x / 360 * 360).toInt = (x / 360).toInt * 360 := by
    rw [I_mul (by rw [hd, e360]; split <;> omega) (by rw [hd, e360]; split <;> omega), e360]
  rw [I_sub (by rw [hm, hd]; split <;> omega) (by rw [hm, hd]; split <;> omega), hm, hd]
  split <;> omega
theorem xor_neg {x : Int32} : x ^^^ 360 < 0 ↔ x < 0 := by
  have key : ∀ y : Int32, y < 0 ↔ y.toBitVec.msb = true := by
    intro y
    rw [Int32.lt_iff_toBitVec_slt, show (0 : Int32).toBitVec = 0#32 from rfl, BitVec.slt_zero_eq_msb]
  rw [key, key, Int32.toBitVec_xor, BitVec.msb_xor, show (360 : Int32).toBitVec.msb = false by decide, Bool.xor_false]
def fitZ (M : Nat → Nat → Int32) (t b : Int) (k : Nat) : Bool := decide ((b + t * (M 0 k).toInt - (M 4 k).toInt + (M 5 k).toInt) % 360 ≤ 2 * (M 5 k).toInt)
def pF (M : Nat → Nat → Int32) (t b : Int) (k : Nat) : Bool := pK M k && fitZ M t b k
def ssc (M : Nat → Nat → Int32) (n : Nat) (t b : Int) : Nat := cnt (pF M t b) n
def ordT (t : Int) : Int := if 0 < t then 2 * t - 1 else -2 * t
def inR (t b : Int) : Prop := (-179 ≤ t ∧ t ≤ 180) ∧ 0 ≤ b ∧ b < 360
/-- one spin is as good as another or better -/
def spB (M : Nat → Nat → Int32) (n : Nat) (t b t' b' : Int) : Prop := ssc M n t' b' ≤ ssc M n t b ∧ (ssc M n t' b' = ssc M n t b → ordT t < ordT t' ∨ (t = t' ∧ b ≤ b'))
def spTo (M : Nat → Nat → Int32) (n : Nat) (o t b : Int) : Prop := inR t b ∧ ordT t < o ∧ ∀ t' b', inR t' b' → ordT t' < o → spB M n t b t' b'
def isSpin (M : Nat → Nat → Int32) (n : Nat) (t b : Int) : Prop := inR t b ∧ ∀ t' b', inR t' b' → spB M n t b t' b'
theorem isSpin.uniq {M : Nat → Nat → Int32} {n : Nat} {t b t' b' : Int} (h : isSpin M n t b) (h' : isSpin M n t' b') : t = t' ∧ b = b' := by
  obtain ⟨a1, a2⟩ := h
  obtain ⟨b1, b2⟩ := h'
  obtain ⟨c1, c2⟩ := a2 t' b' b1
  obtain ⟨d1, d2⟩ := b2 t b a1
  have e := Nat.le_antisymm c1 d1
  rcases c2 e with x | ⟨x1, x2⟩ <;> rcases d2 e.symm with y | ⟨y1, y2⟩
  · omega
  · subst y1; omega
  · subst x1; omega
  · exact ⟨x1, by omega⟩
theorem ordT_inj {t t' : Int} (h : ordT t = ordT t') : t = t' := by
  unfold ordT at h
  split at h <;> split at h <;> omega
/-- where a photo begins to fit -/
def stZ (M : Nat → Nat → Int32) (t : Int) (k : Nat) : Int := ((M 4 k).toInt - (M 5 k).toInt - t * (M 0 k).toInt) % 360
theorem fit_down {n : Nat} {M : Nat → Nat → Int32} (hv : vld n M) {t b : Int} {k : Nat} (hk : k < n) (h : fitZ M t b k = true) (hb : 0 < b) (hb2 : b < 360) (hs : ¬ b = stZ M t k) : fitZ M t (b - 1) k = true := by
  obtain ⟨-, -, -, -, ⟨a1, a2⟩, ⟨e1, e2⟩, -⟩ := hv.1 k hk
  unfold stZ at hs
  have h := of_decide_eq_true h
  refine decide_eq_true ?_
  generalize t * (M 0 k).toInt = x at *
  generalize (M 4 k).toInt = a at *
  generalize (M 5 k).toInt = e at *
  omega
/-- a beginning that is worth a try -/
def cd (M : Nat → Nat → Int32) (t : Int) (q : Nat) (c : Int) : Prop := c = 0 ∨ ∃ k, k < q ∧ pK M k = true ∧ c = stZ M t k
theorem cnt_mono {P Q : Nat → Bool} {n : Nat} (h : ∀ k, k < n → P k = true → Q k = true) : cnt P n ≤ cnt Q n := by
  induction n with
  | zero => exact Nat.le_refl _
  | succ n ih =>
    have h1 := ih fun k hk => h k (by omega)
    unfold cnt
    by_cases hp : P n = true
    · rw [if_pos hp, if_pos (h n (by omega) hp)]
      omega
    · rw [if_neg hp]
      split <;> omega
theorem cd_all {n : Nat} {M : Nat → Nat → Int32} (hv : vld n M) (t : Int) : ∀ d : Nat, d < 360 → ∃ c, cd M t n c ∧ 0 ≤ c ∧ c ≤ (d : Int) ∧ ssc M n t d ≤ ssc M n t c := by
  intro d
  induction d with
  | zero => intro _; exact ⟨0, Or.inl rfl, by omega, by omega, Nat.le_refl _⟩
  | succ d ih =>
    intro hd
    by_cases h : ∃ k, k < n ∧ pK M k = true ∧ ((d + 1 : Nat) : Int) = stZ M t k
    · exact ⟨((d + 1 : Nat) : Int), Or.inr h, by omega, by omega, Nat.le_refl _⟩
    · obtain ⟨c, c1, c2, c3, c4⟩ := ih (by omega)
      refine ⟨c, c1, c2, by omega, Nat.le_trans (cnt_mono fun k hk hp => ?_) c4⟩
      unfold pF at hp ⊢
      rw [Bool.and_eq_true] at hp ⊢
      refine ⟨hp.1, ?_⟩
      have := fit_down hv hk hp.2 (by omega) (by omega) (fun e => h ⟨k, hk, hp.1, e⟩)
      rw [show ((d + 1 : Nat) : Int) - 1 = (d : Int) by omega] at this
      exact this
/-- in the midst of a turn: the beginnings of q photos are tried -/
def spM (M : Nat → Nat → Int32) (n : Nat) (t : Int) (q : Nat) (T B : Int) : Prop := inR T B ∧ ordT T ≤ ordT t ∧ (∀ t' b', inR t' b' → ordT t' < ordT t → spB M n T B t' b') ∧ ∀ c, cd M t q c → spB M n T B t c
theorem spM.fin {M : Nat → Nat → Int32} {n : Nat} {t T B : Int} (hv : vld n M) (h : spM M n t n T B) : spTo M n (ordT t + 1) T B := by
  obtain ⟨h1, h2, h3, h4⟩ := h
  refine ⟨h1, by omega, fun t' b' hr ho => ?_⟩
  by_cases e : ordT t' < ordT t
  · exact h3 t' b' hr e
  · have e2 : t' = t := ordT_inj (by omega)
    subst e2
    obtain ⟨c, c1, c2, c3, c4⟩ := cd_all hv t' b'.toNat (by have := hr.2; omega)
    rw [show ((b'.toNat : Nat) : Int) = b' by have := hr.2; omega] at c3 c4
    obtain ⟨d1, d2⟩ := h4 c c1
    refine ⟨by omega, fun e3 => ?_⟩
    rcases d2 (by omega) with g | ⟨g1, g2⟩
    · exact Or.inl g
    · exact Or.inr ⟨g1, by omega⟩
/-- a beginning is tried, and taken -/
theorem spM.take {M : Nat → Nat → Int32} {n q q' : Nat} {t c T B : Int} (h : spM M n t q T B) (hr : inR t c) (hq : ∀ c', cd M t q' c' → cd M t q c' ∨ c' = c) (hw : ssc M n T B < ssc M n t c ∨ (ssc M n t c = ssc M n T B ∧ t = T ∧ c < B)) : spM M n t q' t c := by
  obtain ⟨h1, h2, h3, h4⟩ := h
  refine ⟨hr, Int.le_refl _, fun t' b' hr' ho => ?_, fun c' hc' => ?_⟩
  · obtain ⟨d1, d2⟩ := h3 t' b' hr' ho
    refine ⟨by omega, fun e => ?_⟩
    rcases hw with w | ⟨w1, w2, w3⟩
    · omega
    · subst w2
      rcases d2 (by omega) with g | ⟨g, -⟩
      · omega
      · subst g; omega
  · rcases hq c' hc' with g | g
    · obtain ⟨d1, d2⟩ := h4 c' g
      refine ⟨by omega, fun e => Or.inr ⟨rfl, ?_⟩⟩
      rcases hw with w | ⟨w1, w2, w3⟩
      · omega
      · subst w2
        rcases d2 (by omega) with g2 | ⟨-, g2⟩
        · omega
        · omega
    · subst g
      exact ⟨Nat.le_refl _, fun _ => Or.inr ⟨rfl, Int.le_refl _⟩⟩
/-- a beginning is tried, and not taken -/
theorem spM.pass {M : Nat → Nat → Int32} {n q q' : Nat} {t c T B : Int} (h : spM M n t q T B) (hq : ∀ c', cd M t q' c' → cd M t q c' ∨ c' = c) (hw : ¬ (ssc M n T B < ssc M n t c ∨ (ssc M n t c = ssc M n T B ∧ t = T ∧ c < B))) : spM M n t q' T B := by
  obtain ⟨h1, h2, h3, h4⟩ := h
  refine ⟨h1, h2, h3, fun c' hc' => ?_⟩
  rcases hq c' hc' with g | g
  · exact h4 c' g
  · subst g
    refine ⟨by omega, fun e => ?_⟩
    by_cases e2 : t = T
    · subst e2
      exact Or.inr ⟨rfl, by omega⟩
    · refine Or.inl ?_
      have : ¬ ordT T = ordT t := fun e3 => e2 (ordT_inj e3.symm)
      omega
theorem cd_next {M : Nat → Nat → Int32} {t : Int} {q : Nat} (c' : Int) (h : cd M t (q + 1) c') : cd M t q c' ∨ c' = stZ M t q := by
  rcases h with h | ⟨k, h1, h2, h3⟩
  · exact Or.inl (Or.inl h)
  · by_cases e : k = q
    · subst e; exact Or.inr h3
    · exact Or.inl (Or.inr ⟨k, by omega, h2, h3⟩)
theorem cd_skip {M : Nat → Nat → Int32} {t : Int} {q : Nat} (hp : ¬ pK M q = true) (c' : Int) (h : cd M t (q + 1) c') : cd M t q c' := by
  rcases h with h | ⟨k, h1, h2, h3⟩
  · exact Or.inl h
  · by_cases e : k = q
    · subst e; exact absurd h2 hp
    · exact Or.inr ⟨k, by omega, h2, h3⟩
theorem spM.skip {M : Nat → Nat → Int32} {n q : Nat} {t T B : Int} (h : spM M n t q T B) (hp : ¬ pK M q = true) : spM M n t (q + 1) T B := ⟨h.1, h.2.1, h.2.2.1, fun c hc => h.2.2.2 c (cd_skip hp c hc)⟩
theorem cd_0 {M : Nat → Nat → Int32} {t c : Int} (h : cd M t 0 c) : c = 0 := by
  rcases h with h | ⟨k, h1, -⟩
  · exact h
  · omega
/-- the first beginning of a turn -/
theorem spM.first_take {M : Nat → Nat → Int32} {n : Nat} {t T B : Int} (h : spTo M n (ordT t) T B) (ht : -179 ≤ t ∧ t ≤ 180) (hw : ssc M n T B < ssc M n t 0) : spM M n t 0 t 0 := by
  obtain ⟨h1, h2, h3⟩ := h
  refine ⟨⟨ht, by omega, by omega⟩, Int.le_refl _, fun t' b' hr ho => ?_, fun c hc => ?_⟩
  · obtain ⟨d1, d2⟩ := h3 t' b' hr ho
    exact ⟨by omega, fun e => by omega⟩
  · rw [cd_0 hc]
    exact ⟨Nat.le_refl _, fun _ => Or.inr ⟨rfl, Int.le_refl _⟩⟩
theorem spM.first_pass {M : Nat → Nat → Int32} {n : Nat} {t T B : Int} (h : spTo M n (ordT t) T B) (hw : ¬ ssc M n T B < ssc M n t 0) : spM M n t 0 T B := by
  obtain ⟨h1, h2, h3⟩ := h
  refine ⟨h1, by omega, h3, fun c hc => ?_⟩
  rw [cd_0 hc]
  exact ⟨by omega, fun _ => Or.inl h2⟩
theorem spM.zero {M : Nat → Nat → Int32} {n : Nat} : spM M n 0 0 0 0 := by
  refine ⟨⟨by omega, by omega, by omega⟩, Int.le_refl _, fun t' b' hr ho => ?_, fun c hc => ?_⟩
  · exfalso
    unfold ordT at ho
    split at ho <;> split at ho <;> omega
  · rw [cd_0 hc]
    exact ⟨Nat.le_refl _, fun _ => Or.inr ⟨rfl, Int.le_refl _⟩⟩
/-- when all fit, no later turn is better -/
theorem spTo.all {M : Nat → Nat → Int32} {n : Nat} {o T B : Int} (h : spTo M n o T B) (hf : mk (pF M T B) n = mk (pK M) n) : isSpin M n T B := by
  obtain ⟨h1, h2, h3⟩ := h
  refine ⟨h1, fun t' b' hr => ?_⟩
  by_cases e : ordT t' < o
  · exact h3 t' b' hr e
  · have hm : ssc M n T B = cnt (pK M) n := cnt_congr fun k hk => mk_iff.mp hf k hk
    have hle : ssc M n t' b' ≤ cnt (pK M) n := cnt_mono fun k _ hp => by
      unfold pF at hp
      rw [Bool.and_eq_true] at hp
      exact hp.1
    exact ⟨by omega, fun _ => Or.inl (by omega)⟩
theorem spTo.done {M : Nat → Nat → Int32} {n : Nat} {o T B : Int} (h : spTo M n o T B) (ho : 360 ≤ o) : isSpin M n T B := by
  obtain ⟨h1, h2, h3⟩ := h
  refine ⟨h1, fun t' b' hr => h3 t' b' hr ?_⟩
  obtain ⟨⟨r1, r2⟩, -⟩ := hr
  unfold ordT
  split <;> omega
theorem near_iff {r A e ap mn : Int32} {X : Int} (hr : r.toInt = X % 360) (hA : 0 ≤ A.toInt ∧ A.toInt < 360) (he : 0 ≤ e.toInt ∧ e.toInt ≤ 60) (hap : ap = if 0 ≤ r - A then r - A else 0 - (r - A)) (hmn : mn = if 360 - ap < ap then 360 - ap else ap) : mn ≤ e ↔ (X - A.toInt + e.toInt) % 360 ≤ 2 * e.toInt := by
  have e360 : (360 : Int32).toInt = 360 := by decide
  have e0 : (0 : Int32).toInt = 0 := by decide
  have h1 : (r - A).toInt = r.toInt - A.toInt := I_sub (by omega) (by omega)
  have h2 : ap.toInt = if 0 ≤ r.toInt - A.toInt then r.toInt - A.toInt else -(r.toInt - A.toInt) := by
    rw [hap]
    by_cases c : 0 ≤ r - A
    · rw [if_pos c, if_pos (by rw [I_le, e0, h1] at c; exact c), h1]
    · rw [if_neg c, if_neg (by rw [I_le, e0, h1] at c; exact c), I_sub (by omega) (by omega), e0, h1]
      omega
  have h4 : -1000 < ap.toInt ∧ ap.toInt < 1000 := by rw [h2]; split <;> omega
  have h3 : (360 - ap).toInt = 360 - ap.toInt := by rw [I_sub (by omega) (by omega), e360]
  have h5 : mn.toInt = if 360 - ap.toInt < ap.toInt then 360 - ap.toInt else ap.toInt := by
    rw [hmn]
    by_cases c : 360 - ap < ap
    · rw [if_pos c, if_pos (by rw [I_lt, h3] at c; exact c), h3]
    · rw [if_neg c, if_neg (by rw [I_lt, h3] at c; exact c)]
  rw [I_le, h5]
  clear h5 h3 hmn hap h1
  split at h2 <;> split <;> omega
theorem pK_A {n : Nat} {M : Nat → Nat → Int32} (hv : vld n M) {k : Nat} (hk : k < n) (h : pK M k = true) : 0 ≤ (M 4 k).toInt ∧ (M 4 k).toInt < 360 := by
  obtain ⟨-, -, -, -, ⟨a1, a2⟩, -⟩ := hv.1 k hk
  have h2 := (of_decide_eq_true h).2
  rw [I_eq, show (360 : Int32).toInt = 360 by decide] at h2
  omega
theorem sub_nI_pos {a b : Nat} (ha : a ≤ 10) (hb : b ≤ 10) : 0 < nI a - nI b ↔ b < a := by
  rw [I_lt, pk_sub_toInt (by omega) (by omega), show (0 : Int32).toInt = 0 by decide]
  omega
theorem sub_nI_0 {a b : Nat} (ha : a ≤ 10) (hb : b ≤ 10) : nI a - nI b = 0 ↔ a = b := by
  rw [I_eq, pk_sub_toInt (by omega) (by omega), show (0 : Int32).toInt = 0 by decide]
  omega
/-! SPIN: the class's turning at the place 64 -/
/-- a contract out of a walk, of a member that the machine has no entry for, of a class that has entries -/
theorem x_metF {l : Launch} {y : MethodName} {ws ws' : List Cond} {rm : Room} {cc : ByteArray} {nL : Nat} {ret : Option FieldType} {g : xG} {av : List Value} {E : Nat → va_E} {Qc : Array Value → State → Outcome → State → Prop} {free : Addr → Prop} (hy : plainFor y = true) (hw : ws = Cond.code y cc nL ret :: ws') (hn : (lg_sl av).length ≤ nL)
    (body : ∀ (p : Program) (e : Env) (s : State) (m : MethodId) (below : List Frame) (meth : Method) (c : Code) (ls : Array Slot), CallFix p m c cc nL s av.toArray ws y.cls → meth.sig.returnType = ret → meth.locks = false → xP g E s.heap → xK g s → lv_has ls nL (lv_args 0 av) →
      W p l e rm s m av.toArray below meth c s.heap [] 0 0 (MQ below Qc av.toArray s 0 0 free) (F0 m 0 ls [])) : Met l y ws rm (xPc g av E) Qc 0 0 free := by
  refine va_MetF (cc := cc) (maxL := nL) (ret := ret) hy hw ?_
  intro p e s m args below meth c s₁ B hml hv
  obtain ⟨rfl, hP, hK⟩ := hv
  rw [lg_entry_eq]
  exact body p e s m below meth c _ ⟨B.exec, B.bytes, hml, findClass_of_methodNamed B.named, atoms_spec (ws := ws) B.pre⟩ B.returns B.notSynchronized hP hK (lv_entry av hn)
theorem fm_neg {x y : Int32} (h : y = x - x / 360 * 360) (h1 : ¬ 0 ≤ x ^^^ 360) (h2 : ¬ y = 0) : (y + 360).toInt = x.toInt % 360 := by
  have hx : x < 0 := xor_neg.mp (Int32.not_le.mp h1)
  have e0 : (0 : Int32).toInt = 0 := by decide
  have e360 : (360 : Int32).toInt = 360 := by decide
  rw [I_lt, e0] at hx
  have hy : y.toInt = -((-x.toInt) % 360) := by rw [h, rem360, if_neg (by omega)]
  rw [I_eq, e0] at h2
  rw [I_add (by omega) (by omega), e360]
  omega
theorem fm_pos {x y : Int32} (h : y = x - x / 360 * 360) (h1 : 0 ≤ x ^^^ 360) : y.toInt = x.toInt % 360 := by
  have hx : ¬ x < 0 := fun g => absurd (xor_neg.mpr g) (Int32.not_lt.mpr h1)
  have e0 : (0 : Int32).toInt = 0 := by decide
  rw [I_lt, e0] at hx
  rw [h, rem360, if_pos (by omega)]
theorem fm_zero {x y : Int32} (h : y = x - x / 360 * 360) (h2 : y = 0) : y.toInt = x.toInt % 360 := by
  have e0 : (0 : Int32).toInt = 0 := by decide
  have h3 : y.toInt = 0 := by rw [h2]; exact e0
  rw [h3]
  rw [h, rem360] at h3
  split at h3 <;> omega
set_option maxHeartbeats 4000000 in
set_option maxRecDepth 100000 in
theorem c_J9_floorMod_7cf53 (l : Launch) (g : xG) (E : Nat → va_E) (x : Int32) : Met l yJ9_floorMod_7cf53 wsJ9_floorMod_7cf53 ({ frames := 0, cells := 0, slots := 0, locals := 0 }) (xPc g [.int x, .int 360] E) (vp_Si (fun r => r.toInt = x.toInt % 360)) 0 0 (fun _ => False) := by
  refine x_metF (ws' := _) (by decide +kernel) rfl (Nat.le_of_ble_eq_true rfl) ?_
  intro pz ez s m below meth cz ls S hr hlocks hP hK hl
  have hl : lv_has ls 3 [(0, .int x), (1, .int 360)] := hl
  refine lv_iload_n S.1 S.2.1 dJ9_floorMod_7cf53_0 rfl (lv_at hl 0 rfl) ?_
  refine lv_iload_n S.1 S.2.1 dJ9_floorMod_7cf53_1 rfl (lv_at hl 1 rfl) ?_
  refine lv_irem S.1 S.2.1 dJ9_floorMod_7cf53_2 (by decide) ?_
  refine lv_topi (fun x3 ex3 => ?_)
  refine lv_istore_n (lv' := [(2, .int x3), (0, .int x), (1, .int 360)]) S.1 S.2.1 dJ9_floorMod_7cf53_3 rfl hl (by decide) rfl (fun ls hl => ?_)
  refine lv_iload_n S.1 S.2.1 dJ9_floorMod_7cf53_4 rfl (lv_at hl 1 rfl) ?_
  refine lv_iload_n S.1 S.2.1 dJ9_floorMod_7cf53_5 rfl (lv_at hl 2 rfl) ?_
  refine lv_ixor S.1 S.2.1 dJ9_floorMod_7cf53_6 ?_
  refine lv_if_ge (tgt := 18) S.1 S.2.1 dJ9_floorMod_7cf53_7 (by decide) (fun c7 => ?_) (fun c7 => ?_)
  · skip
    refine lv_iload_n S.1 S.2.1 dJ9_floorMod_7cf53_18 rfl (lv_at hl 0 rfl) ?_
    exact x_iretR S hr hlocks dJ9_floorMod_7cf53_19 (by first | exact fm_pos ex3 c7 | exact fm_zero ex3 c11)
  · skip
    refine lv_iload_n S.1 S.2.1 dJ9_floorMod_7cf53_10 rfl (lv_at hl 0 rfl) ?_
    refine lv_if_eq (tgt := 18) S.1 S.2.1 dJ9_floorMod_7cf53_11 (by decide) (fun c11 => ?_) (fun c11 => ?_)
    · skip
      refine lv_iload_n S.1 S.2.1 dJ9_floorMod_7cf53_18 rfl (lv_at hl 0 rfl) ?_
      exact x_iretR S hr hlocks dJ9_floorMod_7cf53_19 (by first | exact fm_pos ex3 c7 | exact fm_zero ex3 c11)
    · skip
      refine lv_iload_n S.1 S.2.1 dJ9_floorMod_7cf53_14 rfl (lv_at hl 0 rfl) ?_
      refine lv_iload_n S.1 S.2.1 dJ9_floorMod_7cf53_15 rfl (lv_at hl 2 rfl) ?_
      refine lv_iadd S.1 S.2.1 dJ9_floorMod_7cf53_16 ?_
      exact x_iretR S hr hlocks dJ9_floorMod_7cf53_17 (fm_neg ex3 c7 c11)
theorem ang_arg {t b u : Int32} (ht : -180 ≤ t.toInt ∧ t.toInt ≤ 180) (hb : -100 ≤ b.toInt ∧ b.toInt ≤ 360) (hu : 0 ≤ u.toInt ∧ u.toInt ≤ 99) : (b + t * u).toInt = b.toInt + t.toInt * u.toInt := by
  have g := prod_bound (a := t.toInt) (b := u.toInt) (B := 180) (C := 99) (by omega) (by omega) (by omega) (by omega)
  have h := I_mul (a := t) (b := u) (by omega) (by omega)
  rw [I_add (by omega) (by omega), h]
set_option maxHeartbeats 4000000 in
set_option maxRecDepth 100000 in
theorem c_X3_angleOf (l : Launch) (g : xG) (E : Nat → va_E) {t b u : Int32} (ht : -180 ≤ t.toInt ∧ t.toInt ≤ 180) (hb : -100 ≤ b.toInt ∧ b.toInt ≤ 360) (hu : 0 ≤ u.toInt ∧ u.toInt ≤ 99) : Met l yX3_angleOf wsX3_angleOf ({ frames := 1, cells := 0, slots := 0, locals := 22 }) (xPc g [.int t, .int b, .int u] E) (vp_Si (fun r => r.toInt = (b.toInt + t.toInt * u.toInt) % 360)) 0 0 (fun _ => False) := by
  refine x_met (ws' := _) (by decide) rfl (Nat.le_of_ble_eq_true rfl) ?_
  intro pz ez s m below meth cz ls S hr hlocks hP hK hl
  have hl : lv_has ls 3 [(0, .int t), (1, .int b), (2, .int u)] := hl
  refine lv_iload_n S.1 S.2.1 dX3_angleOf_0 rfl (lv_at hl 1 rfl) ?_
  refine lv_iload_n S.1 S.2.1 dX3_angleOf_1 rfl (lv_at hl 0 rfl) ?_
  refine lv_iload_n S.1 S.2.1 dX3_angleOf_2 rfl (lv_at hl 2 rfl) ?_
  refine lv_imul S.1 S.2.1 dX3_angleOf_3 ?_
  refine lv_iadd S.1 S.2.1 dX3_angleOf_4 ?_
  refine lv_sipush (v := 360) S.1 S.2.1 dX3_angleOf_5 (by decide) ?_
  refine x_si (va_runS (As := [.int (b + (t * u)), .int 360]) (rest := []) S (c_J9_floorMod_7cf53 l g E (b + t * u)) (va_cwS 2 S.2.2.2.2 gX3_angleOf_J9_floorMod_7cf53 rfl rfl rfl (by decide +kernel) ⟨Nat.le_of_ble_eq_true rfl, Nat.le_of_ble_eq_true rfl⟩) (x_preS hK hP) rfl rfl hl.1 rfl (lv_room (Nat.le_of_ble_eq_true rfl)) dX3_angleOf_8 ⟨Nat.le_of_ble_eq_true rfl, Nat.le_of_ble_eq_true rfl⟩) (fun r8 hr8 => ?_)
  exact x_iretR S hr hlocks dX3_angleOf_11 (by rw [hr8, ang_arg ht hb hu])
set_option maxHeartbeats 4000000 in
set_option maxRecDepth 100000 in
theorem c_X3_isNear (l : Launch) (g : xG) (E : Nat → va_E) {T B F : Int32} (hZ : E 64 = .inr (3, [.ref (xad g 1), .int T, .int B, .int F])) {n : Nat} {M : Nat → Nat → Int32} (hp : ePh g E 1 n M) (hv : vld n M) {t b : Int32} (ht : -179 ≤ t.toInt ∧ t.toInt ≤ 180) (hb : 0 ≤ b.toInt ∧ b.toInt < 360) {k : Nat} (hk : k < n) (hm : pK M k = true) : Met l yX3_isNear wsX3_isNear ({ frames := 2, cells := 0, slots := 0, locals := 44 }) (xPc g [.ref (xad g 64), .int (nI k), .int t, .int b] E) (vp_Si (xb (fitZ M t.toInt b.toInt k = true))) 0 0 (fun _ => False) := by
  refine x_met (ws' := _) (by decide) rfl (Nat.le_of_ble_eq_true rfl) ?_
  intro pz ez s m below meth cz ls S hr hlocks hP hK hl
  have hl : lv_has ls 6 [(0, .ref (xad g 64)), (1, .int (nI k)), (2, .int t), (3, .int b)] := hl
  have hin2 : ∀ w ∈ u_ws RX2 TX2 2, w ∈ wsX3_isNear := by decide +kernel
  have hin3 : ∀ w ∈ u_ws RX3 TX3 4, w ∈ wsX3_isNear := by decide +kernel
  have fl9 : Cond.fieldLink RX3 9 "DiscArcs$Spin" "photos" "LDiscArcs$Photos;" ∈ wsX3_isNear := by decide +kernel
  have fl35 : Cond.fieldLink RX3 35 "DiscArcs$Photos" "rows" "[[I" ∈ wsX3_isNear := by decide +kernel
  have h0 := hp.1
  refine lv_iload_n S.1 S.2.1 dX3_isNear_0 rfl (lv_at hl 2 rfl) ?_
  refine lv_iload_n S.1 S.2.1 dX3_isNear_1 rfl (lv_at hl 3 rfl) ?_
  refine lv_aload_n S.1 S.2.1 dX3_isNear_2 rfl (lv_at hl 0 rfl) ?_
  refine x_get S hK hP dX3_isNear_3 hZ (by decide) (RX3, TX3, 4) rfl hin3 0 (by decide) fl9 rfl ?_
  refine x_get S hK hP dX3_isNear_6 hp.2.1 (by decide) (RX2, TX2, 2) rfl hin2 0 (by decide) fl35 rfl ?_
  refine lv_iconst (v := 0) S.1 S.2.1 dX3_isNear_9 (by decide) ?_
  refine x_row S hK hP dX3_isNear_10 hp 0 rfl (by omega) ?_
  refine lv_iload_n S.1 S.2.1 dX3_isNear_11 rfl (lv_at hl 1 rfl) ?_
  refine x_val S hK hP dX3_isNear_12 hp (w := 0) k rfl (by omega) (by omega) ?_
  refine x_si (va_runS (As := [.int t, .int b, .int (M 0 k)]) (rest := []) S (c_X3_angleOf l g E (t := t) (b := b) (by omega) (by omega) (hv.1 k hk).1) (va_cwS 3 S.2.2.2.2 gX3_isNear_X3_angleOf rfl rfl rfl (by decide +kernel) ⟨Nat.le_of_ble_eq_true rfl, Nat.le_of_ble_eq_true rfl⟩) (x_preS hK hP) rfl rfl hl.1 rfl (lv_room (Nat.le_of_ble_eq_true rfl)) dX3_isNear_13 ⟨Nat.le_of_ble_eq_true rfl, Nat.le_of_ble_eq_true rfl⟩) (fun r13 hr13 => ?_)
  refine lv_istore (lv' := [(4, .int r13), (0, .ref (xad g 64)), (1, .int (nI k)), (2, .int t), (3, .int b)]) S.1 S.2.1 dX3_isNear_16 hl (by decide) rfl (fun ls hl => ?_)
  refine lv_iload S.1 S.2.1 dX3_isNear_18 (lv_at hl 0 rfl) ?_
  refine lv_aload_n S.1 S.2.1 dX3_isNear_20 rfl (lv_at hl 1 rfl) ?_
  refine x_get S hK hP dX3_isNear_21 hZ (by decide) (RX3, TX3, 4) rfl hin3 0 (by decide) fl9 rfl ?_
  refine x_get S hK hP dX3_isNear_24 hp.2.1 (by decide) (RX2, TX2, 2) rfl hin2 0 (by decide) fl35 rfl ?_
  refine lv_iconst (v := 4) S.1 S.2.1 dX3_isNear_27 (by decide) ?_
  refine x_row S hK hP dX3_isNear_28 hp 4 rfl (by omega) ?_
  refine lv_iload_n S.1 S.2.1 dX3_isNear_29 rfl (lv_at hl 2 rfl) ?_
  refine x_val S hK hP dX3_isNear_30 hp (w := 4) k rfl (by omega) (by omega) ?_
  refine lv_isub S.1 S.2.1 dX3_isNear_31 ?_
  refine va_mabs S.1 S.2.1 (by rw [S.2.2.1]; exact hl.1.symm) S.2.2.2.1 (S.2.2.2.2 (.methodLink RX3 43 Lib.Math.abs.name) (by decide +kernel)) (S.2.2.2.2 (.static Lib.Math.abs.name) (by decide +kernel)) (S.2.2.2.2 (.initialized "java/lang/Math") (by decide +kernel)) (S.2.2.2.2 (.code Lib.Math.abs.name Lib.Math.abs.code 1 (some .int)) (by decide +kernel)) (Nat.le_of_ble_eq_true rfl) (Nat.le_of_ble_eq_true rfl) (Nat.le_of_ble_eq_true rfl) (Nat.le_of_ble_eq_true rfl) dX3_isNear_32 ?_
  refine lv_topi (fun x35 ex35 => ?_)
  refine lv_istore (lv' := [(5, .int x35), (4, .int r13), (0, .ref (xad g 64)), (1, .int (nI k)), (2, .int t), (3, .int b)]) S.1 S.2.1 dX3_isNear_35 hl (by decide) rfl (fun ls hl => ?_)
  refine lv_iload S.1 S.2.1 dX3_isNear_37 (lv_at hl 0 rfl) ?_
  refine lv_sipush (v := 360) S.1 S.2.1 dX3_isNear_39 (by decide) ?_
  refine lv_iload S.1 S.2.1 dX3_isNear_42 (lv_at hl 0 rfl) ?_
  refine lv_isub S.1 S.2.1 dX3_isNear_44 ?_
  refine va_mmin S.1 S.2.1 (by rw [S.2.2.1]; exact hl.1.symm) S.2.2.2.1 (S.2.2.2.2 (.methodLink RX3 47 Lib.Math.min.name) (by decide +kernel)) (S.2.2.2.2 (.static Lib.Math.min.name) (by decide +kernel)) (S.2.2.2.2 (.initialized "java/lang/Math") (by decide +kernel)) (S.2.2.2.2 (.code Lib.Math.min.name Lib.Math.min.code 2 (some .int)) (by decide +kernel)) (Nat.le_of_ble_eq_true rfl) (Nat.le_of_ble_eq_true rfl) (Nat.le_of_ble_eq_true rfl) (Nat.le_of_ble_eq_true rfl) dX3_isNear_45 ?_
  refine lv_aload_n S.1 S.2.1 dX3_isNear_48 rfl (lv_at hl 2 rfl) ?_
  refine x_get S hK hP dX3_isNear_49 hZ (by decide) (RX3, TX3, 4) rfl hin3 0 (by decide) fl9 rfl ?_
  refine x_get S hK hP dX3_isNear_52 hp.2.1 (by decide) (RX2, TX2, 2) rfl hin2 0 (by decide) fl35 rfl ?_
  refine lv_iconst (v := 5) S.1 S.2.1 dX3_isNear_55 (by decide) ?_
  refine x_row S hK hP dX3_isNear_56 hp 5 rfl (by omega) ?_
  refine lv_iload_n S.1 S.2.1 dX3_isNear_57 rfl (lv_at hl 3 rfl) ?_
  refine x_val S hK hP dX3_isNear_58 hp (w := 5) k rfl (by omega) (by omega) ?_
  refine lv_icmp_gt (tgt := 66) S.1 S.2.1 dX3_isNear_59 (by decide) (fun c59 => ?_) (fun c59 => ?_)
  · skip
    refine lv_iconst (v := 0) S.1 S.2.1 dX3_isNear_66 (by decide) ?_
    exact x_zretR S hr hlocks dX3_isNear_67 (xb.zero (fun h => absurd c59 (Int32.not_lt.mpr ((near_iff hr13 (pK_A hv hk hm) (hv.1 k hk).2.2.2.2.2.1 ex35 rfl).mpr (of_decide_eq_true h)))))
  · skip
    refine lv_iconst (v := 1) S.1 S.2.1 dX3_isNear_62 (by decide) ?_
    refine lv_goto (tgt := 67) S.1 S.2.1 dX3_isNear_63 (by decide) ?_
    exact x_zretR S hr hlocks dX3_isNear_67 (xb.one (decide_eq_true ((near_iff hr13 (pK_A hv hk hm) (hv.1 k hk).2.2.2.2.2.1 ex35 rfl).mp (Int32.not_lt.mp c59))))
theorem pF_t {M : Nat → Nat → Int32} {t b : Int} {k : Nat} (h : pF M t b k = true) : pK M k = true ∧ fitZ M t b k = true := by
  unfold pF at h
  rw [Bool.and_eq_true] at h
  exact h
theorem pF_of {M : Nat → Nat → Int32} {t b : Int} {k : Nat} (h1 : pK M k = true) (h2 : fitZ M t b k = true) : pF M t b k = true := by
  unfold pF
  rw [h1, h2]
  rfl
set_option maxHeartbeats 4000000 in
set_option maxRecDepth 100000 in
theorem c_X3_fittedBy (l : Launch) (g : xG) (E : Nat → va_E) {T B F : Int32} (hZ : E 64 = .inr (3, [.ref (xad g 1), .int T, .int B, .int F])) {n : Nat} {M : Nat → Nat → Int32} (hp : ePh g E 1 n M) (hv : vld n M) {t b : Int32} (ht : -179 ≤ t.toInt ∧ t.toInt ≤ 180) (hb : 0 ≤ b.toInt ∧ b.toInt < 360)  : Met l yX3_fittedBy wsX3_fittedBy ({ frames := 3, cells := 0, slots := 0, locals := 69 }) (xPc g [.ref (xad g 64), .int t, .int b] E) (vp_Si (fun r => r = nI (mk (pF M t.toInt b.toInt) n))) 0 0 (fun _ => False) := by
  refine x_met (ws' := _) (by decide) rfl (Nat.le_of_ble_eq_true rfl) ?_
  intro pz ez s m below meth cz ls S hr hlocks hP hK hl
  have hl : lv_has ls 5 [(0, .ref (xad g 64)), (1, .int t), (2, .int b)] := hl
  have hin2 : ∀ w ∈ u_ws RX2 TX2 2, w ∈ wsX3_fittedBy := by decide +kernel
  have hin3 : ∀ w ∈ u_ws RX3 TX3 4, w ∈ wsX3_fittedBy := by decide +kernel
  have fl9 : Cond.fieldLink RX3 9 "DiscArcs$Spin" "photos" "LDiscArcs$Photos;" ∈ wsX3_fittedBy := by decide +kernel
  have fl21 : Cond.fieldLink RX3 21 "DiscArcs$Photos" "size" "I" ∈ wsX3_fittedBy := by decide +kernel
  have h0 := hp.1
  refine lv_iconst (v := 0) S.1 S.2.1 dX3_fittedBy_0 (by decide) ?_
  refine lv_istore_n (lv' := [(3, .int 0), (0, .ref (xad g 64)), (1, .int t), (2, .int b)]) S.1 S.2.1 dX3_fittedBy_1 rfl hl (by decide) rfl (fun ls hl => ?_)
  refine lv_iconst (v := 0) S.1 S.2.1 dX3_fittedBy_2 (by decide) ?_
  refine lv_istore (lv' := [(4, .int 0), (3, .int 0), (0, .ref (xad g 64)), (1, .int t), (2, .int b)]) S.1 S.2.1 dX3_fittedBy_3 hl (by decide) rfl (fun ls hl => ?_)
  have loop5 : ∀ (d : Nat) (q : Nat), (hq : q ≤ n) → (n - q) < d → ∀ ls : Array Slot, lv_has ls 5 [(4, .int (nI q)), (3, .int (nI (mk (pF M t.toInt b.toInt) q))), (2, .int b), (1, .int t), (0, .ref (xad g 64))] → W pz l ez ({ frames := 3, cells := 0, slots := 0, locals := 69 }) s m ([.ref (xad g 64), .int t, .int b] : List Value).toArray below meth cz s.heap [] 0 0 (MQ below (vp_Si (fun r => r = nI (mk (pF M t.toInt b.toInt) n))) ([.ref (xad g 64), .int t, .int b] : List Value).toArray s 0 0 (fun _ => False)) (F0 m 5 ls []) := by
    intro d
    induction d with
    | zero => intro q hq hd; exact absurd hd (Nat.not_lt_zero _)
    | succ d ih5 =>
      intro q hq hd ls hl
      refine lv_iload S.1 S.2.1 dX3_fittedBy_5 (lv_at hl 0 rfl) ?_
      refine lv_aload_n S.1 S.2.1 dX3_fittedBy_7 rfl (lv_at hl 4 rfl) ?_
      refine x_get S hK hP dX3_fittedBy_8 hZ (by decide) (RX3, TX3, 4) rfl hin3 0 (by decide) fl9 rfl ?_
      refine x_get S hK hP dX3_fittedBy_11 hp.2.1 (by decide) (RX2, TX2, 2) rfl hin2 1 (by decide) fl21 rfl ?_
      refine lv_icmp_ge (tgt := 53) S.1 S.2.1 dX3_fittedBy_14 (by decide) (fun c14 => ?_) (fun c14 => ?_)
      · skip
        refine lv_iload_n S.1 S.2.1 dX3_fittedBy_53 rfl (lv_at hl 1 rfl) ?_
        exact x_iretR S hr hlocks dX3_fittedBy_54 (by rw [show q = n from Nat.le_antisymm hq ((nI_leI (by omega) (by omega)).mp c14)])
      · skip
        have hqn : q < n := (Nat.not_le.mp (fun h => c14 ((nI_leI (by omega) (by omega)).mpr h)))
        refine lv_aload_n S.1 S.2.1 dX3_fittedBy_17 rfl (lv_at hl 4 rfl) ?_
        refine x_get S hK hP dX3_fittedBy_18 hZ (by decide) (RX3, TX3, 4) rfl hin3 0 (by decide) fl9 rfl ?_
        refine lv_iload S.1 S.2.1 dX3_fittedBy_21 (lv_at hl 0 rfl) ?_
        refine x_si (va_runV (As := [.int (nI q)]) (rest := []) S (c_X2_isMarked l g E hp hqn) (cwV 1 S.2.2.2.2 gX3_fittedBy_X2_isMarked rfl rfl rfl (by decide +kernel) ⟨Nat.le_of_ble_eq_true rfl, Nat.le_of_ble_eq_true rfl⟩) (x_preV hK hP hp.2.1 (by decide) rfl) rfl rfl hl.1 rfl (lv_room (Nat.le_of_ble_eq_true rfl)) dX3_fittedBy_23 ⟨Nat.le_of_ble_eq_true rfl, Nat.le_of_ble_eq_true rfl⟩) (fun r23 hr23 => ?_)
        refine lv_if_eq (tgt := 47) S.1 S.2.1 dX3_fittedBy_26 (by decide) (fun c26 => ?_) (fun c26 => ?_)
        · skip
          have hQ : ¬ (pF M t.toInt b.toInt) q = true := by
            first
            | exact fun h => hr34.f c37 (pF_t h).2
            | exact fun h => hr23.f c26 (pF_t h).1
          have e47 := mk_skip (P := pF M t.toInt b.toInt) hQ
          rw [e47] at hl
          refine lv_iinc (v := nI (q + 1)) (lv' := [(4, .int (nI (q + 1))), (3, .int (nI (mk (pF M t.toInt b.toInt) (q + 1)))), (2, .int b), (1, .int t), (0, .ref (xad g 64))]) S.1 S.2.1 dX3_fittedBy_47 hl (k := 0) rfl (show nI q + Int32.ofInt 1 = _ from nI_1 _) (by decide) rfl (fun ls hl => ?_)
          refine lv_goto (tgt := 5) S.1 S.2.1 dX3_fittedBy_50 (by decide) ?_
          exact ih5 (q + 1) (by omega) (by omega) ls (lv_sub hl [0, 1, 2, 3, 4] rfl)
        · skip
          refine lv_aload_n S.1 S.2.1 dX3_fittedBy_29 rfl (lv_at hl 4 rfl) ?_
          refine lv_iload S.1 S.2.1 dX3_fittedBy_30 (lv_at hl 0 rfl) ?_
          refine lv_iload_n S.1 S.2.1 dX3_fittedBy_32 rfl (lv_at hl 3 rfl) ?_
          refine lv_iload_n S.1 S.2.1 dX3_fittedBy_33 rfl (lv_at hl 2 rfl) ?_
          refine x_si (va_runV (As := [.int (nI q), .int t, .int b]) (rest := []) S (c_X3_isNear l g E hZ hp hv ht hb hqn (hr23.t c26)) (cwV 3 S.2.2.2.2 gX3_fittedBy_X3_isNear rfl rfl rfl (by decide +kernel) ⟨Nat.le_of_ble_eq_true rfl, Nat.le_of_ble_eq_true rfl⟩) (x_preV hK hP hZ (by decide) rfl) rfl rfl hl.1 rfl (lv_room (Nat.le_of_ble_eq_true rfl)) dX3_fittedBy_34 ⟨Nat.le_of_ble_eq_true rfl, Nat.le_of_ble_eq_true rfl⟩) (fun r34 hr34 => ?_)
          refine lv_if_eq (tgt := 47) S.1 S.2.1 dX3_fittedBy_37 (by decide) (fun c37 => ?_) (fun c37 => ?_)
          · skip
            have hQ : ¬ (pF M t.toInt b.toInt) q = true := by
              first
              | exact fun h => hr34.f c37 (pF_t h).2
              | exact fun h => hr23.f c26 (pF_t h).1
            have e47 := mk_skip (P := pF M t.toInt b.toInt) hQ
            rw [e47] at hl
            refine lv_iinc (v := nI (q + 1)) (lv' := [(4, .int (nI (q + 1))), (3, .int (nI (mk (pF M t.toInt b.toInt) (q + 1)))), (2, .int b), (1, .int t), (0, .ref (xad g 64))]) S.1 S.2.1 dX3_fittedBy_47 hl (k := 0) rfl (show nI q + Int32.ofInt 1 = _ from nI_1 _) (by decide) rfl (fun ls hl => ?_)
            refine lv_goto (tgt := 5) S.1 S.2.1 dX3_fittedBy_50 (by decide) ?_
            exact ih5 (q + 1) (by omega) (by omega) ls (lv_sub hl [0, 1, 2, 3, 4] rfl)
          · skip
            refine lv_iload_n S.1 S.2.1 dX3_fittedBy_40 rfl (lv_at hl 1 rfl) ?_
            refine lv_iconst (v := 1) S.1 S.2.1 dX3_fittedBy_41 (by decide) ?_
            refine lv_iload S.1 S.2.1 dX3_fittedBy_42 (lv_at hl 0 rfl) ?_
            refine lv_ishl S.1 S.2.1 dX3_fittedBy_44 ?_
            refine lv_ior S.1 S.2.1 dX3_fittedBy_45 ?_
            refine W.eq (g2 := F0 m 46 ls [.int (nI (mk (pF M t.toInt b.toInt) (q + 1)))]) (by rw [mk_step (P := pF M t.toInt b.toInt) (by omega) (pF_of (hr23.t c26) (hr34.t c37))]) ?_
            refine lv_istore_n (lv' := [(3, .int (nI (mk (pF M t.toInt b.toInt) (q + 1)))), (4, .int (nI q)), (2, .int b), (1, .int t), (0, .ref (xad g 64))]) S.1 S.2.1 dX3_fittedBy_46 rfl hl (by decide) rfl (fun ls hl => ?_)
            refine lv_iinc (v := nI (q + 1)) (lv' := [(4, .int (nI (q + 1))), (3, .int (nI (mk (pF M t.toInt b.toInt) (q + 1)))), (2, .int b), (1, .int t), (0, .ref (xad g 64))]) S.1 S.2.1 dX3_fittedBy_47 hl (k := 1) rfl (show nI q + Int32.ofInt 1 = _ from nI_1 _) (by decide) rfl (fun ls hl => ?_)
            refine lv_goto (tgt := 5) S.1 S.2.1 dX3_fittedBy_50 (by decide) ?_
            exact ih5 (q + 1) (by omega) (by omega) ls (lv_sub hl [0, 1, 2, 3, 4] rfl)
  exact loop5 _ 0 (Nat.zero_le _) (Nat.lt_succ_self _) ls (lv_sub hl [0, 1, 4, 3, 2] rfl)
set_option maxHeartbeats 4000000 in
set_option maxRecDepth 100000 in
theorem c_X3_tryBeginning (l : Launch) (g : xG) (hJ : xJ (xad g)) (E : Nat → va_E) {T B : Int32} {PF : Nat → Bool} {n : Nat} (hZ : E 64 = .inr (3, [.ref (xad g 1), .int T, .int B, .int (nI (mk PF n))])) {M : Nat → Nat → Int32} (hp : ePh g E 1 n M) (hv : vld n M) {t b : Int32} (ht : -179 ≤ t.toInt ∧ t.toInt ≤ 180) (hb : 0 ≤ b.toInt ∧ b.toInt < 360) (w : Int32) : Met l yX3_tryBeginning wsX3_tryBeginning ({ frames := 4, cells := 0, slots := 0, locals := 93 }) (xPc g [.ref (xad g 64), .int t, .int b, .int w] E) (xQv g (fun E1 => (∀ j, j ≠ 64 → E1 j = E j) ∧ (((cnt PF n < ssc M n t.toInt b.toInt ∨ (ssc M n t.toInt b.toInt = cnt PF n ∧ ¬ w = 0)) ∧ E1 64 = .inr (3, [.ref (xad g 1), .int t, .int b, .int (nI (mk (pF M t.toInt b.toInt) n))])) ∨ (¬ (cnt PF n < ssc M n t.toInt b.toInt ∨ (ssc M n t.toInt b.toInt = cnt PF n ∧ ¬ w = 0)) ∧ E1 64 = .inr (3, [.ref (xad g 1), .int T, .int B, .int (nI (mk PF n))]))))) 0 0 (xA (xad g)) := by
  refine x_met (ws' := _) (by decide) rfl (Nat.le_of_ble_eq_true rfl) ?_
  intro pz ez s m below meth cz ls S hr hlocks hP hK hl
  have hl : lv_has ls 6 [(0, .ref (xad g 64)), (1, .int t), (2, .int b), (3, .int w)] := hl
  have hS : va_S (xA (xad g)) s.heap s.heap [] := va_S.rf
  have hin3 : ∀ w ∈ u_ws RX3 TX3 4, w ∈ wsX3_tryBeginning := by decide +kernel
  have fl50 : Cond.fieldLink RX3 50 "DiscArcs$Spin" "turn" "I" ∈ wsX3_tryBeginning := by decide +kernel
  have fl53 : Cond.fieldLink RX3 53 "DiscArcs$Spin" "beginning" "I" ∈ wsX3_tryBeginning := by decide +kernel
  have fl56 : Cond.fieldLink RX3 56 "DiscArcs$Spin" "fitted" "I" ∈ wsX3_tryBeginning := by decide +kernel
  have h0 := hp.1
  have hfr : ∀ j, j ≠ 64 → E j = E j := fun _ _ => rfl
  have k1 := cnt_le (pF M t.toInt b.toInt) n
  have k2 := cnt_le PF n
  have k3 : ssc M n t.toInt b.toInt ≤ n := k1
  refine lv_aload_n S.1 S.2.1 dX3_tryBeginning_0 rfl (lv_at hl 0 rfl) ?_
  refine lv_iload_n S.1 S.2.1 dX3_tryBeginning_1 rfl (lv_at hl 1 rfl) ?_
  refine lv_iload_n S.1 S.2.1 dX3_tryBeginning_2 rfl (lv_at hl 2 rfl) ?_
  refine x_si (va_runV (As := [.int t, .int b]) (rest := []) S (c_X3_fittedBy l g E hZ hp hv ht hb) (cwV 2 S.2.2.2.2 gX3_tryBeginning_X3_fittedBy rfl rfl rfl (by decide +kernel) ⟨Nat.le_of_ble_eq_true rfl, Nat.le_of_ble_eq_true rfl⟩) (x_preV hK hP hZ (by decide) rfl) rfl rfl hl.1 rfl (lv_room (Nat.le_of_ble_eq_true rfl)) dX3_tryBeginning_3 ⟨Nat.le_of_ble_eq_true rfl, Nat.le_of_ble_eq_true rfl⟩) (fun r3 hr3 => ?_)
  subst hr3
  refine lv_istore (lv' := [(4, .int (nI (mk (pF M t.toInt b.toInt) n))), (0, .ref (xad g 64)), (1, .int t), (2, .int b), (3, .int w)]) S.1 S.2.1 dX3_tryBeginning_6 hl (by decide) rfl (fun ls hl => ?_)
  refine lv_iload S.1 S.2.1 dX3_tryBeginning_8 (lv_at hl 0 rfl) ?_
  refine x_si (va_runS (As := [.int (nI (mk (pF M t.toInt b.toInt) n))]) (rest := []) S (c_J6_bitCount_0f7a4 l g E _) (va_cwS 1 S.2.2.2.2 gX3_tryBeginning_J6_bitCount_0f7a4 rfl rfl rfl (by decide +kernel) ⟨Nat.le_of_ble_eq_true rfl, Nat.le_of_ble_eq_true rfl⟩) (x_preS hK hP) rfl rfl hl.1 rfl (lv_room (Nat.le_of_ble_eq_true rfl)) dX3_tryBeginning_10 ⟨Nat.le_of_ble_eq_true rfl, Nat.le_of_ble_eq_true rfl⟩) (fun r10 hr10 => ?_)
  rw [bc_mk h0.2] at hr10
  subst hr10
  refine lv_aload_n S.1 S.2.1 dX3_tryBeginning_13 rfl (lv_at hl 1 rfl) ?_
  refine x_get S hK hP dX3_tryBeginning_14 hZ (by decide) (RX3, TX3, 4) rfl hin3 3 (by decide) fl56 rfl ?_
  refine x_si (va_runS (As := [.int (nI (mk PF n))]) (rest := [.int (nI (cnt (pF M t.toInt b.toInt) n))]) S (c_J6_bitCount_0f7a4 l g E _) (va_cwS 1 S.2.2.2.2 gX3_tryBeginning_J6_bitCount_0f7a4 rfl rfl rfl (by decide +kernel) ⟨Nat.le_of_ble_eq_true rfl, Nat.le_of_ble_eq_true rfl⟩) (x_preS hK hP) rfl rfl hl.1 rfl (lv_room (Nat.le_of_ble_eq_true rfl)) dX3_tryBeginning_17 ⟨Nat.le_of_ble_eq_true rfl, Nat.le_of_ble_eq_true rfl⟩) (fun r17 hr17 => ?_)
  rw [bc_mk h0.2] at hr17
  subst hr17
  refine lv_isub S.1 S.2.1 dX3_tryBeginning_20 ?_
  refine lv_istore (lv' := [(5, .int ((nI (cnt (pF M t.toInt b.toInt) n)) - (nI (cnt PF n)))), (4, .int (nI (mk (pF M t.toInt b.toInt) n))), (0, .ref (xad g 64)), (1, .int t), (2, .int b), (3, .int w)]) S.1 S.2.1 dX3_tryBeginning_21 hl (by decide) rfl (fun ls hl => ?_)
  refine lv_iload S.1 S.2.1 dX3_tryBeginning_23 (lv_at hl 0 rfl) ?_
  refine lv_if_gt (tgt := 37) S.1 S.2.1 dX3_tryBeginning_25 (by decide) (fun c25 => ?_) (fun c25 => ?_)
  · skip
    refine lv_aload_n S.1 S.2.1 dX3_tryBeginning_37 rfl (lv_at hl 2 rfl) ?_
    refine lv_iload_n S.1 S.2.1 dX3_tryBeginning_38 rfl (lv_at hl 3 rfl) ?_
    refine x_put S hK hJ hP hS dX3_tryBeginning_39 hZ (by decide) (RX3, TX3, 4) rfl hin3 tyX3 tyX3_ok nmX3 1 (by decide) fl50 rfl rfl rfl (Nat.le_of_ble_eq_true rfl) (fun H locs E1 hu hP hS => ?_)
    have hZ : E1 64 = .inr (3, [.ref (xad g 1), .int t, .int B, .int (nI (mk PF n))]) := hu.1
    have hp : ePh g E1 1 n M := hp.keep (fun j h1 h2 => hu.2 j (by omega))
    have hfr : ∀ j, j ≠ 64 → E1 j = E j := fun j hj => (hu.2 j (by omega)).trans (hfr j hj)
    refine lv_aload_n S.1 S.2.1 dX3_tryBeginning_42 rfl (lv_at hl 2 rfl) ?_
    refine lv_iload_n S.1 S.2.1 dX3_tryBeginning_43 rfl (lv_at hl 4 rfl) ?_
    refine x_put S hK hJ hP hS dX3_tryBeginning_44 hZ (by decide) (RX3, TX3, 4) rfl hin3 tyX3 tyX3_ok nmX3 2 (by decide) fl53 rfl rfl rfl (Nat.le_of_ble_eq_true rfl) (fun H locs E1_1 hu hP hS => ?_)
    have hZ : E1_1 64 = .inr (3, [.ref (xad g 1), .int t, .int b, .int (nI (mk PF n))]) := hu.1
    have hp : ePh g E1_1 1 n M := hp.keep (fun j h1 h2 => hu.2 j (by omega))
    have hfr : ∀ j, j ≠ 64 → E1_1 j = E j := fun j hj => (hu.2 j (by omega)).trans (hfr j hj)
    refine lv_aload_n S.1 S.2.1 dX3_tryBeginning_47 rfl (lv_at hl 2 rfl) ?_
    refine lv_iload S.1 S.2.1 dX3_tryBeginning_48 (lv_at hl 1 rfl) ?_
    refine x_put S hK hJ hP hS dX3_tryBeginning_50 hZ (by decide) (RX3, TX3, 4) rfl hin3 tyX3 tyX3_ok nmX3 3 (by decide) fl56 rfl rfl rfl (Nat.le_of_ble_eq_true rfl) (fun H locs E1_2 hu hP hS => ?_)
    have hZ : E1_2 64 = .inr (3, [.ref (xad g 1), .int t, .int b, .int (nI (mk (pF M t.toInt b.toInt) n))]) := hu.1
    have hp : ePh g E1_2 1 n M := hp.keep (fun j h1 h2 => hu.2 j (by omega))
    have hfr : ∀ j, j ≠ 64 → E1_2 j = E j := fun j hj => (hu.2 j (by omega)).trans (hfr j hj)
    exact x_vret S hr hlocks hP hS dX3_tryBeginning_53 (⟨hfr, Or.inl ⟨by first | exact Or.inl ((sub_nI_pos (by omega) (by omega)).mp c25) | exact Or.inr ⟨(sub_nI_0 (by omega) (by omega)).mp c30, c34⟩, hZ⟩⟩)
  · skip
    refine lv_iload S.1 S.2.1 dX3_tryBeginning_28 (lv_at hl 0 rfl) ?_
    refine lv_if_ne (tgt := 53) S.1 S.2.1 dX3_tryBeginning_30 (by decide) (fun c30 => ?_) (fun c30 => ?_)
    · skip
      exact x_vret S hr hlocks hP hS dX3_tryBeginning_53 (⟨hfr, Or.inr ⟨fun h => by rcases h with h | ⟨h, h9⟩; exact c25 ((sub_nI_pos (by omega) (by omega)).mpr h); first | exact c30 ((sub_nI_0 (by omega) (by omega)).mpr h) | exact h9 c34, hZ⟩⟩)
    · skip
      refine lv_iload_n S.1 S.2.1 dX3_tryBeginning_33 rfl (lv_at hl 5 rfl) ?_
      refine lv_if_eq (tgt := 53) S.1 S.2.1 dX3_tryBeginning_34 (by decide) (fun c34 => ?_) (fun c34 => ?_)
      · skip
        exact x_vret S hr hlocks hP hS dX3_tryBeginning_53 (⟨hfr, Or.inr ⟨fun h => by rcases h with h | ⟨h, h9⟩; exact c25 ((sub_nI_pos (by omega) (by omega)).mpr h); first | exact c30 ((sub_nI_0 (by omega) (by omega)).mpr h) | exact h9 c34, hZ⟩⟩)
      · skip
        refine lv_aload_n S.1 S.2.1 dX3_tryBeginning_37 rfl (lv_at hl 2 rfl) ?_
        refine lv_iload_n S.1 S.2.1 dX3_tryBeginning_38 rfl (lv_at hl 3 rfl) ?_
        refine x_put S hK hJ hP hS dX3_tryBeginning_39 hZ (by decide) (RX3, TX3, 4) rfl hin3 tyX3 tyX3_ok nmX3 1 (by decide) fl50 rfl rfl rfl (Nat.le_of_ble_eq_true rfl) (fun H locs E1_3 hu hP hS => ?_)
        have hZ : E1_3 64 = .inr (3, [.ref (xad g 1), .int t, .int B, .int (nI (mk PF n))]) := hu.1
        have hp : ePh g E1_3 1 n M := hp.keep (fun j h1 h2 => hu.2 j (by omega))
        have hfr : ∀ j, j ≠ 64 → E1_3 j = E j := fun j hj => (hu.2 j (by omega)).trans (hfr j hj)
        refine lv_aload_n S.1 S.2.1 dX3_tryBeginning_42 rfl (lv_at hl 2 rfl) ?_
        refine lv_iload_n S.1 S.2.1 dX3_tryBeginning_43 rfl (lv_at hl 4 rfl) ?_
        refine x_put S hK hJ hP hS dX3_tryBeginning_44 hZ (by decide) (RX3, TX3, 4) rfl hin3 tyX3 tyX3_ok nmX3 2 (by decide) fl53 rfl rfl rfl (Nat.le_of_ble_eq_true rfl) (fun H locs E1_4 hu hP hS => ?_)
        have hZ : E1_4 64 = .inr (3, [.ref (xad g 1), .int t, .int b, .int (nI (mk PF n))]) := hu.1
        have hp : ePh g E1_4 1 n M := hp.keep (fun j h1 h2 => hu.2 j (by omega))
        have hfr : ∀ j, j ≠ 64 → E1_4 j = E j := fun j hj => (hu.2 j (by omega)).trans (hfr j hj)
        refine lv_aload_n S.1 S.2.1 dX3_tryBeginning_47 rfl (lv_at hl 2 rfl) ?_
        refine lv_iload S.1 S.2.1 dX3_tryBeginning_48 (lv_at hl 1 rfl) ?_
        refine x_put S hK hJ hP hS dX3_tryBeginning_50 hZ (by decide) (RX3, TX3, 4) rfl hin3 tyX3 tyX3_ok nmX3 3 (by decide) fl56 rfl rfl rfl (Nat.le_of_ble_eq_true rfl) (fun H locs E1_5 hu hP hS => ?_)
        have hZ : E1_5 64 = .inr (3, [.ref (xad g 1), .int t, .int b, .int (nI (mk (pF M t.toInt b.toInt) n))]) := hu.1
        have hp : ePh g E1_5 1 n M := hp.keep (fun j h1 h2 => hu.2 j (by omega))
        have hfr : ∀ j, j ≠ 64 → E1_5 j = E j := fun j hj => (hu.2 j (by omega)).trans (hfr j hj)
        exact x_vret S hr hlocks hP hS dX3_tryBeginning_53 (⟨hfr, Or.inl ⟨by first | exact Or.inl ((sub_nI_pos (by omega) (by omega)).mp c25) | exact Or.inr ⟨(sub_nI_0 (by omega) (by omega)).mp c30, c34⟩, hZ⟩⟩)
theorem mk_0 {n : Nat} : mk (fun _ => false) n = 0 := by
  induction n with
  | zero => rfl
  | succ n ih => exact ih
theorem cnt_F {n : Nat} : cnt (fun _ => false) n = 0 := by
  induction n with
  | zero => rfl
  | succ n ih => exact ih
theorem cnt_0 {P : Nat → Bool} {n : Nat} (h : cnt P n = 0) : mk P n = 0 := by
  rw [← mk_0 (n := n)]
  refine mk_congr fun i hi => ?_
  cases hp : P i
  · rfl
  · have := cnt_pos hi hp
    omega
/-- the state ahead of a turn: nothing is found yet, or the best of the turns before -/
def spA (M : Nat → Nat → Int32) (n : Nat) (t T B : Int32) (PF : Nat → Bool) : Prop := (t.toInt = 0 ∧ T.toInt = 0 ∧ B.toInt = 0 ∧ PF = fun _ => false) ∨ (spTo M n (ordT t.toInt) T.toInt B.toInt ∧ PF = pF M T.toInt B.toInt)
theorem tt_first {g : xG} {e1 : va_E} {n : Nat} {M : Nat → Nat → Int32} {T B t : Int32} {PF : Nat → Bool} (hpre : spA M n t T B PF) (ht : -179 ≤ t.toInt ∧ t.toInt ≤ 180) (hor : ((cnt PF n < ssc M n t.toInt (0 : Int32).toInt ∨ (ssc M n t.toInt (0 : Int32).toInt = cnt PF n ∧ ¬ (0 : Int32) = 0)) ∧ e1 = .inr (3, [.ref (xad g 1), .int t, .int 0, .int (nI (mk (pF M t.toInt (0 : Int32).toInt) n))])) ∨ (¬ (cnt PF n < ssc M n t.toInt (0 : Int32).toInt ∨ (ssc M n t.toInt (0 : Int32).toInt = cnt PF n ∧ ¬ (0 : Int32) = 0)) ∧ e1 = .inr (3, [.ref (xad g 1), .int T, .int B, .int (nI (mk PF n))]))) : ∃ T2 B2 : Int32, e1 = .inr (3, [.ref (xad g 1), .int T2, .int B2, .int (nI (mk (pF M T2.toInt B2.toInt) n))]) ∧ spM M n t.toInt 0 T2.toInt B2.toInt := by
  have e0 : (0 : Int32).toInt = 0 := by decide
  rcases hor with ⟨h1, h2⟩ | ⟨h1, h2⟩
  · refine ⟨t, 0, h2, ?_⟩
    rw [e0] at h1 ⊢
    rcases hpre with ⟨a1, a2, a3, a4⟩ | ⟨a1, a2⟩
    · rw [a1]
      exact spM.zero
    · subst a2
      refine spM.first_take a1 ht ?_
      rcases h1 with h1 | ⟨-, h1⟩
      · exact h1
      · exact absurd rfl h1
  · refine ⟨T, B, ?_, ?_⟩
    · rcases hpre with ⟨a1, a2, a3, a4⟩ | ⟨a1, a2⟩
      · subst a4
        rw [h2, a2, a3]
        have h3 : cnt (pF M 0 0) n = 0 := by
          rw [e0, a1, cnt_F] at h1
          have : ¬ 0 < ssc M n 0 0 := fun h => h1 (Or.inl h)
          unfold ssc at this
          omega
        rw [cnt_0 h3, mk_0]
      · rw [h2, a2]
    · rcases hpre with ⟨a1, a2, a3, a4⟩ | ⟨a1, a2⟩
      · rw [a1, a2, a3]
        exact spM.zero
      · subst a2
        refine spM.first_pass a1 (fun h => h1 (Or.inl ?_))
        rw [e0]
        exact h
set_option maxHeartbeats 4000000 in
set_option maxRecDepth 100000 in
theorem c_X3_tryTurn (l : Launch) (g : xG) (hJ : xJ (xad g)) (E : Nat → va_E) {T B : Int32} {PF : Nat → Bool} {n : Nat} (hZ : E 64 = .inr (3, [.ref (xad g 1), .int T, .int B, .int (nI (mk PF n))])) {M : Nat → Nat → Int32} (hp : ePh g E 1 n M) (hv : vld n M) {t : Int32} (ht : -179 ≤ t.toInt ∧ t.toInt ≤ 180) (hpre : spA M n t T B PF) : Met l yX3_tryTurn wsX3_tryTurn ({ frames := 5, cells := 0, slots := 0, locals := 118 }) (xPc g [.ref (xad g 64), .int t] E) (xQv g (fun E1 => (∀ j, j ≠ 64 → E1 j = E j) ∧ ∃ T2 B2 : Int32, E1 64 = .inr (3, [.ref (xad g 1), .int T2, .int B2, .int (nI (mk (pF M T2.toInt B2.toInt) n))]) ∧ spTo M n (ordT t.toInt + 1) T2.toInt B2.toInt)) 0 0 (xA (xad g)) := by
  refine x_met (ws' := _) (by decide) rfl (Nat.le_of_ble_eq_true rfl) ?_
  intro pz ez s m below meth cz ls S hr hlocks hP hK hl
  have hl : lv_has ls 5 [(0, .ref (xad g 64)), (1, .int t)] := hl
  have hS : va_S (xA (xad g)) s.heap s.heap [] := va_S.rf
  have hin2 : ∀ w ∈ u_ws RX2 TX2 2, w ∈ wsX3_tryTurn := by decide +kernel
  have hin3 : ∀ w ∈ u_ws RX3 TX3 4, w ∈ wsX3_tryTurn := by decide +kernel
  have fl9 : Cond.fieldLink RX3 9 "DiscArcs$Spin" "photos" "LDiscArcs$Photos;" ∈ wsX3_tryTurn := by decide +kernel
  have fl21 : Cond.fieldLink RX3 21 "DiscArcs$Photos" "size" "I" ∈ wsX3_tryTurn := by decide +kernel
  have fl35 : Cond.fieldLink RX3 35 "DiscArcs$Photos" "rows" "[[I" ∈ wsX3_tryTurn := by decide +kernel
  have fl50 : Cond.fieldLink RX3 50 "DiscArcs$Spin" "turn" "I" ∈ wsX3_tryTurn := by decide +kernel
  have fl53 : Cond.fieldLink RX3 53 "DiscArcs$Spin" "beginning" "I" ∈ wsX3_tryTurn := by decide +kernel
  have h0 := hp.1
  refine lv_aload_n S.1 S.2.1 dX3_tryTurn_0 rfl (lv_at hl 0 rfl) ?_
  refine lv_iload_n S.1 S.2.1 dX3_tryTurn_1 rfl (lv_at hl 1 rfl) ?_
  refine lv_iconst (v := 0) S.1 S.2.1 dX3_tryTurn_2 (by decide) ?_
  refine lv_iconst (v := 0) S.1 S.2.1 dX3_tryTurn_3 (by decide) ?_
  refine x_qv (va_runV (As := [.int t, .int 0, .int 0]) (rest := []) S (c_X3_tryBeginning l g hJ E hZ hp hv ht (b := 0) (by decide) 0) (cwV 3 S.2.2.2.2 gX3_tryTurn_X3_tryBeginning rfl rfl rfl (by decide +kernel) ⟨Nat.le_of_ble_eq_true rfl, Nat.le_of_ble_eq_true rfl⟩) (x_preV hK hP hZ (by decide) rfl) rfl rfl hl.1 rfl (lv_room (Nat.le_of_ble_eq_true rfl)) dX3_tryTurn_4 ⟨Nat.le_of_ble_eq_true rfl, Nat.le_of_ble_eq_true rfl⟩) hS (fun E1 H locs hq4 hP hS => ?_)
  obtain ⟨hfr, hor⟩ := hq4
  have hp : ePh g E1 1 n M := hp.keep (fun j h1 h2 => hfr j (by omega))
  obtain ⟨T2, B2, hZ, hm⟩ := tt_first hpre ht hor
  refine lv_iconst (v := 0) S.1 S.2.1 dX3_tryTurn_7 (by decide) ?_
  refine lv_istore_n (lv' := [(2, .int 0), (0, .ref (xad g 64)), (1, .int t)]) S.1 S.2.1 dX3_tryTurn_8 rfl hl (by decide) rfl (fun ls hl => ?_)
  have loop9 : ∀ (d : Nat) (q : Nat) (T2 : Int32) (B2 : Int32) (EL : Nat → va_E) (H : Heap) (locs : List Loc), (hq : q ≤ n) → (hm : spM M n t.toInt q T2.toInt B2.toInt) → (n - q) < d → (hZ : EL 64 = .inr (3, [.ref (xad g 1), .int T2, .int B2, .int (nI (mk (pF M T2.toInt B2.toInt) n))])) → (hp : ePh g EL 1 n M) → (hfr : ∀ j, j ≠ 64 → EL j = E j) → xP g EL H → va_S (xA (xad g)) s.heap H locs → ∀ ls : Array Slot, lv_has ls 5 [(2, .int (nI q)), (1, .int t), (0, .ref (xad g 64))] → W pz l ez ({ frames := 5, cells := 0, slots := 0, locals := 118 }) s m ([.ref (xad g 64), .int t] : List Value).toArray below meth cz H locs 0 0 (MQ below (xQv g (fun E1 => (∀ j, j ≠ 64 → E1 j = E j) ∧ ∃ T2 B2 : Int32, E1 64 = .inr (3, [.ref (xad g 1), .int T2, .int B2, .int (nI (mk (pF M T2.toInt B2.toInt) n))]) ∧ spTo M n (ordT t.toInt + 1) T2.toInt B2.toInt)) ([.ref (xad g 64), .int t] : List Value).toArray s 0 0 (xA (xad g))) (F0 m 9 ls []) := by
    intro d
    induction d with
    | zero => intro q T2 B2 EL H locs hq hm hd; exact absurd hd (Nat.not_lt_zero _)
    | succ d ih9 =>
      intro q T2 B2 EL H locs hq hm hd hZ hp hfr hP hS ls hl
      refine lv_iload_n S.1 S.2.1 dX3_tryTurn_9 rfl (lv_at hl 0 rfl) ?_
      refine lv_aload_n S.1 S.2.1 dX3_tryTurn_10 rfl (lv_at hl 2 rfl) ?_
      refine x_get S hK hP dX3_tryTurn_11 hZ (by decide) (RX3, TX3, 4) rfl hin3 0 (by decide) fl9 rfl ?_
      refine x_get S hK hP dX3_tryTurn_14 hp.2.1 (by decide) (RX2, TX2, 2) rfl hin2 1 (by decide) fl21 rfl ?_
      refine lv_icmp_ge (tgt := 109) S.1 S.2.1 dX3_tryTurn_17 (by decide) (fun c17 => ?_) (fun c17 => ?_)
      · skip
        have hqe : q = n := Nat.le_antisymm hq ((nI_leI (by omega) (by omega)).mp c17)
        subst hqe
        exact x_vret S hr hlocks hP hS dX3_tryTurn_109 (⟨hfr, T2, B2, hZ, hm.fin hv⟩)
      · skip
        have hqn : q < n := (Nat.not_le.mp (fun h => c17 ((nI_leI (by omega) (by omega)).mpr h)))
        refine lv_aload_n S.1 S.2.1 dX3_tryTurn_20 rfl (lv_at hl 2 rfl) ?_
        refine x_get S hK hP dX3_tryTurn_21 hZ (by decide) (RX3, TX3, 4) rfl hin3 0 (by decide) fl9 rfl ?_
        refine lv_iload_n S.1 S.2.1 dX3_tryTurn_24 rfl (lv_at hl 0 rfl) ?_
        refine x_si (va_runV (As := [.int (nI q)]) (rest := []) S (c_X2_isMarked l g EL hp hqn) (cwV 1 S.2.2.2.2 gX3_tryTurn_X2_isMarked rfl rfl rfl (by decide +kernel) ⟨Nat.le_of_ble_eq_true rfl, Nat.le_of_ble_eq_true rfl⟩) (x_preV hK hP hp.2.1 (by decide) rfl) rfl rfl hl.1 rfl (lv_room (Nat.le_of_ble_eq_true rfl)) dX3_tryTurn_25 ⟨Nat.le_of_ble_eq_true rfl, Nat.le_of_ble_eq_true rfl⟩) (fun r25 hr25 => ?_)
        refine lv_if_eq (tgt := 103) S.1 S.2.1 dX3_tryTurn_28 (by decide) (fun c28 => ?_) (fun c28 => ?_)
        · skip
          refine lv_iinc (v := nI (q + 1)) (lv' := [(2, .int (nI (q + 1))), (1, .int t), (0, .ref (xad g 64))]) S.1 S.2.1 dX3_tryTurn_103 hl (k := 0) rfl (show nI q + Int32.ofInt 1 = _ from nI_1 _) (by decide) rfl (fun ls hl => ?_)
          refine lv_goto (tgt := 9) S.1 S.2.1 dX3_tryTurn_106 (by decide) ?_
          exact ih9 (q + 1) T2 B2 _ _ _ (by omega) (hm.skip (fun h => hr25.f c28 h)) (by omega) hZ hp hfr hP hS ls (lv_sub hl [0, 1, 2] rfl)
        · skip
          refine lv_aload_n S.1 S.2.1 dX3_tryTurn_31 rfl (lv_at hl 2 rfl) ?_
          refine x_get S hK hP dX3_tryTurn_32 hZ (by decide) (RX3, TX3, 4) rfl hin3 0 (by decide) fl9 rfl ?_
          refine x_get S hK hP dX3_tryTurn_35 hp.2.1 (by decide) (RX2, TX2, 2) rfl hin2 0 (by decide) fl35 rfl ?_
          refine lv_iconst (v := 4) S.1 S.2.1 dX3_tryTurn_38 (by decide) ?_
          refine x_row S hK hP dX3_tryTurn_39 hp 4 rfl (by omega) ?_
          refine lv_iload_n S.1 S.2.1 dX3_tryTurn_40 rfl (lv_at hl 0 rfl) ?_
          refine x_val S hK hP dX3_tryTurn_41 hp (w := 4) q rfl (by omega) (by omega) ?_
          refine lv_aload_n S.1 S.2.1 dX3_tryTurn_42 rfl (lv_at hl 2 rfl) ?_
          refine x_get S hK hP dX3_tryTurn_43 hZ (by decide) (RX3, TX3, 4) rfl hin3 0 (by decide) fl9 rfl ?_
          refine x_get S hK hP dX3_tryTurn_46 hp.2.1 (by decide) (RX2, TX2, 2) rfl hin2 0 (by decide) fl35 rfl ?_
          refine lv_iconst (v := 5) S.1 S.2.1 dX3_tryTurn_49 (by decide) ?_
          refine x_row S hK hP dX3_tryTurn_50 hp 5 rfl (by omega) ?_
          refine lv_iload_n S.1 S.2.1 dX3_tryTurn_51 rfl (lv_at hl 0 rfl) ?_
          refine x_val S hK hP dX3_tryTurn_52 hp (w := 5) q rfl (by omega) (by omega) ?_
          refine lv_isub S.1 S.2.1 dX3_tryTurn_53 ?_
          refine lv_topi (fun x54 ex54 => ?_)
          refine lv_istore_n (lv' := [(3, .int x54), (2, .int (nI q)), (1, .int t), (0, .ref (xad g 64))]) S.1 S.2.1 dX3_tryTurn_54 rfl hl (by decide) rfl (fun ls hl => ?_)
          have hx54 : x54.toInt = (M 4 q).toInt - (M 5 q).toInt := by
           obtain ⟨-, -, -, -, ⟨a1, a2⟩, ⟨a3, a4⟩, -⟩ := hv.1 q hqn
           rw [ex54, I_sub (by omega) (by omega)]
          have hx54b : -100 ≤ x54.toInt ∧ x54.toInt ≤ 360 := by
           obtain ⟨-, -, -, -, ⟨a1, a2⟩, ⟨a3, a4⟩, -⟩ := hv.1 q hqn
           omega
          refine lv_iload_n S.1 S.2.1 dX3_tryTurn_55 rfl (lv_at hl 2 rfl) ?_
          refine lv_ineg S.1 S.2.1 dX3_tryTurn_56 ?_
          refine lv_iload_n S.1 S.2.1 dX3_tryTurn_57 rfl (lv_at hl 0 rfl) ?_
          refine lv_aload_n S.1 S.2.1 dX3_tryTurn_58 rfl (lv_at hl 3 rfl) ?_
          refine x_get S hK hP dX3_tryTurn_59 hZ (by decide) (RX3, TX3, 4) rfl hin3 0 (by decide) fl9 rfl ?_
          refine x_get S hK hP dX3_tryTurn_62 hp.2.1 (by decide) (RX2, TX2, 2) rfl hin2 0 (by decide) fl35 rfl ?_
          refine lv_iconst (v := 0) S.1 S.2.1 dX3_tryTurn_65 (by decide) ?_
          refine x_row S hK hP dX3_tryTurn_66 hp 0 rfl (by omega) ?_
          refine lv_iload_n S.1 S.2.1 dX3_tryTurn_67 rfl (lv_at hl 1 rfl) ?_
          refine x_val S hK hP dX3_tryTurn_68 hp (w := 0) q rfl (by omega) (by omega) ?_
          refine x_si (va_runS (As := [.int (-t), .int x54, .int (M 0 q)]) (rest := []) S (c_X3_angleOf l g EL (t := -t) (b := x54) (by rw [I_neg (by omega)]; omega) (by omega) (hv.1 q hqn).1) (va_cwS 3 S.2.2.2.2 gX3_tryTurn_X3_angleOf rfl rfl rfl (by decide +kernel) ⟨Nat.le_of_ble_eq_true rfl, Nat.le_of_ble_eq_true rfl⟩) (x_preS hK hP) rfl rfl hl.1 rfl (lv_room (Nat.le_of_ble_eq_true rfl)) dX3_tryTurn_69 ⟨Nat.le_of_ble_eq_true rfl, Nat.le_of_ble_eq_true rfl⟩) (fun r69 hr69 => ?_)
          refine lv_istore (lv' := [(4, .int r69), (3, .int x54), (2, .int (nI q)), (1, .int t), (0, .ref (xad g 64))]) S.1 S.2.1 dX3_tryTurn_72 hl (by decide) rfl (fun ls hl => ?_)
          have hsz : r69.toInt = stZ M t.toInt q := by
           rw [hr69, hx54, I_neg (by omega)]; unfold stZ; rw [Int.neg_mul]; rfl
          have hst : 0 ≤ r69.toInt ∧ r69.toInt < 360 := by rw [hr69]; omega
          refine lv_aload_n S.1 S.2.1 dX3_tryTurn_74 rfl (lv_at hl 4 rfl) ?_
          refine lv_iload_n S.1 S.2.1 dX3_tryTurn_75 rfl (lv_at hl 3 rfl) ?_
          refine lv_iload S.1 S.2.1 dX3_tryTurn_76 (lv_at hl 0 rfl) ?_
          refine lv_iload_n S.1 S.2.1 dX3_tryTurn_78 rfl (lv_at hl 3 rfl) ?_
          refine lv_aload_n S.1 S.2.1 dX3_tryTurn_79 rfl (lv_at hl 4 rfl) ?_
          refine x_get S hK hP dX3_tryTurn_80 hZ (by decide) (RX3, TX3, 4) rfl hin3 1 (by decide) fl50 rfl ?_
          refine lv_icmp_ne (tgt := 99) S.1 S.2.1 dX3_tryTurn_83 (by decide) (fun c83 => ?_) (fun c83 => ?_)
          · skip
            refine lv_iconst (v := 0) S.1 S.2.1 dX3_tryTurn_99 (by decide) ?_
            refine x_qv (va_runV (As := [.int t, .int r69, .int 0]) (rest := []) S (c_X3_tryBeginning l g hJ EL hZ hp hv ht hst (0)) (cwV 3 S.2.2.2.2 gX3_tryTurn_X3_tryBeginning rfl rfl rfl (by decide +kernel) ⟨Nat.le_of_ble_eq_true rfl, Nat.le_of_ble_eq_true rfl⟩) (x_preV hK hP hZ (by decide) rfl) rfl rfl hl.1 rfl (lv_room (Nat.le_of_ble_eq_true rfl)) dX3_tryTurn_100 ⟨Nat.le_of_ble_eq_true rfl, Nat.le_of_ble_eq_true rfl⟩) hS (fun E1_1 H locs hq100 hP hS => ?_)
            obtain ⟨hfr2, hor⟩ := hq100
            have hp : ePh g E1_1 1 n M := hp.keep (fun j h1 h2 => hfr2 j (by omega))
            have hfr : ∀ j, j ≠ 64 → E1_1 j = E j := fun j hj => (hfr2 j hj).trans (hfr j hj)
            rw [hsz] at hor
            rcases hor with ⟨htk, hZ⟩ | ⟨htk, hZ⟩
            · skip
              refine lv_iinc (v := nI (q + 1)) (lv' := [(2, .int (nI (q + 1))), (4, .int r69), (3, .int x54), (1, .int t), (0, .ref (xad g 64))]) S.1 S.2.1 dX3_tryTurn_103 hl (k := 2) rfl (show nI q + Int32.ofInt 1 = _ from nI_1 _) (by decide) rfl (fun ls hl => ?_)
              refine lv_goto (tgt := 9) S.1 S.2.1 dX3_tryTurn_106 (by decide) ?_
              exact ih9 (q + 1) t r69 _ _ _ (by omega) (by rw [hsz]; exact hm.take ⟨ht, by rw [← hsz]; exact hst⟩ (fun c h => cd_next c h) (htk.imp (fun h => h) (fun h => absurd rfl h.2))) (by omega) (by rw [hsz]; exact hZ) hp hfr hP hS ls (lv_sub hl [0, 3, 4] rfl)
            · skip
              refine lv_iinc (v := nI (q + 1)) (lv' := [(2, .int (nI (q + 1))), (4, .int r69), (3, .int x54), (1, .int t), (0, .ref (xad g 64))]) S.1 S.2.1 dX3_tryTurn_103 hl (k := 2) rfl (show nI q + Int32.ofInt 1 = _ from nI_1 _) (by decide) rfl (fun ls hl => ?_)
              refine lv_goto (tgt := 9) S.1 S.2.1 dX3_tryTurn_106 (by decide) ?_
              exact ih9 (q + 1) T2 B2 _ _ _ (by omega) (hm.pass (fun c h => cd_next c h) (fun h => by rcases h with h | ⟨h1, h2, h3⟩; exact htk (Or.inl h); first | exact c83 (I_eq.mpr h2) | exact absurd (I_le.mp c92) (by rw [hsz]; omega))) (by omega) hZ hp hfr hP hS ls (lv_sub hl [0, 3, 4] rfl)
          · skip
            refine lv_iload S.1 S.2.1 dX3_tryTurn_86 (lv_at hl 0 rfl) ?_
            refine lv_aload_n S.1 S.2.1 dX3_tryTurn_88 rfl (lv_at hl 4 rfl) ?_
            refine x_get S hK hP dX3_tryTurn_89 hZ (by decide) (RX3, TX3, 4) rfl hin3 2 (by decide) fl53 rfl ?_
            refine lv_icmp_ge (tgt := 99) S.1 S.2.1 dX3_tryTurn_92 (by decide) (fun c92 => ?_) (fun c92 => ?_)
            · skip
              refine lv_iconst (v := 0) S.1 S.2.1 dX3_tryTurn_99 (by decide) ?_
              refine x_qv (va_runV (As := [.int t, .int r69, .int 0]) (rest := []) S (c_X3_tryBeginning l g hJ EL hZ hp hv ht hst (0)) (cwV 3 S.2.2.2.2 gX3_tryTurn_X3_tryBeginning rfl rfl rfl (by decide +kernel) ⟨Nat.le_of_ble_eq_true rfl, Nat.le_of_ble_eq_true rfl⟩) (x_preV hK hP hZ (by decide) rfl) rfl rfl hl.1 rfl (lv_room (Nat.le_of_ble_eq_true rfl)) dX3_tryTurn_100 ⟨Nat.le_of_ble_eq_true rfl, Nat.le_of_ble_eq_true rfl⟩) hS (fun E1_2 H locs hq100 hP hS => ?_)
              obtain ⟨hfr2, hor⟩ := hq100
              have hp : ePh g E1_2 1 n M := hp.keep (fun j h1 h2 => hfr2 j (by omega))
              have hfr : ∀ j, j ≠ 64 → E1_2 j = E j := fun j hj => (hfr2 j hj).trans (hfr j hj)
              rw [hsz] at hor
              rcases hor with ⟨htk, hZ⟩ | ⟨htk, hZ⟩
              · skip
                refine lv_iinc (v := nI (q + 1)) (lv' := [(2, .int (nI (q + 1))), (4, .int r69), (3, .int x54), (1, .int t), (0, .ref (xad g 64))]) S.1 S.2.1 dX3_tryTurn_103 hl (k := 2) rfl (show nI q + Int32.ofInt 1 = _ from nI_1 _) (by decide) rfl (fun ls hl => ?_)
                refine lv_goto (tgt := 9) S.1 S.2.1 dX3_tryTurn_106 (by decide) ?_
                exact ih9 (q + 1) t r69 _ _ _ (by omega) (by rw [hsz]; exact hm.take ⟨ht, by rw [← hsz]; exact hst⟩ (fun c h => cd_next c h) (htk.imp (fun h => h) (fun h => absurd rfl h.2))) (by omega) (by rw [hsz]; exact hZ) hp hfr hP hS ls (lv_sub hl [0, 3, 4] rfl)
              · skip
                refine lv_iinc (v := nI (q + 1)) (lv' := [(2, .int (nI (q + 1))), (4, .int r69), (3, .int x54), (1, .int t), (0, .ref (xad g 64))]) S.1 S.2.1 dX3_tryTurn_103 hl (k := 2) rfl (show nI q + Int32.ofInt 1 = _ from nI_1 _) (by decide) rfl (fun ls hl => ?_)
                refine lv_goto (tgt := 9) S.1 S.2.1 dX3_tryTurn_106 (by decide) ?_
                exact ih9 (q + 1) T2 B2 _ _ _ (by omega) (hm.pass (fun c h => cd_next c h) (fun h => by rcases h with h | ⟨h1, h2, h3⟩; exact htk (Or.inl h); first | exact c83 (I_eq.mpr h2) | exact absurd (I_le.mp c92) (by rw [hsz]; omega))) (by omega) hZ hp hfr hP hS ls (lv_sub hl [0, 3, 4] rfl)
            · skip
              refine lv_iconst (v := 1) S.1 S.2.1 dX3_tryTurn_95 (by decide) ?_
              refine lv_goto (tgt := 100) S.1 S.2.1 dX3_tryTurn_96 (by decide) ?_
              refine x_qv (va_runV (As := [.int t, .int r69, .int 1]) (rest := []) S (c_X3_tryBeginning l g hJ EL hZ hp hv ht hst (1)) (cwV 3 S.2.2.2.2 gX3_tryTurn_X3_tryBeginning rfl rfl rfl (by decide +kernel) ⟨Nat.le_of_ble_eq_true rfl, Nat.le_of_ble_eq_true rfl⟩) (x_preV hK hP hZ (by decide) rfl) rfl rfl hl.1 rfl (lv_room (Nat.le_of_ble_eq_true rfl)) dX3_tryTurn_100 ⟨Nat.le_of_ble_eq_true rfl, Nat.le_of_ble_eq_true rfl⟩) hS (fun E1_3 H locs hq100 hP hS => ?_)
              obtain ⟨hfr2, hor⟩ := hq100
              have hp : ePh g E1_3 1 n M := hp.keep (fun j h1 h2 => hfr2 j (by omega))
              have hfr : ∀ j, j ≠ 64 → E1_3 j = E j := fun j hj => (hfr2 j hj).trans (hfr j hj)
              rw [hsz] at hor
              rcases hor with ⟨htk, hZ⟩ | ⟨htk, hZ⟩
              · skip
                refine lv_iinc (v := nI (q + 1)) (lv' := [(2, .int (nI (q + 1))), (4, .int r69), (3, .int x54), (1, .int t), (0, .ref (xad g 64))]) S.1 S.2.1 dX3_tryTurn_103 hl (k := 2) rfl (show nI q + Int32.ofInt 1 = _ from nI_1 _) (by decide) rfl (fun ls hl => ?_)
                refine lv_goto (tgt := 9) S.1 S.2.1 dX3_tryTurn_106 (by decide) ?_
                exact ih9 (q + 1) t r69 _ _ _ (by omega) (by rw [hsz]; exact hm.take ⟨ht, by rw [← hsz]; exact hst⟩ (fun c h => cd_next c h) (htk.imp (fun h => h) (fun h => ⟨h.1, by rw [c83], by rw [← hsz]; exact I_lt.mp (Int32.not_le.mp c92)⟩))) (by omega) (by rw [hsz]; exact hZ) hp hfr hP hS ls (lv_sub hl [0, 3, 4] rfl)
              · skip
                refine lv_iinc (v := nI (q + 1)) (lv' := [(2, .int (nI (q + 1))), (4, .int r69), (3, .int x54), (1, .int t), (0, .ref (xad g 64))]) S.1 S.2.1 dX3_tryTurn_103 hl (k := 2) rfl (show nI q + Int32.ofInt 1 = _ from nI_1 _) (by decide) rfl (fun ls hl => ?_)
                refine lv_goto (tgt := 9) S.1 S.2.1 dX3_tryTurn_106 (by decide) ?_
                exact ih9 (q + 1) T2 B2 _ _ _ (by omega) (hm.pass (fun c h => cd_next c h) (fun h => htk (h.imp (fun h => h) (fun h => ⟨h.1, by decide⟩)))) (by omega) hZ hp hfr hP hS ls (lv_sub hl [0, 3, 4] rfl)
  exact loop9 _ 0 T2 B2 _ _ _ (Nat.zero_le _) hm (Nat.lt_succ_self _) hZ hp hfr hP hS ls (lv_sub hl [0, 2, 1] rfl)
