/-! THE LAW: the track -/
section VT
variable {z : xS} {k v A B : Nat} {r w : Int32} {M : Nat → Nat → Int32} {n : Nat} {P Q : Nat → Bool} {R T : Nat → Nat}
theorem v_trS (hv : vS z) (hT : trk (zM z) (zn z) R T) (hx : v < R 0) (hA : itr (zn z) T v 0 = A) (hB : T A = B) (hw : 0 ≤ w ∧ w ≤ 5) (h : sp_track z (nI v) w r) : sp_row (zM z) (zn z) A B w r := by
  have l0 := (hT.le (zn z) 0 (Nat.zero_le _) (Nat.le_refl _)).1
  have hn := hv.1.1
  rcases h with ⟨h, -⟩ | ⟨-, R', T', hT', h⟩
  · rcases h with h | h
    · exact absurd h (nI_pos (by omega))
    · exact absurd hw h
  · have e0 := (hT.uniq hT' (zn z) 0 (Nat.zero_le _) (Nat.le_refl _)).1
    rcases h with ⟨h, -⟩ | ⟨v', h1, h2, h⟩
    · have := (nI_leI (a := R' 0) (b := v) (by omega) (by omega)).mp h
      omega
    · obtain rfl := nI_inj (a := v) (b := v') (by omega) (by omega) h2
      obtain ⟨c1, c2⟩ := itr_congr hT hT' v
      have c3 := (hT.uniq hT' (zn z - itr (zn z) T v 0) _ c2 (Nat.le_refl _)).2
      rw [← c1, ← c3, hA, hB] at h
      exact h
theorem v_trE (hv : vS z) (hT : trk (zM z) (zn z) R T) (h : sp_track z (nI (R 0)) 0 r) : r = -5 := by
  have l0 := (hT.le (zn z) 0 (Nat.zero_le _) (Nat.le_refl _)).1
  have hn := hv.1.1
  rcases h with ⟨h, -⟩ | ⟨-, R', T', hT', h⟩
  · rcases h with h | h
    · exact absurd h (nI_pos (by omega))
    · exact absurd (by decide) h
  · have e0 := (hT.uniq hT' (zn z) 0 (Nat.zero_le _) (Nat.le_refl _)).1
    rcases h with ⟨-, h⟩ | ⟨v', h1, h2, h⟩
    · exact h
    · have := nI_inj (a := R 0) (b := v') (by omega) (by omega) h2
      omega
theorem v_trM (h : sp_track z (-1) w r) : r = -2 := by
  rcases h with ⟨-, h⟩ | ⟨h, -⟩
  · exact h
  · exact absurd (Or.inl (by decide)) h
theorem rw0 (h : sp_row M n A B 0 r) : ∃ e, e < n ∧ pB M A B e = true ∧ (∀ q, q < e → ¬ pB M A B q = true) ∧ r = nI e := by
  rcases h with ⟨-, h⟩ | ⟨h, -⟩ | ⟨h, -⟩ | ⟨⟨h, -⟩, -⟩
  · exact h
  · exact absurd h (by decide)
  · exact absurd h (by decide)
  · exact absurd rfl h
theorem rw1 (h : sp_row M n A B 1 r) : ∃ e, e < n ∧ pB M A B e = true ∧ (∀ q, e < q → q < n → ¬ pB M A B q = true) ∧ r = nI e := by
  rcases h with ⟨h, -⟩ | ⟨-, h⟩ | ⟨h, -⟩ | ⟨⟨-, h, -⟩, -⟩
  · exact absurd h (by decide)
  · exact h
  · exact absurd h (by decide)
  · exact absurd rfl h
theorem rw2 (h : sp_row M n A B 2 r) : r = nI (mk (pB M A B) n) := by
  rcases h with ⟨h, -⟩ | ⟨h, -⟩ | ⟨-, h⟩ | ⟨⟨-, -, h⟩, -⟩
  · exact absurd h (by decide)
  · exact absurd h (by decide)
  · exact h
  · exact absurd rfl h
theorem rw3 (h : sp_row M n A B 3 r) : ((∀ i j k, ¬ trio (pB M A B) n i j k) ∧ r = -5) ∨ ∃ i j k, isBest M (pB M A B) n i j k ∧ r = nI i := by
  rcases h with ⟨h, -⟩ | ⟨h, -⟩ | ⟨h, -⟩ | ⟨-, h⟩
  · exact absurd h (by decide)
  · exact absurd h (by decide)
  · exact absurd h (by decide)
  · rcases h with h | ⟨i, j, k, hb, h⟩
    · exact Or.inl h
    · exact Or.inr ⟨i, j, k, hb, h.trans (by rw [if_pos rfl])⟩
theorem rw3b (hn : n ≤ 10) (h : ((∀ i j k, ¬ trio (pB M A B) n i j k) ∧ r = -5) ∨ ∃ i j k, isBest M (pB M A B) n i j k ∧ r = nI i) (h0 : 0 ≤ r) : ∃ i j k, isBest M (pB M A B) n i j k ∧ r = nI i := by
  rcases h with ⟨-, h⟩ | h
  · rw [h] at h0
    exact absurd h0 (by decide)
  · exact h
theorem rw3t (hn : n ≤ 10) (h : ((∀ i j k, ¬ trio (pB M A B) n i j k) ∧ r = -5) ∨ ∃ i j k, isBest M (pB M A B) n i j k ∧ r = nI i) : 0 ≤ r ↔ 3 ≤ nI (cnt (pB M A B) n) := by
  rw [cn3 hn]
  rcases h with ⟨h, rfl⟩ | ⟨i, j, k, hb, rfl⟩
  · refine ⟨fun q => absurd q (by decide), fun q => ?_⟩
    obtain ⟨i, j, k, ht⟩ := trio_of q
    exact absurd ht (h i j k)
  · obtain ⟨b1, b2, b3, -⟩ := bst3 hb
    exact ⟨fun _ => trio_3 hb.1, fun _ => nI_pos' (by omega)⟩
theorem rw4 {i j k : Nat} (hn : n ≤ 10) (hb : isBest M (pB M A B) n i j k) (h : sp_row M n A B 4 r) : r = nI j := by
  rcases h with ⟨h, -⟩ | ⟨h, -⟩ | ⟨h, -⟩ | ⟨-, h⟩
  · exact absurd h (by decide)
  · exact absurd h (by decide)
  · exact absurd h (by decide)
  · rcases h with ⟨h, -⟩ | ⟨i', j', k', hb', h⟩
    · exact absurd hb.1 (h i j k)
    · obtain ⟨rfl, rfl, rfl⟩ := hb.uniq hn hb'
      rw [if_neg (by decide), if_pos rfl] at h
      exact h
theorem rw5 {i j k : Nat} (hn : n ≤ 10) (hb : isBest M (pB M A B) n i j k) (h : sp_row M n A B 5 r) : r = nI k := by
  rcases h with ⟨h, -⟩ | ⟨h, -⟩ | ⟨h, -⟩ | ⟨-, h⟩
  · exact absurd h (by decide)
  · exact absurd h (by decide)
  · exact absurd h (by decide)
  · rcases h with ⟨h, -⟩ | ⟨i', j', k', hb', h⟩
    · exact absurd hb.1 (h i j k)
    · obtain ⟨rfl, rfl, rfl⟩ := hb.uniq hn hb'
      rw [if_neg (by decide), if_neg (by decide)] at h
      exact h
theorem pB_iff {q : Nat} : pB M A B q = true ↔ pU M q = true ∧ A ≤ q ∧ q < B := by
  unfold pB
  simp
theorem pB_sk {a : Nat} (h : ¬ pU M a = true) : pB M a B = pB M (a + 1) B := by
  funext q
  rw [Bool.eq_iff_iff, pB_iff, pB_iff]
  refine ⟨fun ⟨h1, h2, h3⟩ => ⟨h1, ?_, h3⟩, fun ⟨h1, h2, h3⟩ => ⟨h1, by omega, h3⟩⟩
  by_cases e : a = q
  · rw [e] at h
    exact absurd h1 h
  · omega
theorem trk.fit (h : trk M n R T) : ∀ d a, a ≤ n → n - a ≤ d → 0 < R a → fitR M n a (T a) := by
  obtain ⟨h1, h2, h3⟩ := h
  intro d
  induction d with
  | zero =>
    intro a ha hd h0
    have e : a = n := by omega
    subst e
    omega
  | succ d ih =>
    intro a ha hd h0
    by_cases e : a = n
    · subst e
      omega
    · have han : a < n := by omega
      by_cases hu : pU M a = true
      · exact ((h3 a han).2 hu).2.2.1
      · obtain ⟨a1, a2⟩ := (h3 a han).1 hu
        have := ih (a + 1) (by omega) (by omega) (by omega)
        unfold fitR at *
        rw [pB_sk hu, a2]
        exact this
theorem row_facts (hT : trk M n R T) (hx : v < R 0) : ∃ A B, itr n T v 0 = A ∧ T A = B ∧ A < n ∧ B ≤ n ∧ itr n T (v + 1) 0 = B ∧ fitR M n A B := by
  obtain ⟨a1, a2⟩ := trk_itr hT v hx
  obtain ⟨b1, b2, -⟩ := hT.next (n - itr n T v 0) _ a1 (Nat.le_refl _) (by omega)
  refine ⟨_, _, rfl, rfl, b1, (hT.le (n - itr n T v 0) _ a1 (Nat.le_refl _)).2.2, ?_, hT.fit (n - itr n T v 0) _ a1 (Nat.le_refl _) (by omega)⟩
  rw [itr_succ, if_pos b1]
theorem noU (h : trk M n R T) : ∀ d a, a ≤ n → n - a ≤ d → R a = 0 → ∀ q, a ≤ q → q < n → ¬ pU M q = true := by
  obtain ⟨h1, h2, h3⟩ := h
  intro d
  induction d with
  | zero =>
    intro a ha hd h0 q q1 q2
    omega
  | succ d ih =>
    intro a ha hd h0 q q1 q2 hu
    have han : a < n := by omega
    by_cases hua : pU M a = true
    · have := ((h3 a han).2 hua).2.2.2.1
      omega
    · by_cases e : a = q
      · rw [e] at hua
        exact hua hu
      · exact ih (a + 1) (by omega) (by omega) (by rw [← ((h3 a han).1 hua).1]; exact h0) q (by omega) q2 hu
theorem itr_end (h : trk M n R T) : itr n T (R 0) 0 ≤ n ∧ R (itr n T (R 0) 0) = 0 := by
  by_cases e : R 0 = 0
  · rw [e]
    exact ⟨Nat.zero_le _, e⟩
  · obtain ⟨v, hv⟩ : ∃ v, R 0 = v + 1 := ⟨R 0 - 1, by omega⟩
    obtain ⟨a1, a2⟩ := trk_itr h v (by omega)
    obtain ⟨b1, b2, -⟩ := h.next (n - itr n T v 0) _ a1 (Nat.le_refl _) (by omega)
    rw [hv, itr_succ, if_pos b1]
    exact ⟨(h.le (n - itr n T v 0) _ a1 (Nat.le_refl _)).2.2, by omega⟩
theorem all_end (h : trk M n R T) {q : Nat} (hq : q < n) (hu : pU M q = true) : q < itr n T (R 0) 0 := by
  obtain ⟨a1, a2⟩ := itr_end h
  exact Nat.not_le.mp (fun g => noU h (n - itr n T (R 0) 0) _ a1 (Nat.le_refl _) a2 q g hq hu)
/-! how many rows there are -/
theorem c_step {a : Nat} (ha : a < n) (hu : pU M a = true) : cnt (fun q => pU M q && decide (a ≤ q)) n = 1 + cnt (fun q => pU M q && decide (a + 1 ≤ q)) n := by
  rw [← cnt_split (fun q => pU M q && decide (a ≤ q)) (fun q => decide (q = a)) n]
  congr 1
  · refine cnt_one n ha (fun q hq => ?_)
    constructor
    · intro h
      have := (Bool.and_eq_true_iff.mp h).2
      exact of_decide_eq_true this
    · intro h
      subst h
      simp [hu]
  · refine cnt_congr (fun q hq => ?_)
    rw [Bool.eq_iff_iff]
    simp only [Bool.and_eq_true_iff, decide_eq_true_eq, Bool.not_eq_true', decide_eq_false_iff_not]
    constructor
    · rintro ⟨⟨h1, h2⟩, h3⟩
      exact ⟨h1, by omega⟩
    · rintro ⟨h1, h2⟩
      exact ⟨⟨h1, by omega⟩, by omega⟩
theorem c_skip {a : Nat} (hu : ¬ pU M a = true) : cnt (fun q => pU M q && decide (a ≤ q)) n = cnt (fun q => pU M q && decide (a + 1 ≤ q)) n := by
  refine cnt_congr (fun q hq => ?_)
  rw [Bool.eq_iff_iff]
  simp only [Bool.and_eq_true_iff, decide_eq_true_eq]
  refine ⟨fun ⟨h1, h2⟩ => ⟨h1, ?_⟩, fun ⟨h1, h2⟩ => ⟨h1, by omega⟩⟩
  by_cases e : a = q
  · rw [e] at hu
    exact absurd h1 hu
  · omega
theorem c_skips {a b : Nat} (hab : a ≤ b) (hno : ∀ q, a ≤ q → q < b → ¬ pU M q = true) : cnt (fun q => pU M q && decide (a ≤ q)) n = cnt (fun q => pU M q && decide (b ≤ q)) n := by
  induction b with
  | zero => rw [show a = 0 by omega]
  | succ b ih =>
    by_cases e : a = b + 1
    · rw [e]
    · rw [ih (by omega) (fun q h1 h2 => hno q h1 (by omega)), c_skip (hno b (by omega) (by omega))]
theorem half (h : trk M n R T) : ∀ d a, a ≤ n → n - a ≤ d → 2 * R a ≤ cnt (fun q => pU M q && decide (a ≤ q)) n + 1 := by
  obtain ⟨h1, h2, h3⟩ := id h
  intro d
  induction d with
  | zero =>
    intro a ha hd
    have e : a = n := by omega
    subst e
    omega
  | succ d ih =>
    intro a ha hd
    by_cases e : a = n
    · subst e
      omega
    · have han : a < n := by omega
      by_cases hu : pU M a = true
      · obtain ⟨g1, g2, g3, g4, g5⟩ := (h3 a han).2 hu
        rw [c_step han hu]
        by_cases hq : ∃ q, a < q ∧ q < n ∧ pU M q = true
        · obtain ⟨q, ⟨q1, q2, q3⟩, q4⟩ := pk_least (fun q => a < q ∧ q < n ∧ pU M q = true) hq
          have hf : fitR M n a (q + 1) := Or.inl (fun i j k ht => by
            obtain ⟨t1, t2, t3, t4, t5, t6⟩ := ht
            rw [pB_iff] at t4 t5 t6
            by_cases ej : j = q
            · omega
            · exact q4 j (by omega) ⟨by omega, by omega, t5.1⟩)
          have := (g5 (q + 1) (by omega) (by omega) hf).1
          have := ih (q + 1) (by omega) (by omega)
          rw [c_skips (a := a + 1) (b := q) (by omega) (fun q' h8 h9 hu' => q4 q' h9 ⟨by omega, by omega, hu'⟩), c_step q2 q3]
          omega
        · have hf : fitR M n a n := Or.inl (fun i j k ht => by
            obtain ⟨t1, t2, t3, t4, t5, t6⟩ := ht
            rw [pB_iff] at t4 t5 t6
            exact hq ⟨j, by omega, by omega, t5.1⟩)
          have := (g5 n han (Nat.le_refl _) hf).1
          omega
      · rw [((h3 a han).1 hu).1, c_skip hu]
        exact ih (a + 1) (by omega) (by omega)
theorem half0 (h : trk M n R T) : 2 * R 0 ≤ cnt (pU M) n + 1 := by
  have := half h n 0 (Nat.zero_le _) (Nat.le_refl _)
  rw [show cnt (fun q => pU M q && decide (0 ≤ q)) n = cnt (pU M) n from cnt_congr (fun q _ => by simp)] at this
  exact this
/-! what the law checks of a row -/
theorem bit1 {e : Nat} (hn : n ≤ 10) (he : e < n) (h : P e = true) : (nI (mk P n) >>> (nI e &&& 31)) &&& 1 = 1 := by
  rw [hit_at hn he, h]
  rfl
theorem shz : ∀ f, f < 10 → ∀ a, a < 1024 → a < 2 ^ (f + 1) → nI a >>> ((nI f + 1) &&& 31) = 0 := by decide +kernel
theorem shr0 {f : Nat} (hn : n ≤ 10) (hf : f < n) (h : ∀ q, f < q → q < n → ¬ P q = true) : nI (mk P n) >>> ((nI f + 1) &&& 31) = 0 := by
  refine shz f (by omega) _ (mk_lt10 P hn) ?_
  rw [show mk P n = mk P (f + 1) from mk_ext (fun i => by
    rw [Bool.eq_iff_iff]
    simp only [Bool.and_eq_true_iff, decide_eq_true_eq]
    refine ⟨fun ⟨h1, h2⟩ => ⟨Nat.not_le.mp (fun g => h i (by omega) h1 h2), h2⟩, fun ⟨h1, h2⟩ => ⟨by omega, h2⟩⟩)]
  exact mk_lt P (f + 1)
theorem and0 (h : ∀ q, q < n → P q = true → ¬ Q q = true) : nI (mk P n) &&& nI (mk Q n) = 0 := by
  rw [nI_and, show mk P n &&& mk Q n = 0 from Nat.eq_of_testBit_eq (fun i => by
    rw [Nat.testBit_and, mk_tb, mk_tb, Nat.zero_testBit]
    by_cases hi : i < n
    · have := h i hi
      cases hp : P i
      · simp
      · have hq := this hp
        simp [hq]
    · simp [hi])]
  rfl
theorem or_mk (P Q : Nat → Bool) (n : Nat) : nI (mk P n) ||| nI (mk Q n) = nI (mk (fun q => P q || Q q) n) := by
  rw [nI_or]
  refine congrArg nI (Nat.eq_of_testBit_eq (fun i => ?_))
  rw [Nat.testBit_or, mk_tb, mk_tb, mk_tb]
  cases decide (i < n) <;> simp
theorem cnt_sub (h : ∀ q, q < n → P q = true → Q q = true) : cnt P n ≤ cnt Q n := by
  induction n with
  | zero => exact Nat.le_refl _
  | succ n ih =>
    have h1 := ih (fun q hq => h q (by omega))
    have h2 := h n (Nat.lt_succ_self _)
    show cnt P n + (if P n then 1 else 0) ≤ cnt Q n + (if Q n then 1 else 0)
    cases hp : P n
    · simp
      omega
    · rw [h2 hp]
      simp
      omega
theorem v_ft (hv : vS z) (hk : k < zn z) (hu : pU (zM z) k = true) (h : sp_fitsFrom z (nI k) r) : ∃ e, k < e ∧ e ≤ zn z ∧ (∀ e', e < e' → e' ≤ zn z → ¬ fitR (zM z) (zn z) k e') ∧ r = nI (cnt (pB (zM z) k e) (zn z)) := by
  rcases h with ⟨h, -⟩ | ⟨k', hk', e, h⟩
  · exact absurd ⟨k, hk, rfl⟩ h
  · obtain rfl := heldU hv.1.1 hk hk' e
    rcases h with ⟨h, -⟩ | ⟨-, e, h1, h2, -, h4, h5⟩
    · exact absurd hu h
    · exact ⟨e, h1, h2, h4, h5⟩
theorem ft_ge {e e9 : Nat} (hn : n ≤ 10) (hB : B ≤ n) (hfit : fitR M n A B) (he2 : pB M A B e = true) (he3 : ∀ q, q < e → ¬ pB M A B q = true) (h4 : ∀ e', e9 < e' → e' ≤ n → ¬ fitR M n e e') : ¬ nI (cnt (pB M e e9) n) < nI (cnt (pB M A B) n) := by
  have hE : pB M A B = pB M e B := by
    funext q
    have e2 := pB_iff.mp he2
    rw [Bool.eq_iff_iff, pB_iff, pB_iff]
    refine ⟨fun ⟨h1, h2, h3⟩ => ⟨h1, Nat.not_lt.mp (fun g => he3 q g (pB_iff.mpr ⟨h1, h2, h3⟩)), h3⟩, fun ⟨h1, h2, h3⟩ => ⟨h1, by omega, h3⟩⟩
  have hB9 : B ≤ e9 := Nat.not_lt.mp (fun g => h4 B g hB (by unfold fitR at *; rw [← hE]; exact hfit))
  have hc : cnt (pB M A B) n ≤ cnt (pB M e e9) n := by
    rw [hE]
    refine cnt_sub (fun q hq h => ?_)
    rw [pB_iff] at h ⊢
    exact ⟨h.1, h.2.1, by omega⟩
  have c1 := cnt_le (pB M A B) n
  have c2 := cnt_le (pB M e e9) n
  exact nI_nlt hc (by omega)
theorem fit0 {i j k : Nat} (hn : n ≤ 10) (hfit : fitR M n A B) (hb : isBest M (pB M A B) n i j k) : nI (mk (pB M A B) n) &&& (nI (mk (fun u => pU M u && hitB M i j k u) n) ^^^ -1) = 0 := by
  have h0 : mk (pM M (pB M A B) i j k) n = 0 := by
    rcases hfit with h | ⟨i', j', k', hb', h⟩
    · exact absurd hb.1 (h i j k)
    · obtain ⟨rfl, rfl, rfl⟩ := hb.uniq hn hb'
      exact h
  rw [and_not_mk, show mk (fun q => pB M A B q && !(pU M q && hitB M i j k q)) n = 0 from ?_]
  · rfl
  · rw [← h0]
    refine mk_congr (fun q hq => ?_)
    unfold pM
    cases hp : pB M A B q
    · rfl
    · rw [(pB_iff.mp hp).1]
      simp
theorem row_u {i : Nat} (h : pB M A B i = true) : pU M i = true := (pB_iff.mp h).1
/-- the law's next photo and the row's first -/
theorem nx_e {N e : Nat} (hN : ∀ q, q < n → pU M q = true → (q < N ↔ q < A)) (he1 : e < n) (he2 : pB M A B e = true) : N ≤ e := by
  obtain ⟨h1, h2, h3⟩ := pB_iff.mp he2
  exact Nat.not_lt.mp (fun g => by have := (hN e he1 h1).mp g; omega)
theorem nx_eq {N N1 e : Nat} (hN : ∀ q, q < n → pU M q = true → (q < N ↔ q < A)) (he1 : e < n) (he2 : pB M A B e = true) (he3 : ∀ q, q < e → ¬ pB M A B q = true) (h0 : N ≤ N1) (h1 : N1 ≤ e) (hu : pU M N1 = true) : e = N1 := by
  obtain ⟨g1, g2, g3⟩ := pB_iff.mp he2
  by_cases h : N1 < e
  · have hA : A ≤ N1 := Nat.not_lt.mp (fun g => by have := (hN N1 (by omega) hu).mpr g; omega)
    exact absurd (pB_iff.mpr ⟨hu, hA, by omega⟩) (he3 N1 h)
  · omega
theorem nx_ne {N1 e : Nat} (he2 : pB M A B e = true) (h1 : N1 ≤ e) (hu : ¬ pU M N1 = true) : N1 + 1 ≤ e := by
  by_cases h : N1 = e
  · rw [h] at hu
    exact absurd (pB_iff.mp he2).1 hu
  · omega
theorem dj {N : Nat} (hN : ∀ q, q < n → pU M q = true → (q < N ↔ q < A)) : nI (mk (pB M A B) n) &&& nI (mk (fun q => pU M q && decide (q < N)) n) = 0 := and0 (fun q hq h1 h2 => by
  obtain ⟨g1, g2, g3⟩ := pB_iff.mp h1
  have g4 := of_decide_eq_true (Bool.and_eq_true_iff.mp h2).2
  have := (hN q hq g1).mp g4
  omega)
theorem or_nx {N e f : Nat} (hN : ∀ q, q < n → pU M q = true → (q < N ↔ q < A)) (he2 : pB M A B e = true) (he3 : ∀ q, q < e → ¬ pB M A B q = true) (hf2 : pB M A B f = true) (hf3 : ∀ q, f < q → q < n → ¬ pB M A B q = true) : nI (mk (fun q => pU M q && decide (q < N)) n) ||| nI (mk (pB M A B) n) = nI (mk (fun q => pU M q && decide (q < f + 1)) n) := by
  rw [or_mk]
  refine congrArg nI (mk_congr (fun q hq => ?_))
  have f2 := pB_iff.mp hf2
  rw [Bool.eq_iff_iff]
  simp only [Bool.or_eq_true_iff, Bool.and_eq_true_iff, decide_eq_true_eq]
  constructor
  · rintro (⟨h1, h2⟩ | h)
    · have := (hN q hq h1).mp h2
      exact ⟨h1, by omega⟩
    · exact ⟨row_u h, Nat.not_le.mp (fun g => hf3 q (by omega) hq h)⟩
  · rintro ⟨h1, h2⟩
    by_cases h : q < A
    · exact Or.inl ⟨h1, (hN q hq h1).mpr h⟩
    · exact Or.inr (pB_iff.mpr ⟨h1, by omega, by omega⟩)
theorem nx_new {f : Nat} (hf2 : pB M A B f = true) (hf3 : ∀ q, f < q → q < n → ¬ pB M A B q = true) {B' : Nat} (hB' : B' = B) : ∀ q, q < n → pU M q = true → (q < f + 1 ↔ q < B') := by
  intro q hq hu
  obtain ⟨g1, g2, g3⟩ := pB_iff.mp hf2
  subst hB'
  refine ⟨fun h => by omega, fun h => Nat.not_le.mp (fun g => hf3 q (by omega) hq (pB_iff.mpr ⟨hu, by omega, h⟩))⟩
theorem all_mk {N : Nat} (hT : trk M n R T) (hN : ∀ q, q < n → pU M q = true → (q < N ↔ q < itr n T (R 0) 0)) : ∀ q, q < n → (pU M q && decide (q < N)) = pU M q := by
  intro q hq
  cases hu : pU M q
  · rfl
  · rw [Bool.true_and]
    exact decide_eq_true ((hN q hq hu).mpr (all_end hT hq hu))
theorem half_I {N : Nat} (hn : n ≤ 10) (hT : trk M n R T) (hN : ∀ q, q < n → pU M q = true → (q < N ↔ q < itr n T (R 0) 0)) : ¬ (nI (cnt (fun q => pU M q && decide (q < N)) n) + 1) / 2 < nI (R 0) := by
  have h1 := half0 hT
  have h2 := cnt_le (pU M) n
  rw [cnt_congr (all_mk hT hN), nI_1, show (2 : Int32) = nI 2 from rfl, pk_div (by omega) (by decide) (by decide)]
  exact nI_nlt (by omega) (by omega)
end VT
