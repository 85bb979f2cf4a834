/-! THE LAW: acts. Where an angle is none, its error is 0 -/
def ok5 (n : Nat) (M : Nat → Nat → Int32) : Prop := ∀ k, k < n → M 4 k = 360 → M 5 k = 0
def vQ (z : xS) : Prop := ok5 (zn z) (zM z) ∧ ∀ i, i < zh z → ok5 (zN z i) (zMM z i)
/-- an act: the state is the same, or it is recorded and the photos are others -/
def acR (z z1 : xS) : Prop := z1 = z ∨ ∃ n M, z1 = wP (wR z) n M
section VC
variable {z z1 : xS} {k p n : Nat} {r w a e x y : Int32} {M : Nat → Nat → Int32} {P : Nat → Bool}
theorem vQ_rec {n : Nat} {M : Nat → Nat → Int32} (h : vQ z) (hm : ok5 n M) (he : z1 = wP (wR z) n M) : vQ z1 := by
  subst he
  refine ⟨hm, fun i hi => ?_⟩
  show ok5 (rcV (zh z) (zN z) (zn z) i) (rcV (zh z) (zMM z) (zM z) i)
  have hi : i < rcS (zh z) := hi
  unfold rcS at hi
  unfold rcV
  by_cases c : zh z < 4
  · rw [if_pos c] at hi
    rw [if_pos c, if_pos c]
    by_cases d : i < zh z
    · rw [if_pos d, if_pos d]
      exact h.2 i d
    · rw [if_neg d, if_neg d]
      exact h.1
  · rw [if_neg c] at hi
    rw [if_neg c, if_neg c]
    by_cases d : i < 3
    · rw [if_pos d, if_pos d]
      exact h.2 (i + 1) (by omega)
    · rw [if_neg d, if_neg d]
      exact h.1
theorem q401 {q : Nat} (hq : q < 401) (h : x = nI q - 200) : -200 ≤ x.toInt ∧ x.toInt ≤ 200 := by
  rw [h, show (200 : Int32) = nI 200 from rfl, pk_sub_toInt (by omega) (by decide)]
  omega
theorem r400 (h : -200 ≤ x.toInt ∧ x.toInt ≤ 200) : -400 ≤ x ∧ x ≤ 400 := by
  refine ⟨?_, ?_⟩ <;> rw [I_le]
  · rw [show (-400 : Int32).toInt = -400 from rfl]
    omega
  · rw [show (400 : Int32).toInt = 400 from rfl]
    omega
/-! a photo comes -/
def thB (M : Nat → Nat → Int32) (x : Int32) : Nat → Bool
  | 0 => false
  | k + 1 => thB M x k || decide (M 0 k = x)
theorem bI_o0 (b : Bool) : bI b ||| 0 = bI b := by cases b <;> decide
theorem bI_o1 (b : Bool) : bI b ||| 1 = 1 := by cases b <;> decide
theorem th_t (h : M 0 k = x) : bI (thB M x k) ||| 1 = bI (thB M x (k + 1)) := by
  rw [bI_o1]
  show _ = bI (thB M x k || decide (M 0 k = x))
  rw [decide_eq_true h, Bool.or_true]
  rfl
theorem th_f (h : ¬ M 0 k = x) : bI (thB M x k) ||| 0 = bI (thB M x (k + 1)) := by
  rw [bI_o0]
  show _ = bI (thB M x k || decide (M 0 k = x))
  rw [decide_eq_false h, Bool.or_false]
theorem th_exN : ∀ n : Nat, thB M x n = true ↔ ∃ k, k < n ∧ M 0 k = x
  | 0 => ⟨fun h => Bool.noConfusion h, fun ⟨k, hk, _⟩ => absurd hk (Nat.not_lt_zero _)⟩
  | n + 1 => by
    show (thB M x n || decide (M 0 n = x)) = true ↔ _
    rw [Bool.or_eq_true_iff, decide_eq_true_eq, th_exN n]
    constructor
    · rintro (⟨k, h1, h2⟩ | h)
      · exact ⟨k, by omega, h2⟩
      · exact ⟨n, by omega, h⟩
    · rintro ⟨k, h1, h2⟩
      by_cases c : k = n
      · exact Or.inr (by rw [← c]; exact h2)
      · exact Or.inl ⟨k, by omega, h2⟩
theorem th_ex {n : Nat} : thB M x n = true ↔ ∃ k, k < n ∧ M 0 k = x := th_exN n
def ltB (M : Nat → Nat → Int32) (x : Int32) (q : Nat) : Bool := decide (M 0 q < x)
theorem lt_t (h : M 0 k < x) : nI (cnt (ltB M x) k) + 1 = nI (cnt (ltB M x) (k + 1)) := cnt_t (decide_eq_true h)
theorem lt_f (h : ¬ M 0 k < x) : nI (cnt (ltB M x) k) + 0 = nI (cnt (ltB M x) (k + 1)) := cnt_f (fun q => h (of_decide_eq_true q))
theorem cnt_upto {P : Nat → Bool} {n m : Nat} (hm : m ≤ n) (h1 : ∀ q, q < m → P q = true) (h2 : ∀ q, m ≤ q → q < n → ¬ P q = true) : cnt P n = m := by
  induction n with
  | zero => rw [show m = 0 by omega]; rfl
  | succ n ih =>
    by_cases c : m = n + 1
    · subst c
      clear ih h2
      have : ∀ t, (∀ q, q < t → P q = true) → cnt P t = t := by
        intro t
        induction t with
        | zero => intro _; rfl
        | succ t iht =>
          intro hq
          rw [cnt_at (hq t (Nat.lt_succ_self _)), iht (fun q hq' => hq q (by omega))]
      exact this _ h1
    · show cnt P n + (if P n then 1 else 0) = m
      rw [if_neg (h2 n (by omega) (Nat.lt_succ_self _)), ih (by omega) (fun q h3 h4 => h2 q h3 (by omega))]
      rfl
theorem plc_cnt (hv : vld n M) : cnt (ltB M x) n = plc M x n 0 := by
  have hle := plc_le M x n 0
  refine cnt_upto (by omega) (fun q hq => decide_eq_true (plc_lt n 0 q (Nat.zero_le _) hq)) (fun q h1 h2 h3 => ?_)
  have h4 := of_decide_eq_true h3
  by_cases c : plc M x n 0 = q
  · exact plc_ge (M := M) (x := x) n 0 (by omega) (by rw [c]; exact h4)
  · have h5 := v_lt hv (show plc M x n 0 < q by omega) h2
    exact plc_ge (M := M) (x := x) n 0 (by omega) (Int32.lt_trans h5 h4)
theorem rng_ad {t er : Nat} (ht : t < 100) (he : er < 41) (hx : -400 ≤ x ∧ x ≤ 400) (hy : -400 ≤ y ∧ y ≤ 400) : rngT (tld (nI t) x y (nI er) 360 0) :=
  ⟨⟨nI_pos' (by omega), (nI_leI (b := 99) (by omega) (by decide)).mpr (by omega)⟩, hx, hy, ⟨nI_pos' (by omega), (nI_leI (b := 40) (by omega) (by decide)).mpr (by omega)⟩, (show ((0 : Int32) ≤ 360 ∧ (360 : Int32) ≤ 360) ∧ (0 : Int32) ≤ 0 ∧ (0 : Int32) ≤ 60 by decide)⟩
theorem ad_c (hr : rngT (tld w x y e 360 0)) (h : sp_addPhoto z w x y e r z1) : sp_comes z (tld w x y e 360 0) r z1 := by
  rcases h with ⟨h, -⟩ | ⟨-, h⟩
  · exact absurd hr h
  · exact h
theorem ad_4 (hr : rngT (tld w x y e 360 0)) (ht : thB (zM z) w (zn z) = true) (h : sp_addPhoto z w x y e r z1) : r = -4 ∧ z1 = z := by
  rcases ad_c hr h with ⟨-, h⟩ | ⟨h, -⟩
  · exact h
  · exact absurd (th_ex.mp ht) h
theorem ad_3 (hr : rngT (tld w x y e 360 0)) (ht : thB (zM z) w (zn z) = false) (hn : zn z = 10) (h : sp_addPhoto z w x y e r z1) : r = -3 ∧ z1 = z := by
  rcases ad_c hr h with ⟨h, -⟩ | ⟨-, h⟩
  · have h : ∃ k, k < zn z ∧ zM z 0 k = w := h
    exact absurd (th_ex.mpr h) (by rw [ht]; decide)
  · rcases h with ⟨-, h⟩ | ⟨h, -⟩
    · exact h
    · omega
theorem ad_n (hv : vS z) (hr : rngT (tld w x y e 360 0)) (ht : thB (zM z) w (zn z) = false) (hn : ¬ zn z = 10) (h : sp_addPhoto z w x y e r z1) : ∃ q, q = cnt (ltB (zM z) w) (zn z) ∧ q ≤ zn z ∧ r = nI q ∧ zn z < 10 ∧ z1 = wP (wR z) (zn z + 1) (insM (zM z) q (tld w x y e 360 0)) := by
  rcases ad_c hr h with ⟨h, -⟩ | ⟨-, h⟩
  · have h : ∃ k, k < zn z ∧ zM z 0 k = w := h
    exact absurd (th_ex.mpr h) (by rw [ht]; decide)
  · rcases h with ⟨h, -⟩ | ⟨h1, h2, h3⟩
    · exact absurd h hn
    · have e := plc_cnt (x := w) hv.1.2
      have hle := plc_le (zM z) w (zn z) 0
      have h2 : r = nI (plc (zM z) w (zn z) 0) := h2
      exact ⟨_, rfl, by omega, by rw [e]; exact h2, h1, by rw [e]; exact h3⟩
theorem ad_2 (hr : ¬ rngT (tld w x y e 360 0)) (h : sp_addPhoto z w x y e r z1) : r = -2 ∧ z1 = z := by
  rcases h with ⟨-, h⟩ | ⟨h, -⟩
  · exact h
  · exact absurd h hr
theorem no100 : ¬ rngT (tld 100 0 0 0 360 0) := fun h => absurd h.1.2 (by decide)
theorem ins_w {q m w : Nat} {f : Nat → Int32} (h : z1 = wP (wR z) m (insM M q f)) (hw : w < 6) : zM z1 w q = f w := by
  subst h
  show insM M q f w q = f w
  unfold insM
  rw [if_neg (Nat.lt_irrefl _), if_pos rfl, if_pos hw]
theorem ins_6 {q m : Nat} {f : Nat → Int32} (h : z1 = wP (wR z) m (insM M q f)) : zM z1 6 q = 0 := by
  subst h
  show insM M q f 6 q = 0
  unfold insM
  rw [if_neg (Nat.lt_irrefl _), if_pos rfl, if_neg (by decide)]
theorem zn_w {m : Nat} (h : z1 = wP (wR z) m M) : zn z1 = m := by
  subst h
  rfl
theorem zM_w {m : Nat} (h : z1 = wP (wR z) m M) : zM z1 = M := by
  subst h
  rfl
theorem ok5_ins {q : Nat} {f : Nat → Int32} (h : ok5 n M) (hq : q ≤ n) (hf : f 5 = 0) : ok5 (n + 1) (insM M q f) := by
  intro k hk h4
  by_cases c : k < q
  · have a4 : insM M q f 4 k = M 4 k := if_pos c
    have a5 : insM M q f 5 k = M 5 k := if_pos c
    rw [a4] at h4
    rw [a5]
    exact h k (by omega) h4
  · by_cases d : k = q
    · have a5 : insM M q f 5 k = f 5 := (if_neg c).trans ((if_pos d).trans (if_pos (by decide)))
      rw [a5]
      exact hf
    · have a4 : insM M q f 4 k = M 4 (k - 1) := (if_neg c).trans (if_neg d)
      have a5 : insM M q f 5 k = M 5 (k - 1) := (if_neg c).trans (if_neg d)
      rw [a4] at h4
      rw [a5]
      exact h (k - 1) (by omega) h4
/-! nothing is there -/
theorem no_h (h0 : zn z = 0) : ¬ held (zn z) x := fun ⟨k, hk, _⟩ => by omega
theorem mv_0 (h0 : zn z = 0) (h : sp_move z w x y r z1) : r = -1 ∧ z1 = z := by
  rcases h with ⟨-, h⟩ | ⟨k, hk, -⟩
  · exact h
  · omega
theorem rm_0 (h0 : zn z = 0) (h : sp_remove z w r z1) : r = -1 ∧ z1 = z := by
  rcases h with ⟨-, h⟩ | ⟨k, hk, -⟩
  · exact h
  · omega
theorem sA_0 (h0 : zn z = 0) (h : sp_setAngle z w x y r z1) : r = -1 ∧ z1 = z := by
  rcases h with ⟨-, h⟩ | ⟨k, hk, -⟩
  · exact h
  · omega
theorem sD_0 {b : Bool} (h0 : zn z = 0) (h : sp_setAside z w b r z1) : r = -1 ∧ z1 = z := by
  rcases h with ⟨-, h⟩ | ⟨k, hk, -⟩
  · exact h
  · omega
/-! an angle is set -/
theorem ang_ok {an : Nat} (ha : an < 361) (he : 0 ≤ e ∧ e ≤ 60) (h0 : nI an = 360 → e = 0) : angOk (nI an) e := ⟨⟨nI_pos' (by omega), (nI_leI (b := 360) (by omega) (by decide)).mpr (by omega)⟩, he, h0⟩
theorem er_ok {er : Nat} (h : er < 61) : 0 ≤ nI er ∧ nI er ≤ 60 := ⟨nI_pos' (by omega), (nI_leI (b := 60) (by omega) (by decide)).mpr (by omega)⟩
theorem sA_s (hv : vS z) (hk : k < zn z) (ha : angOk a e) (h4 : zM z 4 k = a) (h5 : zM z 5 k = e) (h : sp_setAngle z (nI k) a e r z1) : r = -5 ∧ z1 = z := by
  rcases h with ⟨h, -⟩ | ⟨k', hk', ek, h⟩
  · exact absurd ⟨k, hk, rfl⟩ h
  · obtain rfl := heldU hv.1.1 hk hk' ek
    rcases h with ⟨h, -⟩ | ⟨-, h⟩
    · exact absurd ha h
    · rcases h with ⟨-, h⟩ | ⟨h, -⟩
      · exact h
      · exact absurd ⟨h4, h5⟩ h
theorem sA_n (hv : vS z) (hk : k < zn z) (ha : angOk a e) (hne : ¬ (zM z 4 k = a ∧ zM z 5 k = e)) (h : sp_setAngle z (nI k) a e r z1) : r = zM z 4 k ∧ z1 = wP (wR z) (zn z) (setM (setM (zM z) 4 k a) 5 k e) := by
  rcases h with ⟨h, -⟩ | ⟨k', hk', ek, h⟩
  · exact absurd ⟨k, hk, rfl⟩ h
  · obtain rfl := heldU hv.1.1 hk hk' ek
    rcases h with ⟨h, -⟩ | ⟨-, h⟩
    · exact absurd ha h
    · rcases h with ⟨h, -⟩ | ⟨-, h⟩
      · exact absurd h hne
      · exact h
theorem sA_2 (hk : k < zn z) (ha : ¬ angOk a e) (h : sp_setAngle z (nI k) a e r z1) : r = -2 ∧ z1 = z := by
  rcases h with ⟨h, -⟩ | ⟨k', hk', ek, h⟩
  · exact absurd ⟨k, hk, rfl⟩ h
  · rcases h with ⟨-, h⟩ | ⟨h, -⟩
    · exact h
    · exact absurd h ha
theorem no361 : ¬ angOk 360 1 := fun h => absurd (h.2.2 rfl) (by decide)
theorem sM_4 {m : Nat} (h : z1 = wP (wR z) m (setM (setM M 4 k a) 5 k e)) : zM z1 4 k = a := by
  rw [zM_w h]
  simp [setM]
theorem ok5_sA (h : ok5 n M) (h0 : a = 360 → e = 0) : ok5 n (setM (setM M 4 k a) 5 k e) := by
  intro q hq h4
  by_cases c : q = k
  · subst c
    have e4 : setM (setM M 4 q a) 5 q e 4 q = a := by simp [setM]
    have e5 : setM (setM M 4 q a) 5 q e 5 q = e := by simp [setM]
    rw [e4] at h4
    rw [e5]
    exact h0 h4
  · have e4 : setM (setM M 4 k a) 5 k e 4 q = M 4 q := by simp [setM, c]
    have e5 : setM (setM M 4 k a) 5 k e 5 q = M 5 q := by simp [setM, c]
    rw [e4] at h4
    rw [e5]
    exact h q hq h4
theorem ok5_set {v : Nat} (h : ok5 n M) (hv4 : v ≠ 4) (hv5 : v ≠ 5) : ok5 n (setM M v k a) := by
  intro q hq h4
  have e4 : setM M v k a 4 q = M 4 q := by simp [setM, Ne.symm hv4]
  have e5 : setM M v k a 5 q = M 5 q := by simp [setM, Ne.symm hv5]
  rw [e4] at h4
  rw [e5]
  exact h q hq h4
theorem an_pos (hv : vld n M) (hk : k < n) (h : 0 ≤ an4 M k) : ¬ M 4 k = 360 ∧ an4 M k = M 4 k := by
  have h1 : ¬ M 4 k = 360 := fun q => absurd ((an4_n hv hk).mpr q) (Int32.not_lt.mpr h)
  exact ⟨h1, if_neg h1⟩
theorem an_neg (hv : vld n M) (hk : k < n) (h : ¬ 0 ≤ an4 M k) : M 4 k = 360 ∧ an4 M k = -5 := by
  have h1 : M 4 k = 360 := (an4_n hv hk).mp (Int32.not_le.mp h)
  exact ⟨h1, if_pos h1⟩
/-- was it the same: an angle that isn't none -/
theorem an_eq {an : Nat} (ha : an < 361) (hne : ¬ nI an = 360) (h : an4 M k = nI an) : M 4 k = nI an := by
  unfold an4 at h
  split at h
  · have : (nI an).toInt = -5 := by rw [← h]; rfl
    rw [nI_Z (by omega)] at this
    omega
  · exact h
theorem an5_eq {an : Nat} (hne : ¬ nI an = 360) (h4 : M 4 k = nI an) : an5 M k = M 5 k := if_neg (by rw [h4]; exact hne)
theorem an_ne {an : Nat} (hne : ¬ nI an = 360) (h : ¬ an4 M k = nI an) : ¬ M 4 k = nI an := fun q => h ((if_neg (by rw [q]; exact hne)).trans q)
theorem an4_of {an : Nat} (hne : ¬ nI an = 360) (h : M 4 k = nI an) : an4 M k = nI an := (if_neg (by rw [h]; exact hne)).trans h
theorem an4_0 (h : M 4 k = 360) : an4 M k = -5 := if_pos h
/-! a photo is moved -/
theorem I_ac {x y : Int32} (h : x + 1000 = y + 1000) : x = y := by
  have h2 : x + 1000 - 1000 = y + 1000 - 1000 := congrArg (fun q => q - 1000) h
  rw [I_asc, I_asc] at h2
  exact h2
theorem mv_s (hv : vS z) (hk : k < zn z) (hx : -400 ≤ x ∧ x ≤ 400) (hy : -400 ≤ y ∧ y ≤ 400) (h1 : zM z 1 k = x) (h2 : zM z 2 k = y) (h : sp_move z (nI k) x y r z1) : r = -5 ∧ z1 = z := by
  rcases h with ⟨h, -⟩ | ⟨k', hk', ek, h⟩
  · exact absurd ⟨k, hk, rfl⟩ h
  · obtain rfl := heldU hv.1.1 hk hk' ek
    rcases h with ⟨h, -⟩ | ⟨-, h⟩
    · exact absurd ⟨hx, hy⟩ h
    · rcases h with ⟨-, h⟩ | ⟨h, -⟩
      · exact h
      · exact absurd ⟨h1, h2⟩ h
theorem mv_n (hv : vS z) (hk : k < zn z) (hx : -400 ≤ x ∧ x ≤ 400) (hy : -400 ≤ y ∧ y ≤ 400) (hne : ¬ (zM z 1 k = x ∧ zM z 2 k = y)) (h : sp_move z (nI k) x y r z1) : z1 = wP (wR z) (zn z) (setM (setM (zM z) 1 k x) 2 k y) ∧ ∃ v, msk (zn z1) (zM z1) v ∧ r = nI (pop v) := by
  rcases h with ⟨h, -⟩ | ⟨k', hk', ek, h⟩
  · exact absurd ⟨k, hk, rfl⟩ h
  · obtain rfl := heldU hv.1.1 hk hk' ek
    rcases h with ⟨h, -⟩ | ⟨-, h⟩
    · exact absurd ⟨hx, hy⟩ h
    · rcases h with ⟨h, -⟩ | ⟨-, h, e⟩
      · exact absurd h hne
      · refine ⟨e, ?_⟩
        rw [zn_w e, zM_w e]
        exact h
theorem mv_2 (hk : k < zn z) (hx : ¬ ((-400 ≤ x ∧ x ≤ 400) ∧ (-400 ≤ y ∧ y ≤ 400))) (h : sp_move z (nI k) x y r z1) : r = -2 ∧ z1 = z := by
  rcases h with ⟨h, -⟩ | ⟨k', hk', ek, h⟩
  · exact absurd ⟨k, hk, rfl⟩ h
  · rcases h with ⟨-, h⟩ | ⟨h, -⟩
    · exact h
    · exact absurd h hx
theorem sM_1 {m : Nat} (h : z1 = wP (wR z) m (setM (setM M 1 k x) 2 k y)) : zM z1 1 k = x := by
  rw [zM_w h]
  simp [setM]
/-- what best(3) tells, and what a move answered -/
theorem mv_b {v : Nat} {r3 : Int32} (hv : vS z) (hm : msk (zn z) (zM z) v) (h : sp_best z 3 r3) : (r3 < 0 ∧ nI (pop v) = 0) ∨ (¬ r3 < 0 ∧ nI (pop v) = r3) := by
  have hn := hv.1.1
  rcases hm with ⟨hno, rfl⟩ | ⟨i, j, k, hb, rfl⟩
  · rw [v_bsN hno (by decide) h]
    exact Or.inl ⟨by decide, by decide⟩
  · have c := cnt_le (pM (zM z) (pU (zM z)) i j k) (zn z)
    rw [v_bs3 hv hb h, pop_mk hn]
    exact Or.inr ⟨nI_pos (by omega), rfl⟩
/-! a photo is set aside -/
theorem sD_s {b : Bool} (hv : vS z) (hk : k < zn z) (hb : ¬ pU (zM z) k = b) (h : sp_setAside z (nI k) b r z1) : r = -5 ∧ z1 = z := by
  rcases h with ⟨h, -⟩ | ⟨k', hk', ek, h⟩
  · exact absurd ⟨k, hk, rfl⟩ h
  · obtain rfl := heldU hv.1.1 hk hk' ek
    rcases h with ⟨-, h⟩ | ⟨h, -⟩
    · exact h
    · exact absurd h hb
theorem sD_n {b : Bool} (hv : vS z) (hk : k < zn z) (hb : pU (zM z) k = b) (h : sp_setAside z (nI k) b r z1) : z1 = wP (wR z) (zn z) (setM (zM z) 6 k (bI b)) ∧ r = nI (cnt (pU (zM z1)) (zn z1)) := by
  rcases h with ⟨h, -⟩ | ⟨k', hk', ek, h⟩
  · exact absurd ⟨k, hk, rfl⟩ h
  · obtain rfl := heldU hv.1.1 hk hk' ek
    rcases h with ⟨h, -⟩ | ⟨-, h1, h2⟩
    · exact absurd hb h
    · refine ⟨h2, ?_⟩
      rw [zn_w h2, zM_w h2]
      exact h1
theorem sM_6 {m : Nat} (h : z1 = wP (wR z) m (setM M 6 k a)) : zM z1 6 k = a := by
  rw [zM_w h]
  simp [setM]
/-! missed photos are dropped -/
theorem dr_0 {i j l : Nat} (hv : vS z) (hb : isBest (zM z) (pU (zM z)) (zn z) i j l) (h0 : nI (mk (pM (zM z) (pU (zM z)) i j l) (zn z)) = 0) (h : sp_dropMissed z r z1) : r = -5 ∧ z1 = z := by
  have h0 := (nI_mk0 hv.1.1).mp h0
  rcases h with ⟨h, -⟩ | ⟨i', j', l', hb', h⟩
  · exact absurd hb.1 (h i j l)
  · obtain ⟨rfl, rfl, rfl⟩ := hb.uniq hv.1.1 hb'
    rcases h with ⟨-, h⟩ | ⟨h, -⟩
    · exact h
    · exact absurd h0 h
theorem dr_n {i j l : Nat} (hv : vS z) (hb : isBest (zM z) (pU (zM z)) (zn z) i j l) (h0 : ¬ nI (mk (pM (zM z) (pU (zM z)) i j l) (zn z)) = 0) (h : sp_dropMissed z r z1) : r = nI (cnt (pM (zM z) (pU (zM z)) i j l) (zn z)) ∧ z1 = wP (wR z) (zn z) (drM (zM z) (pM (zM z) (pU (zM z)) i j l) (zn z)) := by
  have h0 : ¬ mk (pM (zM z) (pU (zM z)) i j l) (zn z) = 0 := fun q => h0 ((nI_mk0 hv.1.1).mpr q)
  rcases h with ⟨h, -⟩ | ⟨i', j', l', hb', h⟩
  · exact absurd hb.1 (h i j l)
  · obtain ⟨rfl, rfl, rfl⟩ := hb.uniq hv.1.1 hb'
    rcases h with ⟨h, -⟩ | ⟨-, h⟩
    · exact absurd h h0
    · exact h
theorem bs_ex (h : sp_best z 4 r) (h0 : 0 ≤ r) (hv : vS z) : ∃ i j l, isBest (zM z) (pU (zM z)) (zn z) i j l ∧ r = nI (mk (pM (zM z) (pU (zM z)) i j l) (zn z)) := by
  rcases h with ⟨h, -⟩ | ⟨-, h⟩
  · exact absurd (by decide) h
  · rcases h with ⟨-, h⟩ | ⟨i, j, l, hb, h⟩
    · rw [h] at h0
      exact absurd h0 (by decide)
    · rw [if_neg (by decide), if_pos rfl] at h
      exact ⟨i, j, l, hb, h⟩
theorem bs_no (h : sp_best z 4 r) (h0 : ¬ 0 ≤ r) (hv : vS z) : (∀ i j k, ¬ trio (pU (zM z)) (zn z) i j k) ∧ r = -4 := by
  rcases h with ⟨h, -⟩ | ⟨-, h⟩
  · exact absurd (by decide) h
  · rcases h with h | ⟨i, j, l, hb, h⟩
    · exact h
    · rw [if_neg (by decide), if_pos rfl] at h
      have := mk_lt10 (pM (zM z) (pU (zM z)) i j l) hv.1.1
      rw [h] at h0
      exact absurd (nI_pos' (by omega)) h0
theorem dr_u {i j l : Nat} (h : z1 = wP (wR z) (zn z) (drM (zM z) (pM (zM z) (pU (zM z)) i j l) (zn z))) : nI (mk (pU (zM z1)) (zn z1)) = nI (mk (pU (zM z)) (zn z)) &&& (nI (mk (pM (zM z) (pU (zM z)) i j l) (zn z)) ^^^ -1) := by
  rw [zn_w h, zM_w h, and_not_mk]
  refine congrArg nI (mk_congr (fun q hq => ?_))
  have e : pU (drM (zM z) (pM (zM z) (pU (zM z)) i j l) (zn z)) q = decide (drM (zM z) (pM (zM z) (pU (zM z)) i j l) (zn z) 6 q = 0) := rfl
  rw [e]
  unfold drM
  cases hp : pM (zM z) (pU (zM z)) i j l q
  · rw [if_neg (by rintro ⟨-, -, h9⟩; exact Bool.noConfusion h9), Bool.not_false, Bool.and_true]
    rfl
  · rw [if_pos ⟨rfl, hq, rfl⟩, Bool.not_true, Bool.and_false]
    decide
theorem ok5_dr {Q : Nat → Bool} (h : ok5 n M) : ok5 n (drM M Q n) := by
  intro q hq h4
  have a4 : drM M Q n 4 q = M 4 q := if_neg (by rintro ⟨h9, -⟩; exact absurd h9 (by decide))
  have a5 : drM M Q n 5 q = M 5 q := if_neg (by rintro ⟨h9, -⟩; exact absurd h9 (by decide))
  rw [a4] at h4
  rw [a5]
  exact h q hq h4
theorem mk_le0 (hn : n ≤ 10) (h : nI (mk P n) ≤ 0) : nI (mk P n) = 0 := by
  by_cases c : mk P n = 0
  · rw [c]; rfl
  · have := mk_lt10 P hn
    exact absurd h (nI_nle (by omega) (by omega))
theorem mk_gt0 (hn : n ≤ 10) (h : ¬ nI (mk P n) ≤ 0) : ¬ nI (mk P n) = 0 := fun q => h (by rw [q]; decide)
/-! a photo is removed -/
theorem rm_n (hv : vS z) (hk : k < zn z) (h : sp_remove z (nI k) r z1) : r = nI (zn z - 1) ∧ z1 = wP (wR z) (zn z - 1) (delM (zM z) k) := by
  rcases h with ⟨h, -⟩ | ⟨k', hk', ek, h⟩
  · exact absurd ⟨k, hk, rfl⟩ h
  · obtain rfl := heldU hv.1.1 hk hk' ek
    exact h
theorem del_0 {m : Nat} (h : z1 = wP (wR z) m (delM M k)) : zM z1 0 k = M 0 (k + 1) := by
  rw [zM_w h]
  unfold delM
  rw [if_neg (Nat.lt_irrefl _)]
theorem ok5_del (h : ok5 n M) : ok5 (n - 1) (delM M k) := by
  intro q hq h4
  by_cases c : q < k
  · have a4 : delM M k 4 q = M 4 q := if_pos c
    have a5 : delM M k 5 q = M 5 q := if_pos c
    rw [a4] at h4
    rw [a5]
    exact h q (by omega) h4
  · have a4 : delM M k 4 q = M 4 (q + 1) := if_neg c
    have a5 : delM M k 5 q = M 5 (q + 1) := if_neg c
    rw [a4] at h4
    rw [a5]
    exact h (q + 1) (by omega) h4
/-! what is undone -/
theorem un_do {n : Nat} {M : Nat → Nat → Int32} {z2 : xS} (hv : vS z) (h1 : z1 = wP (wR z) n M) (h : sp_undo z1 r z2) : zn z2 = zn z ∧ zM z2 = zM z ∧ r = nI (rcS (zh z) - 1) ∧ (vQ z → vQ z2) := by
  subst h1
  have hh := hv.2.1.1
  have hS : zh (wP (wR z) n M) = rcS (zh z) := rfl
  have hp : 0 < rcS (zh z) := by
    unfold rcS
    split <;> omega
  have hN : ∀ {α : Type} (N : Nat → α) (v : α), rcV (zh z) N v (rcS (zh z) - 1) = v := by
    intro α N v
    unfold rcV rcS
    by_cases c : zh z < 4
    · rw [if_pos c, if_pos c, if_neg (by omega)]
    · rw [if_neg c, if_neg c, if_neg (by omega)]
  rcases h with ⟨h, -⟩ | ⟨-, h2, h3⟩
  · rw [hS] at h
    omega
  · subst h3
    refine ⟨hN (zN z) (zn z), hN (zMM z) (zM z), h2, fun hq => ?_⟩
    have e1 : zn (wP (wH (wP (wR z) n M) (zh (wP (wR z) n M) - 1)) (zN (wP (wR z) n M) (zh (wP (wR z) n M) - 1)) (zMM (wP (wR z) n M) (zh (wP (wR z) n M) - 1))) = zn z := hN (zN z) (zn z)
    have e2 : zM (wP (wH (wP (wR z) n M) (zh (wP (wR z) n M) - 1)) (zN (wP (wR z) n M) (zh (wP (wR z) n M) - 1)) (zMM (wP (wR z) n M) (zh (wP (wR z) n M) - 1))) = zM z := hN (zMM z) (zM z)
    refine ⟨by rw [e1, e2]; exact hq.1, fun i hi => ?_⟩
    have hi : i < rcS (zh z) - 1 := hi
    show ok5 (rcV (zh z) (zN z) (zn z) i) (rcV (zh z) (zMM z) (zM z) i)
    unfold rcS at hi
    unfold rcV
    by_cases c : zh z < 4
    · rw [if_pos c] at hi
      rw [if_pos c, if_pos c, if_pos (by omega), if_pos (by omega)]
      exact hq.2 i (by omega)
    · rw [if_neg c] at hi
      rw [if_neg c, if_neg c, if_pos (by omega), if_pos (by omega)]
      exact hq.2 (i + 1) (by omega)
end VC
