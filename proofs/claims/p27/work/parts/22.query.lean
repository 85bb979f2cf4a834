/-! DISCARCS: what the answers of the queries are -/
theorem nI_gb (a i : Nat) (hi : i < 32) : (nI a).toBitVec.getLsbD i = a.testBit i := by
  show (BitVec.ofNat 32 a).getLsbD i = _
  rw [BitVec.getLsbD_ofNat]
  simp [hi]
theorem and_not_mk {P Q : Nat → Bool} {n : Nat} : nI (mk P n) &&& (nI (mk Q n) ^^^ -1) = nI (mk (fun q => P q && !Q q) n) := by
  apply Int32.toBitVec_inj.mp
  apply BitVec.eq_of_getLsbD_eq
  intro i hi
  rw [Int32.toBitVec_and, Int32.toBitVec_xor, show (-1 : Int32).toBitVec = BitVec.allOnes 32 by decide, BitVec.getLsbD_and, BitVec.getLsbD_xor, BitVec.getLsbD_allOnes, nI_gb _ _ hi, nI_gb _ _ hi, nI_gb _ _ hi, mk_tb, mk_tb, mk_tb]
  by_cases h : i < n
  · simp [hi, h]
  · simp [hi, h]
theorem hit_mk {M : Nat → Nat → Int32} {P : Nat → Bool} {n i j k : Nat} : mk (fun q => P q && !pM M P i j k q) n = mk (fun q => P q && hitB M i j k q) n := mk_congr fun q _ => by
  unfold pM
  cases P q <;> cases hitB M i j k q <;> rfl
/-- a part of an arc: bounds -/
theorem L_mulb {a b : Int64} {B C : Int} (h1 : -B ≤ a.toInt) (h2 : a.toInt ≤ B) (h3 : -C ≤ b.toInt) (h4 : b.toInt ≤ C) (hBC : B * C < 4611686018427387904) : -(B * C) ≤ (a * b).toInt ∧ (a * b).toInt ≤ B * C := by
  have g := prod_bound h1 h2 h3 h4
  rw [L_mul (by omega) (by omega)]
  exact g
theorem L_addb {a b : Int64} {B C : Int} (h1 : -B ≤ a.toInt ∧ a.toInt ≤ B) (h3 : -C ≤ b.toInt ∧ b.toInt ≤ C) (hBC : B + C < 4611686018427387904) : -(B + C) ≤ (a + b).toInt ∧ (a + b).toInt ≤ B + C := by
  have h5 : (a + b).toInt = a.toInt + b.toInt := by
    rw [Int64.toInt_add]
    exact Int.bmod_eq_of_le (by omega) (by omega)
  omega
theorem L_subb {a b : Int64} (h1 : 0 ≤ a.toInt ∧ a.toInt ≤ 99) (h3 : 0 ≤ b.toInt ∧ b.toInt ≤ 99) : -99 ≤ (a - b).toInt ∧ (a - b).toInt ≤ 99 := by
  rw [L_sub (by omega) (by omega)]
  omega
theorem up_term {a x y d : Int64} (ha : -400 ≤ a.toInt ∧ a.toInt ≤ 400) (hx : -99 ≤ x.toInt ∧ x.toInt ≤ 99) (hy : -99 ≤ y.toInt ∧ y.toInt ≤ 99) (hd : -99 ≤ d.toInt ∧ d.toInt ≤ 99) : -388119600 ≤ (a * x * y * d).toInt ∧ (a * x * y * d).toInt ≤ 388119600 := by
  have g1 := L_mulb (B := 400) (C := 99) ha.1 ha.2 hx.1 hx.2 (by decide)
  have g2 := L_mulb (B := 39600) (C := 99) g1.1 g1.2 hy.1 hy.2 (by decide)
  exact L_mulb (B := 3920400) (C := 99) g2.1 g2.2 hd.1 hd.2 (by decide)
theorem up_bound {n : Nat} {M : Nat → Nat → Int32} (hv : vld n M) {w r s t : Nat} (hw : w < 2) (hr : r < n) (hs : s < n) (ht : t < n) {u : Int64} (hu : 0 ≤ u.toInt ∧ u.toInt ≤ 99) : -9223372036854775808 < (upN M w r s t u).toInt := by
  have ht' : ∀ k, k < n → 0 ≤ (tmL M k).toInt ∧ (tmL M k).toInt ≤ 99 := fun k hk => by rw [tm_toInt]; exact (hv.1 k hk).1
  have hx : ∀ k, k < n → -400 ≤ (M (1 + w) k).toInt64.toInt ∧ (M (1 + w) k).toInt64.toInt ≤ 400 := fun k hk => by
    rw [Int32.toInt_toInt64]
    have : w = 0 ∨ w = 1 := by omega
    rcases this with rfl | rfl
    · exact (hv.1 k hk).2.1
    · exact (hv.1 k hk).2.2.1
  have a1 := up_term (hx r hr) (L_subb hu (ht' s hs)) (L_subb hu (ht' t ht)) (L_subb (ht' t ht) (ht' s hs))
  have a2 := up_term (hx s hs) (L_subb hu (ht' r hr)) (L_subb hu (ht' t ht)) (L_subb (ht' r hr) (ht' t ht))
  have a3 := up_term (hx t ht) (L_subb hu (ht' r hr)) (L_subb hu (ht' s hs)) (L_subb (ht' s hs) (ht' r hr))
  have a4 := L_addb (B := 388119600) (C := 388119600) a1 a2 (by decide)
  have a5 := (L_addb (B := 776239200) (C := 388119600) a4 a3 (by decide)).1
  unfold upN
  omega
theorem lo_lN {n : Nat} {M : Nat → Nat → Int32} (hv : vld n M) {r s t : Nat} (h1 : r < s) (h2 : s < t) (ht : t < n) : loN M r s t = lN (loN M r s t).toInt.toNat ∧ 0 < (loN M r s t).toInt.toNat ∧ (loN M r s t).toInt.toNat < 2 ^ 63 := by
  have hp := L_pos.mp (lo_pos hv h1 h2 ht)
  have hlt := Int64.toInt_lt (loN M r s t)
  refine ⟨?_, by omega, by omega⟩
  apply Int64.toInt_inj.mp
  rw [pk_lT (by omega)]
  omega
/-- a part of an arc at a time -/
def arN (M : Nat → Nat → Int32) (v i j k : Nat) (t q : Int32) : Int64 := prt (upN M v i j k t.toInt64) (loN M i j k).toInt.toNat q
def sp_arc (z : xS) (a b c t w q : Int32) (r : Int64) : Prop := (¬ (held (zn z) a ∧ held (zn z) b ∧ held (zn z) c) ∧ r = -1) ∨ ∃ i j k, (i < zn z ∧ j < zn z ∧ k < zn z) ∧ (a = nI i ∧ b = nI j ∧ c = nI k) ∧ ((((i = j ∨ i = k ∨ j = k) ∨ ¬ isAsk t w q) ∧ r = -2) ∨ (¬ ((i = j ∨ i = k ∨ j = k) ∨ ¬ isAsk t w q) ∧ ((¬ (pU (zM z) i = true ∧ pU (zM z) j = true ∧ pU (zM z) k = true) ∧ r = -4) ∨ ((pU (zM z) i = true ∧ pU (zM z) j = true ∧ pU (zM z) k = true) ∧ ∃ i' j' k' v, srt i j k i' j' k' ∧ v < 2 ∧ w = nI v ∧ r = arN (zM z) v i' j' k' t q))))
def sp_hits (z : xS) (a b c : Int32) (r : Int32) : Prop := (¬ (held (zn z) a ∧ held (zn z) b ∧ held (zn z) c) ∧ r = -1) ∨ ∃ i j k, (i < zn z ∧ j < zn z ∧ k < zn z) ∧ (a = nI i ∧ b = nI j ∧ c = nI k) ∧ (((i = j ∨ i = k ∨ j = k) ∧ r = -2) ∨ (¬ (i = j ∨ i = k ∨ j = k) ∧ ((¬ (pU (zM z) i = true ∧ pU (zM z) j = true ∧ pU (zM z) k = true) ∧ r = -4) ∨ ((pU (zM z) i = true ∧ pU (zM z) j = true ∧ pU (zM z) k = true) ∧ ∃ i' j' k', srt i j k i' j' k' ∧ r = nI (mk (fun q => pU (zM z) q && hitB (zM z) i' j' k' q) (zn z))))))
def sp_best (z : xS) (w r : Int32) : Prop := (¬ (0 ≤ w ∧ w ≤ 4) ∧ r = -2) ∨ ((0 ≤ w ∧ w ≤ 4) ∧ (((∀ i j k, ¬ trio (pU (zM z)) (zn z) i j k) ∧ r = -4) ∨ ∃ i j k, isBest (zM z) (pU (zM z)) (zn z) i j k ∧ r = if w = 3 then nI (cnt (pM (zM z) (pU (zM z)) i j k) (zn z)) else if w = 4 then nI (mk (pM (zM z) (pU (zM z)) i j k) (zn z)) else if w = 0 then nI i else if w = 1 then nI j else nI k))
def sp_bestAt (z : xS) (t w q : Int32) (r : Int64) : Prop := (¬ isAsk t w q ∧ r = -2) ∨ (isAsk t w q ∧ (((∀ i j k, ¬ trio (pU (zM z)) (zn z) i j k) ∧ r = -4) ∨ ∃ i j k v, isBest (zM z) (pU (zM z)) (zn z) i j k ∧ v < 2 ∧ w = nI v ∧ r = arN (zM z) v i j k t q))
/-- the time when the arc's y is 0 or less, the first from a on -/
def ldN (M : Nat → Nat → Int32) (i j k a : Nat) (r : Int32) : Prop := (∃ u, a ≤ u ∧ u ≤ 99 ∧ upN M 1 i j k (nI u).toInt64 ≤ 0 ∧ (∀ v, a ≤ v → v < u → ¬ upN M 1 i j k (nI v).toInt64 ≤ 0) ∧ r = nI u) ∨ ((∀ v, a ≤ v → v ≤ 99 → ¬ upN M 1 i j k (nI v).toInt64 ≤ 0) ∧ r = -5)
def sp_lands (z : xS) (r : Int32) : Prop := ((∀ i j k, ¬ trio (pU (zM z)) (zn z) i j k) ∧ r = -4) ∨ ∃ i j k a, isBest (zM z) (pU (zM z)) (zn z) i j k ∧ zM z 0 i = nI a ∧ a ≤ 99 ∧ ldN (zM z) i j k a r
def sp_row (M : Nat → Nat → Int32) (n a b : Nat) (w r : Int32) : Prop := (w = 0 ∧ ∃ e, e < n ∧ pB M a b e = true ∧ (∀ q, q < e → ¬ pB M a b q = true) ∧ r = nI e) ∨ (w = 1 ∧ ∃ e, e < n ∧ pB M a b e = true ∧ (∀ q, e < q → q < n → ¬ pB M a b q = true) ∧ r = nI e) ∨ (w = 2 ∧ r = nI (mk (pB M a b) n)) ∨ ((¬ w = 0 ∧ ¬ w = 1 ∧ ¬ w = 2) ∧ (((∀ i j k, ¬ trio (pB M a b) n i j k) ∧ r = -5) ∨ ∃ i j k, isBest M (pB M a b) n i j k ∧ r = if w = 3 then nI i else if w = 4 then nI j else nI k))
def sp_track (z : xS) (x w r : Int32) : Prop := ((x < 0 ∨ ¬ (0 ≤ w ∧ w ≤ 5)) ∧ r = -2) ∨ (¬ (x < 0 ∨ ¬ (0 ≤ w ∧ w ≤ 5)) ∧ ∃ R T, trk (zM z) (zn z) R T ∧ ((nI (R 0) ≤ x ∧ r = -5) ∨ ∃ v, v < R 0 ∧ x = nI v ∧ sp_row (zM z) (zn z) (itr (zn z) T v 0) (T (itr (zn z) T v 0)) w r))
def sp_fitsFrom (z : xS) (x r : Int32) : Prop := (¬ held (zn z) x ∧ r = -1) ∨ ∃ k, k < zn z ∧ x = nI k ∧ ((¬ pU (zM z) k = true ∧ r = -4) ∨ (pU (zM z) k = true ∧ ∃ e, k < e ∧ e ≤ zn z ∧ fitR (zM z) (zn z) k e ∧ (∀ e', e < e' → e' ≤ zn z → ¬ fitR (zM z) (zn z) k e') ∧ r = nI (cnt (pB (zM z) k e) (zn z))))
def sp_spin (z : xS) (w r : Int32) : Prop := (¬ (0 ≤ w ∧ w ≤ 3) ∧ r = -2) ∨ ((0 ≤ w ∧ w ≤ 3) ∧ (((∀ k, k < zn z → ¬ pK (zM z) k = true) ∧ r = -4) ∨ ((∃ k, k < zn z ∧ pK (zM z) k = true) ∧ ∃ T B : Int32, isSpin (zM z) (zn z) T.toInt B.toInt ∧ r = if w = 0 then T + 200 else if w = 1 then B else if w = 2 then nI (cnt (pF (zM z) T.toInt B.toInt) (zn z)) else nI (mk (pF (zM z) T.toInt B.toInt) (zn z)))))
def okSp (t b : Int32) : Prop := (-179 ≤ t ∧ t ≤ 180) ∧ 0 ≤ b ∧ b ≤ 359
def sp_fits (z : xS) (t b r : Int32) : Prop := (¬ okSp t b ∧ r = -2) ∨ (okSp t b ∧ r = nI (cnt (pF (zM z) t.toInt b.toInt) (zn z)))
def sp_angleAt (z : xS) (u r : Int32) : Prop := (¬ (0 ≤ u ∧ u ≤ 99) ∧ r = -2) ∨ ((0 ≤ u ∧ u ≤ 99) ∧ (((∀ k, k < zn z → ¬ pK (zM z) k = true) ∧ r = -4) ∨ ((∃ k, k < zn z ∧ pK (zM z) k = true) ∧ ∃ T B : Int32, isSpin (zM z) (zn z) T.toInt B.toInt ∧ r.toInt = (B.toInt + T.toInt * u.toInt) % 360)))
def sp_count (z : xS) (w r : Int32) : Prop := (w = 0 ∧ r = nI (zn z)) ∨ (w = 1 ∧ r = nI (mk (pU (zM z)) (zn z))) ∨ (w = 2 ∧ r = nI (mk (pK (zM z)) (zn z))) ∨ (w = 3 ∧ ∃ R T, trk (zM z) (zn z) R T ∧ r = nI (R 0)) ∨ (w = 4 ∧ r = nI (zh z)) ∨ (w = 5 ∧ r = nI (ztl z)) ∨ (¬ (w = 0 ∨ w = 1 ∨ w = 2 ∨ w = 3 ∨ w = 4 ∨ w = 5) ∧ r = -2)
/-- what photo(k, v) tells for v under 7 -/
def phv (M : Nat → Nat → Int32) (k v : Nat) : Int32 := if v = 1 ∨ v = 2 then M v k + 1000 else if (v = 4 ∨ v = 5) ∧ M 4 k = 360 then -5 else M v k
def sp_wf (n : Nat) (M : Nat → Nat → Int32) (k : Nat) (r : Int32) : Prop := (¬ pK M k = true ∧ r = -5) ∨ (pK M k = true ∧ ∃ T B : Int32, isSpin M n T.toInt B.toInt ∧ r = bI (pF M T.toInt B.toInt k))
def sp_photo (z : xS) (x w r : Int32) : Prop := (¬ held (zn z) x ∧ r = -1) ∨ ∃ k, k < zn z ∧ x = nI k ∧ ((¬ (∃ v, v < 8 ∧ w = nI v) ∧ r = -2) ∨ (∃ v, v < 7 ∧ w = nI v ∧ r = phv (zM z) k v) ∨ (w = 7 ∧ sp_wf (zn z) (zM z) k r))
theorem in_nat {w : Int32} {m : Nat} (hm : m < 1000) (h0 : 0 ≤ w) (h1 : w ≤ nI m) : ∃ v : Nat, v ≤ m ∧ w = nI v := by
  obtain ⟨v, hv, rfl⟩ := nI_of (Int32.not_lt.mpr h0)
  exact ⟨v, (nI_leI hv (by omega)).mp h1, rfl⟩
theorem in_natn {w : Int32} {m : Nat} (hm : m < 1000) (h : ¬ (0 ≤ w ∧ w ≤ nI m)) : ¬ ∃ v : Nat, v < m + 1 ∧ w = nI v := by
  rintro ⟨v, hv, rfl⟩
  exact h ⟨nI_pos' (by omega), (nI_leI (by omega) (by omega)).mpr (by omega)⟩
/-- the rows of a track -/
theorem trk.next {M : Nat → Nat → Int32} {n : Nat} {R T : Nat → Nat} (h : trk M n R T) : ∀ d a, a ≤ n → n - a ≤ d → 0 < R a → a < n ∧ R (T a) + 1 = R a ∧ ∃ q, q < n ∧ a ≤ q ∧ q < T a ∧ pU M q = true := by
  obtain ⟨h1, h2, h3⟩ := h
  intro d
  induction d with
  | zero =>
    intro a ha hd h0
    have e : a = n := by omega
    subst e
    omega
  | succ d ih =>
    intro a ha hd h0
    by_cases e : a = n
    · subst e
      omega
    · have han : a < n := by omega
      by_cases hu : pU M a = true
      · obtain ⟨a1, a2, a3, a4, a5⟩ := (h3 a han).2 hu
        exact ⟨han, by omega, a, han, Nat.le_refl _, a1, hu⟩
      · obtain ⟨a1, a2⟩ := (h3 a han).1 hu
        obtain ⟨b1, b2, q, b3, b4, b5, b6⟩ := ih (a + 1) (by omega) (by omega) (by omega)
        exact ⟨han, by rw [a2, a1]; exact b2, q, b3, by omega, by rw [a2]; exact b5, b6⟩
theorem trk_itr {M : Nat → Nat → Int32} {n : Nat} {R T : Nat → Nat} (h : trk M n R T) : ∀ v, v < R 0 → itr n T v 0 ≤ n ∧ R (itr n T v 0) + v = R 0 := by
  intro v
  induction v with
  | zero => intro _; exact ⟨Nat.zero_le _, rfl⟩
  | succ v ih =>
    intro hv
    obtain ⟨a1, a2⟩ := ih (by omega)
    obtain ⟨b1, b2, -⟩ := h.next (n - itr n T v 0) _ a1 (Nat.le_refl _) (by omega)
    rw [itr_succ, if_pos b1]
    exact ⟨(h.le (n - itr n T v 0) _ a1 (Nat.le_refl _)).2.2, by omega⟩
theorem trk.ne {M : Nat → Nat → Int32} {n : Nat} {R T : Nat → Nat} (h : trk M n R T) {v : Nat} (hv : v < R 0) : ∃ q, q < n ∧ pB M (itr n T v 0) (T (itr n T v 0)) q = true := by
  obtain ⟨a1, a2⟩ := trk_itr h v hv
  obtain ⟨b1, b2, q, b3, b4, b5, b6⟩ := h.next (n - itr n T v 0) _ a1 (Nat.le_refl _) (by omega)
  refine ⟨q, b3, ?_⟩
  unfold pB
  rw [b6]
  simp [b4, b5]
/-- the highest and the lowest digit -/
def hib (a : Nat) : Nat := Nat.log2 a
def lob (a : Nat) : Nat := ((List.range 10).find? (fun q => a.testBit q)).getD 0
theorem hib_tb : ∀ a, a < 1024 → 0 < a → hib a < 10 ∧ a.testBit (hib a) = true ∧ ∀ q, q < 10 → hib a < q → ¬ a.testBit q = true := by decide +kernel
theorem lob_tb : ∀ a, a < 1024 → 0 < a → lob a < 10 ∧ a.testBit (lob a) = true ∧ ∀ q, q < 10 → q < lob a → ¬ a.testBit q = true := by decide +kernel
theorem hib_mk {P : Nat → Bool} {n : Nat} (hn : n ≤ 10) (h0 : 0 < mk P n) : hib (mk P n) < n ∧ P (hib (mk P n)) = true ∧ ∀ q, hib (mk P n) < q → q < n → ¬ P q = true := by
  obtain ⟨a1, a2, a3⟩ := hib_tb _ (mk_lt10 P hn) h0
  rw [mk_tb, Bool.and_eq_true, decide_eq_true_eq] at a2
  refine ⟨a2.1, a2.2, fun q h1 h2 h3 => a3 q (by omega) h1 ?_⟩
  rw [mk_in h2]
  exact h3
theorem lob_mk {P : Nat → Bool} {n : Nat} (hn : n ≤ 10) (h0 : 0 < mk P n) : lob (mk P n) < n ∧ P (lob (mk P n)) = true ∧ ∀ q, q < lob (mk P n) → ¬ P q = true := by
  obtain ⟨a1, a2, a3⟩ := lob_tb _ (mk_lt10 P hn) h0
  rw [mk_tb, Bool.and_eq_true, decide_eq_true_eq] at a2
  refine ⟨a2.1, a2.2, fun q h1 h3 => a3 q (by omega) h1 ?_⟩
  rw [mk_in (by omega)]
  exact h3
theorem mk_pos {P : Nat → Bool} {n k : Nat} (hk : k < n) (h : P k = true) : 0 < mk P n := by
  refine Nat.pos_of_ne_zero fun h0 => mk_no h0 hk h
theorem cnt_one {P : Nat → Bool} {k : Nat} : ∀ n, k < n → (∀ q, q < n → (P q = true ↔ q = k)) → cnt P n = 1
  | 0, h, _ => absurd h (Nat.not_lt_zero _)
  | n + 1, h, hP => by
    unfold cnt
    by_cases e : k = n
    · rw [if_pos ((hP n (Nat.lt_succ_self _)).mpr e.symm)]
      have h9 : cnt P n = cnt (fun _ => false) n := cnt_congr fun i hi => by
        cases hp : P i
        · rfl
        · exact absurd ((hP i (by omega)).mp hp) (by omega)
      rw [h9, cnt_F]
    · rw [if_neg (fun h2 => e ((hP n (Nat.lt_succ_self _)).mp h2).symm), cnt_one n (by omega) (fun q hq => hP q (by omega))]
theorem cnt_pB1 {M : Nat → Nat → Int32} {n k : Nat} (hk : k < n) (hu : pU M k = true) : cnt (pB M k (k + 1)) n = 1 := by
  refine cnt_one n hk fun q _ => ?_
  unfold pB
  simp only [Bool.and_eq_true, decide_eq_true_eq]
  constructor
  · rintro ⟨-, h1, h2⟩
    omega
  · rintro rfl
    exact ⟨hu, Nat.le_refl _, Nat.lt_succ_self _⟩
set_option maxHeartbeats 4000000 in
set_option maxRecDepth 100000 in
theorem c_J6_numberOfLeadingZeros_0f7a4 (l : Launch) (g : xG) (E : Nat → va_E) {a : Nat} (ha : a < 1024) (h0 : 0 < a) : Met l yJ6_numberOfLeadingZeros_0f7a4 wsJ6_numberOfLeadingZeros_0f7a4 ({ frames := 0, cells := 0, slots := 0, locals := 0 }) (xPc g [.int (nI a)] E) (vp_Si (fun r => 31 - r = nI (hib a))) 0 0 (fun _ => False) := by
  refine x_met (ws' := _) (by decide) rfl (Nat.le_of_ble_eq_true rfl) ?_
  intro pz ez s m below meth cz ls S hr hlocks hP hK hl
  have hl : lv_has ls 2 [(0, .int (nI a))] := hl
  refine lv_iload_n S.1 S.2.1 dJ6_numberOfLeadingZeros_0f7a4_0 rfl (lv_at hl 0 rfl) ?_
  refine lv_if_gt (tgt := 15) S.1 S.2.1 dJ6_numberOfLeadingZeros_0f7a4_1 (by decide) (fun c1 => ?_) (fun c1 => ?_)
  · skip
    refine lv_bipush (v := 31) S.1 S.2.1 dJ6_numberOfLeadingZeros_0f7a4_15 (by decide) ?_
    refine lv_istore_n (lv' := [(1, .int 31), (0, .int (nI a))]) S.1 S.2.1 dJ6_numberOfLeadingZeros_0f7a4_17 rfl hl (by decide) rfl (fun ls hl => ?_)
    refine lv_iload_n S.1 S.2.1 dJ6_numberOfLeadingZeros_0f7a4_18 rfl (lv_at hl 1 rfl) ?_
    refine lv_ldcw S.1 S.2.1 S.2.2.2.1 (S.2.2.2.2 (.constant RJ6 264 65536) (by decide +kernel)) dJ6_numberOfLeadingZeros_0f7a4_19 ?_
    refine lv_icmp_lt (tgt := 33) S.1 S.2.1 dJ6_numberOfLeadingZeros_0f7a4_22 (by decide) (fun c22 => ?_) (fun c22 => ?_)
    · skip
      refine lv_iload_n S.1 S.2.1 dJ6_numberOfLeadingZeros_0f7a4_33 rfl (lv_at hl 1 rfl) ?_
      refine lv_sipush (v := 256) S.1 S.2.1 dJ6_numberOfLeadingZeros_0f7a4_34 (by decide) ?_
      refine lv_icmp_lt (tgt := 48) S.1 S.2.1 dJ6_numberOfLeadingZeros_0f7a4_37 (by decide) (fun c37 => ?_) (fun c37 => ?_)
      · skip
        refine lv_iload_n S.1 S.2.1 dJ6_numberOfLeadingZeros_0f7a4_48 rfl (lv_at hl 1 rfl) ?_
        refine lv_bipush (v := 16) S.1 S.2.1 dJ6_numberOfLeadingZeros_0f7a4_49 (by decide) ?_
        refine lv_icmp_lt (tgt := 61) S.1 S.2.1 dJ6_numberOfLeadingZeros_0f7a4_51 (by decide) (fun c51 => ?_) (fun c51 => ?_)
        · skip
          refine lv_iload_n S.1 S.2.1 dJ6_numberOfLeadingZeros_0f7a4_61 rfl (lv_at hl 1 rfl) ?_
          refine lv_iconst (v := 4) S.1 S.2.1 dJ6_numberOfLeadingZeros_0f7a4_62 (by decide) ?_
          refine lv_icmp_lt (tgt := 73) S.1 S.2.1 dJ6_numberOfLeadingZeros_0f7a4_63 (by decide) (fun c63 => ?_) (fun c63 => ?_)
          · skip
            refine lv_iload_n S.1 S.2.1 dJ6_numberOfLeadingZeros_0f7a4_73 rfl (lv_at hl 0 rfl) ?_
            refine lv_iload_n S.1 S.2.1 dJ6_numberOfLeadingZeros_0f7a4_74 rfl (lv_at hl 1 rfl) ?_
            refine lv_iconst (v := 1) S.1 S.2.1 dJ6_numberOfLeadingZeros_0f7a4_75 (by decide) ?_
            refine lv_iushr (v := (((nI a)).toUInt32 >>> ((1 : Int32).toUInt32 &&& Int32.toUInt32 31)).toInt32) S.1 S.2.1 dJ6_numberOfLeadingZeros_0f7a4_76 rfl ?_
            refine lv_isub S.1 S.2.1 dJ6_numberOfLeadingZeros_0f7a4_77 ?_
            exact x_iretR S hr hlocks dJ6_numberOfLeadingZeros_0f7a4_78 ((show ∀ a : Nat, a < 1024 → (decide (0 < a) && (decide (0 < (nI a)) && (decide ((nI a) < 65536) && (decide ((nI a) < 256) && (decide ((nI a) < 16) && (decide ((nI a) < 4))))))) = true → (31 : Int32) - ((31 - ((((nI a)).toUInt32 >>> ((1 : Int32).toUInt32 &&& Int32.toUInt32 31)).toInt32))) = nI (hib a) by decide +kernel) a ha (by simp only [Bool.and_eq_true, decide_eq_true_eq]; exact ⟨h0, c1, c22, c37, c51, c63⟩))
          · skip
            refine lv_iinc (v := 29) (lv' := [(1, .int 29), (0, .int (nI a))]) S.1 S.2.1 dJ6_numberOfLeadingZeros_0f7a4_66 hl (k := 0) rfl (by decide) (by decide) rfl (fun ls hl => ?_)
            refine lv_iload_n S.1 S.2.1 dJ6_numberOfLeadingZeros_0f7a4_69 rfl (lv_at hl 1 rfl) ?_
            refine lv_iconst (v := 2) S.1 S.2.1 dJ6_numberOfLeadingZeros_0f7a4_70 (by decide) ?_
            refine lv_iushr (v := (((nI a)).toUInt32 >>> ((2 : Int32).toUInt32 &&& Int32.toUInt32 31)).toInt32) S.1 S.2.1 dJ6_numberOfLeadingZeros_0f7a4_71 rfl ?_
            refine lv_istore_n (lv' := [(0, .int ((((nI a)).toUInt32 >>> ((2 : Int32).toUInt32 &&& Int32.toUInt32 31)).toInt32)), (1, .int 29)]) S.1 S.2.1 dJ6_numberOfLeadingZeros_0f7a4_72 rfl hl (by decide) rfl (fun ls hl => ?_)
            refine lv_iload_n S.1 S.2.1 dJ6_numberOfLeadingZeros_0f7a4_73 rfl (lv_at hl 1 rfl) ?_
            refine lv_iload_n S.1 S.2.1 dJ6_numberOfLeadingZeros_0f7a4_74 rfl (lv_at hl 0 rfl) ?_
            refine lv_iconst (v := 1) S.1 S.2.1 dJ6_numberOfLeadingZeros_0f7a4_75 (by decide) ?_
            refine lv_iushr (v := ((((((nI a)).toUInt32 >>> ((2 : Int32).toUInt32 &&& Int32.toUInt32 31)).toInt32)).toUInt32 >>> ((1 : Int32).toUInt32 &&& Int32.toUInt32 31)).toInt32) S.1 S.2.1 dJ6_numberOfLeadingZeros_0f7a4_76 rfl ?_
            refine lv_isub S.1 S.2.1 dJ6_numberOfLeadingZeros_0f7a4_77 ?_
            exact x_iretR S hr hlocks dJ6_numberOfLeadingZeros_0f7a4_78 ((show ∀ a : Nat, a < 1024 → (decide (0 < a) && (decide (0 < (nI a)) && (decide ((nI a) < 65536) && (decide ((nI a) < 256) && (decide ((nI a) < 16) && (decide (¬ (nI a) < 4))))))) = true → (31 : Int32) - ((29 - (((((((nI a)).toUInt32 >>> ((2 : Int32).toUInt32 &&& Int32.toUInt32 31)).toInt32)).toUInt32 >>> ((1 : Int32).toUInt32 &&& Int32.toUInt32 31)).toInt32))) = nI (hib a) by decide +kernel) a ha (by simp only [Bool.and_eq_true, decide_eq_true_eq]; exact ⟨h0, c1, c22, c37, c51, c63⟩))
        · skip
          refine lv_iinc (v := 27) (lv' := [(1, .int 27), (0, .int (nI a))]) S.1 S.2.1 dJ6_numberOfLeadingZeros_0f7a4_54 hl (k := 0) rfl (by decide) (by decide) rfl (fun ls hl => ?_)
          refine lv_iload_n S.1 S.2.1 dJ6_numberOfLeadingZeros_0f7a4_57 rfl (lv_at hl 1 rfl) ?_
          refine lv_iconst (v := 4) S.1 S.2.1 dJ6_numberOfLeadingZeros_0f7a4_58 (by decide) ?_
          refine lv_iushr (v := (((nI a)).toUInt32 >>> ((4 : Int32).toUInt32 &&& Int32.toUInt32 31)).toInt32) S.1 S.2.1 dJ6_numberOfLeadingZeros_0f7a4_59 rfl ?_
          refine lv_istore_n (lv' := [(0, .int ((((nI a)).toUInt32 >>> ((4 : Int32).toUInt32 &&& Int32.toUInt32 31)).toInt32)), (1, .int 27)]) S.1 S.2.1 dJ6_numberOfLeadingZeros_0f7a4_60 rfl hl (by decide) rfl (fun ls hl => ?_)
          refine lv_iload_n S.1 S.2.1 dJ6_numberOfLeadingZeros_0f7a4_61 rfl (lv_at hl 0 rfl) ?_
          refine lv_iconst (v := 4) S.1 S.2.1 dJ6_numberOfLeadingZeros_0f7a4_62 (by decide) ?_
          refine lv_icmp_lt (tgt := 73) S.1 S.2.1 dJ6_numberOfLeadingZeros_0f7a4_63 (by decide) (fun c63 => ?_) (fun c63 => ?_)
          · skip
            refine lv_iload_n S.1 S.2.1 dJ6_numberOfLeadingZeros_0f7a4_73 rfl (lv_at hl 1 rfl) ?_
            refine lv_iload_n S.1 S.2.1 dJ6_numberOfLeadingZeros_0f7a4_74 rfl (lv_at hl 0 rfl) ?_
            refine lv_iconst (v := 1) S.1 S.2.1 dJ6_numberOfLeadingZeros_0f7a4_75 (by decide) ?_
            refine lv_iushr (v := ((((((nI a)).toUInt32 >>> ((4 : Int32).toUInt32 &&& Int32.toUInt32 31)).toInt32)).toUInt32 >>> ((1 : Int32).toUInt32 &&& Int32.toUInt32 31)).toInt32) S.1 S.2.1 dJ6_numberOfLeadingZeros_0f7a4_76 rfl ?_
            refine lv_isub S.1 S.2.1 dJ6_numberOfLeadingZeros_0f7a4_77 ?_
            exact x_iretR S hr hlocks dJ6_numberOfLeadingZeros_0f7a4_78 ((show ∀ a : Nat, a < 1024 → (decide (0 < a) && (decide (0 < (nI a)) && (decide ((nI a) < 65536) && (decide ((nI a) < 256) && (decide (¬ (nI a) < 16) && (decide (((((nI a)).toUInt32 >>> ((4 : Int32).toUInt32 &&& Int32.toUInt32 31)).toInt32) < 4))))))) = true → (31 : Int32) - ((27 - (((((((nI a)).toUInt32 >>> ((4 : Int32).toUInt32 &&& Int32.toUInt32 31)).toInt32)).toUInt32 >>> ((1 : Int32).toUInt32 &&& Int32.toUInt32 31)).toInt32))) = nI (hib a) by decide +kernel) a ha (by simp only [Bool.and_eq_true, decide_eq_true_eq]; exact ⟨h0, c1, c22, c37, c51, c63⟩))
          · skip
            refine lv_iinc (v := 25) (lv' := [(1, .int 25), (0, .int ((((nI a)).toUInt32 >>> ((4 : Int32).toUInt32 &&& Int32.toUInt32 31)).toInt32))]) S.1 S.2.1 dJ6_numberOfLeadingZeros_0f7a4_66 hl (k := 1) rfl (by decide) (by decide) rfl (fun ls hl => ?_)
            refine lv_iload_n S.1 S.2.1 dJ6_numberOfLeadingZeros_0f7a4_69 rfl (lv_at hl 1 rfl) ?_
            refine lv_iconst (v := 2) S.1 S.2.1 dJ6_numberOfLeadingZeros_0f7a4_70 (by decide) ?_
            refine lv_iushr (v := ((((((nI a)).toUInt32 >>> ((4 : Int32).toUInt32 &&& Int32.toUInt32 31)).toInt32)).toUInt32 >>> ((2 : Int32).toUInt32 &&& Int32.toUInt32 31)).toInt32) S.1 S.2.1 dJ6_numberOfLeadingZeros_0f7a4_71 rfl ?_
            refine lv_istore_n (lv' := [(0, .int (((((((nI a)).toUInt32 >>> ((4 : Int32).toUInt32 &&& Int32.toUInt32 31)).toInt32)).toUInt32 >>> ((2 : Int32).toUInt32 &&& Int32.toUInt32 31)).toInt32)), (1, .int 25)]) S.1 S.2.1 dJ6_numberOfLeadingZeros_0f7a4_72 rfl hl (by decide) rfl (fun ls hl => ?_)
            refine lv_iload_n S.1 S.2.1 dJ6_numberOfLeadingZeros_0f7a4_73 rfl (lv_at hl 1 rfl) ?_
            refine lv_iload_n S.1 S.2.1 dJ6_numberOfLeadingZeros_0f7a4_74 rfl (lv_at hl 0 rfl) ?_
            refine lv_iconst (v := 1) S.1 S.2.1 dJ6_numberOfLeadingZeros_0f7a4_75 (by decide) ?_
            refine lv_iushr (v := (((((((((nI a)).toUInt32 >>> ((4 : Int32).toUInt32 &&& Int32.toUInt32 31)).toInt32)).toUInt32 >>> ((2 : Int32).toUInt32 &&& Int32.toUInt32 31)).toInt32)).toUInt32 >>> ((1 : Int32).toUInt32 &&& Int32.toUInt32 31)).toInt32) S.1 S.2.1 dJ6_numberOfLeadingZeros_0f7a4_76 rfl ?_
            refine lv_isub S.1 S.2.1 dJ6_numberOfLeadingZeros_0f7a4_77 ?_
            exact x_iretR S hr hlocks dJ6_numberOfLeadingZeros_0f7a4_78 ((show ∀ a : Nat, a < 1024 → (decide (0 < a) && (decide (0 < (nI a)) && (decide ((nI a) < 65536) && (decide ((nI a) < 256) && (decide (¬ (nI a) < 16) && (decide (¬ ((((nI a)).toUInt32 >>> ((4 : Int32).toUInt32 &&& Int32.toUInt32 31)).toInt32) < 4))))))) = true → (31 : Int32) - ((25 - ((((((((((nI a)).toUInt32 >>> ((4 : Int32).toUInt32 &&& Int32.toUInt32 31)).toInt32)).toUInt32 >>> ((2 : Int32).toUInt32 &&& Int32.toUInt32 31)).toInt32)).toUInt32 >>> ((1 : Int32).toUInt32 &&& Int32.toUInt32 31)).toInt32))) = nI (hib a) by decide +kernel) a ha (by simp only [Bool.and_eq_true, decide_eq_true_eq]; exact ⟨h0, c1, c22, c37, c51, c63⟩))
      · skip
        refine lv_iinc (v := 23) (lv' := [(1, .int 23), (0, .int (nI a))]) S.1 S.2.1 dJ6_numberOfLeadingZeros_0f7a4_40 hl (k := 0) rfl (by decide) (by decide) rfl (fun ls hl => ?_)
        refine lv_iload_n S.1 S.2.1 dJ6_numberOfLeadingZeros_0f7a4_43 rfl (lv_at hl 1 rfl) ?_
        refine lv_bipush (v := 8) S.1 S.2.1 dJ6_numberOfLeadingZeros_0f7a4_44 (by decide) ?_
        refine lv_iushr (v := (((nI a)).toUInt32 >>> ((8 : Int32).toUInt32 &&& Int32.toUInt32 31)).toInt32) S.1 S.2.1 dJ6_numberOfLeadingZeros_0f7a4_46 rfl ?_
        refine lv_istore_n (lv' := [(0, .int ((((nI a)).toUInt32 >>> ((8 : Int32).toUInt32 &&& Int32.toUInt32 31)).toInt32)), (1, .int 23)]) S.1 S.2.1 dJ6_numberOfLeadingZeros_0f7a4_47 rfl hl (by decide) rfl (fun ls hl => ?_)
        refine lv_iload_n S.1 S.2.1 dJ6_numberOfLeadingZeros_0f7a4_48 rfl (lv_at hl 0 rfl) ?_
        refine lv_bipush (v := 16) S.1 S.2.1 dJ6_numberOfLeadingZeros_0f7a4_49 (by decide) ?_
        refine lv_icmp_lt (tgt := 61) S.1 S.2.1 dJ6_numberOfLeadingZeros_0f7a4_51 (by decide) (fun c51 => ?_) (fun c51 => ?_)
        · skip
          refine lv_iload_n S.1 S.2.1 dJ6_numberOfLeadingZeros_0f7a4_61 rfl (lv_at hl 0 rfl) ?_
          refine lv_iconst (v := 4) S.1 S.2.1 dJ6_numberOfLeadingZeros_0f7a4_62 (by decide) ?_
          refine lv_icmp_lt (tgt := 73) S.1 S.2.1 dJ6_numberOfLeadingZeros_0f7a4_63 (by decide) (fun c63 => ?_) (fun c63 => ?_)
          · skip
            refine lv_iload_n S.1 S.2.1 dJ6_numberOfLeadingZeros_0f7a4_73 rfl (lv_at hl 1 rfl) ?_
            refine lv_iload_n S.1 S.2.1 dJ6_numberOfLeadingZeros_0f7a4_74 rfl (lv_at hl 0 rfl) ?_
            refine lv_iconst (v := 1) S.1 S.2.1 dJ6_numberOfLeadingZeros_0f7a4_75 (by decide) ?_
            refine lv_iushr (v := ((((((nI a)).toUInt32 >>> ((8 : Int32).toUInt32 &&& Int32.toUInt32 31)).toInt32)).toUInt32 >>> ((1 : Int32).toUInt32 &&& Int32.toUInt32 31)).toInt32) S.1 S.2.1 dJ6_numberOfLeadingZeros_0f7a4_76 rfl ?_
            refine lv_isub S.1 S.2.1 dJ6_numberOfLeadingZeros_0f7a4_77 ?_
            exact x_iretR S hr hlocks dJ6_numberOfLeadingZeros_0f7a4_78 ((show ∀ a : Nat, a < 1024 → (decide (0 < a) && (decide (0 < (nI a)) && (decide ((nI a) < 65536) && (decide (¬ (nI a) < 256) && (decide (((((nI a)).toUInt32 >>> ((8 : Int32).toUInt32 &&& Int32.toUInt32 31)).toInt32) < 16) && (decide (((((nI a)).toUInt32 >>> ((8 : Int32).toUInt32 &&& Int32.toUInt32 31)).toInt32) < 4))))))) = true → (31 : Int32) - ((23 - (((((((nI a)).toUInt32 >>> ((8 : Int32).toUInt32 &&& Int32.toUInt32 31)).toInt32)).toUInt32 >>> ((1 : Int32).toUInt32 &&& Int32.toUInt32 31)).toInt32))) = nI (hib a) by decide +kernel) a ha (by simp only [Bool.and_eq_true, decide_eq_true_eq]; exact ⟨h0, c1, c22, c37, c51, c63⟩))
          · skip
            refine lv_iinc (v := 21) (lv' := [(1, .int 21), (0, .int ((((nI a)).toUInt32 >>> ((8 : Int32).toUInt32 &&& Int32.toUInt32 31)).toInt32))]) S.1 S.2.1 dJ6_numberOfLeadingZeros_0f7a4_66 hl (k := 1) rfl (by decide) (by decide) rfl (fun ls hl => ?_)
            refine lv_iload_n S.1 S.2.1 dJ6_numberOfLeadingZeros_0f7a4_69 rfl (lv_at hl 1 rfl) ?_
            refine lv_iconst (v := 2) S.1 S.2.1 dJ6_numberOfLeadingZeros_0f7a4_70 (by decide) ?_
            refine lv_iushr (v := ((((((nI a)).toUInt32 >>> ((8 : Int32).toUInt32 &&& Int32.toUInt32 31)).toInt32)).toUInt32 >>> ((2 : Int32).toUInt32 &&& Int32.toUInt32 31)).toInt32) S.1 S.2.1 dJ6_numberOfLeadingZeros_0f7a4_71 rfl ?_
            refine lv_istore_n (lv' := [(0, .int (((((((nI a)).toUInt32 >>> ((8 : Int32).toUInt32 &&& Int32.toUInt32 31)).toInt32)).toUInt32 >>> ((2 : Int32).toUInt32 &&& Int32.toUInt32 31)).toInt32)), (1, .int 21)]) S.1 S.2.1 dJ6_numberOfLeadingZeros_0f7a4_72 rfl hl (by decide) rfl (fun ls hl => ?_)
            refine lv_iload_n S.1 S.2.1 dJ6_numberOfLeadingZeros_0f7a4_73 rfl (lv_at hl 1 rfl) ?_
            refine lv_iload_n S.1 S.2.1 dJ6_numberOfLeadingZeros_0f7a4_74 rfl (lv_at hl 0 rfl) ?_
            refine lv_iconst (v := 1) S.1 S.2.1 dJ6_numberOfLeadingZeros_0f7a4_75 (by decide) ?_
            refine lv_iushr (v := (((((((((nI a)).toUInt32 >>> ((8 : Int32).toUInt32 &&& Int32.toUInt32 31)).toInt32)).toUInt32 >>> ((2 : Int32).toUInt32 &&& Int32.toUInt32 31)).toInt32)).toUInt32 >>> ((1 : Int32).toUInt32 &&& Int32.toUInt32 31)).toInt32) S.1 S.2.1 dJ6_numberOfLeadingZeros_0f7a4_76 rfl ?_
            refine lv_isub S.1 S.2.1 dJ6_numberOfLeadingZeros_0f7a4_77 ?_
            exact x_iretR S hr hlocks dJ6_numberOfLeadingZeros_0f7a4_78 ((show ∀ a : Nat, a < 1024 → (decide (0 < a) && (decide (0 < (nI a)) && (decide ((nI a) < 65536) && (decide (¬ (nI a) < 256) && (decide (((((nI a)).toUInt32 >>> ((8 : Int32).toUInt32 &&& Int32.toUInt32 31)).toInt32) < 16) && (decide (¬ ((((nI a)).toUInt32 >>> ((8 : Int32).toUInt32 &&& Int32.toUInt32 31)).toInt32) < 4))))))) = true → (31 : Int32) - ((21 - ((((((((((nI a)).toUInt32 >>> ((8 : Int32).toUInt32 &&& Int32.toUInt32 31)).toInt32)).toUInt32 >>> ((2 : Int32).toUInt32 &&& Int32.toUInt32 31)).toInt32)).toUInt32 >>> ((1 : Int32).toUInt32 &&& Int32.toUInt32 31)).toInt32))) = nI (hib a) by decide +kernel) a ha (by simp only [Bool.and_eq_true, decide_eq_true_eq]; exact ⟨h0, c1, c22, c37, c51, c63⟩))
        · skip
          refine lv_iinc (v := 19) (lv' := [(1, .int 19), (0, .int ((((nI a)).toUInt32 >>> ((8 : Int32).toUInt32 &&& Int32.toUInt32 31)).toInt32))]) S.1 S.2.1 dJ6_numberOfLeadingZeros_0f7a4_54 hl (k := 1) rfl (by decide) (by decide) rfl (fun ls hl => ?_)
          refine lv_iload_n S.1 S.2.1 dJ6_numberOfLeadingZeros_0f7a4_57 rfl (lv_at hl 1 rfl) ?_
          refine lv_iconst (v := 4) S.1 S.2.1 dJ6_numberOfLeadingZeros_0f7a4_58 (by decide) ?_
          refine lv_iushr (v := ((((((nI a)).toUInt32 >>> ((8 : Int32).toUInt32 &&& Int32.toUInt32 31)).toInt32)).toUInt32 >>> ((4 : Int32).toUInt32 &&& Int32.toUInt32 31)).toInt32) S.1 S.2.1 dJ6_numberOfLeadingZeros_0f7a4_59 rfl ?_
          refine lv_istore_n (lv' := [(0, .int (((((((nI a)).toUInt32 >>> ((8 : Int32).toUInt32 &&& Int32.toUInt32 31)).toInt32)).toUInt32 >>> ((4 : Int32).toUInt32 &&& Int32.toUInt32 31)).toInt32)), (1, .int 19)]) S.1 S.2.1 dJ6_numberOfLeadingZeros_0f7a4_60 rfl hl (by decide) rfl (fun ls hl => ?_)
          refine lv_iload_n S.1 S.2.1 dJ6_numberOfLeadingZeros_0f7a4_61 rfl (lv_at hl 0 rfl) ?_
          refine lv_iconst (v := 4) S.1 S.2.1 dJ6_numberOfLeadingZeros_0f7a4_62 (by decide) ?_
          refine lv_icmp_lt (tgt := 73) S.1 S.2.1 dJ6_numberOfLeadingZeros_0f7a4_63 (by decide) (fun c63 => ?_) (fun c63 => ?_)
          · skip
            refine lv_iload_n S.1 S.2.1 dJ6_numberOfLeadingZeros_0f7a4_73 rfl (lv_at hl 1 rfl) ?_
            refine lv_iload_n S.1 S.2.1 dJ6_numberOfLeadingZeros_0f7a4_74 rfl (lv_at hl 0 rfl) ?_
            refine lv_iconst (v := 1) S.1 S.2.1 dJ6_numberOfLeadingZeros_0f7a4_75 (by decide) ?_
            refine lv_iushr (v := (((((((((nI a)).toUInt32 >>> ((8 : Int32).toUInt32 &&& Int32.toUInt32 31)).toInt32)).toUInt32 >>> ((4 : Int32).toUInt32 &&& Int32.toUInt32 31)).toInt32)).toUInt32 >>> ((1 : Int32).toUInt32 &&& Int32.toUInt32 31)).toInt32) S.1 S.2.1 dJ6_numberOfLeadingZeros_0f7a4_76 rfl ?_
            refine lv_isub S.1 S.2.1 dJ6_numberOfLeadingZeros_0f7a4_77 ?_
            exact x_iretR S hr hlocks dJ6_numberOfLeadingZeros_0f7a4_78 ((show ∀ a : Nat, a < 1024 → (decide (0 < a) && (decide (0 < (nI a)) && (decide ((nI a) < 65536) && (decide (¬ (nI a) < 256) && (decide (¬ ((((nI a)).toUInt32 >>> ((8 : Int32).toUInt32 &&& Int32.toUInt32 31)).toInt32) < 16) && (decide ((((((((nI a)).toUInt32 >>> ((8 : Int32).toUInt32 &&& Int32.toUInt32 31)).toInt32)).toUInt32 >>> ((4 : Int32).toUInt32 &&& Int32.toUInt32 31)).toInt32) < 4))))))) = true → (31 : Int32) - ((19 - ((((((((((nI a)).toUInt32 >>> ((8 : Int32).toUInt32 &&& Int32.toUInt32 31)).toInt32)).toUInt32 >>> ((4 : Int32).toUInt32 &&& Int32.toUInt32 31)).toInt32)).toUInt32 >>> ((1 : Int32).toUInt32 &&& Int32.toUInt32 31)).toInt32))) = nI (hib a) by decide +kernel) a ha (by simp only [Bool.and_eq_true, decide_eq_true_eq]; exact ⟨h0, c1, c22, c37, c51, c63⟩))
          · skip
            refine lv_iinc (v := 17) (lv' := [(1, .int 17), (0, .int (((((((nI a)).toUInt32 >>> ((8 : Int32).toUInt32 &&& Int32.toUInt32 31)).toInt32)).toUInt32 >>> ((4 : Int32).toUInt32 &&& Int32.toUInt32 31)).toInt32))]) S.1 S.2.1 dJ6_numberOfLeadingZeros_0f7a4_66 hl (k := 1) rfl (by decide) (by decide) rfl (fun ls hl => ?_)
            refine lv_iload_n S.1 S.2.1 dJ6_numberOfLeadingZeros_0f7a4_69 rfl (lv_at hl 1 rfl) ?_
            refine lv_iconst (v := 2) S.1 S.2.1 dJ6_numberOfLeadingZeros_0f7a4_70 (by decide) ?_
            refine lv_iushr (v := (((((((((nI a)).toUInt32 >>> ((8 : Int32).toUInt32 &&& Int32.toUInt32 31)).toInt32)).toUInt32 >>> ((4 : Int32).toUInt32 &&& Int32.toUInt32 31)).toInt32)).toUInt32 >>> ((2 : Int32).toUInt32 &&& Int32.toUInt32 31)).toInt32) S.1 S.2.1 dJ6_numberOfLeadingZeros_0f7a4_71 rfl ?_
            refine lv_istore_n (lv' := [(0, .int ((((((((((nI a)).toUInt32 >>> ((8 : Int32).toUInt32 &&& Int32.toUInt32 31)).toInt32)).toUInt32 >>> ((4 : Int32).toUInt32 &&& Int32.toUInt32 31)).toInt32)).toUInt32 >>> ((2 : Int32).toUInt32 &&& Int32.toUInt32 31)).toInt32)), (1, .int 17)]) S.1 S.2.1 dJ6_numberOfLeadingZeros_0f7a4_72 rfl hl (by decide) rfl (fun ls hl => ?_)
            refine lv_iload_n S.1 S.2.1 dJ6_numberOfLeadingZeros_0f7a4_73 rfl (lv_at hl 1 rfl) ?_
            refine lv_iload_n S.1 S.2.1 dJ6_numberOfLeadingZeros_0f7a4_74 rfl (lv_at hl 0 rfl) ?_
            refine lv_iconst (v := 1) S.1 S.2.1 dJ6_numberOfLeadingZeros_0f7a4_75 (by decide) ?_
            refine lv_iushr (v := ((((((((((((nI a)).toUInt32 >>> ((8 : Int32).toUInt32 &&& Int32.toUInt32 31)).toInt32)).toUInt32 >>> ((4 : Int32).toUInt32 &&& Int32.toUInt32 31)).toInt32)).toUInt32 >>> ((2 : Int32).toUInt32 &&& Int32.toUInt32 31)).toInt32)).toUInt32 >>> ((1 : Int32).toUInt32 &&& Int32.toUInt32 31)).toInt32) S.1 S.2.1 dJ6_numberOfLeadingZeros_0f7a4_76 rfl ?_
            refine lv_isub S.1 S.2.1 dJ6_numberOfLeadingZeros_0f7a4_77 ?_
            exact x_iretR S hr hlocks dJ6_numberOfLeadingZeros_0f7a4_78 ((show ∀ a : Nat, a < 1024 → (decide (0 < a) && (decide (0 < (nI a)) && (decide ((nI a) < 65536) && (decide (¬ (nI a) < 256) && (decide (¬ ((((nI a)).toUInt32 >>> ((8 : Int32).toUInt32 &&& Int32.toUInt32 31)).toInt32) < 16) && (decide (¬ (((((((nI a)).toUInt32 >>> ((8 : Int32).toUInt32 &&& Int32.toUInt32 31)).toInt32)).toUInt32 >>> ((4 : Int32).toUInt32 &&& Int32.toUInt32 31)).toInt32) < 4))))))) = true → (31 : Int32) - ((17 - (((((((((((((nI a)).toUInt32 >>> ((8 : Int32).toUInt32 &&& Int32.toUInt32 31)).toInt32)).toUInt32 >>> ((4 : Int32).toUInt32 &&& Int32.toUInt32 31)).toInt32)).toUInt32 >>> ((2 : Int32).toUInt32 &&& Int32.toUInt32 31)).toInt32)).toUInt32 >>> ((1 : Int32).toUInt32 &&& Int32.toUInt32 31)).toInt32))) = nI (hib a) by decide +kernel) a ha (by simp only [Bool.and_eq_true, decide_eq_true_eq]; exact ⟨h0, c1, c22, c37, c51, c63⟩))
    · skip
      refine lv_iinc (v := 15) (lv' := [(1, .int 15), (0, .int (nI a))]) S.1 S.2.1 dJ6_numberOfLeadingZeros_0f7a4_25 hl (k := 0) rfl (by decide) (by decide) rfl (fun ls hl => ?_)
      refine lv_iload_n S.1 S.2.1 dJ6_numberOfLeadingZeros_0f7a4_28 rfl (lv_at hl 1 rfl) ?_
      refine lv_bipush (v := 16) S.1 S.2.1 dJ6_numberOfLeadingZeros_0f7a4_29 (by decide) ?_
      refine lv_iushr (v := (((nI a)).toUInt32 >>> ((16 : Int32).toUInt32 &&& Int32.toUInt32 31)).toInt32) S.1 S.2.1 dJ6_numberOfLeadingZeros_0f7a4_31 rfl ?_
      refine lv_istore_n (lv' := [(0, .int ((((nI a)).toUInt32 >>> ((16 : Int32).toUInt32 &&& Int32.toUInt32 31)).toInt32)), (1, .int 15)]) S.1 S.2.1 dJ6_numberOfLeadingZeros_0f7a4_32 rfl hl (by decide) rfl (fun ls hl => ?_)
      refine lv_iload_n S.1 S.2.1 dJ6_numberOfLeadingZeros_0f7a4_33 rfl (lv_at hl 0 rfl) ?_
      refine lv_sipush (v := 256) S.1 S.2.1 dJ6_numberOfLeadingZeros_0f7a4_34 (by decide) ?_
      refine lv_icmp_lt (tgt := 48) S.1 S.2.1 dJ6_numberOfLeadingZeros_0f7a4_37 (by decide) (fun c37 => ?_) (fun c37 => ?_)
      · skip
        refine lv_iload_n S.1 S.2.1 dJ6_numberOfLeadingZeros_0f7a4_48 rfl (lv_at hl 0 rfl) ?_
        refine lv_bipush (v := 16) S.1 S.2.1 dJ6_numberOfLeadingZeros_0f7a4_49 (by decide) ?_
        refine lv_icmp_lt (tgt := 61) S.1 S.2.1 dJ6_numberOfLeadingZeros_0f7a4_51 (by decide) (fun c51 => ?_) (fun c51 => ?_)
        · skip
          refine lv_iload_n S.1 S.2.1 dJ6_numberOfLeadingZeros_0f7a4_61 rfl (lv_at hl 0 rfl) ?_
          refine lv_iconst (v := 4) S.1 S.2.1 dJ6_numberOfLeadingZeros_0f7a4_62 (by decide) ?_
          refine lv_icmp_lt (tgt := 73) S.1 S.2.1 dJ6_numberOfLeadingZeros_0f7a4_63 (by decide) (fun c63 => ?_) (fun c63 => ?_)
          · skip
            refine lv_iload_n S.1 S.2.1 dJ6_numberOfLeadingZeros_0f7a4_73 rfl (lv_at hl 1 rfl) ?_
            refine lv_iload_n S.1 S.2.1 dJ6_numberOfLeadingZeros_0f7a4_74 rfl (lv_at hl 0 rfl) ?_
            refine lv_iconst (v := 1) S.1 S.2.1 dJ6_numberOfLeadingZeros_0f7a4_75 (by decide) ?_
            refine lv_iushr (v := ((((((nI a)).toUInt32 >>> ((16 : Int32).toUInt32 &&& Int32.toUInt32 31)).toInt32)).toUInt32 >>> ((1 : Int32).toUInt32 &&& Int32.toUInt32 31)).toInt32) S.1 S.2.1 dJ6_numberOfLeadingZeros_0f7a4_76 rfl ?_
            refine lv_isub S.1 S.2.1 dJ6_numberOfLeadingZeros_0f7a4_77 ?_
            exact x_iretR S hr hlocks dJ6_numberOfLeadingZeros_0f7a4_78 ((show ∀ a : Nat, a < 1024 → (decide (0 < a) && (decide (0 < (nI a)) && (decide (¬ (nI a) < 65536) && (decide (((((nI a)).toUInt32 >>> ((16 : Int32).toUInt32 &&& Int32.toUInt32 31)).toInt32) < 256) && (decide (((((nI a)).toUInt32 >>> ((16 : Int32).toUInt32 &&& Int32.toUInt32 31)).toInt32) < 16) && (decide (((((nI a)).toUInt32 >>> ((16 : Int32).toUInt32 &&& Int32.toUInt32 31)).toInt32) < 4))))))) = true → (31 : Int32) - ((15 - (((((((nI a)).toUInt32 >>> ((16 : Int32).toUInt32 &&& Int32.toUInt32 31)).toInt32)).toUInt32 >>> ((1 : Int32).toUInt32 &&& Int32.toUInt32 31)).toInt32))) = nI (hib a) by decide +kernel) a ha (by simp only [Bool.and_eq_true, decide_eq_true_eq]; exact ⟨h0, c1, c22, c37, c51, c63⟩))
          · skip
            refine lv_iinc (v := 13) (lv' := [(1, .int 13), (0, .int ((((nI a)).toUInt32 >>> ((16 : Int32).toUInt32 &&& Int32.toUInt32 31)).toInt32))]) S.1 S.2.1 dJ6_numberOfLeadingZeros_0f7a4_66 hl (k := 1) rfl (by decide) (by decide) rfl (fun ls hl => ?_)
            refine lv_iload_n S.1 S.2.1 dJ6_numberOfLeadingZeros_0f7a4_69 rfl (lv_at hl 1 rfl) ?_
            refine lv_iconst (v := 2) S.1 S.2.1 dJ6_numberOfLeadingZeros_0f7a4_70 (by decide) ?_
            refine lv_iushr (v := ((((((nI a)).toUInt32 >>> ((16 : Int32).toUInt32 &&& Int32.toUInt32 31)).toInt32)).toUInt32 >>> ((2 : Int32).toUInt32 &&& Int32.toUInt32 31)).toInt32) S.1 S.2.1 dJ6_numberOfLeadingZeros_0f7a4_71 rfl ?_
            refine lv_istore_n (lv' := [(0, .int (((((((nI a)).toUInt32 >>> ((16 : Int32).toUInt32 &&& Int32.toUInt32 31)).toInt32)).toUInt32 >>> ((2 : Int32).toUInt32 &&& Int32.toUInt32 31)).toInt32)), (1, .int 13)]) S.1 S.2.1 dJ6_numberOfLeadingZeros_0f7a4_72 rfl hl (by decide) rfl (fun ls hl => ?_)
            refine lv_iload_n S.1 S.2.1 dJ6_numberOfLeadingZeros_0f7a4_73 rfl (lv_at hl 1 rfl) ?_
            refine lv_iload_n S.1 S.2.1 dJ6_numberOfLeadingZeros_0f7a4_74 rfl (lv_at hl 0 rfl) ?_
            refine lv_iconst (v := 1) S.1 S.2.1 dJ6_numberOfLeadingZeros_0f7a4_75 (by decide) ?_
            refine lv_iushr (v := (((((((((nI a)).toUInt32 >>> ((16 : Int32).toUInt32 &&& Int32.toUInt32 31)).toInt32)).toUInt32 >>> ((2 : Int32).toUInt32 &&& Int32.toUInt32 31)).toInt32)).toUInt32 >>> ((1 : Int32).toUInt32 &&& Int32.toUInt32 31)).toInt32) S.1 S.2.1 dJ6_numberOfLeadingZeros_0f7a4_76 rfl ?_
            refine lv_isub S.1 S.2.1 dJ6_numberOfLeadingZeros_0f7a4_77 ?_
            exact x_iretR S hr hlocks dJ6_numberOfLeadingZeros_0f7a4_78 ((show ∀ a : Nat, a < 1024 → (decide (0 < a) && (decide (0 < (nI a)) && (decide (¬ (nI a) < 65536) && (decide (((((nI a)).toUInt32 >>> ((16 : Int32).toUInt32 &&& Int32.toUInt32 31)).toInt32) < 256) && (decide (((((nI a)).toUInt32 >>> ((16 : Int32).toUInt32 &&& Int32.toUInt32 31)).toInt32) < 16) && (decide (¬ ((((nI a)).toUInt32 >>> ((16 : Int32).toUInt32 &&& Int32.toUInt32 31)).toInt32) < 4))))))) = true → (31 : Int32) - ((13 - ((((((((((nI a)).toUInt32 >>> ((16 : Int32).toUInt32 &&& Int32.toUInt32 31)).toInt32)).toUInt32 >>> ((2 : Int32).toUInt32 &&& Int32.toUInt32 31)).toInt32)).toUInt32 >>> ((1 : Int32).toUInt32 &&& Int32.toUInt32 31)).toInt32))) = nI (hib a) by decide +kernel) a ha (by simp only [Bool.and_eq_true, decide_eq_true_eq]; exact ⟨h0, c1, c22, c37, c51, c63⟩))
        · skip
          refine lv_iinc (v := 11) (lv' := [(1, .int 11), (0, .int ((((nI a)).toUInt32 >>> ((16 : Int32).toUInt32 &&& Int32.toUInt32 31)).toInt32))]) S.1 S.2.1 dJ6_numberOfLeadingZeros_0f7a4_54 hl (k := 1) rfl (by decide) (by decide) rfl (fun ls hl => ?_)
          refine lv_iload_n S.1 S.2.1 dJ6_numberOfLeadingZeros_0f7a4_57 rfl (lv_at hl 1 rfl) ?_
          refine lv_iconst (v := 4) S.1 S.2.1 dJ6_numberOfLeadingZeros_0f7a4_58 (by decide) ?_
          refine lv_iushr (v := ((((((nI a)).toUInt32 >>> ((16 : Int32).toUInt32 &&& Int32.toUInt32 31)).toInt32)).toUInt32 >>> ((4 : Int32).toUInt32 &&& Int32.toUInt32 31)).toInt32) S.1 S.2.1 dJ6_numberOfLeadingZeros_0f7a4_59 rfl ?_
          refine lv_istore_n (lv' := [(0, .int (((((((nI a)).toUInt32 >>> ((16 : Int32).toUInt32 &&& Int32.toUInt32 31)).toInt32)).toUInt32 >>> ((4 : Int32).toUInt32 &&& Int32.toUInt32 31)).toInt32)), (1, .int 11)]) S.1 S.2.1 dJ6_numberOfLeadingZeros_0f7a4_60 rfl hl (by decide) rfl (fun ls hl => ?_)
          refine lv_iload_n S.1 S.2.1 dJ6_numberOfLeadingZeros_0f7a4_61 rfl (lv_at hl 0 rfl) ?_
          refine lv_iconst (v := 4) S.1 S.2.1 dJ6_numberOfLeadingZeros_0f7a4_62 (by decide) ?_
          refine lv_icmp_lt (tgt := 73) S.1 S.2.1 dJ6_numberOfLeadingZeros_0f7a4_63 (by decide) (fun c63 => ?_) (fun c63 => ?_)
          · skip
            refine lv_iload_n S.1 S.2.1 dJ6_numberOfLeadingZeros_0f7a4_73 rfl (lv_at hl 1 rfl) ?_
            refine lv_iload_n S.1 S.2.1 dJ6_numberOfLeadingZeros_0f7a4_74 rfl (lv_at hl 0 rfl) ?_
            refine lv_iconst (v := 1) S.1 S.2.1 dJ6_numberOfLeadingZeros_0f7a4_75 (by decide) ?_
            refine lv_iushr (v := (((((((((nI a)).toUInt32 >>> ((16 : Int32).toUInt32 &&& Int32.toUInt32 31)).toInt32)).toUInt32 >>> ((4 : Int32).toUInt32 &&& Int32.toUInt32 31)).toInt32)).toUInt32 >>> ((1 : Int32).toUInt32 &&& Int32.toUInt32 31)).toInt32) S.1 S.2.1 dJ6_numberOfLeadingZeros_0f7a4_76 rfl ?_
            refine lv_isub S.1 S.2.1 dJ6_numberOfLeadingZeros_0f7a4_77 ?_
            exact x_iretR S hr hlocks dJ6_numberOfLeadingZeros_0f7a4_78 ((show ∀ a : Nat, a < 1024 → (decide (0 < a) && (decide (0 < (nI a)) && (decide (¬ (nI a) < 65536) && (decide (((((nI a)).toUInt32 >>> ((16 : Int32).toUInt32 &&& Int32.toUInt32 31)).toInt32) < 256) && (decide (¬ ((((nI a)).toUInt32 >>> ((16 : Int32).toUInt32 &&& Int32.toUInt32 31)).toInt32) < 16) && (decide ((((((((nI a)).toUInt32 >>> ((16 : Int32).toUInt32 &&& Int32.toUInt32 31)).toInt32)).toUInt32 >>> ((4 : Int32).toUInt32 &&& Int32.toUInt32 31)).toInt32) < 4))))))) = true → (31 : Int32) - ((11 - ((((((((((nI a)).toUInt32 >>> ((16 : Int32).toUInt32 &&& Int32.toUInt32 31)).toInt32)).toUInt32 >>> ((4 : Int32).toUInt32 &&& Int32.toUInt32 31)).toInt32)).toUInt32 >>> ((1 : Int32).toUInt32 &&& Int32.toUInt32 31)).toInt32))) = nI (hib a) by decide +kernel) a ha (by simp only [Bool.and_eq_true, decide_eq_true_eq]; exact ⟨h0, c1, c22, c37, c51, c63⟩))
          · skip
            refine lv_iinc (v := 9) (lv' := [(1, .int 9), (0, .int (((((((nI a)).toUInt32 >>> ((16 : Int32).toUInt32 &&& Int32.toUInt32 31)).toInt32)).toUInt32 >>> ((4 : Int32).toUInt32 &&& Int32.toUInt32 31)).toInt32))]) S.1 S.2.1 dJ6_numberOfLeadingZeros_0f7a4_66 hl (k := 1) rfl (by decide) (by decide) rfl (fun ls hl => ?_)
            refine lv_iload_n S.1 S.2.1 dJ6_numberOfLeadingZeros_0f7a4_69 rfl (lv_at hl 1 rfl) ?_
            refine lv_iconst (v := 2) S.1 S.2.1 dJ6_numberOfLeadingZeros_0f7a4_70 (by decide) ?_
            refine lv_iushr (v := (((((((((nI a)).toUInt32 >>> ((16 : Int32).toUInt32 &&& Int32.toUInt32 31)).toInt32)).toUInt32 >>> ((4 : Int32).toUInt32 &&& Int32.toUInt32 31)).toInt32)).toUInt32 >>> ((2 : Int32).toUInt32 &&& Int32.toUInt32 31)).toInt32) S.1 S.2.1 dJ6_numberOfLeadingZeros_0f7a4_71 rfl ?_
            refine lv_istore_n (lv' := [(0, .int ((((((((((nI a)).toUInt32 >>> ((16 : Int32).toUInt32 &&& Int32.toUInt32 31)).toInt32)).toUInt32 >>> ((4 : Int32).toUInt32 &&& Int32.toUInt32 31)).toInt32)).toUInt32 >>> ((2 : Int32).toUInt32 &&& Int32.toUInt32 31)).toInt32)), (1, .int 9)]) S.1 S.2.1 dJ6_numberOfLeadingZeros_0f7a4_72 rfl hl (by decide) rfl (fun ls hl => ?_)
            refine lv_iload_n S.1 S.2.1 dJ6_numberOfLeadingZeros_0f7a4_73 rfl (lv_at hl 1 rfl) ?_
            refine lv_iload_n S.1 S.2.1 dJ6_numberOfLeadingZeros_0f7a4_74 rfl (lv_at hl 0 rfl) ?_
            refine lv_iconst (v := 1) S.1 S.2.1 dJ6_numberOfLeadingZeros_0f7a4_75 (by decide) ?_
            refine lv_iushr (v := ((((((((((((nI a)).toUInt32 >>> ((16 : Int32).toUInt32 &&& Int32.toUInt32 31)).toInt32)).toUInt32 >>> ((4 : Int32).toUInt32 &&& Int32.toUInt32 31)).toInt32)).toUInt32 >>> ((2 : Int32).toUInt32 &&& Int32.toUInt32 31)).toInt32)).toUInt32 >>> ((1 : Int32).toUInt32 &&& Int32.toUInt32 31)).toInt32) S.1 S.2.1 dJ6_numberOfLeadingZeros_0f7a4_76 rfl ?_
            refine lv_isub S.1 S.2.1 dJ6_numberOfLeadingZeros_0f7a4_77 ?_
            exact x_iretR S hr hlocks dJ6_numberOfLeadingZeros_0f7a4_78 ((show ∀ a : Nat, a < 1024 → (decide (0 < a) && (decide (0 < (nI a)) && (decide (¬ (nI a) < 65536) && (decide (((((nI a)).toUInt32 >>> ((16 : Int32).toUInt32 &&& Int32.toUInt32 31)).toInt32) < 256) && (decide (¬ ((((nI a)).toUInt32 >>> ((16 : Int32).toUInt32 &&& Int32.toUInt32 31)).toInt32) < 16) && (decide (¬ (((((((nI a)).toUInt32 >>> ((16 : Int32).toUInt32 &&& Int32.toUInt32 31)).toInt32)).toUInt32 >>> ((4 : Int32).toUInt32 &&& Int32.toUInt32 31)).toInt32) < 4))))))) = true → (31 : Int32) - ((9 - (((((((((((((nI a)).toUInt32 >>> ((16 : Int32).toUInt32 &&& Int32.toUInt32 31)).toInt32)).toUInt32 >>> ((4 : Int32).toUInt32 &&& Int32.toUInt32 31)).toInt32)).toUInt32 >>> ((2 : Int32).toUInt32 &&& Int32.toUInt32 31)).toInt32)).toUInt32 >>> ((1 : Int32).toUInt32 &&& Int32.toUInt32 31)).toInt32))) = nI (hib a) by decide +kernel) a ha (by simp only [Bool.and_eq_true, decide_eq_true_eq]; exact ⟨h0, c1, c22, c37, c51, c63⟩))
      · skip
        refine lv_iinc (v := 7) (lv' := [(1, .int 7), (0, .int ((((nI a)).toUInt32 >>> ((16 : Int32).toUInt32 &&& Int32.toUInt32 31)).toInt32))]) S.1 S.2.1 dJ6_numberOfLeadingZeros_0f7a4_40 hl (k := 1) rfl (by decide) (by decide) rfl (fun ls hl => ?_)
        refine lv_iload_n S.1 S.2.1 dJ6_numberOfLeadingZeros_0f7a4_43 rfl (lv_at hl 1 rfl) ?_
        refine lv_bipush (v := 8) S.1 S.2.1 dJ6_numberOfLeadingZeros_0f7a4_44 (by decide) ?_
        refine lv_iushr (v := ((((((nI a)).toUInt32 >>> ((16 : Int32).toUInt32 &&& Int32.toUInt32 31)).toInt32)).toUInt32 >>> ((8 : Int32).toUInt32 &&& Int32.toUInt32 31)).toInt32) S.1 S.2.1 dJ6_numberOfLeadingZeros_0f7a4_46 rfl ?_
        refine lv_istore_n (lv' := [(0, .int (((((((nI a)).toUInt32 >>> ((16 : Int32).toUInt32 &&& Int32.toUInt32 31)).toInt32)).toUInt32 >>> ((8 : Int32).toUInt32 &&& Int32.toUInt32 31)).toInt32)), (1, .int 7)]) S.1 S.2.1 dJ6_numberOfLeadingZeros_0f7a4_47 rfl hl (by decide) rfl (fun ls hl => ?_)
        refine lv_iload_n S.1 S.2.1 dJ6_numberOfLeadingZeros_0f7a4_48 rfl (lv_at hl 0 rfl) ?_
        refine lv_bipush (v := 16) S.1 S.2.1 dJ6_numberOfLeadingZeros_0f7a4_49 (by decide) ?_
        refine lv_icmp_lt (tgt := 61) S.1 S.2.1 dJ6_numberOfLeadingZeros_0f7a4_51 (by decide) (fun c51 => ?_) (fun c51 => ?_)
        · skip
          refine lv_iload_n S.1 S.2.1 dJ6_numberOfLeadingZeros_0f7a4_61 rfl (lv_at hl 0 rfl) ?_
          refine lv_iconst (v := 4) S.1 S.2.1 dJ6_numberOfLeadingZeros_0f7a4_62 (by decide) ?_
          refine lv_icmp_lt (tgt := 73) S.1 S.2.1 dJ6_numberOfLeadingZeros_0f7a4_63 (by decide) (fun c63 => ?_) (fun c63 => ?_)
          · skip
            refine lv_iload_n S.1 S.2.1 dJ6_numberOfLeadingZeros_0f7a4_73 rfl (lv_at hl 1 rfl) ?_
            refine lv_iload_n S.1 S.2.1 dJ6_numberOfLeadingZeros_0f7a4_74 rfl (lv_at hl 0 rfl) ?_
            refine lv_iconst (v := 1) S.1 S.2.1 dJ6_numberOfLeadingZeros_0f7a4_75 (by decide) ?_
            refine lv_iushr (v := (((((((((nI a)).toUInt32 >>> ((16 : Int32).toUInt32 &&& Int32.toUInt32 31)).toInt32)).toUInt32 >>> ((8 : Int32).toUInt32 &&& Int32.toUInt32 31)).toInt32)).toUInt32 >>> ((1 : Int32).toUInt32 &&& Int32.toUInt32 31)).toInt32) S.1 S.2.1 dJ6_numberOfLeadingZeros_0f7a4_76 rfl ?_
            refine lv_isub S.1 S.2.1 dJ6_numberOfLeadingZeros_0f7a4_77 ?_
            exact x_iretR S hr hlocks dJ6_numberOfLeadingZeros_0f7a4_78 ((show ∀ a : Nat, a < 1024 → (decide (0 < a) && (decide (0 < (nI a)) && (decide (¬ (nI a) < 65536) && (decide (¬ ((((nI a)).toUInt32 >>> ((16 : Int32).toUInt32 &&& Int32.toUInt32 31)).toInt32) < 256) && (decide ((((((((nI a)).toUInt32 >>> ((16 : Int32).toUInt32 &&& Int32.toUInt32 31)).toInt32)).toUInt32 >>> ((8 : Int32).toUInt32 &&& Int32.toUInt32 31)).toInt32) < 16) && (decide ((((((((nI a)).toUInt32 >>> ((16 : Int32).toUInt32 &&& Int32.toUInt32 31)).toInt32)).toUInt32 >>> ((8 : Int32).toUInt32 &&& Int32.toUInt32 31)).toInt32) < 4))))))) = true → (31 : Int32) - ((7 - ((((((((((nI a)).toUInt32 >>> ((16 : Int32).toUInt32 &&& Int32.toUInt32 31)).toInt32)).toUInt32 >>> ((8 : Int32).toUInt32 &&& Int32.toUInt32 31)).toInt32)).toUInt32 >>> ((1 : Int32).toUInt32 &&& Int32.toUInt32 31)).toInt32))) = nI (hib a) by decide +kernel) a ha (by simp only [Bool.and_eq_true, decide_eq_true_eq]; exact ⟨h0, c1, c22, c37, c51, c63⟩))
          · skip
            refine lv_iinc (v := 5) (lv' := [(1, .int 5), (0, .int (((((((nI a)).toUInt32 >>> ((16 : Int32).toUInt32 &&& Int32.toUInt32 31)).toInt32)).toUInt32 >>> ((8 : Int32).toUInt32 &&& Int32.toUInt32 31)).toInt32))]) S.1 S.2.1 dJ6_numberOfLeadingZeros_0f7a4_66 hl (k := 1) rfl (by decide) (by decide) rfl (fun ls hl => ?_)
            refine lv_iload_n S.1 S.2.1 dJ6_numberOfLeadingZeros_0f7a4_69 rfl (lv_at hl 1 rfl) ?_
            refine lv_iconst (v := 2) S.1 S.2.1 dJ6_numberOfLeadingZeros_0f7a4_70 (by decide) ?_
            refine lv_iushr (v := (((((((((nI a)).toUInt32 >>> ((16 : Int32).toUInt32 &&& Int32.toUInt32 31)).toInt32)).toUInt32 >>> ((8 : Int32).toUInt32 &&& Int32.toUInt32 31)).toInt32)).toUInt32 >>> ((2 : Int32).toUInt32 &&& Int32.toUInt32 31)).toInt32) S.1 S.2.1 dJ6_numberOfLeadingZeros_0f7a4_71 rfl ?_
            refine lv_istore_n (lv' := [(0, .int ((((((((((nI a)).toUInt32 >>> ((16 : Int32).toUInt32 &&& Int32.toUInt32 31)).toInt32)).toUInt32 >>> ((8 : Int32).toUInt32 &&& Int32.toUInt32 31)).toInt32)).toUInt32 >>> ((2 : Int32).toUInt32 &&& Int32.toUInt32 31)).toInt32)), (1, .int 5)]) S.1 S.2.1 dJ6_numberOfLeadingZeros_0f7a4_72 rfl hl (by decide) rfl (fun ls hl => ?_)
            refine lv_iload_n S.1 S.2.1 dJ6_numberOfLeadingZeros_0f7a4_73 rfl (lv_at hl 1 rfl) ?_
            refine lv_iload_n S.1 S.2.1 dJ6_numberOfLeadingZeros_0f7a4_74 rfl (lv_at hl 0 rfl) ?_
            refine lv_iconst (v := 1) S.1 S.2.1 dJ6_numberOfLeadingZeros_0f7a4_75 (by decide) ?_
            refine lv_iushr (v := ((((((((((((nI a)).toUInt32 >>> ((16 : Int32).toUInt32 &&& Int32.toUInt32 31)).toInt32)).toUInt32 >>> ((8 : Int32).toUInt32 &&& Int32.toUInt32 31)).toInt32)).toUInt32 >>> ((2 : Int32).toUInt32 &&& Int32.toUInt32 31)).toInt32)).toUInt32 >>> ((1 : Int32).toUInt32 &&& Int32.toUInt32 31)).toInt32) S.1 S.2.1 dJ6_numberOfLeadingZeros_0f7a4_76 rfl ?_
            refine lv_isub S.1 S.2.1 dJ6_numberOfLeadingZeros_0f7a4_77 ?_
            exact x_iretR S hr hlocks dJ6_numberOfLeadingZeros_0f7a4_78 ((show ∀ a : Nat, a < 1024 → (decide (0 < a) && (decide (0 < (nI a)) && (decide (¬ (nI a) < 65536) && (decide (¬ ((((nI a)).toUInt32 >>> ((16 : Int32).toUInt32 &&& Int32.toUInt32 31)).toInt32) < 256) && (decide ((((((((nI a)).toUInt32 >>> ((16 : Int32).toUInt32 &&& Int32.toUInt32 31)).toInt32)).toUInt32 >>> ((8 : Int32).toUInt32 &&& Int32.toUInt32 31)).toInt32) < 16) && (decide (¬ (((((((nI a)).toUInt32 >>> ((16 : Int32).toUInt32 &&& Int32.toUInt32 31)).toInt32)).toUInt32 >>> ((8 : Int32).toUInt32 &&& Int32.toUInt32 31)).toInt32) < 4))))))) = true → (31 : Int32) - ((5 - (((((((((((((nI a)).toUInt32 >>> ((16 : Int32).toUInt32 &&& Int32.toUInt32 31)).toInt32)).toUInt32 >>> ((8 : Int32).toUInt32 &&& Int32.toUInt32 31)).toInt32)).toUInt32 >>> ((2 : Int32).toUInt32 &&& Int32.toUInt32 31)).toInt32)).toUInt32 >>> ((1 : Int32).toUInt32 &&& Int32.toUInt32 31)).toInt32))) = nI (hib a) by decide +kernel) a ha (by simp only [Bool.and_eq_true, decide_eq_true_eq]; exact ⟨h0, c1, c22, c37, c51, c63⟩))
        · skip
          refine lv_iinc (v := 3) (lv' := [(1, .int 3), (0, .int (((((((nI a)).toUInt32 >>> ((16 : Int32).toUInt32 &&& Int32.toUInt32 31)).toInt32)).toUInt32 >>> ((8 : Int32).toUInt32 &&& Int32.toUInt32 31)).toInt32))]) S.1 S.2.1 dJ6_numberOfLeadingZeros_0f7a4_54 hl (k := 1) rfl (by decide) (by decide) rfl (fun ls hl => ?_)
          refine lv_iload_n S.1 S.2.1 dJ6_numberOfLeadingZeros_0f7a4_57 rfl (lv_at hl 1 rfl) ?_
          refine lv_iconst (v := 4) S.1 S.2.1 dJ6_numberOfLeadingZeros_0f7a4_58 (by decide) ?_
          refine lv_iushr (v := (((((((((nI a)).toUInt32 >>> ((16 : Int32).toUInt32 &&& Int32.toUInt32 31)).toInt32)).toUInt32 >>> ((8 : Int32).toUInt32 &&& Int32.toUInt32 31)).toInt32)).toUInt32 >>> ((4 : Int32).toUInt32 &&& Int32.toUInt32 31)).toInt32) S.1 S.2.1 dJ6_numberOfLeadingZeros_0f7a4_59 rfl ?_
          refine lv_istore_n (lv' := [(0, .int ((((((((((nI a)).toUInt32 >>> ((16 : Int32).toUInt32 &&& Int32.toUInt32 31)).toInt32)).toUInt32 >>> ((8 : Int32).toUInt32 &&& Int32.toUInt32 31)).toInt32)).toUInt32 >>> ((4 : Int32).toUInt32 &&& Int32.toUInt32 31)).toInt32)), (1, .int 3)]) S.1 S.2.1 dJ6_numberOfLeadingZeros_0f7a4_60 rfl hl (by decide) rfl (fun ls hl => ?_)
          refine lv_iload_n S.1 S.2.1 dJ6_numberOfLeadingZeros_0f7a4_61 rfl (lv_at hl 0 rfl) ?_
          refine lv_iconst (v := 4) S.1 S.2.1 dJ6_numberOfLeadingZeros_0f7a4_62 (by decide) ?_
          refine lv_icmp_lt (tgt := 73) S.1 S.2.1 dJ6_numberOfLeadingZeros_0f7a4_63 (by decide) (fun c63 => ?_) (fun c63 => ?_)
          · skip
            refine lv_iload_n S.1 S.2.1 dJ6_numberOfLeadingZeros_0f7a4_73 rfl (lv_at hl 1 rfl) ?_
            refine lv_iload_n S.1 S.2.1 dJ6_numberOfLeadingZeros_0f7a4_74 rfl (lv_at hl 0 rfl) ?_
            refine lv_iconst (v := 1) S.1 S.2.1 dJ6_numberOfLeadingZeros_0f7a4_75 (by decide) ?_
            refine lv_iushr (v := ((((((((((((nI a)).toUInt32 >>> ((16 : Int32).toUInt32 &&& Int32.toUInt32 31)).toInt32)).toUInt32 >>> ((8 : Int32).toUInt32 &&& Int32.toUInt32 31)).toInt32)).toUInt32 >>> ((4 : Int32).toUInt32 &&& Int32.toUInt32 31)).toInt32)).toUInt32 >>> ((1 : Int32).toUInt32 &&& Int32.toUInt32 31)).toInt32) S.1 S.2.1 dJ6_numberOfLeadingZeros_0f7a4_76 rfl ?_
            refine lv_isub S.1 S.2.1 dJ6_numberOfLeadingZeros_0f7a4_77 ?_
            exact x_iretR S hr hlocks dJ6_numberOfLeadingZeros_0f7a4_78 ((show ∀ a : Nat, a < 1024 → (decide (0 < a) && (decide (0 < (nI a)) && (decide (¬ (nI a) < 65536) && (decide (¬ ((((nI a)).toUInt32 >>> ((16 : Int32).toUInt32 &&& Int32.toUInt32 31)).toInt32) < 256) && (decide (¬ (((((((nI a)).toUInt32 >>> ((16 : Int32).toUInt32 &&& Int32.toUInt32 31)).toInt32)).toUInt32 >>> ((8 : Int32).toUInt32 &&& Int32.toUInt32 31)).toInt32) < 16) && (decide (((((((((((nI a)).toUInt32 >>> ((16 : Int32).toUInt32 &&& Int32.toUInt32 31)).toInt32)).toUInt32 >>> ((8 : Int32).toUInt32 &&& Int32.toUInt32 31)).toInt32)).toUInt32 >>> ((4 : Int32).toUInt32 &&& Int32.toUInt32 31)).toInt32) < 4))))))) = true → (31 : Int32) - ((3 - (((((((((((((nI a)).toUInt32 >>> ((16 : Int32).toUInt32 &&& Int32.toUInt32 31)).toInt32)).toUInt32 >>> ((8 : Int32).toUInt32 &&& Int32.toUInt32 31)).toInt32)).toUInt32 >>> ((4 : Int32).toUInt32 &&& Int32.toUInt32 31)).toInt32)).toUInt32 >>> ((1 : Int32).toUInt32 &&& Int32.toUInt32 31)).toInt32))) = nI (hib a) by decide +kernel) a ha (by simp only [Bool.and_eq_true, decide_eq_true_eq]; exact ⟨h0, c1, c22, c37, c51, c63⟩))
          · skip
            refine lv_iinc (v := 1) (lv' := [(1, .int 1), (0, .int ((((((((((nI a)).toUInt32 >>> ((16 : Int32).toUInt32 &&& Int32.toUInt32 31)).toInt32)).toUInt32 >>> ((8 : Int32).toUInt32 &&& Int32.toUInt32 31)).toInt32)).toUInt32 >>> ((4 : Int32).toUInt32 &&& Int32.toUInt32 31)).toInt32))]) S.1 S.2.1 dJ6_numberOfLeadingZeros_0f7a4_66 hl (k := 1) rfl (by decide) (by decide) rfl (fun ls hl => ?_)
            refine lv_iload_n S.1 S.2.1 dJ6_numberOfLeadingZeros_0f7a4_69 rfl (lv_at hl 1 rfl) ?_
            refine lv_iconst (v := 2) S.1 S.2.1 dJ6_numberOfLeadingZeros_0f7a4_70 (by decide) ?_
            refine lv_iushr (v := ((((((((((((nI a)).toUInt32 >>> ((16 : Int32).toUInt32 &&& Int32.toUInt32 31)).toInt32)).toUInt32 >>> ((8 : Int32).toUInt32 &&& Int32.toUInt32 31)).toInt32)).toUInt32 >>> ((4 : Int32).toUInt32 &&& Int32.toUInt32 31)).toInt32)).toUInt32 >>> ((2 : Int32).toUInt32 &&& Int32.toUInt32 31)).toInt32) S.1 S.2.1 dJ6_numberOfLeadingZeros_0f7a4_71 rfl ?_
            refine lv_istore_n (lv' := [(0, .int (((((((((((((nI a)).toUInt32 >>> ((16 : Int32).toUInt32 &&& Int32.toUInt32 31)).toInt32)).toUInt32 >>> ((8 : Int32).toUInt32 &&& Int32.toUInt32 31)).toInt32)).toUInt32 >>> ((4 : Int32).toUInt32 &&& Int32.toUInt32 31)).toInt32)).toUInt32 >>> ((2 : Int32).toUInt32 &&& Int32.toUInt32 31)).toInt32)), (1, .int 1)]) S.1 S.2.1 dJ6_numberOfLeadingZeros_0f7a4_72 rfl hl (by decide) rfl (fun ls hl => ?_)
            refine lv_iload_n S.1 S.2.1 dJ6_numberOfLeadingZeros_0f7a4_73 rfl (lv_at hl 1 rfl) ?_
            refine lv_iload_n S.1 S.2.1 dJ6_numberOfLeadingZeros_0f7a4_74 rfl (lv_at hl 0 rfl) ?_
            refine lv_iconst (v := 1) S.1 S.2.1 dJ6_numberOfLeadingZeros_0f7a4_75 (by decide) ?_
            refine lv_iushr (v := (((((((((((((((nI a)).toUInt32 >>> ((16 : Int32).toUInt32 &&& Int32.toUInt32 31)).toInt32)).toUInt32 >>> ((8 : Int32).toUInt32 &&& Int32.toUInt32 31)).toInt32)).toUInt32 >>> ((4 : Int32).toUInt32 &&& Int32.toUInt32 31)).toInt32)).toUInt32 >>> ((2 : Int32).toUInt32 &&& Int32.toUInt32 31)).toInt32)).toUInt32 >>> ((1 : Int32).toUInt32 &&& Int32.toUInt32 31)).toInt32) S.1 S.2.1 dJ6_numberOfLeadingZeros_0f7a4_76 rfl ?_
            refine lv_isub S.1 S.2.1 dJ6_numberOfLeadingZeros_0f7a4_77 ?_
            exact x_iretR S hr hlocks dJ6_numberOfLeadingZeros_0f7a4_78 ((show ∀ a : Nat, a < 1024 → (decide (0 < a) && (decide (0 < (nI a)) && (decide (¬ (nI a) < 65536) && (decide (¬ ((((nI a)).toUInt32 >>> ((16 : Int32).toUInt32 &&& Int32.toUInt32 31)).toInt32) < 256) && (decide (¬ (((((((nI a)).toUInt32 >>> ((16 : Int32).toUInt32 &&& Int32.toUInt32 31)).toInt32)).toUInt32 >>> ((8 : Int32).toUInt32 &&& Int32.toUInt32 31)).toInt32) < 16) && (decide (¬ ((((((((((nI a)).toUInt32 >>> ((16 : Int32).toUInt32 &&& Int32.toUInt32 31)).toInt32)).toUInt32 >>> ((8 : Int32).toUInt32 &&& Int32.toUInt32 31)).toInt32)).toUInt32 >>> ((4 : Int32).toUInt32 &&& Int32.toUInt32 31)).toInt32) < 4))))))) = true → (31 : Int32) - ((1 - ((((((((((((((((nI a)).toUInt32 >>> ((16 : Int32).toUInt32 &&& Int32.toUInt32 31)).toInt32)).toUInt32 >>> ((8 : Int32).toUInt32 &&& Int32.toUInt32 31)).toInt32)).toUInt32 >>> ((4 : Int32).toUInt32 &&& Int32.toUInt32 31)).toInt32)).toUInt32 >>> ((2 : Int32).toUInt32 &&& Int32.toUInt32 31)).toInt32)).toUInt32 >>> ((1 : Int32).toUInt32 &&& Int32.toUInt32 31)).toInt32))) = nI (hib a) by decide +kernel) a ha (by simp only [Bool.and_eq_true, decide_eq_true_eq]; exact ⟨h0, c1, c22, c37, c51, c63⟩))
  · skip
    refine lv_iload_n S.1 S.2.1 dJ6_numberOfLeadingZeros_0f7a4_4 rfl (lv_at hl 0 rfl) ?_
    refine lv_if_ne (tgt := 13) S.1 S.2.1 dJ6_numberOfLeadingZeros_0f7a4_5 (by decide) (fun c5 => ?_) (fun c5 => ?_)
    · skip
      refine lv_iconst (v := 0) S.1 S.2.1 dJ6_numberOfLeadingZeros_0f7a4_13 (by decide) ?_
      exact x_iretR S hr hlocks dJ6_numberOfLeadingZeros_0f7a4_14 ((show ∀ a : Nat, a < 1024 → (decide (0 < a) && (decide (¬ 0 < (nI a)) && (decide (¬ (nI a) = 0)))) = true → (31 : Int32) - (0) = nI (hib a) by decide +kernel) a ha (by simp only [Bool.and_eq_true, decide_eq_true_eq]; exact ⟨h0, c1, c5⟩))
    · skip
      refine lv_bipush (v := 32) S.1 S.2.1 dJ6_numberOfLeadingZeros_0f7a4_8 (by decide) ?_
      refine lv_goto (tgt := 14) S.1 S.2.1 dJ6_numberOfLeadingZeros_0f7a4_10 (by decide) ?_
      exact x_iretR S hr hlocks dJ6_numberOfLeadingZeros_0f7a4_14 ((show ∀ a : Nat, a < 1024 → (decide (0 < a) && (decide (¬ 0 < (nI a)) && (decide ((nI a) = 0)))) = true → (31 : Int32) - (32) = nI (hib a) by decide +kernel) a ha (by simp only [Bool.and_eq_true, decide_eq_true_eq]; exact ⟨h0, c1, c5⟩))
set_option maxHeartbeats 4000000 in
set_option maxRecDepth 100000 in
theorem c_J6_numberOfTrailingZeros_0f7a4 (l : Launch) (g : xG) (E : Nat → va_E) {a : Nat} (ha : a < 1024) (h0 : 0 < a) : Met l yJ6_numberOfTrailingZeros_0f7a4 wsJ6_numberOfTrailingZeros_0f7a4 ({ frames := 0, cells := 0, slots := 0, locals := 0 }) (xPc g [.int (nI a)] E) (vp_Si (fun r => r = nI (lob a))) 0 0 (fun _ => False) := by
  refine x_met (ws' := _) (by decide) rfl (Nat.le_of_ble_eq_true rfl) ?_
  intro pz ez s m below meth cz ls S hr hlocks hP hK hl
  have hl : lv_has ls 2 [(0, .int (nI a))] := hl
  refine lv_iload_n S.1 S.2.1 dJ6_numberOfTrailingZeros_0f7a4_0 rfl (lv_at hl 0 rfl) ?_
  refine lv_iconst (v := (-1)) S.1 S.2.1 dJ6_numberOfTrailingZeros_0f7a4_1 (by decide) ?_
  refine lv_ixor S.1 S.2.1 dJ6_numberOfTrailingZeros_0f7a4_2 ?_
  refine lv_iload_n S.1 S.2.1 dJ6_numberOfTrailingZeros_0f7a4_3 rfl (lv_at hl 0 rfl) ?_
  refine lv_iconst (v := 1) S.1 S.2.1 dJ6_numberOfTrailingZeros_0f7a4_4 (by decide) ?_
  refine lv_isub S.1 S.2.1 dJ6_numberOfTrailingZeros_0f7a4_5 ?_
  refine lv_iand S.1 S.2.1 dJ6_numberOfTrailingZeros_0f7a4_6 ?_
  refine lv_istore_n (lv' := [(0, .int (((nI a) ^^^ (-1)) &&& ((nI a) - 1)))]) S.1 S.2.1 dJ6_numberOfTrailingZeros_0f7a4_7 rfl hl (by decide) rfl (fun ls hl => ?_)
  refine lv_iload_n S.1 S.2.1 dJ6_numberOfTrailingZeros_0f7a4_8 rfl (lv_at hl 0 rfl) ?_
  refine lv_if_gt (tgt := 17) S.1 S.2.1 dJ6_numberOfTrailingZeros_0f7a4_9 (by decide) (fun c9 => ?_) (fun c9 => ?_)
  · skip
    refine lv_iconst (v := 1) S.1 S.2.1 dJ6_numberOfTrailingZeros_0f7a4_17 (by decide) ?_
    refine lv_istore_n (lv' := [(1, .int 1), (0, .int (((nI a) ^^^ (-1)) &&& ((nI a) - 1)))]) S.1 S.2.1 dJ6_numberOfTrailingZeros_0f7a4_18 rfl hl (by decide) rfl (fun ls hl => ?_)
    refine lv_iload_n S.1 S.2.1 dJ6_numberOfTrailingZeros_0f7a4_19 rfl (lv_at hl 1 rfl) ?_
    refine lv_ldcw S.1 S.2.1 S.2.2.2.1 (S.2.2.2.2 (.constant RJ6 264 65536) (by decide +kernel)) dJ6_numberOfTrailingZeros_0f7a4_20 ?_
    refine lv_icmp_le (tgt := 34) S.1 S.2.1 dJ6_numberOfTrailingZeros_0f7a4_23 (by decide) (fun c23 => ?_) (fun c23 => ?_)
    · skip
      refine lv_iload_n S.1 S.2.1 dJ6_numberOfTrailingZeros_0f7a4_34 rfl (lv_at hl 1 rfl) ?_
      refine lv_sipush (v := 256) S.1 S.2.1 dJ6_numberOfTrailingZeros_0f7a4_35 (by decide) ?_
      refine lv_icmp_le (tgt := 49) S.1 S.2.1 dJ6_numberOfTrailingZeros_0f7a4_38 (by decide) (fun c38 => ?_) (fun c38 => ?_)
      · skip
        refine lv_iload_n S.1 S.2.1 dJ6_numberOfTrailingZeros_0f7a4_49 rfl (lv_at hl 1 rfl) ?_
        refine lv_bipush (v := 16) S.1 S.2.1 dJ6_numberOfTrailingZeros_0f7a4_50 (by decide) ?_
        refine lv_icmp_le (tgt := 62) S.1 S.2.1 dJ6_numberOfTrailingZeros_0f7a4_52 (by decide) (fun c52 => ?_) (fun c52 => ?_)
        · skip
          refine lv_iload_n S.1 S.2.1 dJ6_numberOfTrailingZeros_0f7a4_62 rfl (lv_at hl 1 rfl) ?_
          refine lv_iconst (v := 4) S.1 S.2.1 dJ6_numberOfTrailingZeros_0f7a4_63 (by decide) ?_
          refine lv_icmp_le (tgt := 74) S.1 S.2.1 dJ6_numberOfTrailingZeros_0f7a4_64 (by decide) (fun c64 => ?_) (fun c64 => ?_)
          · skip
            refine lv_iload_n S.1 S.2.1 dJ6_numberOfTrailingZeros_0f7a4_74 rfl (lv_at hl 0 rfl) ?_
            refine lv_iload_n S.1 S.2.1 dJ6_numberOfTrailingZeros_0f7a4_75 rfl (lv_at hl 1 rfl) ?_
            refine lv_iconst (v := 1) S.1 S.2.1 dJ6_numberOfTrailingZeros_0f7a4_76 (by decide) ?_
            refine lv_iushr (v := (((((nI a) ^^^ (-1)) &&& ((nI a) - 1))).toUInt32 >>> ((1 : Int32).toUInt32 &&& Int32.toUInt32 31)).toInt32) S.1 S.2.1 dJ6_numberOfTrailingZeros_0f7a4_77 rfl ?_
            refine lv_iadd S.1 S.2.1 dJ6_numberOfTrailingZeros_0f7a4_78 ?_
            exact x_iretR S hr hlocks dJ6_numberOfTrailingZeros_0f7a4_79 ((show ∀ a : Nat, a < 1024 → (decide (0 < a) && (decide (0 < (((nI a) ^^^ (-1)) &&& ((nI a) - 1))) && (decide ((((nI a) ^^^ (-1)) &&& ((nI a) - 1)) ≤ 65536) && (decide ((((nI a) ^^^ (-1)) &&& ((nI a) - 1)) ≤ 256) && (decide ((((nI a) ^^^ (-1)) &&& ((nI a) - 1)) ≤ 16) && (decide ((((nI a) ^^^ (-1)) &&& ((nI a) - 1)) ≤ 4))))))) = true → (1 + ((((((nI a) ^^^ (-1)) &&& ((nI a) - 1))).toUInt32 >>> ((1 : Int32).toUInt32 &&& Int32.toUInt32 31)).toInt32)) = nI (lob a) by decide +kernel) a ha (by simp only [Bool.and_eq_true, decide_eq_true_eq]; exact ⟨h0, c9, c23, c38, c52, c64⟩))
          · skip
            refine lv_iinc (v := 3) (lv' := [(1, .int 3), (0, .int (((nI a) ^^^ (-1)) &&& ((nI a) - 1)))]) S.1 S.2.1 dJ6_numberOfTrailingZeros_0f7a4_67 hl (k := 0) rfl (by decide) (by decide) rfl (fun ls hl => ?_)
            refine lv_iload_n S.1 S.2.1 dJ6_numberOfTrailingZeros_0f7a4_70 rfl (lv_at hl 1 rfl) ?_
            refine lv_iconst (v := 2) S.1 S.2.1 dJ6_numberOfTrailingZeros_0f7a4_71 (by decide) ?_
            refine lv_iushr (v := (((((nI a) ^^^ (-1)) &&& ((nI a) - 1))).toUInt32 >>> ((2 : Int32).toUInt32 &&& Int32.toUInt32 31)).toInt32) S.1 S.2.1 dJ6_numberOfTrailingZeros_0f7a4_72 rfl ?_
            refine lv_istore_n (lv' := [(0, .int ((((((nI a) ^^^ (-1)) &&& ((nI a) - 1))).toUInt32 >>> ((2 : Int32).toUInt32 &&& Int32.toUInt32 31)).toInt32)), (1, .int 3)]) S.1 S.2.1 dJ6_numberOfTrailingZeros_0f7a4_73 rfl hl (by decide) rfl (fun ls hl => ?_)
            refine lv_iload_n S.1 S.2.1 dJ6_numberOfTrailingZeros_0f7a4_74 rfl (lv_at hl 1 rfl) ?_
            refine lv_iload_n S.1 S.2.1 dJ6_numberOfTrailingZeros_0f7a4_75 rfl (lv_at hl 0 rfl) ?_
            refine lv_iconst (v := 1) S.1 S.2.1 dJ6_numberOfTrailingZeros_0f7a4_76 (by decide) ?_
            refine lv_iushr (v := ((((((((nI a) ^^^ (-1)) &&& ((nI a) - 1))).toUInt32 >>> ((2 : Int32).toUInt32 &&& Int32.toUInt32 31)).toInt32)).toUInt32 >>> ((1 : Int32).toUInt32 &&& Int32.toUInt32 31)).toInt32) S.1 S.2.1 dJ6_numberOfTrailingZeros_0f7a4_77 rfl ?_
            refine lv_iadd S.1 S.2.1 dJ6_numberOfTrailingZeros_0f7a4_78 ?_
            exact x_iretR S hr hlocks dJ6_numberOfTrailingZeros_0f7a4_79 ((show ∀ a : Nat, a < 1024 → (decide (0 < a) && (decide (0 < (((nI a) ^^^ (-1)) &&& ((nI a) - 1))) && (decide ((((nI a) ^^^ (-1)) &&& ((nI a) - 1)) ≤ 65536) && (decide ((((nI a) ^^^ (-1)) &&& ((nI a) - 1)) ≤ 256) && (decide ((((nI a) ^^^ (-1)) &&& ((nI a) - 1)) ≤ 16) && (decide (¬ (((nI a) ^^^ (-1)) &&& ((nI a) - 1)) ≤ 4))))))) = true → (3 + (((((((((nI a) ^^^ (-1)) &&& ((nI a) - 1))).toUInt32 >>> ((2 : Int32).toUInt32 &&& Int32.toUInt32 31)).toInt32)).toUInt32 >>> ((1 : Int32).toUInt32 &&& Int32.toUInt32 31)).toInt32)) = nI (lob a) by decide +kernel) a ha (by simp only [Bool.and_eq_true, decide_eq_true_eq]; exact ⟨h0, c9, c23, c38, c52, c64⟩))
        · skip
          refine lv_iinc (v := 5) (lv' := [(1, .int 5), (0, .int (((nI a) ^^^ (-1)) &&& ((nI a) - 1)))]) S.1 S.2.1 dJ6_numberOfTrailingZeros_0f7a4_55 hl (k := 0) rfl (by decide) (by decide) rfl (fun ls hl => ?_)
          refine lv_iload_n S.1 S.2.1 dJ6_numberOfTrailingZeros_0f7a4_58 rfl (lv_at hl 1 rfl) ?_
          refine lv_iconst (v := 4) S.1 S.2.1 dJ6_numberOfTrailingZeros_0f7a4_59 (by decide) ?_
          refine lv_iushr (v := (((((nI a) ^^^ (-1)) &&& ((nI a) - 1))).toUInt32 >>> ((4 : Int32).toUInt32 &&& Int32.toUInt32 31)).toInt32) S.1 S.2.1 dJ6_numberOfTrailingZeros_0f7a4_60 rfl ?_
          refine lv_istore_n (lv' := [(0, .int ((((((nI a) ^^^ (-1)) &&& ((nI a) - 1))).toUInt32 >>> ((4 : Int32).toUInt32 &&& Int32.toUInt32 31)).toInt32)), (1, .int 5)]) S.1 S.2.1 dJ6_numberOfTrailingZeros_0f7a4_61 rfl hl (by decide) rfl (fun ls hl => ?_)
          refine lv_iload_n S.1 S.2.1 dJ6_numberOfTrailingZeros_0f7a4_62 rfl (lv_at hl 0 rfl) ?_
          refine lv_iconst (v := 4) S.1 S.2.1 dJ6_numberOfTrailingZeros_0f7a4_63 (by decide) ?_
          refine lv_icmp_le (tgt := 74) S.1 S.2.1 dJ6_numberOfTrailingZeros_0f7a4_64 (by decide) (fun c64 => ?_) (fun c64 => ?_)
          · skip
            refine lv_iload_n S.1 S.2.1 dJ6_numberOfTrailingZeros_0f7a4_74 rfl (lv_at hl 1 rfl) ?_
            refine lv_iload_n S.1 S.2.1 dJ6_numberOfTrailingZeros_0f7a4_75 rfl (lv_at hl 0 rfl) ?_
            refine lv_iconst (v := 1) S.1 S.2.1 dJ6_numberOfTrailingZeros_0f7a4_76 (by decide) ?_
            refine lv_iushr (v := ((((((((nI a) ^^^ (-1)) &&& ((nI a) - 1))).toUInt32 >>> ((4 : Int32).toUInt32 &&& Int32.toUInt32 31)).toInt32)).toUInt32 >>> ((1 : Int32).toUInt32 &&& Int32.toUInt32 31)).toInt32) S.1 S.2.1 dJ6_numberOfTrailingZeros_0f7a4_77 rfl ?_
            refine lv_iadd S.1 S.2.1 dJ6_numberOfTrailingZeros_0f7a4_78 ?_
            exact x_iretR S hr hlocks dJ6_numberOfTrailingZeros_0f7a4_79 ((show ∀ a : Nat, a < 1024 → (decide (0 < a) && (decide (0 < (((nI a) ^^^ (-1)) &&& ((nI a) - 1))) && (decide ((((nI a) ^^^ (-1)) &&& ((nI a) - 1)) ≤ 65536) && (decide ((((nI a) ^^^ (-1)) &&& ((nI a) - 1)) ≤ 256) && (decide (¬ (((nI a) ^^^ (-1)) &&& ((nI a) - 1)) ≤ 16) && (decide (((((((nI a) ^^^ (-1)) &&& ((nI a) - 1))).toUInt32 >>> ((4 : Int32).toUInt32 &&& Int32.toUInt32 31)).toInt32) ≤ 4))))))) = true → (5 + (((((((((nI a) ^^^ (-1)) &&& ((nI a) - 1))).toUInt32 >>> ((4 : Int32).toUInt32 &&& Int32.toUInt32 31)).toInt32)).toUInt32 >>> ((1 : Int32).toUInt32 &&& Int32.toUInt32 31)).toInt32)) = nI (lob a) by decide +kernel) a ha (by simp only [Bool.and_eq_true, decide_eq_true_eq]; exact ⟨h0, c9, c23, c38, c52, c64⟩))
          · skip
            refine lv_iinc (v := 7) (lv' := [(1, .int 7), (0, .int ((((((nI a) ^^^ (-1)) &&& ((nI a) - 1))).toUInt32 >>> ((4 : Int32).toUInt32 &&& Int32.toUInt32 31)).toInt32))]) S.1 S.2.1 dJ6_numberOfTrailingZeros_0f7a4_67 hl (k := 1) rfl (by decide) (by decide) rfl (fun ls hl => ?_)
            refine lv_iload_n S.1 S.2.1 dJ6_numberOfTrailingZeros_0f7a4_70 rfl (lv_at hl 1 rfl) ?_
            refine lv_iconst (v := 2) S.1 S.2.1 dJ6_numberOfTrailingZeros_0f7a4_71 (by decide) ?_
            refine lv_iushr (v := ((((((((nI a) ^^^ (-1)) &&& ((nI a) - 1))).toUInt32 >>> ((4 : Int32).toUInt32 &&& Int32.toUInt32 31)).toInt32)).toUInt32 >>> ((2 : Int32).toUInt32 &&& Int32.toUInt32 31)).toInt32) S.1 S.2.1 dJ6_numberOfTrailingZeros_0f7a4_72 rfl ?_
            refine lv_istore_n (lv' := [(0, .int (((((((((nI a) ^^^ (-1)) &&& ((nI a) - 1))).toUInt32 >>> ((4 : Int32).toUInt32 &&& Int32.toUInt32 31)).toInt32)).toUInt32 >>> ((2 : Int32).toUInt32 &&& Int32.toUInt32 31)).toInt32)), (1, .int 7)]) S.1 S.2.1 dJ6_numberOfTrailingZeros_0f7a4_73 rfl hl (by decide) rfl (fun ls hl => ?_)
            refine lv_iload_n S.1 S.2.1 dJ6_numberOfTrailingZeros_0f7a4_74 rfl (lv_at hl 1 rfl) ?_
            refine lv_iload_n S.1 S.2.1 dJ6_numberOfTrailingZeros_0f7a4_75 rfl (lv_at hl 0 rfl) ?_
            refine lv_iconst (v := 1) S.1 S.2.1 dJ6_numberOfTrailingZeros_0f7a4_76 (by decide) ?_
            refine lv_iushr (v := (((((((((((nI a) ^^^ (-1)) &&& ((nI a) - 1))).toUInt32 >>> ((4 : Int32).toUInt32 &&& Int32.toUInt32 31)).toInt32)).toUInt32 >>> ((2 : Int32).toUInt32 &&& Int32.toUInt32 31)).toInt32)).toUInt32 >>> ((1 : Int32).toUInt32 &&& Int32.toUInt32 31)).toInt32) S.1 S.2.1 dJ6_numberOfTrailingZeros_0f7a4_77 rfl ?_
            refine lv_iadd S.1 S.2.1 dJ6_numberOfTrailingZeros_0f7a4_78 ?_
            exact x_iretR S hr hlocks dJ6_numberOfTrailingZeros_0f7a4_79 ((show ∀ a : Nat, a < 1024 → (decide (0 < a) && (decide (0 < (((nI a) ^^^ (-1)) &&& ((nI a) - 1))) && (decide ((((nI a) ^^^ (-1)) &&& ((nI a) - 1)) ≤ 65536) && (decide ((((nI a) ^^^ (-1)) &&& ((nI a) - 1)) ≤ 256) && (decide (¬ (((nI a) ^^^ (-1)) &&& ((nI a) - 1)) ≤ 16) && (decide (¬ ((((((nI a) ^^^ (-1)) &&& ((nI a) - 1))).toUInt32 >>> ((4 : Int32).toUInt32 &&& Int32.toUInt32 31)).toInt32) ≤ 4))))))) = true → (7 + ((((((((((((nI a) ^^^ (-1)) &&& ((nI a) - 1))).toUInt32 >>> ((4 : Int32).toUInt32 &&& Int32.toUInt32 31)).toInt32)).toUInt32 >>> ((2 : Int32).toUInt32 &&& Int32.toUInt32 31)).toInt32)).toUInt32 >>> ((1 : Int32).toUInt32 &&& Int32.toUInt32 31)).toInt32)) = nI (lob a) by decide +kernel) a ha (by simp only [Bool.and_eq_true, decide_eq_true_eq]; exact ⟨h0, c9, c23, c38, c52, c64⟩))
      · skip
        refine lv_iinc (v := 9) (lv' := [(1, .int 9), (0, .int (((nI a) ^^^ (-1)) &&& ((nI a) - 1)))]) S.1 S.2.1 dJ6_numberOfTrailingZeros_0f7a4_41 hl (k := 0) rfl (by decide) (by decide) rfl (fun ls hl => ?_)
        refine lv_iload_n S.1 S.2.1 dJ6_numberOfTrailingZeros_0f7a4_44 rfl (lv_at hl 1 rfl) ?_
        refine lv_bipush (v := 8) S.1 S.2.1 dJ6_numberOfTrailingZeros_0f7a4_45 (by decide) ?_
        refine lv_iushr (v := (((((nI a) ^^^ (-1)) &&& ((nI a) - 1))).toUInt32 >>> ((8 : Int32).toUInt32 &&& Int32.toUInt32 31)).toInt32) S.1 S.2.1 dJ6_numberOfTrailingZeros_0f7a4_47 rfl ?_
        refine lv_istore_n (lv' := [(0, .int ((((((nI a) ^^^ (-1)) &&& ((nI a) - 1))).toUInt32 >>> ((8 : Int32).toUInt32 &&& Int32.toUInt32 31)).toInt32)), (1, .int 9)]) S.1 S.2.1 dJ6_numberOfTrailingZeros_0f7a4_48 rfl hl (by decide) rfl (fun ls hl => ?_)
        refine lv_iload_n S.1 S.2.1 dJ6_numberOfTrailingZeros_0f7a4_49 rfl (lv_at hl 0 rfl) ?_
        refine lv_bipush (v := 16) S.1 S.2.1 dJ6_numberOfTrailingZeros_0f7a4_50 (by decide) ?_
        refine lv_icmp_le (tgt := 62) S.1 S.2.1 dJ6_numberOfTrailingZeros_0f7a4_52 (by decide) (fun c52 => ?_) (fun c52 => ?_)
        · skip
          refine lv_iload_n S.1 S.2.1 dJ6_numberOfTrailingZeros_0f7a4_62 rfl (lv_at hl 0 rfl) ?_
          refine lv_iconst (v := 4) S.1 S.2.1 dJ6_numberOfTrailingZeros_0f7a4_63 (by decide) ?_
          refine lv_icmp_le (tgt := 74) S.1 S.2.1 dJ6_numberOfTrailingZeros_0f7a4_64 (by decide) (fun c64 => ?_) (fun c64 => ?_)
          · skip
            refine lv_iload_n S.1 S.2.1 dJ6_numberOfTrailingZeros_0f7a4_74 rfl (lv_at hl 1 rfl) ?_
            refine lv_iload_n S.1 S.2.1 dJ6_numberOfTrailingZeros_0f7a4_75 rfl (lv_at hl 0 rfl) ?_
            refine lv_iconst (v := 1) S.1 S.2.1 dJ6_numberOfTrailingZeros_0f7a4_76 (by decide) ?_
            refine lv_iushr (v := ((((((((nI a) ^^^ (-1)) &&& ((nI a) - 1))).toUInt32 >>> ((8 : Int32).toUInt32 &&& Int32.toUInt32 31)).toInt32)).toUInt32 >>> ((1 : Int32).toUInt32 &&& Int32.toUInt32 31)).toInt32) S.1 S.2.1 dJ6_numberOfTrailingZeros_0f7a4_77 rfl ?_
            refine lv_iadd S.1 S.2.1 dJ6_numberOfTrailingZeros_0f7a4_78 ?_
            exact x_iretR S hr hlocks dJ6_numberOfTrailingZeros_0f7a4_79 ((show ∀ a : Nat, a < 1024 → (decide (0 < a) && (decide (0 < (((nI a) ^^^ (-1)) &&& ((nI a) - 1))) && (decide ((((nI a) ^^^ (-1)) &&& ((nI a) - 1)) ≤ 65536) && (decide (¬ (((nI a) ^^^ (-1)) &&& ((nI a) - 1)) ≤ 256) && (decide (((((((nI a) ^^^ (-1)) &&& ((nI a) - 1))).toUInt32 >>> ((8 : Int32).toUInt32 &&& Int32.toUInt32 31)).toInt32) ≤ 16) && (decide (((((((nI a) ^^^ (-1)) &&& ((nI a) - 1))).toUInt32 >>> ((8 : Int32).toUInt32 &&& Int32.toUInt32 31)).toInt32) ≤ 4))))))) = true → (9 + (((((((((nI a) ^^^ (-1)) &&& ((nI a) - 1))).toUInt32 >>> ((8 : Int32).toUInt32 &&& Int32.toUInt32 31)).toInt32)).toUInt32 >>> ((1 : Int32).toUInt32 &&& Int32.toUInt32 31)).toInt32)) = nI (lob a) by decide +kernel) a ha (by simp only [Bool.and_eq_true, decide_eq_true_eq]; exact ⟨h0, c9, c23, c38, c52, c64⟩))
          · skip
            refine lv_iinc (v := 11) (lv' := [(1, .int 11), (0, .int ((((((nI a) ^^^ (-1)) &&& ((nI a) - 1))).toUInt32 >>> ((8 : Int32).toUInt32 &&& Int32.toUInt32 31)).toInt32))]) S.1 S.2.1 dJ6_numberOfTrailingZeros_0f7a4_67 hl (k := 1) rfl (by decide) (by decide) rfl (fun ls hl => ?_)
            refine lv_iload_n S.1 S.2.1 dJ6_numberOfTrailingZeros_0f7a4_70 rfl (lv_at hl 1 rfl) ?_
            refine lv_iconst (v := 2) S.1 S.2.1 dJ6_numberOfTrailingZeros_0f7a4_71 (by decide) ?_
            refine lv_iushr (v := ((((((((nI a) ^^^ (-1)) &&& ((nI a) - 1))).toUInt32 >>> ((8 : Int32).toUInt32 &&& Int32.toUInt32 31)).toInt32)).toUInt32 >>> ((2 : Int32).toUInt32 &&& Int32.toUInt32 31)).toInt32) S.1 S.2.1 dJ6_numberOfTrailingZeros_0f7a4_72 rfl ?_
            refine lv_istore_n (lv' := [(0, .int (((((((((nI a) ^^^ (-1)) &&& ((nI a) - 1))).toUInt32 >>> ((8 : Int32).toUInt32 &&& Int32.toUInt32 31)).toInt32)).toUInt32 >>> ((2 : Int32).toUInt32 &&& Int32.toUInt32 31)).toInt32)), (1, .int 11)]) S.1 S.2.1 dJ6_numberOfTrailingZeros_0f7a4_73 rfl hl (by decide) rfl (fun ls hl => ?_)
            refine lv_iload_n S.1 S.2.1 dJ6_numberOfTrailingZeros_0f7a4_74 rfl (lv_at hl 1 rfl) ?_
            refine lv_iload_n S.1 S.2.1 dJ6_numberOfTrailingZeros_0f7a4_75 rfl (lv_at hl 0 rfl) ?_
            refine lv_iconst (v := 1) S.1 S.2.1 dJ6_numberOfTrailingZeros_0f7a4_76 (by decide) ?_
            refine lv_iushr (v := (((((((((((nI a) ^^^ (-1)) &&& ((nI a) - 1))).toUInt32 >>> ((8 : Int32).toUInt32 &&& Int32.toUInt32 31)).toInt32)).toUInt32 >>> ((2 : Int32).toUInt32 &&& Int32.toUInt32 31)).toInt32)).toUInt32 >>> ((1 : Int32).toUInt32 &&& Int32.toUInt32 31)).toInt32) S.1 S.2.1 dJ6_numberOfTrailingZeros_0f7a4_77 rfl ?_
            refine lv_iadd S.1 S.2.1 dJ6_numberOfTrailingZeros_0f7a4_78 ?_
            exact x_iretR S hr hlocks dJ6_numberOfTrailingZeros_0f7a4_79 ((show ∀ a : Nat, a < 1024 → (decide (0 < a) && (decide (0 < (((nI a) ^^^ (-1)) &&& ((nI a) - 1))) && (decide ((((nI a) ^^^ (-1)) &&& ((nI a) - 1)) ≤ 65536) && (decide (¬ (((nI a) ^^^ (-1)) &&& ((nI a) - 1)) ≤ 256) && (decide (((((((nI a) ^^^ (-1)) &&& ((nI a) - 1))).toUInt32 >>> ((8 : Int32).toUInt32 &&& Int32.toUInt32 31)).toInt32) ≤ 16) && (decide (¬ ((((((nI a) ^^^ (-1)) &&& ((nI a) - 1))).toUInt32 >>> ((8 : Int32).toUInt32 &&& Int32.toUInt32 31)).toInt32) ≤ 4))))))) = true → (11 + ((((((((((((nI a) ^^^ (-1)) &&& ((nI a) - 1))).toUInt32 >>> ((8 : Int32).toUInt32 &&& Int32.toUInt32 31)).toInt32)).toUInt32 >>> ((2 : Int32).toUInt32 &&& Int32.toUInt32 31)).toInt32)).toUInt32 >>> ((1 : Int32).toUInt32 &&& Int32.toUInt32 31)).toInt32)) = nI (lob a) by decide +kernel) a ha (by simp only [Bool.and_eq_true, decide_eq_true_eq]; exact ⟨h0, c9, c23, c38, c52, c64⟩))
        · skip
          refine lv_iinc (v := 13) (lv' := [(1, .int 13), (0, .int ((((((nI a) ^^^ (-1)) &&& ((nI a) - 1))).toUInt32 >>> ((8 : Int32).toUInt32 &&& Int32.toUInt32 31)).toInt32))]) S.1 S.2.1 dJ6_numberOfTrailingZeros_0f7a4_55 hl (k := 1) rfl (by decide) (by decide) rfl (fun ls hl => ?_)
          refine lv_iload_n S.1 S.2.1 dJ6_numberOfTrailingZeros_0f7a4_58 rfl (lv_at hl 1 rfl) ?_
          refine lv_iconst (v := 4) S.1 S.2.1 dJ6_numberOfTrailingZeros_0f7a4_59 (by decide) ?_
          refine lv_iushr (v := ((((((((nI a) ^^^ (-1)) &&& ((nI a) - 1))).toUInt32 >>> ((8 : Int32).toUInt32 &&& Int32.toUInt32 31)).toInt32)).toUInt32 >>> ((4 : Int32).toUInt32 &&& Int32.toUInt32 31)).toInt32) S.1 S.2.1 dJ6_numberOfTrailingZeros_0f7a4_60 rfl ?_
          refine lv_istore_n (lv' := [(0, .int (((((((((nI a) ^^^ (-1)) &&& ((nI a) - 1))).toUInt32 >>> ((8 : Int32).toUInt32 &&& Int32.toUInt32 31)).toInt32)).toUInt32 >>> ((4 : Int32).toUInt32 &&& Int32.toUInt32 31)).toInt32)), (1, .int 13)]) S.1 S.2.1 dJ6_numberOfTrailingZeros_0f7a4_61 rfl hl (by decide) rfl (fun ls hl => ?_)
          refine lv_iload_n S.1 S.2.1 dJ6_numberOfTrailingZeros_0f7a4_62 rfl (lv_at hl 0 rfl) ?_
          refine lv_iconst (v := 4) S.1 S.2.1 dJ6_numberOfTrailingZeros_0f7a4_63 (by decide) ?_
          refine lv_icmp_le (tgt := 74) S.1 S.2.1 dJ6_numberOfTrailingZeros_0f7a4_64 (by decide) (fun c64 => ?_) (fun c64 => ?_)
          · skip
            refine lv_iload_n S.1 S.2.1 dJ6_numberOfTrailingZeros_0f7a4_74 rfl (lv_at hl 1 rfl) ?_
            refine lv_iload_n S.1 S.2.1 dJ6_numberOfTrailingZeros_0f7a4_75 rfl (lv_at hl 0 rfl) ?_
            refine lv_iconst (v := 1) S.1 S.2.1 dJ6_numberOfTrailingZeros_0f7a4_76 (by decide) ?_
            refine lv_iushr (v := (((((((((((nI a) ^^^ (-1)) &&& ((nI a) - 1))).toUInt32 >>> ((8 : Int32).toUInt32 &&& Int32.toUInt32 31)).toInt32)).toUInt32 >>> ((4 : Int32).toUInt32 &&& Int32.toUInt32 31)).toInt32)).toUInt32 >>> ((1 : Int32).toUInt32 &&& Int32.toUInt32 31)).toInt32) S.1 S.2.1 dJ6_numberOfTrailingZeros_0f7a4_77 rfl ?_
            refine lv_iadd S.1 S.2.1 dJ6_numberOfTrailingZeros_0f7a4_78 ?_
            exact x_iretR S hr hlocks dJ6_numberOfTrailingZeros_0f7a4_79 ((show ∀ a : Nat, a < 1024 → (decide (0 < a) && (decide (0 < (((nI a) ^^^ (-1)) &&& ((nI a) - 1))) && (decide ((((nI a) ^^^ (-1)) &&& ((nI a) - 1)) ≤ 65536) && (decide (¬ (((nI a) ^^^ (-1)) &&& ((nI a) - 1)) ≤ 256) && (decide (¬ ((((((nI a) ^^^ (-1)) &&& ((nI a) - 1))).toUInt32 >>> ((8 : Int32).toUInt32 &&& Int32.toUInt32 31)).toInt32) ≤ 16) && (decide ((((((((((nI a) ^^^ (-1)) &&& ((nI a) - 1))).toUInt32 >>> ((8 : Int32).toUInt32 &&& Int32.toUInt32 31)).toInt32)).toUInt32 >>> ((4 : Int32).toUInt32 &&& Int32.toUInt32 31)).toInt32) ≤ 4))))))) = true → (13 + ((((((((((((nI a) ^^^ (-1)) &&& ((nI a) - 1))).toUInt32 >>> ((8 : Int32).toUInt32 &&& Int32.toUInt32 31)).toInt32)).toUInt32 >>> ((4 : Int32).toUInt32 &&& Int32.toUInt32 31)).toInt32)).toUInt32 >>> ((1 : Int32).toUInt32 &&& Int32.toUInt32 31)).toInt32)) = nI (lob a) by decide +kernel) a ha (by simp only [Bool.and_eq_true, decide_eq_true_eq]; exact ⟨h0, c9, c23, c38, c52, c64⟩))
          · skip
            refine lv_iinc (v := 15) (lv' := [(1, .int 15), (0, .int (((((((((nI a) ^^^ (-1)) &&& ((nI a) - 1))).toUInt32 >>> ((8 : Int32).toUInt32 &&& Int32.toUInt32 31)).toInt32)).toUInt32 >>> ((4 : Int32).toUInt32 &&& Int32.toUInt32 31)).toInt32))]) S.1 S.2.1 dJ6_numberOfTrailingZeros_0f7a4_67 hl (k := 1) rfl (by decide) (by decide) rfl (fun ls hl => ?_)
            refine lv_iload_n S.1 S.2.1 dJ6_numberOfTrailingZeros_0f7a4_70 rfl (lv_at hl 1 rfl) ?_
            refine lv_iconst (v := 2) S.1 S.2.1 dJ6_numberOfTrailingZeros_0f7a4_71 (by decide) ?_
            refine lv_iushr (v := (((((((((((nI a) ^^^ (-1)) &&& ((nI a) - 1))).toUInt32 >>> ((8 : Int32).toUInt32 &&& Int32.toUInt32 31)).toInt32)).toUInt32 >>> ((4 : Int32).toUInt32 &&& Int32.toUInt32 31)).toInt32)).toUInt32 >>> ((2 : Int32).toUInt32 &&& Int32.toUInt32 31)).toInt32) S.1 S.2.1 dJ6_numberOfTrailingZeros_0f7a4_72 rfl ?_
            refine lv_istore_n (lv' := [(0, .int ((((((((((((nI a) ^^^ (-1)) &&& ((nI a) - 1))).toUInt32 >>> ((8 : Int32).toUInt32 &&& Int32.toUInt32 31)).toInt32)).toUInt32 >>> ((4 : Int32).toUInt32 &&& Int32.toUInt32 31)).toInt32)).toUInt32 >>> ((2 : Int32).toUInt32 &&& Int32.toUInt32 31)).toInt32)), (1, .int 15)]) S.1 S.2.1 dJ6_numberOfTrailingZeros_0f7a4_73 rfl hl (by decide) rfl (fun ls hl => ?_)
            refine lv_iload_n S.1 S.2.1 dJ6_numberOfTrailingZeros_0f7a4_74 rfl (lv_at hl 1 rfl) ?_
            refine lv_iload_n S.1 S.2.1 dJ6_numberOfTrailingZeros_0f7a4_75 rfl (lv_at hl 0 rfl) ?_
            refine lv_iconst (v := 1) S.1 S.2.1 dJ6_numberOfTrailingZeros_0f7a4_76 (by decide) ?_
            refine lv_iushr (v := ((((((((((((((nI a) ^^^ (-1)) &&& ((nI a) - 1))).toUInt32 >>> ((8 : Int32).toUInt32 &&& Int32.toUInt32 31)).toInt32)).toUInt32 >>> ((4 : Int32).toUInt32 &&& Int32.toUInt32 31)).toInt32)).toUInt32 >>> ((2 : Int32).toUInt32 &&& Int32.toUInt32 31)).toInt32)).toUInt32 >>> ((1 : Int32).toUInt32 &&& Int32.toUInt32 31)).toInt32) S.1 S.2.1 dJ6_numberOfTrailingZeros_0f7a4_77 rfl ?_
            refine lv_iadd S.1 S.2.1 dJ6_numberOfTrailingZeros_0f7a4_78 ?_
            exact x_iretR S hr hlocks dJ6_numberOfTrailingZeros_0f7a4_79 ((show ∀ a : Nat, a < 1024 → (decide (0 < a) && (decide (0 < (((nI a) ^^^ (-1)) &&& ((nI a) - 1))) && (decide ((((nI a) ^^^ (-1)) &&& ((nI a) - 1)) ≤ 65536) && (decide (¬ (((nI a) ^^^ (-1)) &&& ((nI a) - 1)) ≤ 256) && (decide (¬ ((((((nI a) ^^^ (-1)) &&& ((nI a) - 1))).toUInt32 >>> ((8 : Int32).toUInt32 &&& Int32.toUInt32 31)).toInt32) ≤ 16) && (decide (¬ (((((((((nI a) ^^^ (-1)) &&& ((nI a) - 1))).toUInt32 >>> ((8 : Int32).toUInt32 &&& Int32.toUInt32 31)).toInt32)).toUInt32 >>> ((4 : Int32).toUInt32 &&& Int32.toUInt32 31)).toInt32) ≤ 4))))))) = true → (15 + (((((((((((((((nI a) ^^^ (-1)) &&& ((nI a) - 1))).toUInt32 >>> ((8 : Int32).toUInt32 &&& Int32.toUInt32 31)).toInt32)).toUInt32 >>> ((4 : Int32).toUInt32 &&& Int32.toUInt32 31)).toInt32)).toUInt32 >>> ((2 : Int32).toUInt32 &&& Int32.toUInt32 31)).toInt32)).toUInt32 >>> ((1 : Int32).toUInt32 &&& Int32.toUInt32 31)).toInt32)) = nI (lob a) by decide +kernel) a ha (by simp only [Bool.and_eq_true, decide_eq_true_eq]; exact ⟨h0, c9, c23, c38, c52, c64⟩))
    · skip
      refine lv_iinc (v := 17) (lv' := [(1, .int 17), (0, .int (((nI a) ^^^ (-1)) &&& ((nI a) - 1)))]) S.1 S.2.1 dJ6_numberOfTrailingZeros_0f7a4_26 hl (k := 0) rfl (by decide) (by decide) rfl (fun ls hl => ?_)
      refine lv_iload_n S.1 S.2.1 dJ6_numberOfTrailingZeros_0f7a4_29 rfl (lv_at hl 1 rfl) ?_
      refine lv_bipush (v := 16) S.1 S.2.1 dJ6_numberOfTrailingZeros_0f7a4_30 (by decide) ?_
      refine lv_iushr (v := (((((nI a) ^^^ (-1)) &&& ((nI a) - 1))).toUInt32 >>> ((16 : Int32).toUInt32 &&& Int32.toUInt32 31)).toInt32) S.1 S.2.1 dJ6_numberOfTrailingZeros_0f7a4_32 rfl ?_
      refine lv_istore_n (lv' := [(0, .int ((((((nI a) ^^^ (-1)) &&& ((nI a) - 1))).toUInt32 >>> ((16 : Int32).toUInt32 &&& Int32.toUInt32 31)).toInt32)), (1, .int 17)]) S.1 S.2.1 dJ6_numberOfTrailingZeros_0f7a4_33 rfl hl (by decide) rfl (fun ls hl => ?_)
      refine lv_iload_n S.1 S.2.1 dJ6_numberOfTrailingZeros_0f7a4_34 rfl (lv_at hl 0 rfl) ?_
      refine lv_sipush (v := 256) S.1 S.2.1 dJ6_numberOfTrailingZeros_0f7a4_35 (by decide) ?_
      refine lv_icmp_le (tgt := 49) S.1 S.2.1 dJ6_numberOfTrailingZeros_0f7a4_38 (by decide) (fun c38 => ?_) (fun c38 => ?_)
      · skip
        refine lv_iload_n S.1 S.2.1 dJ6_numberOfTrailingZeros_0f7a4_49 rfl (lv_at hl 0 rfl) ?_
        refine lv_bipush (v := 16) S.1 S.2.1 dJ6_numberOfTrailingZeros_0f7a4_50 (by decide) ?_
        refine lv_icmp_le (tgt := 62) S.1 S.2.1 dJ6_numberOfTrailingZeros_0f7a4_52 (by decide) (fun c52 => ?_) (fun c52 => ?_)
        · skip
          refine lv_iload_n S.1 S.2.1 dJ6_numberOfTrailingZeros_0f7a4_62 rfl (lv_at hl 0 rfl) ?_
          refine lv_iconst (v := 4) S.1 S.2.1 dJ6_numberOfTrailingZeros_0f7a4_63 (by decide) ?_
          refine lv_icmp_le (tgt := 74) S.1 S.2.1 dJ6_numberOfTrailingZeros_0f7a4_64 (by decide) (fun c64 => ?_) (fun c64 => ?_)
          · skip
            refine lv_iload_n S.1 S.2.1 dJ6_numberOfTrailingZeros_0f7a4_74 rfl (lv_at hl 1 rfl) ?_
            refine lv_iload_n S.1 S.2.1 dJ6_numberOfTrailingZeros_0f7a4_75 rfl (lv_at hl 0 rfl) ?_
            refine lv_iconst (v := 1) S.1 S.2.1 dJ6_numberOfTrailingZeros_0f7a4_76 (by decide) ?_
            refine lv_iushr (v := ((((((((nI a) ^^^ (-1)) &&& ((nI a) - 1))).toUInt32 >>> ((16 : Int32).toUInt32 &&& Int32.toUInt32 31)).toInt32)).toUInt32 >>> ((1 : Int32).toUInt32 &&& Int32.toUInt32 31)).toInt32) S.1 S.2.1 dJ6_numberOfTrailingZeros_0f7a4_77 rfl ?_
            refine lv_iadd S.1 S.2.1 dJ6_numberOfTrailingZeros_0f7a4_78 ?_
            exact x_iretR S hr hlocks dJ6_numberOfTrailingZeros_0f7a4_79 ((show ∀ a : Nat, a < 1024 → (decide (0 < a) && (decide (0 < (((nI a) ^^^ (-1)) &&& ((nI a) - 1))) && (decide (¬ (((nI a) ^^^ (-1)) &&& ((nI a) - 1)) ≤ 65536) && (decide (((((((nI a) ^^^ (-1)) &&& ((nI a) - 1))).toUInt32 >>> ((16 : Int32).toUInt32 &&& Int32.toUInt32 31)).toInt32) ≤ 256) && (decide (((((((nI a) ^^^ (-1)) &&& ((nI a) - 1))).toUInt32 >>> ((16 : Int32).toUInt32 &&& Int32.toUInt32 31)).toInt32) ≤ 16) && (decide (((((((nI a) ^^^ (-1)) &&& ((nI a) - 1))).toUInt32 >>> ((16 : Int32).toUInt32 &&& Int32.toUInt32 31)).toInt32) ≤ 4))))))) = true → (17 + (((((((((nI a) ^^^ (-1)) &&& ((nI a) - 1))).toUInt32 >>> ((16 : Int32).toUInt32 &&& Int32.toUInt32 31)).toInt32)).toUInt32 >>> ((1 : Int32).toUInt32 &&& Int32.toUInt32 31)).toInt32)) = nI (lob a) by decide +kernel) a ha (by simp only [Bool.and_eq_true, decide_eq_true_eq]; exact ⟨h0, c9, c23, c38, c52, c64⟩))
          · skip
            refine lv_iinc (v := 19) (lv' := [(1, .int 19), (0, .int ((((((nI a) ^^^ (-1)) &&& ((nI a) - 1))).toUInt32 >>> ((16 : Int32).toUInt32 &&& Int32.toUInt32 31)).toInt32))]) S.1 S.2.1 dJ6_numberOfTrailingZeros_0f7a4_67 hl (k := 1) rfl (by decide) (by decide) rfl (fun ls hl => ?_)
            refine lv_iload_n S.1 S.2.1 dJ6_numberOfTrailingZeros_0f7a4_70 rfl (lv_at hl 1 rfl) ?_
            refine lv_iconst (v := 2) S.1 S.2.1 dJ6_numberOfTrailingZeros_0f7a4_71 (by decide) ?_
            refine lv_iushr (v := ((((((((nI a) ^^^ (-1)) &&& ((nI a) - 1))).toUInt32 >>> ((16 : Int32).toUInt32 &&& Int32.toUInt32 31)).toInt32)).toUInt32 >>> ((2 : Int32).toUInt32 &&& Int32.toUInt32 31)).toInt32) S.1 S.2.1 dJ6_numberOfTrailingZeros_0f7a4_72 rfl ?_
            refine lv_istore_n (lv' := [(0, .int (((((((((nI a) ^^^ (-1)) &&& ((nI a) - 1))).toUInt32 >>> ((16 : Int32).toUInt32 &&& Int32.toUInt32 31)).toInt32)).toUInt32 >>> ((2 : Int32).toUInt32 &&& Int32.toUInt32 31)).toInt32)), (1, .int 19)]) S.1 S.2.1 dJ6_numberOfTrailingZeros_0f7a4_73 rfl hl (by decide) rfl (fun ls hl => ?_)
            refine lv_iload_n S.1 S.2.1 dJ6_numberOfTrailingZeros_0f7a4_74 rfl (lv_at hl 1 rfl) ?_
            refine lv_iload_n S.1 S.2.1 dJ6_numberOfTrailingZeros_0f7a4_75 rfl (lv_at hl 0 rfl) ?_
            refine lv_iconst (v := 1) S.1 S.2.1 dJ6_numberOfTrailingZeros_0f7a4_76 (by decide) ?_
            refine lv_iushr (v := (((((((((((nI a) ^^^ (-1)) &&& ((nI a) - 1))).toUInt32 >>> ((16 : Int32).toUInt32 &&& Int32.toUInt32 31)).toInt32)).toUInt32 >>> ((2 : Int32).toUInt32 &&& Int32.toUInt32 31)).toInt32)).toUInt32 >>> ((1 : Int32).toUInt32 &&& Int32.toUInt32 31)).toInt32) S.1 S.2.1 dJ6_numberOfTrailingZeros_0f7a4_77 rfl ?_
            refine lv_iadd S.1 S.2.1 dJ6_numberOfTrailingZeros_0f7a4_78 ?_
            exact x_iretR S hr hlocks dJ6_numberOfTrailingZeros_0f7a4_79 ((show ∀ a : Nat, a < 1024 → (decide (0 < a) && (decide (0 < (((nI a) ^^^ (-1)) &&& ((nI a) - 1))) && (decide (¬ (((nI a) ^^^ (-1)) &&& ((nI a) - 1)) ≤ 65536) && (decide (((((((nI a) ^^^ (-1)) &&& ((nI a) - 1))).toUInt32 >>> ((16 : Int32).toUInt32 &&& Int32.toUInt32 31)).toInt32) ≤ 256) && (decide (((((((nI a) ^^^ (-1)) &&& ((nI a) - 1))).toUInt32 >>> ((16 : Int32).toUInt32 &&& Int32.toUInt32 31)).toInt32) ≤ 16) && (decide (¬ ((((((nI a) ^^^ (-1)) &&& ((nI a) - 1))).toUInt32 >>> ((16 : Int32).toUInt32 &&& Int32.toUInt32 31)).toInt32) ≤ 4))))))) = true → (19 + ((((((((((((nI a) ^^^ (-1)) &&& ((nI a) - 1))).toUInt32 >>> ((16 : Int32).toUInt32 &&& Int32.toUInt32 31)).toInt32)).toUInt32 >>> ((2 : Int32).toUInt32 &&& Int32.toUInt32 31)).toInt32)).toUInt32 >>> ((1 : Int32).toUInt32 &&& Int32.toUInt32 31)).toInt32)) = nI (lob a) by decide +kernel) a ha (by simp only [Bool.and_eq_true, decide_eq_true_eq]; exact ⟨h0, c9, c23, c38, c52, c64⟩))
        · skip
          refine lv_iinc (v := 21) (lv' := [(1, .int 21), (0, .int ((((((nI a) ^^^ (-1)) &&& ((nI a) - 1))).toUInt32 >>> ((16 : Int32).toUInt32 &&& Int32.toUInt32 31)).toInt32))]) S.1 S.2.1 dJ6_numberOfTrailingZeros_0f7a4_55 hl (k := 1) rfl (by decide) (by decide) rfl (fun ls hl => ?_)
          refine lv_iload_n S.1 S.2.1 dJ6_numberOfTrailingZeros_0f7a4_58 rfl (lv_at hl 1 rfl) ?_
          refine lv_iconst (v := 4) S.1 S.2.1 dJ6_numberOfTrailingZeros_0f7a4_59 (by decide) ?_
          refine lv_iushr (v := ((((((((nI a) ^^^ (-1)) &&& ((nI a) - 1))).toUInt32 >>> ((16 : Int32).toUInt32 &&& Int32.toUInt32 31)).toInt32)).toUInt32 >>> ((4 : Int32).toUInt32 &&& Int32.toUInt32 31)).toInt32) S.1 S.2.1 dJ6_numberOfTrailingZeros_0f7a4_60 rfl ?_
          refine lv_istore_n (lv' := [(0, .int (((((((((nI a) ^^^ (-1)) &&& ((nI a) - 1))).toUInt32 >>> ((16 : Int32).toUInt32 &&& Int32.toUInt32 31)).toInt32)).toUInt32 >>> ((4 : Int32).toUInt32 &&& Int32.toUInt32 31)).toInt32)), (1, .int 21)]) S.1 S.2.1 dJ6_numberOfTrailingZeros_0f7a4_61 rfl hl (by decide) rfl (fun ls hl => ?_)
          refine lv_iload_n S.1 S.2.1 dJ6_numberOfTrailingZeros_0f7a4_62 rfl (lv_at hl 0 rfl) ?_
          refine lv_iconst (v := 4) S.1 S.2.1 dJ6_numberOfTrailingZeros_0f7a4_63 (by decide) ?_
          refine lv_icmp_le (tgt := 74) S.1 S.2.1 dJ6_numberOfTrailingZeros_0f7a4_64 (by decide) (fun c64 => ?_) (fun c64 => ?_)
          · skip
            refine lv_iload_n S.1 S.2.1 dJ6_numberOfTrailingZeros_0f7a4_74 rfl (lv_at hl 1 rfl) ?_
            refine lv_iload_n S.1 S.2.1 dJ6_numberOfTrailingZeros_0f7a4_75 rfl (lv_at hl 0 rfl) ?_
            refine lv_iconst (v := 1) S.1 S.2.1 dJ6_numberOfTrailingZeros_0f7a4_76 (by decide) ?_
            refine lv_iushr (v := (((((((((((nI a) ^^^ (-1)) &&& ((nI a) - 1))).toUInt32 >>> ((16 : Int32).toUInt32 &&& Int32.toUInt32 31)).toInt32)).toUInt32 >>> ((4 : Int32).toUInt32 &&& Int32.toUInt32 31)).toInt32)).toUInt32 >>> ((1 : Int32).toUInt32 &&& Int32.toUInt32 31)).toInt32) S.1 S.2.1 dJ6_numberOfTrailingZeros_0f7a4_77 rfl ?_
            refine lv_iadd S.1 S.2.1 dJ6_numberOfTrailingZeros_0f7a4_78 ?_
            exact x_iretR S hr hlocks dJ6_numberOfTrailingZeros_0f7a4_79 ((show ∀ a : Nat, a < 1024 → (decide (0 < a) && (decide (0 < (((nI a) ^^^ (-1)) &&& ((nI a) - 1))) && (decide (¬ (((nI a) ^^^ (-1)) &&& ((nI a) - 1)) ≤ 65536) && (decide (((((((nI a) ^^^ (-1)) &&& ((nI a) - 1))).toUInt32 >>> ((16 : Int32).toUInt32 &&& Int32.toUInt32 31)).toInt32) ≤ 256) && (decide (¬ ((((((nI a) ^^^ (-1)) &&& ((nI a) - 1))).toUInt32 >>> ((16 : Int32).toUInt32 &&& Int32.toUInt32 31)).toInt32) ≤ 16) && (decide ((((((((((nI a) ^^^ (-1)) &&& ((nI a) - 1))).toUInt32 >>> ((16 : Int32).toUInt32 &&& Int32.toUInt32 31)).toInt32)).toUInt32 >>> ((4 : Int32).toUInt32 &&& Int32.toUInt32 31)).toInt32) ≤ 4))))))) = true → (21 + ((((((((((((nI a) ^^^ (-1)) &&& ((nI a) - 1))).toUInt32 >>> ((16 : Int32).toUInt32 &&& Int32.toUInt32 31)).toInt32)).toUInt32 >>> ((4 : Int32).toUInt32 &&& Int32.toUInt32 31)).toInt32)).toUInt32 >>> ((1 : Int32).toUInt32 &&& Int32.toUInt32 31)).toInt32)) = nI (lob a) by decide +kernel) a ha (by simp only [Bool.and_eq_true, decide_eq_true_eq]; exact ⟨h0, c9, c23, c38, c52, c64⟩))
          · skip
            refine lv_iinc (v := 23) (lv' := [(1, .int 23), (0, .int (((((((((nI a) ^^^ (-1)) &&& ((nI a) - 1))).toUInt32 >>> ((16 : Int32).toUInt32 &&& Int32.toUInt32 31)).toInt32)).toUInt32 >>> ((4 : Int32).toUInt32 &&& Int32.toUInt32 31)).toInt32))]) S.1 S.2.1 dJ6_numberOfTrailingZeros_0f7a4_67 hl (k := 1) rfl (by decide) (by decide) rfl (fun ls hl => ?_)
            refine lv_iload_n S.1 S.2.1 dJ6_numberOfTrailingZeros_0f7a4_70 rfl (lv_at hl 1 rfl) ?_
            refine lv_iconst (v := 2) S.1 S.2.1 dJ6_numberOfTrailingZeros_0f7a4_71 (by decide) ?_
            refine lv_iushr (v := (((((((((((nI a) ^^^ (-1)) &&& ((nI a) - 1))).toUInt32 >>> ((16 : Int32).toUInt32 &&& Int32.toUInt32 31)).toInt32)).toUInt32 >>> ((4 : Int32).toUInt32 &&& Int32.toUInt32 31)).toInt32)).toUInt32 >>> ((2 : Int32).toUInt32 &&& Int32.toUInt32 31)).toInt32) S.1 S.2.1 dJ6_numberOfTrailingZeros_0f7a4_72 rfl ?_
            refine lv_istore_n (lv' := [(0, .int ((((((((((((nI a) ^^^ (-1)) &&& ((nI a) - 1))).toUInt32 >>> ((16 : Int32).toUInt32 &&& Int32.toUInt32 31)).toInt32)).toUInt32 >>> ((4 : Int32).toUInt32 &&& Int32.toUInt32 31)).toInt32)).toUInt32 >>> ((2 : Int32).toUInt32 &&& Int32.toUInt32 31)).toInt32)), (1, .int 23)]) S.1 S.2.1 dJ6_numberOfTrailingZeros_0f7a4_73 rfl hl (by decide) rfl (fun ls hl => ?_)
            refine lv_iload_n S.1 S.2.1 dJ6_numberOfTrailingZeros_0f7a4_74 rfl (lv_at hl 1 rfl) ?_
            refine lv_iload_n S.1 S.2.1 dJ6_numberOfTrailingZeros_0f7a4_75 rfl (lv_at hl 0 rfl) ?_
            refine lv_iconst (v := 1) S.1 S.2.1 dJ6_numberOfTrailingZeros_0f7a4_76 (by decide) ?_
            refine lv_iushr (v := ((((((((((((((nI a) ^^^ (-1)) &&& ((nI a) - 1))).toUInt32 >>> ((16 : Int32).toUInt32 &&& Int32.toUInt32 31)).toInt32)).toUInt32 >>> ((4 : Int32).toUInt32 &&& Int32.toUInt32 31)).toInt32)).toUInt32 >>> ((2 : Int32).toUInt32 &&& Int32.toUInt32 31)).toInt32)).toUInt32 >>> ((1 : Int32).toUInt32 &&& Int32.toUInt32 31)).toInt32) S.1 S.2.1 dJ6_numberOfTrailingZeros_0f7a4_77 rfl ?_
            refine lv_iadd S.1 S.2.1 dJ6_numberOfTrailingZeros_0f7a4_78 ?_
            exact x_iretR S hr hlocks dJ6_numberOfTrailingZeros_0f7a4_79 ((show ∀ a : Nat, a < 1024 → (decide (0 < a) && (decide (0 < (((nI a) ^^^ (-1)) &&& ((nI a) - 1))) && (decide (¬ (((nI a) ^^^ (-1)) &&& ((nI a) - 1)) ≤ 65536) && (decide (((((((nI a) ^^^ (-1)) &&& ((nI a) - 1))).toUInt32 >>> ((16 : Int32).toUInt32 &&& Int32.toUInt32 31)).toInt32) ≤ 256) && (decide (¬ ((((((nI a) ^^^ (-1)) &&& ((nI a) - 1))).toUInt32 >>> ((16 : Int32).toUInt32 &&& Int32.toUInt32 31)).toInt32) ≤ 16) && (decide (¬ (((((((((nI a) ^^^ (-1)) &&& ((nI a) - 1))).toUInt32 >>> ((16 : Int32).toUInt32 &&& Int32.toUInt32 31)).toInt32)).toUInt32 >>> ((4 : Int32).toUInt32 &&& Int32.toUInt32 31)).toInt32) ≤ 4))))))) = true → (23 + (((((((((((((((nI a) ^^^ (-1)) &&& ((nI a) - 1))).toUInt32 >>> ((16 : Int32).toUInt32 &&& Int32.toUInt32 31)).toInt32)).toUInt32 >>> ((4 : Int32).toUInt32 &&& Int32.toUInt32 31)).toInt32)).toUInt32 >>> ((2 : Int32).toUInt32 &&& Int32.toUInt32 31)).toInt32)).toUInt32 >>> ((1 : Int32).toUInt32 &&& Int32.toUInt32 31)).toInt32)) = nI (lob a) by decide +kernel) a ha (by simp only [Bool.and_eq_true, decide_eq_true_eq]; exact ⟨h0, c9, c23, c38, c52, c64⟩))
      · skip
        refine lv_iinc (v := 25) (lv' := [(1, .int 25), (0, .int ((((((nI a) ^^^ (-1)) &&& ((nI a) - 1))).toUInt32 >>> ((16 : Int32).toUInt32 &&& Int32.toUInt32 31)).toInt32))]) S.1 S.2.1 dJ6_numberOfTrailingZeros_0f7a4_41 hl (k := 1) rfl (by decide) (by decide) rfl (fun ls hl => ?_)
        refine lv_iload_n S.1 S.2.1 dJ6_numberOfTrailingZeros_0f7a4_44 rfl (lv_at hl 1 rfl) ?_
        refine lv_bipush (v := 8) S.1 S.2.1 dJ6_numberOfTrailingZeros_0f7a4_45 (by decide) ?_
        refine lv_iushr (v := ((((((((nI a) ^^^ (-1)) &&& ((nI a) - 1))).toUInt32 >>> ((16 : Int32).toUInt32 &&& Int32.toUInt32 31)).toInt32)).toUInt32 >>> ((8 : Int32).toUInt32 &&& Int32.toUInt32 31)).toInt32) S.1 S.2.1 dJ6_numberOfTrailingZeros_0f7a4_47 rfl ?_
        refine lv_istore_n (lv' := [(0, .int (((((((((nI a) ^^^ (-1)) &&& ((nI a) - 1))).toUInt32 >>> ((16 : Int32).toUInt32 &&& Int32.toUInt32 31)).toInt32)).toUInt32 >>> ((8 : Int32).toUInt32 &&& Int32.toUInt32 31)).toInt32)), (1, .int 25)]) S.1 S.2.1 dJ6_numberOfTrailingZeros_0f7a4_48 rfl hl (by decide) rfl (fun ls hl => ?_)
        refine lv_iload_n S.1 S.2.1 dJ6_numberOfTrailingZeros_0f7a4_49 rfl (lv_at hl 0 rfl) ?_
        refine lv_bipush (v := 16) S.1 S.2.1 dJ6_numberOfTrailingZeros_0f7a4_50 (by decide) ?_
        refine lv_icmp_le (tgt := 62) S.1 S.2.1 dJ6_numberOfTrailingZeros_0f7a4_52 (by decide) (fun c52 => ?_) (fun c52 => ?_)
        · skip
          refine lv_iload_n S.1 S.2.1 dJ6_numberOfTrailingZeros_0f7a4_62 rfl (lv_at hl 0 rfl) ?_
          refine lv_iconst (v := 4) S.1 S.2.1 dJ6_numberOfTrailingZeros_0f7a4_63 (by decide) ?_
          refine lv_icmp_le (tgt := 74) S.1 S.2.1 dJ6_numberOfTrailingZeros_0f7a4_64 (by decide) (fun c64 => ?_) (fun c64 => ?_)
          · skip
            refine lv_iload_n S.1 S.2.1 dJ6_numberOfTrailingZeros_0f7a4_74 rfl (lv_at hl 1 rfl) ?_
            refine lv_iload_n S.1 S.2.1 dJ6_numberOfTrailingZeros_0f7a4_75 rfl (lv_at hl 0 rfl) ?_
            refine lv_iconst (v := 1) S.1 S.2.1 dJ6_numberOfTrailingZeros_0f7a4_76 (by decide) ?_
            refine lv_iushr (v := (((((((((((nI a) ^^^ (-1)) &&& ((nI a) - 1))).toUInt32 >>> ((16 : Int32).toUInt32 &&& Int32.toUInt32 31)).toInt32)).toUInt32 >>> ((8 : Int32).toUInt32 &&& Int32.toUInt32 31)).toInt32)).toUInt32 >>> ((1 : Int32).toUInt32 &&& Int32.toUInt32 31)).toInt32) S.1 S.2.1 dJ6_numberOfTrailingZeros_0f7a4_77 rfl ?_
            refine lv_iadd S.1 S.2.1 dJ6_numberOfTrailingZeros_0f7a4_78 ?_
            exact x_iretR S hr hlocks dJ6_numberOfTrailingZeros_0f7a4_79 ((show ∀ a : Nat, a < 1024 → (decide (0 < a) && (decide (0 < (((nI a) ^^^ (-1)) &&& ((nI a) - 1))) && (decide (¬ (((nI a) ^^^ (-1)) &&& ((nI a) - 1)) ≤ 65536) && (decide (¬ ((((((nI a) ^^^ (-1)) &&& ((nI a) - 1))).toUInt32 >>> ((16 : Int32).toUInt32 &&& Int32.toUInt32 31)).toInt32) ≤ 256) && (decide ((((((((((nI a) ^^^ (-1)) &&& ((nI a) - 1))).toUInt32 >>> ((16 : Int32).toUInt32 &&& Int32.toUInt32 31)).toInt32)).toUInt32 >>> ((8 : Int32).toUInt32 &&& Int32.toUInt32 31)).toInt32) ≤ 16) && (decide ((((((((((nI a) ^^^ (-1)) &&& ((nI a) - 1))).toUInt32 >>> ((16 : Int32).toUInt32 &&& Int32.toUInt32 31)).toInt32)).toUInt32 >>> ((8 : Int32).toUInt32 &&& Int32.toUInt32 31)).toInt32) ≤ 4))))))) = true → (25 + ((((((((((((nI a) ^^^ (-1)) &&& ((nI a) - 1))).toUInt32 >>> ((16 : Int32).toUInt32 &&& Int32.toUInt32 31)).toInt32)).toUInt32 >>> ((8 : Int32).toUInt32 &&& Int32.toUInt32 31)).toInt32)).toUInt32 >>> ((1 : Int32).toUInt32 &&& Int32.toUInt32 31)).toInt32)) = nI (lob a) by decide +kernel) a ha (by simp only [Bool.and_eq_true, decide_eq_true_eq]; exact ⟨h0, c9, c23, c38, c52, c64⟩))
          · skip
            refine lv_iinc (v := 27) (lv' := [(1, .int 27), (0, .int (((((((((nI a) ^^^ (-1)) &&& ((nI a) - 1))).toUInt32 >>> ((16 : Int32).toUInt32 &&& Int32.toUInt32 31)).toInt32)).toUInt32 >>> ((8 : Int32).toUInt32 &&& Int32.toUInt32 31)).toInt32))]) S.1 S.2.1 dJ6_numberOfTrailingZeros_0f7a4_67 hl (k := 1) rfl (by decide) (by decide) rfl (fun ls hl => ?_)
            refine lv_iload_n S.1 S.2.1 dJ6_numberOfTrailingZeros_0f7a4_70 rfl (lv_at hl 1 rfl) ?_
            refine lv_iconst (v := 2) S.1 S.2.1 dJ6_numberOfTrailingZeros_0f7a4_71 (by decide) ?_
            refine lv_iushr (v := (((((((((((nI a) ^^^ (-1)) &&& ((nI a) - 1))).toUInt32 >>> ((16 : Int32).toUInt32 &&& Int32.toUInt32 31)).toInt32)).toUInt32 >>> ((8 : Int32).toUInt32 &&& Int32.toUInt32 31)).toInt32)).toUInt32 >>> ((2 : Int32).toUInt32 &&& Int32.toUInt32 31)).toInt32) S.1 S.2.1 dJ6_numberOfTrailingZeros_0f7a4_72 rfl ?_
            refine lv_istore_n (lv' := [(0, .int ((((((((((((nI a) ^^^ (-1)) &&& ((nI a) - 1))).toUInt32 >>> ((16 : Int32).toUInt32 &&& Int32.toUInt32 31)).toInt32)).toUInt32 >>> ((8 : Int32).toUInt32 &&& Int32.toUInt32 31)).toInt32)).toUInt32 >>> ((2 : Int32).toUInt32 &&& Int32.toUInt32 31)).toInt32)), (1, .int 27)]) S.1 S.2.1 dJ6_numberOfTrailingZeros_0f7a4_73 rfl hl (by decide) rfl (fun ls hl => ?_)
            refine lv_iload_n S.1 S.2.1 dJ6_numberOfTrailingZeros_0f7a4_74 rfl (lv_at hl 1 rfl) ?_
            refine lv_iload_n S.1 S.2.1 dJ6_numberOfTrailingZeros_0f7a4_75 rfl (lv_at hl 0 rfl) ?_
            refine lv_iconst (v := 1) S.1 S.2.1 dJ6_numberOfTrailingZeros_0f7a4_76 (by decide) ?_
            refine lv_iushr (v := ((((((((((((((nI a) ^^^ (-1)) &&& ((nI a) - 1))).toUInt32 >>> ((16 : Int32).toUInt32 &&& Int32.toUInt32 31)).toInt32)).toUInt32 >>> ((8 : Int32).toUInt32 &&& Int32.toUInt32 31)).toInt32)).toUInt32 >>> ((2 : Int32).toUInt32 &&& Int32.toUInt32 31)).toInt32)).toUInt32 >>> ((1 : Int32).toUInt32 &&& Int32.toUInt32 31)).toInt32) S.1 S.2.1 dJ6_numberOfTrailingZeros_0f7a4_77 rfl ?_
            refine lv_iadd S.1 S.2.1 dJ6_numberOfTrailingZeros_0f7a4_78 ?_
            exact x_iretR S hr hlocks dJ6_numberOfTrailingZeros_0f7a4_79 ((show ∀ a : Nat, a < 1024 → (decide (0 < a) && (decide (0 < (((nI a) ^^^ (-1)) &&& ((nI a) - 1))) && (decide (¬ (((nI a) ^^^ (-1)) &&& ((nI a) - 1)) ≤ 65536) && (decide (¬ ((((((nI a) ^^^ (-1)) &&& ((nI a) - 1))).toUInt32 >>> ((16 : Int32).toUInt32 &&& Int32.toUInt32 31)).toInt32) ≤ 256) && (decide ((((((((((nI a) ^^^ (-1)) &&& ((nI a) - 1))).toUInt32 >>> ((16 : Int32).toUInt32 &&& Int32.toUInt32 31)).toInt32)).toUInt32 >>> ((8 : Int32).toUInt32 &&& Int32.toUInt32 31)).toInt32) ≤ 16) && (decide (¬ (((((((((nI a) ^^^ (-1)) &&& ((nI a) - 1))).toUInt32 >>> ((16 : Int32).toUInt32 &&& Int32.toUInt32 31)).toInt32)).toUInt32 >>> ((8 : Int32).toUInt32 &&& Int32.toUInt32 31)).toInt32) ≤ 4))))))) = true → (27 + (((((((((((((((nI a) ^^^ (-1)) &&& ((nI a) - 1))).toUInt32 >>> ((16 : Int32).toUInt32 &&& Int32.toUInt32 31)).toInt32)).toUInt32 >>> ((8 : Int32).toUInt32 &&& Int32.toUInt32 31)).toInt32)).toUInt32 >>> ((2 : Int32).toUInt32 &&& Int32.toUInt32 31)).toInt32)).toUInt32 >>> ((1 : Int32).toUInt32 &&& Int32.toUInt32 31)).toInt32)) = nI (lob a) by decide +kernel) a ha (by simp only [Bool.and_eq_true, decide_eq_true_eq]; exact ⟨h0, c9, c23, c38, c52, c64⟩))
        · skip
          refine lv_iinc (v := 29) (lv' := [(1, .int 29), (0, .int (((((((((nI a) ^^^ (-1)) &&& ((nI a) - 1))).toUInt32 >>> ((16 : Int32).toUInt32 &&& Int32.toUInt32 31)).toInt32)).toUInt32 >>> ((8 : Int32).toUInt32 &&& Int32.toUInt32 31)).toInt32))]) S.1 S.2.1 dJ6_numberOfTrailingZeros_0f7a4_55 hl (k := 1) rfl (by decide) (by decide) rfl (fun ls hl => ?_)
          refine lv_iload_n S.1 S.2.1 dJ6_numberOfTrailingZeros_0f7a4_58 rfl (lv_at hl 1 rfl) ?_
          refine lv_iconst (v := 4) S.1 S.2.1 dJ6_numberOfTrailingZeros_0f7a4_59 (by decide) ?_
          refine lv_iushr (v := (((((((((((nI a) ^^^ (-1)) &&& ((nI a) - 1))).toUInt32 >>> ((16 : Int32).toUInt32 &&& Int32.toUInt32 31)).toInt32)).toUInt32 >>> ((8 : Int32).toUInt32 &&& Int32.toUInt32 31)).toInt32)).toUInt32 >>> ((4 : Int32).toUInt32 &&& Int32.toUInt32 31)).toInt32) S.1 S.2.1 dJ6_numberOfTrailingZeros_0f7a4_60 rfl ?_
          refine lv_istore_n (lv' := [(0, .int ((((((((((((nI a) ^^^ (-1)) &&& ((nI a) - 1))).toUInt32 >>> ((16 : Int32).toUInt32 &&& Int32.toUInt32 31)).toInt32)).toUInt32 >>> ((8 : Int32).toUInt32 &&& Int32.toUInt32 31)).toInt32)).toUInt32 >>> ((4 : Int32).toUInt32 &&& Int32.toUInt32 31)).toInt32)), (1, .int 29)]) S.1 S.2.1 dJ6_numberOfTrailingZeros_0f7a4_61 rfl hl (by decide) rfl (fun ls hl => ?_)
          refine lv_iload_n S.1 S.2.1 dJ6_numberOfTrailingZeros_0f7a4_62 rfl (lv_at hl 0 rfl) ?_
          refine lv_iconst (v := 4) S.1 S.2.1 dJ6_numberOfTrailingZeros_0f7a4_63 (by decide) ?_
          refine lv_icmp_le (tgt := 74) S.1 S.2.1 dJ6_numberOfTrailingZeros_0f7a4_64 (by decide) (fun c64 => ?_) (fun c64 => ?_)
          · skip
            refine lv_iload_n S.1 S.2.1 dJ6_numberOfTrailingZeros_0f7a4_74 rfl (lv_at hl 1 rfl) ?_
            refine lv_iload_n S.1 S.2.1 dJ6_numberOfTrailingZeros_0f7a4_75 rfl (lv_at hl 0 rfl) ?_
            refine lv_iconst (v := 1) S.1 S.2.1 dJ6_numberOfTrailingZeros_0f7a4_76 (by decide) ?_
            refine lv_iushr (v := ((((((((((((((nI a) ^^^ (-1)) &&& ((nI a) - 1))).toUInt32 >>> ((16 : Int32).toUInt32 &&& Int32.toUInt32 31)).toInt32)).toUInt32 >>> ((8 : Int32).toUInt32 &&& Int32.toUInt32 31)).toInt32)).toUInt32 >>> ((4 : Int32).toUInt32 &&& Int32.toUInt32 31)).toInt32)).toUInt32 >>> ((1 : Int32).toUInt32 &&& Int32.toUInt32 31)).toInt32) S.1 S.2.1 dJ6_numberOfTrailingZeros_0f7a4_77 rfl ?_
            refine lv_iadd S.1 S.2.1 dJ6_numberOfTrailingZeros_0f7a4_78 ?_
            exact x_iretR S hr hlocks dJ6_numberOfTrailingZeros_0f7a4_79 ((show ∀ a : Nat, a < 1024 → (decide (0 < a) && (decide (0 < (((nI a) ^^^ (-1)) &&& ((nI a) - 1))) && (decide (¬ (((nI a) ^^^ (-1)) &&& ((nI a) - 1)) ≤ 65536) && (decide (¬ ((((((nI a) ^^^ (-1)) &&& ((nI a) - 1))).toUInt32 >>> ((16 : Int32).toUInt32 &&& Int32.toUInt32 31)).toInt32) ≤ 256) && (decide (¬ (((((((((nI a) ^^^ (-1)) &&& ((nI a) - 1))).toUInt32 >>> ((16 : Int32).toUInt32 &&& Int32.toUInt32 31)).toInt32)).toUInt32 >>> ((8 : Int32).toUInt32 &&& Int32.toUInt32 31)).toInt32) ≤ 16) && (decide (((((((((((((nI a) ^^^ (-1)) &&& ((nI a) - 1))).toUInt32 >>> ((16 : Int32).toUInt32 &&& Int32.toUInt32 31)).toInt32)).toUInt32 >>> ((8 : Int32).toUInt32 &&& Int32.toUInt32 31)).toInt32)).toUInt32 >>> ((4 : Int32).toUInt32 &&& Int32.toUInt32 31)).toInt32) ≤ 4))))))) = true → (29 + (((((((((((((((nI a) ^^^ (-1)) &&& ((nI a) - 1))).toUInt32 >>> ((16 : Int32).toUInt32 &&& Int32.toUInt32 31)).toInt32)).toUInt32 >>> ((8 : Int32).toUInt32 &&& Int32.toUInt32 31)).toInt32)).toUInt32 >>> ((4 : Int32).toUInt32 &&& Int32.toUInt32 31)).toInt32)).toUInt32 >>> ((1 : Int32).toUInt32 &&& Int32.toUInt32 31)).toInt32)) = nI (lob a) by decide +kernel) a ha (by simp only [Bool.and_eq_true, decide_eq_true_eq]; exact ⟨h0, c9, c23, c38, c52, c64⟩))
          · skip
            refine lv_iinc (v := 31) (lv' := [(1, .int 31), (0, .int ((((((((((((nI a) ^^^ (-1)) &&& ((nI a) - 1))).toUInt32 >>> ((16 : Int32).toUInt32 &&& Int32.toUInt32 31)).toInt32)).toUInt32 >>> ((8 : Int32).toUInt32 &&& Int32.toUInt32 31)).toInt32)).toUInt32 >>> ((4 : Int32).toUInt32 &&& Int32.toUInt32 31)).toInt32))]) S.1 S.2.1 dJ6_numberOfTrailingZeros_0f7a4_67 hl (k := 1) rfl (by decide) (by decide) rfl (fun ls hl => ?_)
            refine lv_iload_n S.1 S.2.1 dJ6_numberOfTrailingZeros_0f7a4_70 rfl (lv_at hl 1 rfl) ?_
            refine lv_iconst (v := 2) S.1 S.2.1 dJ6_numberOfTrailingZeros_0f7a4_71 (by decide) ?_
            refine lv_iushr (v := ((((((((((((((nI a) ^^^ (-1)) &&& ((nI a) - 1))).toUInt32 >>> ((16 : Int32).toUInt32 &&& Int32.toUInt32 31)).toInt32)).toUInt32 >>> ((8 : Int32).toUInt32 &&& Int32.toUInt32 31)).toInt32)).toUInt32 >>> ((4 : Int32).toUInt32 &&& Int32.toUInt32 31)).toInt32)).toUInt32 >>> ((2 : Int32).toUInt32 &&& Int32.toUInt32 31)).toInt32) S.1 S.2.1 dJ6_numberOfTrailingZeros_0f7a4_72 rfl ?_
            refine lv_istore_n (lv' := [(0, .int (((((((((((((((nI a) ^^^ (-1)) &&& ((nI a) - 1))).toUInt32 >>> ((16 : Int32).toUInt32 &&& Int32.toUInt32 31)).toInt32)).toUInt32 >>> ((8 : Int32).toUInt32 &&& Int32.toUInt32 31)).toInt32)).toUInt32 >>> ((4 : Int32).toUInt32 &&& Int32.toUInt32 31)).toInt32)).toUInt32 >>> ((2 : Int32).toUInt32 &&& Int32.toUInt32 31)).toInt32)), (1, .int 31)]) S.1 S.2.1 dJ6_numberOfTrailingZeros_0f7a4_73 rfl hl (by decide) rfl (fun ls hl => ?_)
            refine lv_iload_n S.1 S.2.1 dJ6_numberOfTrailingZeros_0f7a4_74 rfl (lv_at hl 1 rfl) ?_
            refine lv_iload_n S.1 S.2.1 dJ6_numberOfTrailingZeros_0f7a4_75 rfl (lv_at hl 0 rfl) ?_
            refine lv_iconst (v := 1) S.1 S.2.1 dJ6_numberOfTrailingZeros_0f7a4_76 (by decide) ?_
            refine lv_iushr (v := (((((((((((((((((nI a) ^^^ (-1)) &&& ((nI a) - 1))).toUInt32 >>> ((16 : Int32).toUInt32 &&& Int32.toUInt32 31)).toInt32)).toUInt32 >>> ((8 : Int32).toUInt32 &&& Int32.toUInt32 31)).toInt32)).toUInt32 >>> ((4 : Int32).toUInt32 &&& Int32.toUInt32 31)).toInt32)).toUInt32 >>> ((2 : Int32).toUInt32 &&& Int32.toUInt32 31)).toInt32)).toUInt32 >>> ((1 : Int32).toUInt32 &&& Int32.toUInt32 31)).toInt32) S.1 S.2.1 dJ6_numberOfTrailingZeros_0f7a4_77 rfl ?_
            refine lv_iadd S.1 S.2.1 dJ6_numberOfTrailingZeros_0f7a4_78 ?_
            exact x_iretR S hr hlocks dJ6_numberOfTrailingZeros_0f7a4_79 ((show ∀ a : Nat, a < 1024 → (decide (0 < a) && (decide (0 < (((nI a) ^^^ (-1)) &&& ((nI a) - 1))) && (decide (¬ (((nI a) ^^^ (-1)) &&& ((nI a) - 1)) ≤ 65536) && (decide (¬ ((((((nI a) ^^^ (-1)) &&& ((nI a) - 1))).toUInt32 >>> ((16 : Int32).toUInt32 &&& Int32.toUInt32 31)).toInt32) ≤ 256) && (decide (¬ (((((((((nI a) ^^^ (-1)) &&& ((nI a) - 1))).toUInt32 >>> ((16 : Int32).toUInt32 &&& Int32.toUInt32 31)).toInt32)).toUInt32 >>> ((8 : Int32).toUInt32 &&& Int32.toUInt32 31)).toInt32) ≤ 16) && (decide (¬ ((((((((((((nI a) ^^^ (-1)) &&& ((nI a) - 1))).toUInt32 >>> ((16 : Int32).toUInt32 &&& Int32.toUInt32 31)).toInt32)).toUInt32 >>> ((8 : Int32).toUInt32 &&& Int32.toUInt32 31)).toInt32)).toUInt32 >>> ((4 : Int32).toUInt32 &&& Int32.toUInt32 31)).toInt32) ≤ 4))))))) = true → (31 + ((((((((((((((((((nI a) ^^^ (-1)) &&& ((nI a) - 1))).toUInt32 >>> ((16 : Int32).toUInt32 &&& Int32.toUInt32 31)).toInt32)).toUInt32 >>> ((8 : Int32).toUInt32 &&& Int32.toUInt32 31)).toInt32)).toUInt32 >>> ((4 : Int32).toUInt32 &&& Int32.toUInt32 31)).toInt32)).toUInt32 >>> ((2 : Int32).toUInt32 &&& Int32.toUInt32 31)).toInt32)).toUInt32 >>> ((1 : Int32).toUInt32 &&& Int32.toUInt32 31)).toInt32)) = nI (lob a) by decide +kernel) a ha (by simp only [Bool.and_eq_true, decide_eq_true_eq]; exact ⟨h0, c9, c23, c38, c52, c64⟩))
  · skip
    refine lv_iload_n S.1 S.2.1 dJ6_numberOfTrailingZeros_0f7a4_12 rfl (lv_at hl 0 rfl) ?_
    refine lv_bipush (v := 32) S.1 S.2.1 dJ6_numberOfTrailingZeros_0f7a4_13 (by decide) ?_
    refine lv_iand S.1 S.2.1 dJ6_numberOfTrailingZeros_0f7a4_15 ?_
    exact x_iretR S hr hlocks dJ6_numberOfTrailingZeros_0f7a4_16 ((show ∀ a : Nat, a < 1024 → (decide (0 < a) && (decide (¬ 0 < (((nI a) ^^^ (-1)) &&& ((nI a) - 1))))) = true → ((((nI a) ^^^ (-1)) &&& ((nI a) - 1)) &&& 32) = nI (lob a) by decide +kernel) a ha (by simp only [Bool.and_eq_true, decide_eq_true_eq]; exact ⟨h0, c9⟩))
/-! DISCARCS: the queries -/
theorem same3 {i j k : Nat} (hi : i < 10) (hj : j < 10) (hk : k < 10) : (nI i = nI j ∨ nI i = nI k ∨ nI j = nI k) ↔ (i = j ∨ i = k ∨ j = k) := by
  rw [nI_eq (by omega) (by omega), nI_eq (by omega) (by omega), nI_eq (by omega) (by omega)]
theorem tm_nat {n k : Nat} {M : Nat → Nat → Int32} (hv : vld n M) (hk : k < n) : ∃ a, M 0 k = nI a ∧ a ≤ 99 := by
  obtain ⟨h1, h2⟩ := (hv.1 k hk).1
  refine ⟨(M 0 k).toInt.toNat, ?_, by omega⟩
  apply Int32.toInt_inj.mp
  rw [nI_Z (by omega)]
  omega
theorem sub3 {x c : Int32} : x - 3 = c ↔ x = c + 3 := by
  constructor
  · intro h
    rw [← h, Int32.sub_add_cancel]
  · intro h
    rw [h, Int32.add_sub_cancel]
set_option maxHeartbeats 4000000 in
set_option maxRecDepth 100000 in
theorem c_X6_arc (l : Launch) (g : xG) (hJ : xJ (xad g)) (E : Nat → va_E) {z : xS} (hz : sX g E z) (hv : vS z) (a b c9 t w q : Int32) : Met l yX6_arc wsX6_arc ({ frames := 2, cells := 0, slots := 0, locals := 66 }) (xPc g [.ref (xad g 0), .int a, .int b, .int c9, .int t, .int w, .int q] E) (xQl g (fun r E1 => sp_arc z a b c9 t w q r ∧ sX g E1 z ∧ ∀ j, 65 ≤ j → E1 j = E j)) 0 0 (xA (xad g)) := by
  refine x_met (ws' := _) (by decide) rfl (Nat.le_of_ble_eq_true rfl) ?_
  intro pz ez s m below meth cz ls S hr hlocks hP hK hl
  have hl : lv_has ls 7 [(0, .ref (xad g 0)), (1, .int a), (2, .int b), (3, .int c9), (4, .int t), (5, .int w), (6, .int q)] := hl
  have hS : va_S (xA (xad g)) s.heap s.heap [] := va_S.rf
  have hin6 : ∀ w ∈ u_ws RX6 TX6 9, w ∈ wsX6_arc := by decide +kernel
  have fl42 : Cond.fieldLink RX6 42 "DiscArcs" "curve" "LDiscArcs$Arc;" ∈ wsX6_arc := by decide +kernel
  obtain ⟨hX, hp, hsn, ⟨B, N, MM, hH, hHe⟩, ⟨p0, ta, h57⟩, h58, ⟨f6, h59⟩, ⟨x1, x2, x3, hA⟩, h61, ⟨f2, h62⟩, ⟨f3, h63⟩, u1, u2, u3, hZ⟩ := hz
  have h0 := hp.1
  have hv1 := hv.1.2
  have hfm : ∀ j, 65 ≤ j → E j = E j := fun _ _ => rfl
  refine lv_aload_n S.1 S.2.1 dX6_arc_0 rfl (lv_at hl 0 rfl) ?_
  refine lv_iload_n S.1 S.2.1 dX6_arc_1 rfl (lv_at hl 1 rfl) ?_
  refine lv_iload_n S.1 S.2.1 dX6_arc_2 rfl (lv_at hl 2 rfl) ?_
  refine lv_iload_n S.1 S.2.1 dX6_arc_3 rfl (lv_at hl 3 rfl) ?_
  refine x_si (va_runV (As := [.int a, .int b, .int c9]) (rest := []) S (c_X6_areHeld l g E hX hp a b c9) (cwV 3 S.2.2.2.2 gX6_arc_X6_areHeld rfl rfl rfl (by decide +kernel) ⟨Nat.le_of_ble_eq_true rfl, Nat.le_of_ble_eq_true rfl⟩) (x_preV hK hP hX (by decide) rfl) rfl rfl hl.1 rfl (lv_room (Nat.le_of_ble_eq_true rfl)) dX6_arc_4 ⟨Nat.le_of_ble_eq_true rfl, Nat.le_of_ble_eq_true rfl⟩) (fun r4 hr4 => ?_)
  refine lv_if_ne (tgt := 14) S.1 S.2.1 dX6_arc_7 (by decide) (fun c7 => ?_) (fun c7 => ?_)
  · skip
    obtain ⟨⟨i, hi, rfl⟩, ⟨j, hj, rfl⟩, ⟨k, hk, rfl⟩⟩ := hr4.t c7
    have hs3 := same3 (i := i) (j := j) (k := k) (by omega) (by omega) (by omega)
    refine lv_iload_n S.1 S.2.1 dX6_arc_14 rfl (lv_at hl 1 rfl) ?_
    refine lv_iload_n S.1 S.2.1 dX6_arc_15 rfl (lv_at hl 2 rfl) ?_
    refine lv_iload_n S.1 S.2.1 dX6_arc_16 rfl (lv_at hl 3 rfl) ?_
    refine x_si (va_runS (As := [.int (nI i), .int (nI j), .int (nI k)]) (rest := []) S (c_X6_areAnySame l g E (nI i) (nI j) (nI k)) (va_cwS 3 S.2.2.2.2 gX6_arc_X6_areAnySame rfl rfl rfl (by decide +kernel) ⟨Nat.le_of_ble_eq_true rfl, Nat.le_of_ble_eq_true rfl⟩) (x_preS hK hP) rfl rfl hl.1 rfl (lv_room (Nat.le_of_ble_eq_true rfl)) dX6_arc_17 ⟨Nat.le_of_ble_eq_true rfl, Nat.le_of_ble_eq_true rfl⟩) (fun r17 hr17 => ?_)
    refine lv_if_ne (tgt := 35) S.1 S.2.1 dX6_arc_20 (by decide) (fun c20 => ?_) (fun c20 => ?_)
    · skip
      refine lv_ldc2 S.1 S.2.1 S.2.2.2.1 (S.2.2.2.2 (.constantLong RX6 170 (-2)) (by decide +kernel)) dX6_arc_35 ?_
      exact x_lret S hr hlocks hP hS dX6_arc_38 (⟨Or.inr ⟨i, j, k, ⟨hi, hj, hk⟩, ⟨rfl, rfl, rfl⟩, Or.inl ⟨by first | exact Or.inr (hr29.f c32) | exact Or.inl (hs3.mp (hr17.t c20)), rfl⟩⟩, sX.mk hX rfl hp hsn hH hHe h57 h58 h59 hA h61 h62 h63 hZ, hfm⟩)
    · skip
      refine lv_iload S.1 S.2.1 dX6_arc_23 (lv_at hl 4 rfl) ?_
      refine lv_iload S.1 S.2.1 dX6_arc_25 (lv_at hl 5 rfl) ?_
      refine lv_iload S.1 S.2.1 dX6_arc_27 (lv_at hl 6 rfl) ?_
      refine x_si (va_runS (As := [.int t, .int w, .int q]) (rest := []) S (c_X6_isAskForFraction l g E t w q) (va_cwS 3 S.2.2.2.2 gX6_arc_X6_isAskForFraction rfl rfl rfl (by decide +kernel) ⟨Nat.le_of_ble_eq_true rfl, Nat.le_of_ble_eq_true rfl⟩) (x_preS hK hP) rfl rfl hl.1 rfl (lv_room (Nat.le_of_ble_eq_true rfl)) dX6_arc_29 ⟨Nat.le_of_ble_eq_true rfl, Nat.le_of_ble_eq_true rfl⟩) (fun r29 hr29 => ?_)
      refine lv_if_ne (tgt := 39) S.1 S.2.1 dX6_arc_32 (by decide) (fun c32 => ?_) (fun c32 => ?_)
      · skip
        have hask := hr29.t c32
        have hnn : ¬ (i = j ∨ i = k ∨ j = k) := fun h => hr17.f c20 (hs3.mpr h)
        obtain ⟨v, hv2, rfl⟩ := in_nat (m := 1) (by decide) hask.2.1.1 hask.2.1.2
        refine lv_aload_n S.1 S.2.1 dX6_arc_39 rfl (lv_at hl 0 rfl) ?_
        refine lv_iload_n S.1 S.2.1 dX6_arc_40 rfl (lv_at hl 1 rfl) ?_
        refine lv_iload_n S.1 S.2.1 dX6_arc_41 rfl (lv_at hl 2 rfl) ?_
        refine lv_iload_n S.1 S.2.1 dX6_arc_42 rfl (lv_at hl 3 rfl) ?_
        refine x_si (va_runV (As := [.int (nI i), .int (nI j), .int (nI k)]) (rest := []) S (c_X6_areUsable l g E hX hp hi hj hk) (cwV 3 S.2.2.2.2 gX6_arc_X6_areUsable rfl rfl rfl (by decide +kernel) ⟨Nat.le_of_ble_eq_true rfl, Nat.le_of_ble_eq_true rfl⟩) (x_preV hK hP hX (by decide) rfl) rfl rfl hl.1 rfl (lv_room (Nat.le_of_ble_eq_true rfl)) dX6_arc_43 ⟨Nat.le_of_ble_eq_true rfl, Nat.le_of_ble_eq_true rfl⟩) (fun r43 hr43 => ?_)
        refine lv_if_ne (tgt := 53) S.1 S.2.1 dX6_arc_46 (by decide) (fun c46 => ?_) (fun c46 => ?_)
        · skip
          refine lv_aload_n S.1 S.2.1 dX6_arc_53 rfl (lv_at hl 0 rfl) ?_
          refine lv_iload_n S.1 S.2.1 dX6_arc_54 rfl (lv_at hl 1 rfl) ?_
          refine lv_iload_n S.1 S.2.1 dX6_arc_55 rfl (lv_at hl 2 rfl) ?_
          refine lv_iload_n S.1 S.2.1 dX6_arc_56 rfl (lv_at hl 3 rfl) ?_
          refine x_qv (va_runV (As := [.int (nI i), .int (nI j), .int (nI k)]) (rest := []) S (c_X6_layInOrder l g hJ E hX hA (i := i) (j := j) (k := k) (by omega) (by omega) (by omega) (fun h => hnn (Or.inl h)) (fun h => hnn (Or.inr (Or.inl h))) (fun h => hnn (Or.inr (Or.inr h)))) (cwV 3 S.2.2.2.2 gX6_arc_X6_layInOrder rfl rfl rfl (by decide +kernel) ⟨Nat.le_of_ble_eq_true rfl, Nat.le_of_ble_eq_true rfl⟩) (x_preV hK hP hX (by decide) rfl) rfl rfl hl.1 rfl (lv_room (Nat.le_of_ble_eq_true rfl)) dX6_arc_57 ⟨Nat.le_of_ble_eq_true rfl, Nat.le_of_ble_eq_true rfl⟩) hS (fun E1 H locs hq57 hP hS => ?_)
          obtain ⟨i1, j1, k1, hs, hA, hfr57⟩ := hq57
          have hX := (hfr57 0 (by decide)).trans hX
          have hp := hp.keep (E1 := E1) (fun j g1 g2 => hfr57 j (by omega))
          have hsn := hsn.keep (E1 := E1) (fun j g1 g2 => hfr57 j (by omega))
          have hH := hH.keep (E1 := E1) (fun j g1 g2 => hfr57 j (by omega))
          have h57 := (hfr57 57 (by decide)).trans h57
          have h58 := (hfr57 58 (by decide)).trans h58
          have h59 := (hfr57 59 (by decide)).trans h59
          have h61 := (hfr57 61 (by decide)).trans h61
          have h62 := (hfr57 62 (by decide)).trans h62
          have h63 := (hfr57 63 (by decide)).trans h63
          have hZ := (hfr57 64 (by decide)).trans hZ
          have hfm : ∀ j, 65 ≤ j → E1 j = E j := fun j hj => (hfr57 j (by omega)).trans (hfm j hj)
          obtain ⟨o1, o2, o3⟩ := id hs
          have hi1 : i1 < zn z := by omega
          have hj1 : j1 < zn z := by omega
          have hk1 : k1 < zn z := by omega
          refine lv_aload_n S.1 S.2.1 dX6_arc_60 rfl (lv_at hl 0 rfl) ?_
          refine x_get S hK hP dX6_arc_61 hX (by decide) (RX6, TX6, 9) rfl hin6 6 (by decide) fl42 rfl ?_
          refine lv_iload S.1 S.2.1 dX6_arc_64 (lv_at hl 5 rfl) ?_
          refine lv_iload S.1 S.2.1 dX6_arc_66 (lv_at hl 4 rfl) ?_
          refine lv_i2l (v := t.toInt64) S.1 S.2.1 dX6_arc_68 rfl ?_
          refine x_sl (va_runV (As := [.int (nI v), .long (t.toInt64)]) (rest := []) S (c_X0_upper l g E1 hp hA hi1 hj1 hk1 (w := v) (by omega) t.toInt64) (cwV 2 S.2.2.2.2 gX6_arc_X0_upper rfl rfl rfl (by decide +kernel) ⟨Nat.le_of_ble_eq_true rfl, Nat.le_of_ble_eq_true rfl⟩) (x_preV hK hP hA (by decide) rfl) rfl rfl hl.1 rfl (lv_room (Nat.le_of_ble_eq_true rfl)) dX6_arc_69 ⟨Nat.le_of_ble_eq_true rfl, Nat.le_of_ble_eq_true rfl⟩) (fun r69 hr69 => ?_)
          refine lv_aload_n S.1 S.2.1 dX6_arc_72 rfl (lv_at hl 0 rfl) ?_
          refine x_get S hK hP dX6_arc_73 hX (by decide) (RX6, TX6, 9) rfl hin6 6 (by decide) fl42 rfl ?_
          refine x_sl (va_runV (As := []) (rest := [.long r69]) S (c_X0_lower l g E1 hp hA hi1 hj1 hk1) (cwV 0 S.2.2.2.2 gX6_arc_X0_lower rfl rfl rfl (by decide +kernel) ⟨Nat.le_of_ble_eq_true rfl, Nat.le_of_ble_eq_true rfl⟩) (x_preV hK hP hA (by decide) rfl) rfl rfl hl.1 rfl (lv_room (Nat.le_of_ble_eq_true rfl)) dX6_arc_76 ⟨Nat.le_of_ble_eq_true rfl, Nat.le_of_ble_eq_true rfl⟩) (fun r76 hr76 => ?_)
          refine lv_iload S.1 S.2.1 dX6_arc_79 (lv_at hl 6 rfl) ?_
          obtain ⟨l1, l2, l3⟩ := lo_lN hv1 (r := i1) (s := j1) (t := k1) (by omega) (by omega) (by omega)
          refine W.eq (g2 := F0 m 81 ls [.int q, .long (lN (loN (zM z) i1 j1 k1).toInt.toNat), .long (upN (zM z) v i1 j1 k1 t.toInt64)]) (by rw [hr69, hr76, ← l1]) ?_
          refine x_sl (va_runS (As := [.long (upN (zM z) v i1 j1 k1 t.toInt64), .long (lN (loN (zM z) i1 j1 k1).toInt.toNat), .int q]) (rest := []) S (c_X6_partOf l g E1 (u := upN (zM z) v i1 j1 k1 t.toInt64) (b := (loN (zM z) i1 j1 k1).toInt.toNat) q (up_bound hv1 (by omega) (by omega) (by omega) (by omega) (by rw [Int32.toInt_toInt64]; exact rng_toInt hask.1)) l2 l3) (va_cwS 3 S.2.2.2.2 gX6_arc_X6_partOf rfl rfl rfl (by decide +kernel) ⟨Nat.le_of_ble_eq_true rfl, Nat.le_of_ble_eq_true rfl⟩) (x_preS hK hP) rfl rfl hl.1 rfl (lv_room (Nat.le_of_ble_eq_true rfl)) dX6_arc_81 ⟨Nat.le_of_ble_eq_true rfl, Nat.le_of_ble_eq_true rfl⟩) (fun r81 hr81 => ?_)
          exact x_lret S hr hlocks hP hS dX6_arc_84 (⟨Or.inr ⟨i, j, k, ⟨hi, hj, hk⟩, ⟨rfl, rfl, rfl⟩, Or.inr ⟨fun h => by rcases h with h | h; exact hnn h; exact h hask, Or.inr ⟨hr43.t c46, i1, j1, k1, v, hs, by omega, rfl, hr81⟩⟩⟩, sX.mk hX rfl hp hsn hH hHe h57 h58 h59 hA h61 h62 h63 hZ, hfm⟩)
        · skip
          refine lv_ldc2 S.1 S.2.1 S.2.2.2.1 (S.2.2.2.2 (.constantLong RX6 175 (-4)) (by decide +kernel)) dX6_arc_49 ?_
          exact x_lret S hr hlocks hP hS dX6_arc_52 (⟨Or.inr ⟨i, j, k, ⟨hi, hj, hk⟩, ⟨rfl, rfl, rfl⟩, Or.inr ⟨fun h => by rcases h with h | h; exact hnn h; exact h hask, Or.inl ⟨hr43.f c46, rfl⟩⟩⟩, sX.mk hX rfl hp hsn hH hHe h57 h58 h59 hA h61 h62 h63 hZ, hfm⟩)
      · skip
        refine lv_ldc2 S.1 S.2.1 S.2.2.2.1 (S.2.2.2.2 (.constantLong RX6 170 (-2)) (by decide +kernel)) dX6_arc_35 ?_
        exact x_lret S hr hlocks hP hS dX6_arc_38 (⟨Or.inr ⟨i, j, k, ⟨hi, hj, hk⟩, ⟨rfl, rfl, rfl⟩, Or.inl ⟨by first | exact Or.inr (hr29.f c32) | exact Or.inl (hs3.mp (hr17.t c20)), rfl⟩⟩, sX.mk hX rfl hp hsn hH hHe h57 h58 h59 hA h61 h62 h63 hZ, hfm⟩)
  · skip
    refine lv_ldc2 S.1 S.2.1 S.2.2.2.1 (S.2.2.2.2 (.constantLong RX6 162 (-1)) (by decide +kernel)) dX6_arc_10 ?_
    exact x_lret S hr hlocks hP hS dX6_arc_13 (⟨Or.inl ⟨hr4.f c7, rfl⟩, sX.mk hX rfl hp hsn hH hHe h57 h58 h59 hA h61 h62 h63 hZ, hfm⟩)
set_option maxHeartbeats 4000000 in
set_option maxRecDepth 100000 in
theorem c_X6_hits (l : Launch) (g : xG) (hJ : xJ (xad g)) (E : Nat → va_E) {z : xS} (hz : sX g E z) (hv : vS z) (a b c9 : Int32) : Met l yX6_hits wsX6_hits ({ frames := 2, cells := 0, slots := 0, locals := 73 }) (xPc g [.ref (xad g 0), .int a, .int b, .int c9] E) (xQi g (fun r E1 => sp_hits z a b c9 r ∧ sX g E1 z ∧ ∀ j, 65 ≤ j → E1 j = E j)) 0 0 (xA (xad g)) := by
  refine x_met (ws' := _) (by decide) rfl (Nat.le_of_ble_eq_true rfl) ?_
  intro pz ez s m below meth cz ls S hr hlocks hP hK hl
  have hl : lv_has ls 5 [(0, .ref (xad g 0)), (1, .int a), (2, .int b), (3, .int c9)] := hl
  have hS : va_S (xA (xad g)) s.heap s.heap [] := va_S.rf
  have hin6 : ∀ w ∈ u_ws RX6 TX6 9, w ∈ wsX6_hits := by decide +kernel
  have fl10 : Cond.fieldLink RX6 10 "DiscArcs" "photos" "LDiscArcs$Photos;" ∈ wsX6_hits := by decide +kernel
  have fl42 : Cond.fieldLink RX6 42 "DiscArcs" "curve" "LDiscArcs$Arc;" ∈ wsX6_hits := by decide +kernel
  obtain ⟨hX, hp, hsn, ⟨B, N, MM, hH, hHe⟩, ⟨p0, ta, h57⟩, h58, ⟨f6, h59⟩, ⟨x1, x2, x3, hA⟩, h61, ⟨f2, h62⟩, ⟨f3, h63⟩, u1, u2, u3, hZ⟩ := hz
  have h0 := hp.1
  have hv1 := hv.1.2
  have hfm : ∀ j, 65 ≤ j → E j = E j := fun _ _ => rfl
  refine lv_aload_n S.1 S.2.1 dX6_hits_0 rfl (lv_at hl 0 rfl) ?_
  refine lv_iload_n S.1 S.2.1 dX6_hits_1 rfl (lv_at hl 1 rfl) ?_
  refine lv_iload_n S.1 S.2.1 dX6_hits_2 rfl (lv_at hl 2 rfl) ?_
  refine lv_iload_n S.1 S.2.1 dX6_hits_3 rfl (lv_at hl 3 rfl) ?_
  refine x_si (va_runV (As := [.int a, .int b, .int c9]) (rest := []) S (c_X6_areHeld l g E hX hp a b c9) (cwV 3 S.2.2.2.2 gX6_hits_X6_areHeld rfl rfl rfl (by decide +kernel) ⟨Nat.le_of_ble_eq_true rfl, Nat.le_of_ble_eq_true rfl⟩) (x_preV hK hP hX (by decide) rfl) rfl rfl hl.1 rfl (lv_room (Nat.le_of_ble_eq_true rfl)) dX6_hits_4 ⟨Nat.le_of_ble_eq_true rfl, Nat.le_of_ble_eq_true rfl⟩) (fun r4 hr4 => ?_)
  refine lv_if_ne (tgt := 12) S.1 S.2.1 dX6_hits_7 (by decide) (fun c7 => ?_) (fun c7 => ?_)
  · skip
    obtain ⟨⟨i, hi, rfl⟩, ⟨j, hj, rfl⟩, ⟨k, hk, rfl⟩⟩ := hr4.t c7
    have hs3 := same3 (i := i) (j := j) (k := k) (by omega) (by omega) (by omega)
    refine lv_iload_n S.1 S.2.1 dX6_hits_12 rfl (lv_at hl 1 rfl) ?_
    refine lv_iload_n S.1 S.2.1 dX6_hits_13 rfl (lv_at hl 2 rfl) ?_
    refine lv_iload_n S.1 S.2.1 dX6_hits_14 rfl (lv_at hl 3 rfl) ?_
    refine x_si (va_runS (As := [.int (nI i), .int (nI j), .int (nI k)]) (rest := []) S (c_X6_areAnySame l g E (nI i) (nI j) (nI k)) (va_cwS 3 S.2.2.2.2 gX6_hits_X6_areAnySame rfl rfl rfl (by decide +kernel) ⟨Nat.le_of_ble_eq_true rfl, Nat.le_of_ble_eq_true rfl⟩) (x_preS hK hP) rfl rfl hl.1 rfl (lv_room (Nat.le_of_ble_eq_true rfl)) dX6_hits_15 ⟨Nat.le_of_ble_eq_true rfl, Nat.le_of_ble_eq_true rfl⟩) (fun r15 hr15 => ?_)
    refine lv_if_eq (tgt := 24) S.1 S.2.1 dX6_hits_18 (by decide) (fun c18 => ?_) (fun c18 => ?_)
    · skip
      have hnn : ¬ (i = j ∨ i = k ∨ j = k) := fun h => hr15.f c18 (hs3.mpr h)
      refine lv_aload_n S.1 S.2.1 dX6_hits_24 rfl (lv_at hl 0 rfl) ?_
      refine lv_iload_n S.1 S.2.1 dX6_hits_25 rfl (lv_at hl 1 rfl) ?_
      refine lv_iload_n S.1 S.2.1 dX6_hits_26 rfl (lv_at hl 2 rfl) ?_
      refine lv_iload_n S.1 S.2.1 dX6_hits_27 rfl (lv_at hl 3 rfl) ?_
      refine x_si (va_runV (As := [.int (nI i), .int (nI j), .int (nI k)]) (rest := []) S (c_X6_areUsable l g E hX hp hi hj hk) (cwV 3 S.2.2.2.2 gX6_hits_X6_areUsable rfl rfl rfl (by decide +kernel) ⟨Nat.le_of_ble_eq_true rfl, Nat.le_of_ble_eq_true rfl⟩) (x_preV hK hP hX (by decide) rfl) rfl rfl hl.1 rfl (lv_room (Nat.le_of_ble_eq_true rfl)) dX6_hits_28 ⟨Nat.le_of_ble_eq_true rfl, Nat.le_of_ble_eq_true rfl⟩) (fun r28 hr28 => ?_)
      refine lv_if_ne (tgt := 37) S.1 S.2.1 dX6_hits_31 (by decide) (fun c31 => ?_) (fun c31 => ?_)
      · skip
        refine lv_aload_n S.1 S.2.1 dX6_hits_37 rfl (lv_at hl 0 rfl) ?_
        refine lv_iload_n S.1 S.2.1 dX6_hits_38 rfl (lv_at hl 1 rfl) ?_
        refine lv_iload_n S.1 S.2.1 dX6_hits_39 rfl (lv_at hl 2 rfl) ?_
        refine lv_iload_n S.1 S.2.1 dX6_hits_40 rfl (lv_at hl 3 rfl) ?_
        refine x_qv (va_runV (As := [.int (nI i), .int (nI j), .int (nI k)]) (rest := []) S (c_X6_layInOrder l g hJ E hX hA (i := i) (j := j) (k := k) (by omega) (by omega) (by omega) (fun h => hnn (Or.inl h)) (fun h => hnn (Or.inr (Or.inl h))) (fun h => hnn (Or.inr (Or.inr h)))) (cwV 3 S.2.2.2.2 gX6_hits_X6_layInOrder rfl rfl rfl (by decide +kernel) ⟨Nat.le_of_ble_eq_true rfl, Nat.le_of_ble_eq_true rfl⟩) (x_preV hK hP hX (by decide) rfl) rfl rfl hl.1 rfl (lv_room (Nat.le_of_ble_eq_true rfl)) dX6_hits_41 ⟨Nat.le_of_ble_eq_true rfl, Nat.le_of_ble_eq_true rfl⟩) hS (fun E1 H locs hq41 hP hS => ?_)
        obtain ⟨i1, j1, k1, hs, hA, hfr41⟩ := hq41
        have hX := (hfr41 0 (by decide)).trans hX
        have hp := hp.keep (E1 := E1) (fun j g1 g2 => hfr41 j (by omega))
        have hsn := hsn.keep (E1 := E1) (fun j g1 g2 => hfr41 j (by omega))
        have hH := hH.keep (E1 := E1) (fun j g1 g2 => hfr41 j (by omega))
        have h57 := (hfr41 57 (by decide)).trans h57
        have h58 := (hfr41 58 (by decide)).trans h58
        have h59 := (hfr41 59 (by decide)).trans h59
        have h61 := (hfr41 61 (by decide)).trans h61
        have h62 := (hfr41 62 (by decide)).trans h62
        have h63 := (hfr41 63 (by decide)).trans h63
        have hZ := (hfr41 64 (by decide)).trans hZ
        have hfm : ∀ j, 65 ≤ j → E1 j = E j := fun j hj => (hfr41 j (by omega)).trans (hfm j hj)
        obtain ⟨o1, o2, o3⟩ := id hs
        have hi1 : i1 < zn z := by omega
        have hj1 : j1 < zn z := by omega
        have hk1 : k1 < zn z := by omega
        refine lv_aload_n S.1 S.2.1 dX6_hits_44 rfl (lv_at hl 0 rfl) ?_
        refine x_get S hK hP dX6_hits_45 hX (by decide) (RX6, TX6, 9) rfl hin6 0 (by decide) fl10 rfl ?_
        refine x_si (va_runV (As := []) (rest := []) S (c_X2_usable l g E1 hp) (cwV 0 S.2.2.2.2 gX6_hits_X2_usable rfl rfl rfl (by decide +kernel) ⟨Nat.le_of_ble_eq_true rfl, Nat.le_of_ble_eq_true rfl⟩) (x_preV hK hP hp.2.1 (by decide) rfl) rfl rfl hl.1 rfl (lv_room (Nat.le_of_ble_eq_true rfl)) dX6_hits_48 ⟨Nat.le_of_ble_eq_true rfl, Nat.le_of_ble_eq_true rfl⟩) (fun r48 hr48 => ?_)
        subst hr48
        refine lv_istore (lv' := [(4, .int (nI (mk (pU (zM z)) (zn z)))), (0, .ref (xad g 0)), (1, .int (nI i)), (2, .int (nI j)), (3, .int (nI k))]) S.1 S.2.1 dX6_hits_51 hl (by decide) rfl (fun ls hl => ?_)
        refine lv_iload S.1 S.2.1 dX6_hits_53 (lv_at hl 0 rfl) ?_
        refine lv_aload_n S.1 S.2.1 dX6_hits_55 rfl (lv_at hl 1 rfl) ?_
        refine x_get S hK hP dX6_hits_56 hX (by decide) (RX6, TX6, 9) rfl hin6 6 (by decide) fl42 rfl ?_
        refine lv_iload S.1 S.2.1 dX6_hits_59 (lv_at hl 0 rfl) ?_
        refine x_si (va_runV (As := [.int (nI (mk (pU (zM z)) (zn z)))]) (rest := [.int (nI (mk (pU (zM z)) (zn z)))]) S (c_X0_missedOf l g E1 hp hA hi1 hj1 hk1 (P := pU (zM z)) (lo_pos hv1 o1 o2 hk1)) (cwV 1 S.2.2.2.2 gX6_hits_X0_missedOf rfl rfl rfl (by decide +kernel) ⟨Nat.le_of_ble_eq_true rfl, Nat.le_of_ble_eq_true rfl⟩) (x_preV hK hP hA (by decide) rfl) rfl rfl hl.1 rfl (lv_room (Nat.le_of_ble_eq_true rfl)) dX6_hits_61 ⟨Nat.le_of_ble_eq_true rfl, Nat.le_of_ble_eq_true rfl⟩) (fun r61 hr61 => ?_)
        refine lv_iconst (v := (-1)) S.1 S.2.1 dX6_hits_64 (by decide) ?_
        refine lv_ixor S.1 S.2.1 dX6_hits_65 ?_
        refine lv_iand S.1 S.2.1 dX6_hits_66 ?_
        exact x_iret S hr hlocks hP hS dX6_hits_67 (⟨Or.inr ⟨i, j, k, ⟨hi, hj, hk⟩, ⟨rfl, rfl, rfl⟩, Or.inr ⟨hnn, Or.inr ⟨hr28.t c31, i1, j1, k1, hs, by rw [hr61, and_not_mk, hit_mk]⟩⟩⟩, sX.mk hX rfl hp hsn hH hHe h57 h58 h59 hA h61 h62 h63 hZ, hfm⟩)
      · skip
        refine lv_bipush (v := (-4)) S.1 S.2.1 dX6_hits_34 (by decide) ?_
        exact x_iret S hr hlocks hP hS dX6_hits_36 (⟨Or.inr ⟨i, j, k, ⟨hi, hj, hk⟩, ⟨rfl, rfl, rfl⟩, Or.inr ⟨hnn, Or.inl ⟨hr28.f c31, rfl⟩⟩⟩, sX.mk hX rfl hp hsn hH hHe h57 h58 h59 hA h61 h62 h63 hZ, hfm⟩)
    · skip
      refine lv_bipush (v := (-2)) S.1 S.2.1 dX6_hits_21 (by decide) ?_
      exact x_iret S hr hlocks hP hS dX6_hits_23 (⟨Or.inr ⟨i, j, k, ⟨hi, hj, hk⟩, ⟨rfl, rfl, rfl⟩, Or.inl ⟨hs3.mp (hr15.t c18), rfl⟩⟩, sX.mk hX rfl hp hsn hH hHe h57 h58 h59 hA h61 h62 h63 hZ, hfm⟩)
  · skip
    refine lv_iconst (v := (-1)) S.1 S.2.1 dX6_hits_10 (by decide) ?_
    exact x_iret S hr hlocks hP hS dX6_hits_11 (⟨Or.inl ⟨hr4.f c7, rfl⟩, sX.mk hX rfl hp hsn hH hHe h57 h58 h59 hA h61 h62 h63 hZ, hfm⟩)
set_option maxHeartbeats 4000000 in
set_option maxRecDepth 100000 in
theorem c_X6_best (l : Launch) (g : xG) (hJ : xJ (xad g)) (E : Nat → va_E) {z : xS} (hz : sX g E z) (hv : vS z) (w : Int32) : Met l yX6_best wsX6_best ({ frames := 3, cells := 0, slots := 0, locals := 101 }) (xPc g [.ref (xad g 0), .int w] E) (xQi g (fun r E1 => sp_best z w r ∧ sX g E1 z ∧ ∀ j, 65 ≤ j → E1 j = E j)) 0 0 (xA (xad g)) := by
  refine x_met (ws' := _) (by decide) rfl (Nat.le_of_ble_eq_true rfl) ?_
  intro pz ez s m below meth cz ls S hr hlocks hP hK hl
  have hl : lv_has ls 3 [(0, .ref (xad g 0)), (1, .int w)] := hl
  have hS : va_S (xA (xad g)) s.heap s.heap [] := va_S.rf
  have hin6 : ∀ w ∈ u_ws RX6 TX6 9, w ∈ wsX6_best := by decide +kernel
  have fl10 : Cond.fieldLink RX6 10 "DiscArcs" "photos" "LDiscArcs$Photos;" ∈ wsX6_best := by decide +kernel
  have fl42 : Cond.fieldLink RX6 42 "DiscArcs" "curve" "LDiscArcs$Arc;" ∈ wsX6_best := by decide +kernel
  obtain ⟨hX, hp, hsn, ⟨B, N, MM, hH, hHe⟩, ⟨p0, ta, h57⟩, h58, ⟨f6, h59⟩, ⟨x1, x2, x3, hA⟩, h61, ⟨f2, h62⟩, ⟨f3, h63⟩, u1, u2, u3, hZ⟩ := hz
  have h0 := hp.1
  have hv1 := hv.1.2
  have hfm : ∀ j, 65 ≤ j → E j = E j := fun _ _ => rfl
  refine lv_iload_n S.1 S.2.1 dX6_best_0 rfl (lv_at hl 1 rfl) ?_
  refine lv_iconst (v := 0) S.1 S.2.1 dX6_best_1 (by decide) ?_
  refine lv_iconst (v := 4) S.1 S.2.1 dX6_best_2 (by decide) ?_
  refine x_si (va_runS (As := [.int w, .int 0, .int 4]) (rest := []) S (c_X6_isWithin l g E w 0 4) (va_cwS 3 S.2.2.2.2 gX6_best_X6_isWithin rfl rfl rfl (by decide +kernel) ⟨Nat.le_of_ble_eq_true rfl, Nat.le_of_ble_eq_true rfl⟩) (x_preS hK hP) rfl rfl hl.1 rfl (lv_room (Nat.le_of_ble_eq_true rfl)) dX6_best_3 ⟨Nat.le_of_ble_eq_true rfl, Nat.le_of_ble_eq_true rfl⟩) (fun r3 hr3 => ?_)
  refine lv_if_ne (tgt := 12) S.1 S.2.1 dX6_best_6 (by decide) (fun c6 => ?_) (fun c6 => ?_)
  · skip
    refine lv_aload_n S.1 S.2.1 dX6_best_12 rfl (lv_at hl 0 rfl) ?_
    refine x_get S hK hP dX6_best_13 hX (by decide) (RX6, TX6, 9) rfl hin6 0 (by decide) fl10 rfl ?_
    refine x_si (va_runV (As := []) (rest := []) S (c_X2_usable l g E hp) (cwV 0 S.2.2.2.2 gX6_best_X2_usable rfl rfl rfl (by decide +kernel) ⟨Nat.le_of_ble_eq_true rfl, Nat.le_of_ble_eq_true rfl⟩) (x_preV hK hP hp.2.1 (by decide) rfl) rfl rfl hl.1 rfl (lv_room (Nat.le_of_ble_eq_true rfl)) dX6_best_16 ⟨Nat.le_of_ble_eq_true rfl, Nat.le_of_ble_eq_true rfl⟩) (fun r16 hr16 => ?_)
    subst hr16
    refine lv_istore_n (lv' := [(2, .int (nI (mk (pU (zM z)) (zn z)))), (0, .ref (xad g 0)), (1, .int w)]) S.1 S.2.1 dX6_best_19 rfl hl (by decide) rfl (fun ls hl => ?_)
    refine lv_aload_n S.1 S.2.1 dX6_best_20 rfl (lv_at hl 1 rfl) ?_
    refine x_get S hK hP dX6_best_21 hX (by decide) (RX6, TX6, 9) rfl hin6 6 (by decide) fl42 rfl ?_
    refine lv_iload_n S.1 S.2.1 dX6_best_24 rfl (lv_at hl 0 rfl) ?_
    refine x_qi (va_runV (As := [.int (nI (mk (pU (zM z)) (zn z)))]) (rest := []) S (c_X0_layBest l g hJ E hp hA hv1 (pU (zM z))) (cwV 1 S.2.2.2.2 gX6_best_X0_layBest rfl rfl rfl (by decide +kernel) ⟨Nat.le_of_ble_eq_true rfl, Nat.le_of_ble_eq_true rfl⟩) (x_preV hK hP hA (by decide) rfl) rfl rfl hl.1 rfl (lv_room (Nat.le_of_ble_eq_true rfl)) dX6_best_25 ⟨Nat.le_of_ble_eq_true rfl, Nat.le_of_ble_eq_true rfl⟩) hS (fun r25 E1 H locs hq25 hP hS => ?_)
    obtain ⟨hfr25, hor⟩ := hq25
    have hX := (hfr25 0 (by decide)).trans hX
    have hp := hp.keep (E1 := E1) (fun j g1 g2 => hfr25 j (by omega))
    have hsn := hsn.keep (E1 := E1) (fun j g1 g2 => hfr25 j (by omega))
    have hH := hH.keep (E1 := E1) (fun j g1 g2 => hfr25 j (by omega))
    have h57 := (hfr25 57 (by decide)).trans h57
    have h58 := (hfr25 58 (by decide)).trans h58
    have h59 := (hfr25 59 (by decide)).trans h59
    have h61 := (hfr25 61 (by decide)).trans h61
    have h62 := (hfr25 62 (by decide)).trans h62
    have h63 := (hfr25 63 (by decide)).trans h63
    have hZ := (hfr25 64 (by decide)).trans hZ
    have hfm : ∀ j, 65 ≤ j → E1 j = E j := fun j hj => (hfr25 j (by omega)).trans (hfm j hj)
    refine lv_if_ne (tgt := 34) S.1 S.2.1 dX6_best_28 (by decide) (fun c28 => ?_) (fun c28 => ?_)
    · skip
      obtain ⟨i, j, k, hb, hA⟩ : ∃ i j k, isBest (zM z) (pU (zM z)) (zn z) i j k ∧ E1 60 = .inr (0, [.ref (xad g 1), .int (nI i), .int (nI j), .int (nI k)]) := by rcases hor with ⟨-, h⟩ | ⟨h0, -⟩; exact h; exact absurd h0 c28
      obtain ⟨g1, g2, g3, -⟩ := id hb.1
      refine lv_iload_n S.1 S.2.1 dX6_best_34 rfl (lv_at hl 2 rfl) ?_
      rcases Classical.em (w = 3) with s35_3 | s35_3
      · refine lv_lookup (off := 25) (tgt := 60) S.1 S.2.1 dX6_best_35 (by decide) (by rw [s35_3]; decide) rfl ?_
        refine lv_aload_n S.1 S.2.1 dX6_best_60 rfl (lv_at hl 1 rfl) ?_
        refine x_get S hK hP dX6_best_61 hX (by decide) (RX6, TX6, 9) rfl hin6 6 (by decide) fl42 rfl ?_
        refine lv_iload_n S.1 S.2.1 dX6_best_64 rfl (lv_at hl 0 rfl) ?_
        refine x_si (va_runV (As := [.int (nI (mk (pU (zM z)) (zn z)))]) (rest := []) S (c_X0_missedOf l g E1 hp hA (i := i) (j := j) (k := k) (by omega) (by omega) g3 (P := pU (zM z)) (lo_pos hv1 g1 g2 g3)) (cwV 1 S.2.2.2.2 gX6_best_X0_missedOf rfl rfl rfl (by decide +kernel) ⟨Nat.le_of_ble_eq_true rfl, Nat.le_of_ble_eq_true rfl⟩) (x_preV hK hP hA (by decide) rfl) rfl rfl hl.1 rfl (lv_room (Nat.le_of_ble_eq_true rfl)) dX6_best_65 ⟨Nat.le_of_ble_eq_true rfl, Nat.le_of_ble_eq_true rfl⟩) (fun r65 hr65 => ?_)
        subst hr65
        refine x_si (va_runS (As := [.int (nI (mk (pM (zM z) (pU (zM z)) i j k) (zn z)))]) (rest := []) S (c_J6_bitCount_0f7a4 l g E1 (nI (mk (pM (zM z) (pU (zM z)) i j k) (zn z)))) (va_cwS 1 S.2.2.2.2 gX6_best_J6_bitCount_0f7a4 rfl rfl rfl (by decide +kernel) ⟨Nat.le_of_ble_eq_true rfl, Nat.le_of_ble_eq_true rfl⟩) (x_preS hK hP) rfl rfl hl.1 rfl (lv_room (Nat.le_of_ble_eq_true rfl)) dX6_best_68 ⟨Nat.le_of_ble_eq_true rfl, Nat.le_of_ble_eq_true rfl⟩) (fun r68 hr68 => ?_)
        rw [bc_mk h0.2] at hr68
        exact x_iret S hr hlocks hP hS dX6_best_71 (⟨Or.inr ⟨hr3.t c6, Or.inr ⟨i, j, k, hb, by rw [if_pos s35_3]; exact hr68⟩⟩, sX.mk hX rfl hp hsn hH hHe h57 h58 h59 hA h61 h62 h63 hZ, hfm⟩)
      rcases Classical.em (w = 4) with s35_4 | s35_4
      · refine lv_lookup (off := 37) (tgt := 72) S.1 S.2.1 dX6_best_35 (by decide) (by rw [s35_4]; decide) rfl ?_
        refine lv_aload_n S.1 S.2.1 dX6_best_72 rfl (lv_at hl 1 rfl) ?_
        refine x_get S hK hP dX6_best_73 hX (by decide) (RX6, TX6, 9) rfl hin6 6 (by decide) fl42 rfl ?_
        refine lv_iload_n S.1 S.2.1 dX6_best_76 rfl (lv_at hl 0 rfl) ?_
        refine x_si (va_runV (As := [.int (nI (mk (pU (zM z)) (zn z)))]) (rest := []) S (c_X0_missedOf l g E1 hp hA (i := i) (j := j) (k := k) (by omega) (by omega) g3 (P := pU (zM z)) (lo_pos hv1 g1 g2 g3)) (cwV 1 S.2.2.2.2 gX6_best_X0_missedOf rfl rfl rfl (by decide +kernel) ⟨Nat.le_of_ble_eq_true rfl, Nat.le_of_ble_eq_true rfl⟩) (x_preV hK hP hA (by decide) rfl) rfl rfl hl.1 rfl (lv_room (Nat.le_of_ble_eq_true rfl)) dX6_best_77 ⟨Nat.le_of_ble_eq_true rfl, Nat.le_of_ble_eq_true rfl⟩) (fun r77 hr77 => ?_)
        subst hr77
        exact x_iret S hr hlocks hP hS dX6_best_80 (⟨Or.inr ⟨hr3.t c6, Or.inr ⟨i, j, k, hb, by rw [if_neg s35_3, if_pos s35_4]⟩⟩, sX.mk hX rfl hp hsn hH hHe h57 h58 h59 hA h61 h62 h63 hZ, hfm⟩)
      refine lv_lookup (off := 46) (tgt := 81) S.1 S.2.1 dX6_best_35 (by decide) (by refine (lv_osw (k := 3) s35_3 (by decide)).trans ?_; refine (lv_osw (k := 4) s35_4 (by decide)).trans ?_; rfl) rfl ?_
      refine lv_aload_n S.1 S.2.1 dX6_best_81 rfl (lv_at hl 1 rfl) ?_
      refine x_get S hK hP dX6_best_82 hX (by decide) (RX6, TX6, 9) rfl hin6 6 (by decide) fl42 rfl ?_
      refine lv_iload_n S.1 S.2.1 dX6_best_85 rfl (lv_at hl 2 rfl) ?_
      refine x_si (va_runV (As := [.int w]) (rest := []) S (c_X0_photoOf l g E1 hp hA (i := i) (j := j) (k := k) (by omega) (by omega) g3 w) (cwV 1 S.2.2.2.2 gX6_best_X0_photoOf rfl rfl rfl (by decide +kernel) ⟨Nat.le_of_ble_eq_true rfl, Nat.le_of_ble_eq_true rfl⟩) (x_preV hK hP hA (by decide) rfl) rfl rfl hl.1 rfl (lv_room (Nat.le_of_ble_eq_true rfl)) dX6_best_86 ⟨Nat.le_of_ble_eq_true rfl, Nat.le_of_ble_eq_true rfl⟩) (fun r86 hr86 => ?_)
      exact x_iret S hr hlocks hP hS dX6_best_89 (⟨Or.inr ⟨hr3.t c6, Or.inr ⟨i, j, k, hb, by rw [if_neg s35_3, if_neg s35_4]; exact hr86⟩⟩, sX.mk hX rfl hp hsn hH hHe h57 h58 h59 hA h61 h62 h63 hZ, hfm⟩)
    · skip
      refine lv_bipush (v := (-4)) S.1 S.2.1 dX6_best_31 (by decide) ?_
      exact x_iret S hr hlocks hP hS dX6_best_33 (by rcases hor with ⟨h1, -⟩ | ⟨-, hno, y1, y2, y3, hA⟩; rw [h1] at c28; exact absurd c28 (by decide); exact ⟨Or.inr ⟨hr3.t c6, Or.inl ⟨hno, rfl⟩⟩, sX.mk hX rfl hp hsn hH hHe h57 h58 h59 hA h61 h62 h63 hZ, hfm⟩)
  · skip
    refine lv_bipush (v := (-2)) S.1 S.2.1 dX6_best_9 (by decide) ?_
    exact x_iret S hr hlocks hP hS dX6_best_11 (⟨Or.inl ⟨hr3.f c6, rfl⟩, sX.mk hX rfl hp hsn hH hHe h57 h58 h59 hA h61 h62 h63 hZ, hfm⟩)
set_option maxHeartbeats 4000000 in
set_option maxRecDepth 100000 in
theorem c_X6_bestAt (l : Launch) (g : xG) (hJ : xJ (xad g)) (E : Nat → va_E) {z : xS} (hz : sX g E z) (hv : vS z) (t w q : Int32) : Met l yX6_bestAt wsX6_bestAt ({ frames := 3, cells := 0, slots := 0, locals := 101 }) (xPc g [.ref (xad g 0), .int t, .int w, .int q] E) (xQl g (fun r E1 => sp_bestAt z t w q r ∧ sX g E1 z ∧ ∀ j, 65 ≤ j → E1 j = E j)) 0 0 (xA (xad g)) := by
  refine x_met (ws' := _) (by decide) rfl (Nat.le_of_ble_eq_true rfl) ?_
  intro pz ez s m below meth cz ls S hr hlocks hP hK hl
  have hl : lv_has ls 4 [(0, .ref (xad g 0)), (1, .int t), (2, .int w), (3, .int q)] := hl
  have hS : va_S (xA (xad g)) s.heap s.heap [] := va_S.rf
  have hin6 : ∀ w ∈ u_ws RX6 TX6 9, w ∈ wsX6_bestAt := by decide +kernel
  have fl10 : Cond.fieldLink RX6 10 "DiscArcs" "photos" "LDiscArcs$Photos;" ∈ wsX6_bestAt := by decide +kernel
  have fl42 : Cond.fieldLink RX6 42 "DiscArcs" "curve" "LDiscArcs$Arc;" ∈ wsX6_bestAt := by decide +kernel
  obtain ⟨hX, hp, hsn, ⟨B, N, MM, hH, hHe⟩, ⟨p0, ta, h57⟩, h58, ⟨f6, h59⟩, ⟨x1, x2, x3, hA⟩, h61, ⟨f2, h62⟩, ⟨f3, h63⟩, u1, u2, u3, hZ⟩ := hz
  have h0 := hp.1
  have hv1 := hv.1.2
  have hfm : ∀ j, 65 ≤ j → E j = E j := fun _ _ => rfl
  refine lv_iload_n S.1 S.2.1 dX6_bestAt_0 rfl (lv_at hl 1 rfl) ?_
  refine lv_iload_n S.1 S.2.1 dX6_bestAt_1 rfl (lv_at hl 2 rfl) ?_
  refine lv_iload_n S.1 S.2.1 dX6_bestAt_2 rfl (lv_at hl 3 rfl) ?_
  refine x_si (va_runS (As := [.int t, .int w, .int q]) (rest := []) S (c_X6_isAskForFraction l g E t w q) (va_cwS 3 S.2.2.2.2 gX6_bestAt_X6_isAskForFraction rfl rfl rfl (by decide +kernel) ⟨Nat.le_of_ble_eq_true rfl, Nat.le_of_ble_eq_true rfl⟩) (x_preS hK hP) rfl rfl hl.1 rfl (lv_room (Nat.le_of_ble_eq_true rfl)) dX6_bestAt_3 ⟨Nat.le_of_ble_eq_true rfl, Nat.le_of_ble_eq_true rfl⟩) (fun r3 hr3 => ?_)
  refine lv_if_ne (tgt := 13) S.1 S.2.1 dX6_bestAt_6 (by decide) (fun c6 => ?_) (fun c6 => ?_)
  · skip
    refine lv_aload_n S.1 S.2.1 dX6_bestAt_13 rfl (lv_at hl 0 rfl) ?_
    refine x_get S hK hP dX6_bestAt_14 hX (by decide) (RX6, TX6, 9) rfl hin6 6 (by decide) fl42 rfl ?_
    refine lv_aload_n S.1 S.2.1 dX6_bestAt_17 rfl (lv_at hl 0 rfl) ?_
    refine x_get S hK hP dX6_bestAt_18 hX (by decide) (RX6, TX6, 9) rfl hin6 0 (by decide) fl10 rfl ?_
    refine x_si (va_runV (As := []) (rest := [.ref (xad g 60)]) S (c_X2_usable l g E hp) (cwV 0 S.2.2.2.2 gX6_bestAt_X2_usable rfl rfl rfl (by decide +kernel) ⟨Nat.le_of_ble_eq_true rfl, Nat.le_of_ble_eq_true rfl⟩) (x_preV hK hP hp.2.1 (by decide) rfl) rfl rfl hl.1 rfl (lv_room (Nat.le_of_ble_eq_true rfl)) dX6_bestAt_21 ⟨Nat.le_of_ble_eq_true rfl, Nat.le_of_ble_eq_true rfl⟩) (fun r21 hr21 => ?_)
    subst hr21
    refine x_qi (va_runV (As := [.int (nI (mk (pU (zM z)) (zn z)))]) (rest := []) S (c_X0_layBest l g hJ E hp hA hv1 (pU (zM z))) (cwV 1 S.2.2.2.2 gX6_bestAt_X0_layBest rfl rfl rfl (by decide +kernel) ⟨Nat.le_of_ble_eq_true rfl, Nat.le_of_ble_eq_true rfl⟩) (x_preV hK hP hA (by decide) rfl) rfl rfl hl.1 rfl (lv_room (Nat.le_of_ble_eq_true rfl)) dX6_bestAt_24 ⟨Nat.le_of_ble_eq_true rfl, Nat.le_of_ble_eq_true rfl⟩) hS (fun r24 E1 H locs hq24 hP hS => ?_)
    obtain ⟨hfr24, hor⟩ := hq24
    have hX := (hfr24 0 (by decide)).trans hX
    have hp := hp.keep (E1 := E1) (fun j g1 g2 => hfr24 j (by omega))
    have hsn := hsn.keep (E1 := E1) (fun j g1 g2 => hfr24 j (by omega))
    have hH := hH.keep (E1 := E1) (fun j g1 g2 => hfr24 j (by omega))
    have h57 := (hfr24 57 (by decide)).trans h57
    have h58 := (hfr24 58 (by decide)).trans h58
    have h59 := (hfr24 59 (by decide)).trans h59
    have h61 := (hfr24 61 (by decide)).trans h61
    have h62 := (hfr24 62 (by decide)).trans h62
    have h63 := (hfr24 63 (by decide)).trans h63
    have hZ := (hfr24 64 (by decide)).trans hZ
    have hfm : ∀ j, 65 ≤ j → E1 j = E j := fun j hj => (hfr24 j (by omega)).trans (hfm j hj)
    refine lv_if_ne (tgt := 34) S.1 S.2.1 dX6_bestAt_27 (by decide) (fun c27 => ?_) (fun c27 => ?_)
    · skip
      obtain ⟨i, j, k, hb, hA⟩ : ∃ i j k, isBest (zM z) (pU (zM z)) (zn z) i j k ∧ E1 60 = .inr (0, [.ref (xad g 1), .int (nI i), .int (nI j), .int (nI k)]) := by rcases hor with ⟨-, h⟩ | ⟨h0, -⟩; exact h; exact absurd h0 c27
      obtain ⟨g1, g2, g3, -⟩ := id hb.1
      have hask := hr3.t c6
      obtain ⟨v, hv2, rfl⟩ := in_nat (m := 1) (by decide) hask.2.1.1 hask.2.1.2
      refine lv_aload_n S.1 S.2.1 dX6_bestAt_34 rfl (lv_at hl 0 rfl) ?_
      refine x_get S hK hP dX6_bestAt_35 hX (by decide) (RX6, TX6, 9) rfl hin6 6 (by decide) fl42 rfl ?_
      refine lv_iload_n S.1 S.2.1 dX6_bestAt_38 rfl (lv_at hl 2 rfl) ?_
      refine lv_iload_n S.1 S.2.1 dX6_bestAt_39 rfl (lv_at hl 1 rfl) ?_
      refine lv_i2l (v := t.toInt64) S.1 S.2.1 dX6_bestAt_40 rfl ?_
      refine x_sl (va_runV (As := [.int (nI v), .long (t.toInt64)]) (rest := []) S (c_X0_upper l g E1 hp hA (i := i) (j := j) (k := k) (by omega) (by omega) g3 (w := v) (by omega) t.toInt64) (cwV 2 S.2.2.2.2 gX6_bestAt_X0_upper rfl rfl rfl (by decide +kernel) ⟨Nat.le_of_ble_eq_true rfl, Nat.le_of_ble_eq_true rfl⟩) (x_preV hK hP hA (by decide) rfl) rfl rfl hl.1 rfl (lv_room (Nat.le_of_ble_eq_true rfl)) dX6_bestAt_41 ⟨Nat.le_of_ble_eq_true rfl, Nat.le_of_ble_eq_true rfl⟩) (fun r41 hr41 => ?_)
      refine lv_aload_n S.1 S.2.1 dX6_bestAt_44 rfl (lv_at hl 0 rfl) ?_
      refine x_get S hK hP dX6_bestAt_45 hX (by decide) (RX6, TX6, 9) rfl hin6 6 (by decide) fl42 rfl ?_
      refine x_sl (va_runV (As := []) (rest := [.long r41]) S (c_X0_lower l g E1 hp hA (i := i) (j := j) (k := k) (by omega) (by omega) g3) (cwV 0 S.2.2.2.2 gX6_bestAt_X0_lower rfl rfl rfl (by decide +kernel) ⟨Nat.le_of_ble_eq_true rfl, Nat.le_of_ble_eq_true rfl⟩) (x_preV hK hP hA (by decide) rfl) rfl rfl hl.1 rfl (lv_room (Nat.le_of_ble_eq_true rfl)) dX6_bestAt_48 ⟨Nat.le_of_ble_eq_true rfl, Nat.le_of_ble_eq_true rfl⟩) (fun r48 hr48 => ?_)
      refine lv_iload_n S.1 S.2.1 dX6_bestAt_51 rfl (lv_at hl 3 rfl) ?_
      obtain ⟨l1, l2, l3⟩ := lo_lN hv1 (r := i) (s := j) (t := k) (by omega) (by omega) (by omega)
      refine W.eq (g2 := F0 m 52 ls [.int q, .long (lN (loN (zM z) i j k).toInt.toNat), .long (upN (zM z) v i j k t.toInt64)]) (by rw [hr41, hr48, ← l1]) ?_
      refine x_sl (va_runS (As := [.long (upN (zM z) v i j k t.toInt64), .long (lN (loN (zM z) i j k).toInt.toNat), .int q]) (rest := []) S (c_X6_partOf l g E1 (u := upN (zM z) v i j k t.toInt64) (b := (loN (zM z) i j k).toInt.toNat) q (up_bound hv1 (by omega) (by omega) (by omega) (by omega) (by rw [Int32.toInt_toInt64]; exact rng_toInt hask.1)) l2 l3) (va_cwS 3 S.2.2.2.2 gX6_bestAt_X6_partOf rfl rfl rfl (by decide +kernel) ⟨Nat.le_of_ble_eq_true rfl, Nat.le_of_ble_eq_true rfl⟩) (x_preS hK hP) rfl rfl hl.1 rfl (lv_room (Nat.le_of_ble_eq_true rfl)) dX6_bestAt_52 ⟨Nat.le_of_ble_eq_true rfl, Nat.le_of_ble_eq_true rfl⟩) (fun r52 hr52 => ?_)
      exact x_lret S hr hlocks hP hS dX6_bestAt_55 (⟨Or.inr ⟨hask, Or.inr ⟨i, j, k, v, hb, by omega, rfl, hr52⟩⟩, sX.mk hX rfl hp hsn hH hHe h57 h58 h59 hA h61 h62 h63 hZ, hfm⟩)
    · skip
      refine lv_ldc2 S.1 S.2.1 S.2.2.2.1 (S.2.2.2.2 (.constantLong RX6 175 (-4)) (by decide +kernel)) dX6_bestAt_30 ?_
      exact x_lret S hr hlocks hP hS dX6_bestAt_33 (by rcases hor with ⟨h1, -⟩ | ⟨-, hno, y1, y2, y3, hA⟩; rw [h1] at c27; exact absurd c27 (by decide); exact ⟨Or.inr ⟨hr3.t c6, Or.inl ⟨hno, rfl⟩⟩, sX.mk hX rfl hp hsn hH hHe h57 h58 h59 hA h61 h62 h63 hZ, hfm⟩)
  · skip
    refine lv_ldc2 S.1 S.2.1 S.2.2.2.1 (S.2.2.2.2 (.constantLong RX6 170 (-2)) (by decide +kernel)) dX6_bestAt_9 ?_
    exact x_lret S hr hlocks hP hS dX6_bestAt_12 (⟨Or.inl ⟨hr3.f c6, rfl⟩, sX.mk hX rfl hp hsn hH hHe h57 h58 h59 hA h61 h62 h63 hZ, hfm⟩)
set_option maxHeartbeats 4000000 in
set_option maxRecDepth 100000 in
theorem c_X6_lands (l : Launch) (g : xG) (hJ : xJ (xad g)) (E : Nat → va_E) {z : xS} (hz : sX g E z) (hv : vS z)  : Met l yX6_lands wsX6_lands ({ frames := 3, cells := 0, slots := 0, locals := 101 }) (xPc g [.ref (xad g 0)] E) (xQi g (fun r E1 => sp_lands z r ∧ sX g E1 z ∧ ∀ j, 65 ≤ j → E1 j = E j)) 0 0 (xA (xad g)) := by
  refine x_met (ws' := _) (by decide) rfl (Nat.le_of_ble_eq_true rfl) ?_
  intro pz ez s m below meth cz ls S hr hlocks hP hK hl
  have hl : lv_has ls 2 [(0, .ref (xad g 0))] := hl
  have hS : va_S (xA (xad g)) s.heap s.heap [] := va_S.rf
  have hin0 : ∀ w ∈ u_ws RX0 TX0 4, w ∈ wsX6_lands := by decide +kernel
  have hin2 : ∀ w ∈ u_ws RX2 TX2 2, w ∈ wsX6_lands := by decide +kernel
  have hin6 : ∀ w ∈ u_ws RX6 TX6 9, w ∈ wsX6_lands := by decide +kernel
  have fl10 : Cond.fieldLink RX6 10 "DiscArcs" "photos" "LDiscArcs$Photos;" ∈ wsX6_lands := by decide +kernel
  have fl42 : Cond.fieldLink RX6 42 "DiscArcs" "curve" "LDiscArcs$Arc;" ∈ wsX6_lands := by decide +kernel
  have fl90 : Cond.fieldLink RX6 90 "DiscArcs$Photos" "rows" "[[I" ∈ wsX6_lands := by decide +kernel
  have fl196 : Cond.fieldLink RX6 196 "DiscArcs$Arc" "first" "I" ∈ wsX6_lands := by decide +kernel
  obtain ⟨hX, hp, hsn, ⟨B, N, MM, hH, hHe⟩, ⟨p0, ta, h57⟩, h58, ⟨f6, h59⟩, ⟨x1, x2, x3, hA⟩, h61, ⟨f2, h62⟩, ⟨f3, h63⟩, u1, u2, u3, hZ⟩ := hz
  have h0 := hp.1
  have hv1 := hv.1.2
  have hfm : ∀ j, 65 ≤ j → E j = E j := fun _ _ => rfl
  refine lv_aload_n S.1 S.2.1 dX6_lands_0 rfl (lv_at hl 0 rfl) ?_
  refine x_get S hK hP dX6_lands_1 hX (by decide) (RX6, TX6, 9) rfl hin6 6 (by decide) fl42 rfl ?_
  refine lv_aload_n S.1 S.2.1 dX6_lands_4 rfl (lv_at hl 0 rfl) ?_
  refine x_get S hK hP dX6_lands_5 hX (by decide) (RX6, TX6, 9) rfl hin6 0 (by decide) fl10 rfl ?_
  refine x_si (va_runV (As := []) (rest := [.ref (xad g 60)]) S (c_X2_usable l g E hp) (cwV 0 S.2.2.2.2 gX6_lands_X2_usable rfl rfl rfl (by decide +kernel) ⟨Nat.le_of_ble_eq_true rfl, Nat.le_of_ble_eq_true rfl⟩) (x_preV hK hP hp.2.1 (by decide) rfl) rfl rfl hl.1 rfl (lv_room (Nat.le_of_ble_eq_true rfl)) dX6_lands_8 ⟨Nat.le_of_ble_eq_true rfl, Nat.le_of_ble_eq_true rfl⟩) (fun r8 hr8 => ?_)
  subst hr8
  refine x_qi (va_runV (As := [.int (nI (mk (pU (zM z)) (zn z)))]) (rest := []) S (c_X0_layBest l g hJ E hp hA hv1 (pU (zM z))) (cwV 1 S.2.2.2.2 gX6_lands_X0_layBest rfl rfl rfl (by decide +kernel) ⟨Nat.le_of_ble_eq_true rfl, Nat.le_of_ble_eq_true rfl⟩) (x_preV hK hP hA (by decide) rfl) rfl rfl hl.1 rfl (lv_room (Nat.le_of_ble_eq_true rfl)) dX6_lands_11 ⟨Nat.le_of_ble_eq_true rfl, Nat.le_of_ble_eq_true rfl⟩) hS (fun r11 E1 H locs hq11 hP hS => ?_)
  obtain ⟨hfr11, hor⟩ := hq11
  have hX := (hfr11 0 (by decide)).trans hX
  have hp := hp.keep (E1 := E1) (fun j g1 g2 => hfr11 j (by omega))
  have hsn := hsn.keep (E1 := E1) (fun j g1 g2 => hfr11 j (by omega))
  have hH := hH.keep (E1 := E1) (fun j g1 g2 => hfr11 j (by omega))
  have h57 := (hfr11 57 (by decide)).trans h57
  have h58 := (hfr11 58 (by decide)).trans h58
  have h59 := (hfr11 59 (by decide)).trans h59
  have h61 := (hfr11 61 (by decide)).trans h61
  have h62 := (hfr11 62 (by decide)).trans h62
  have h63 := (hfr11 63 (by decide)).trans h63
  have hZ := (hfr11 64 (by decide)).trans hZ
  have hfm : ∀ j, 65 ≤ j → E1 j = E j := fun j hj => (hfr11 j (by omega)).trans (hfm j hj)
  refine lv_if_ne (tgt := 20) S.1 S.2.1 dX6_lands_14 (by decide) (fun c14 => ?_) (fun c14 => ?_)
  · skip
    obtain ⟨i, j, k, hb, hA⟩ : ∃ i j k, isBest (zM z) (pU (zM z)) (zn z) i j k ∧ E1 60 = .inr (0, [.ref (xad g 1), .int (nI i), .int (nI j), .int (nI k)]) := by rcases hor with ⟨-, h⟩ | ⟨h0, -⟩; exact h; exact absurd h0 c14
    obtain ⟨g1, g2, g3, -⟩ := id hb.1
    refine lv_aload_n S.1 S.2.1 dX6_lands_20 rfl (lv_at hl 0 rfl) ?_
    refine x_get S hK hP dX6_lands_21 hX (by decide) (RX6, TX6, 9) rfl hin6 0 (by decide) fl10 rfl ?_
    refine x_get S hK hP dX6_lands_24 hp.2.1 (by decide) (RX2, TX2, 2) rfl hin2 0 (by decide) fl90 rfl ?_
    refine lv_iconst (v := 0) S.1 S.2.1 dX6_lands_27 (by decide) ?_
    refine x_row S hK hP dX6_lands_28 hp 0 rfl (by omega) ?_
    refine lv_aload_n S.1 S.2.1 dX6_lands_29 rfl (lv_at hl 0 rfl) ?_
    refine x_get S hK hP dX6_lands_30 hX (by decide) (RX6, TX6, 9) rfl hin6 6 (by decide) fl42 rfl ?_
    refine x_get S hK hP dX6_lands_33 hA (by decide) (RX0, TX0, 4) rfl hin0 1 (by decide) fl196 rfl ?_
    refine x_val S hK hP dX6_lands_36 hp (w := 0) i rfl (by omega) (by omega) ?_
    obtain ⟨a, ha, ha9⟩ := tm_nat hv1 (show i < zn z by omega)
    refine W.eq (g2 := F0 m 37 ls [.int (nI a)]) (by rw [ha]) ?_
    refine lv_istore_n (lv' := [(1, .int (nI a)), (0, .ref (xad g 0))]) S.1 S.2.1 dX6_lands_37 rfl hl (by decide) rfl (fun ls hl => ?_)
    have loop38 : ∀ (d : Nat) (u : Nat) (EL : Nat → va_E) (H : Heap) (locs : List Loc), (hau : a ≤ u) → (hu : u ≤ 100) → (hnu : ∀ v, a ≤ v → v < u → ¬ upN (zM z) 1 i j k (nI v).toInt64 ≤ 0) → (101 - u) < d → (hX : EL 0 = .inr (6, [.ref (xad g 1), .ref (xad g 10), .int (bI (zf z)), .ref (xad g 19), .ref (xad g 57), .ref (xad g 59), .ref (xad g 60), .ref (xad g 61), .ref (xad g 64)])) → (hp : ePh g EL 1 (zn z) (zM z)) → (hsn : ePh g EL 10 (zsn z) (zsM z)) → (hH : eHi g EL (zh z) B N MM) → (h57 : EL 57 = .inr (4, [.ref (xad g 58), .int (nI (ztl z)), .int p0, .int ta])) → (h58 : EL 58 = .inl (xC g, 60, .inl (ztf z))) → (h59 : EL 59 = .inl (xI g, 6, .inl f6)) → (hA : EL 60 = .inr (0, [.ref (xad g 1), .int (nI i), .int (nI j), .int (nI k)])) → (h61 : EL 61 = .inr (5, [.ref (xad g 1), .ref (xad g 60), .ref (xad g 62), .ref (xad g 63)])) → (h62 : EL 62 = .inl (xI g, 11, .inl f2)) → (h63 : EL 63 = .inl (xI g, 11, .inl f3)) → (hZ : EL 64 = .inr (3, [.ref (xad g 1), .int u1, .int u2, .int u3])) → (hfm : ∀ j, 65 ≤ j → EL j = E j) → xP g EL H → va_S (xA (xad g)) s.heap H locs → ∀ ls : Array Slot, lv_has ls 2 [(1, .int (nI u)), (0, .ref (xad g 0))] → W pz l ez ({ frames := 3, cells := 0, slots := 0, locals := 101 }) s m ([.ref (xad g 0)] : List Value).toArray below meth cz H locs 0 0 (MQ below (xQi g (fun r E1 => sp_lands z r ∧ sX g E1 z ∧ ∀ j, 65 ≤ j → E1 j = E j)) ([.ref (xad g 0)] : List Value).toArray s 0 0 (xA (xad g))) (F0 m 38 ls []) := by
      intro d
      induction d with
      | zero => intro u EL H locs hau hu hnu hd; exact absurd hd (Nat.not_lt_zero _)
      | succ d ih38 =>
        intro u EL H locs hau hu hnu hd hX hp hsn hH h57 h58 h59 hA h61 h62 h63 hZ hfm hP hS ls hl
        refine lv_iload_n S.1 S.2.1 dX6_lands_38 rfl (lv_at hl 0 rfl) ?_
        refine lv_bipush (v := 99) S.1 S.2.1 dX6_lands_39 (by decide) ?_
        refine lv_icmp_gt (tgt := 67) S.1 S.2.1 dX6_lands_41 (by decide) (fun c41 => ?_) (fun c41 => ?_)
        · skip
          refine lv_bipush (v := (-5)) S.1 S.2.1 dX6_lands_67 (by decide) ?_
          exact x_iret S hr hlocks hP hS dX6_lands_69 (⟨Or.inr ⟨i, j, k, a, hb, ha, ha9, Or.inr ⟨fun v h1 h2 => hnu v h1 (by have := (nI_ltI (a := 99) (by decide) (by omega)).mp c41; omega), rfl⟩⟩, sX.mk hX rfl hp hsn hH hHe h57 h58 h59 hA h61 h62 h63 hZ, hfm⟩)
        · skip
          have hu9 : u ≤ 99 := Nat.not_lt.mp (fun h => c41 ((nI_ltI (a := 99) (by decide) (by omega)).mpr h))
          refine lv_aload_n S.1 S.2.1 dX6_lands_44 rfl (lv_at hl 1 rfl) ?_
          refine x_get S hK hP dX6_lands_45 hX (by decide) (RX6, TX6, 9) rfl hin6 6 (by decide) fl42 rfl ?_
          refine lv_iconst (v := 1) S.1 S.2.1 dX6_lands_48 (by decide) ?_
          refine lv_iload_n S.1 S.2.1 dX6_lands_49 rfl (lv_at hl 0 rfl) ?_
          refine lv_i2l (v := (nI u).toInt64) S.1 S.2.1 dX6_lands_50 rfl ?_
          refine x_sl (va_runV (As := [.int 1, .long ((nI u).toInt64)]) (rest := []) S (c_X0_upper l g EL hp hA (i := i) (j := j) (k := k) (by omega) (by omega) g3 (w := 1) (by decide) (nI u).toInt64) (cwV 2 S.2.2.2.2 gX6_lands_X0_upper rfl rfl rfl (by decide +kernel) ⟨Nat.le_of_ble_eq_true rfl, Nat.le_of_ble_eq_true rfl⟩) (x_preV hK hP hA (by decide) rfl) rfl rfl hl.1 rfl (lv_room (Nat.le_of_ble_eq_true rfl)) dX6_lands_51 ⟨Nat.le_of_ble_eq_true rfl, Nat.le_of_ble_eq_true rfl⟩) (fun r51 hr51 => ?_)
          subst hr51
          refine lv_lconst (v := 0) S.1 S.2.1 dX6_lands_54 rfl ?_
          refine W.lcmp S.1 S.2.1 dX6_lands_55 ?_
          refine lv_if_gt (tgt := 61) S.1 S.2.1 dX6_lands_56 (by decide) (fun c56 => ?_) (fun c56 => ?_)
          · skip
            refine lv_iinc (v := nI (u + 1)) (lv' := [(1, .int (nI (u + 1))), (0, .ref (xad g 0))]) S.1 S.2.1 dX6_lands_61 hl (k := 0) rfl (show nI u + Int32.ofInt 1 = _ from nI_1 _) (by decide) rfl (fun ls hl => ?_)
            refine lv_goto (tgt := 38) S.1 S.2.1 dX6_lands_64 (by decide) ?_
            exact ih38 (u + 1) _ _ _ (by omega) (by omega) (fun v h1 h2 => by rcases Classical.em (v = u) with e9 | e9; subst e9; exact Int64.not_le.mpr ((lg_cmp_gt _ _).mp c56); exact hnu v h1 (by omega)) (by omega) hX hp hsn hH h57 h58 h59 hA h61 h62 h63 hZ hfm hP hS ls (lv_sub hl [0, 1] rfl)
          · skip
            refine lv_iload_n S.1 S.2.1 dX6_lands_59 rfl (lv_at hl 0 rfl) ?_
            exact x_iret S hr hlocks hP hS dX6_lands_60 (⟨Or.inr ⟨i, j, k, a, hb, ha, ha9, Or.inl ⟨u, hau, hu9, Int64.not_lt.mp (fun h => c56 ((lg_cmp_gt _ _).mpr h)), hnu, rfl⟩⟩, sX.mk hX rfl hp hsn hH hHe h57 h58 h59 hA h61 h62 h63 hZ, hfm⟩)
    exact loop38 _ a _ _ _ (Nat.le_refl _) (by omega) (fun v h1 h2 => by omega) (Nat.lt_succ_self _) hX hp hsn hH h57 h58 h59 hA h61 h62 h63 hZ hfm hP hS ls (lv_sub hl [0, 1] rfl)
  · skip
    refine lv_bipush (v := (-4)) S.1 S.2.1 dX6_lands_17 (by decide) ?_
    exact x_iret S hr hlocks hP hS dX6_lands_19 (by rcases hor with ⟨h1, -⟩ | ⟨-, hno, y1, y2, y3, hA⟩; rw [h1] at c14; exact absurd c14 (by decide); exact ⟨Or.inl ⟨hno, rfl⟩, sX.mk hX rfl hp hsn hH hHe h57 h58 h59 hA h61 h62 h63 hZ, hfm⟩)
theorem ifs3 {w x y z : Int32} : (if w - 3 = 0 then x else if w - 3 = 1 then y else z) = if w = 3 then x else if w = 4 then y else z := by
  have e0 : (0 : Int32) + 3 = 3 := by decide
  have e1 : (1 : Int32) + 3 = 4 := by decide
  have h0 := sub3 (x := w) (c := 0)
  have h1 := sub3 (x := w) (c := 1)
  rw [e0] at h0
  rw [e1] at h1
  by_cases c0 : w = 3
  · rw [if_pos (h0.mpr c0), if_pos c0]
  · rw [if_neg (fun h => c0 (h0.mp h)), if_neg c0]
    by_cases c1 : w = 4
    · rw [if_pos (h1.mpr c1), if_pos c1]
    · rw [if_neg (fun h => c1 (h1.mp h)), if_neg c1]
set_option maxHeartbeats 4000000 in
set_option maxRecDepth 100000 in
theorem c_X6_track (l : Launch) (g : xG) (hJ : xJ (xad g)) (E : Nat → va_E) {z : xS} (hz : sX g E z) (hv : vS z) (x w : Int32) : Met l yX6_track wsX6_track ({ frames := 6, cells := 0, slots := 0, locals := 165 }) (xPc g [.ref (xad g 0), .int x, .int w] E) (xQi g (fun r E1 => sp_track z x w r ∧ sX g E1 z ∧ ∀ j, 65 ≤ j → E1 j = E j)) 0 0 (xA (xad g)) := by
  refine x_met (ws' := _) (by decide) rfl (Nat.le_of_ble_eq_true rfl) ?_
  intro pz ez s m below meth cz ls S hr hlocks hP hK hl
  have hl : lv_has ls 4 [(0, .ref (xad g 0)), (1, .int x), (2, .int w)] := hl
  have hS : va_S (xA (xad g)) s.heap s.heap [] := va_S.rf
  have hin6 : ∀ w ∈ u_ws RX6 TX6 9, w ∈ wsX6_track := by decide +kernel
  have fl42 : Cond.fieldLink RX6 42 "DiscArcs" "curve" "LDiscArcs$Arc;" ∈ wsX6_track := by decide +kernel
  have fl51 : Cond.fieldLink RX6 51 "DiscArcs" "parting" "LDiscArcs$Track;" ∈ wsX6_track := by decide +kernel
  obtain ⟨hX, hp, hsn, ⟨B, N, MM, hH, hHe⟩, ⟨p0, ta, h57⟩, h58, ⟨f6, h59⟩, ⟨x1, x2, x3, hA⟩, h61, ⟨f2, h62⟩, ⟨f3, h63⟩, u1, u2, u3, hZ⟩ := hz
  have h0 := hp.1
  have hv1 := hv.1.2
  have hfm : ∀ j, 65 ≤ j → E j = E j := fun _ _ => rfl
  refine lv_iload_n S.1 S.2.1 dX6_track_0 rfl (lv_at hl 1 rfl) ?_
  refine lv_if_lt (tgt := 13) S.1 S.2.1 dX6_track_1 (by decide) (fun c1 => ?_) (fun c1 => ?_)
  · skip
    refine lv_bipush (v := (-2)) S.1 S.2.1 dX6_track_13 (by decide) ?_
    exact x_iret S hr hlocks hP hS dX6_track_15 (⟨Or.inl ⟨by first | exact Or.inr (hr7.f c10) | exact Or.inl c1, rfl⟩, sX.mk hX rfl hp hsn hH hHe h57 h58 h59 hA h61 h62 h63 hZ, hfm⟩)
  · skip
    refine lv_iload_n S.1 S.2.1 dX6_track_4 rfl (lv_at hl 2 rfl) ?_
    refine lv_iconst (v := 0) S.1 S.2.1 dX6_track_5 (by decide) ?_
    refine lv_iconst (v := 5) S.1 S.2.1 dX6_track_6 (by decide) ?_
    refine x_si (va_runS (As := [.int w, .int 0, .int 5]) (rest := []) S (c_X6_isWithin l g E w 0 5) (va_cwS 3 S.2.2.2.2 gX6_track_X6_isWithin rfl rfl rfl (by decide +kernel) ⟨Nat.le_of_ble_eq_true rfl, Nat.le_of_ble_eq_true rfl⟩) (x_preS hK hP) rfl rfl hl.1 rfl (lv_room (Nat.le_of_ble_eq_true rfl)) dX6_track_7 ⟨Nat.le_of_ble_eq_true rfl, Nat.le_of_ble_eq_true rfl⟩) (fun r7 hr7 => ?_)
    refine lv_if_ne (tgt := 16) S.1 S.2.1 dX6_track_10 (by decide) (fun c10 => ?_) (fun c10 => ?_)
    · skip
      have hin : ¬ (x < 0 ∨ ¬ (0 ≤ w ∧ w ≤ 5)) := fun h => by rcases h with h | h; exact c1 h; exact h (hr7.t c10)
      obtain ⟨v9, hv9, rfl⟩ := nI_of c1
      refine lv_iload_n S.1 S.2.1 dX6_track_16 rfl (lv_at hl 1 rfl) ?_
      refine lv_aload_n S.1 S.2.1 dX6_track_17 rfl (lv_at hl 0 rfl) ?_
      refine x_get S hK hP dX6_track_18 hX (by decide) (RX6, TX6, 9) rfl hin6 7 (by decide) fl51 rfl ?_
      refine x_qi (va_runV (As := []) (rest := [.int (nI v9)]) S (c_X5_plan l g hJ E h61 hp hA hv1 h62 h63) (cwV 0 S.2.2.2.2 gX6_track_X5_plan rfl rfl rfl (by decide +kernel) ⟨Nat.le_of_ble_eq_true rfl, Nat.le_of_ble_eq_true rfl⟩) (x_preV hK hP h61 (by decide) rfl) rfl rfl hl.1 rfl (lv_room (Nat.le_of_ble_eq_true rfl)) dX6_track_21 ⟨Nat.le_of_ble_eq_true rfl, Nat.le_of_ble_eq_true rfl⟩) hS (fun r21 E1 H locs hq21 hP hS => ?_)
      obtain ⟨hfr21, ⟨w1, w2, w3, hA⟩, y2, y3, R, T, h62, h63, htk, hRT, hr21⟩ := hq21
      have hX := (hfr21 0 (by decide)).trans hX
      have hp := hp.keep (E1 := E1) (fun j g1 g2 => hfr21 j (by omega))
      have hsn := hsn.keep (E1 := E1) (fun j g1 g2 => hfr21 j (by omega))
      have hH := hH.keep (E1 := E1) (fun j g1 g2 => hfr21 j (by omega))
      have h57 := (hfr21 57 (by decide)).trans h57
      have h58 := (hfr21 58 (by decide)).trans h58
      have h59 := (hfr21 59 (by decide)).trans h59
      have h61 := (hfr21 61 (by decide)).trans h61
      have hZ := (hfr21 64 (by decide)).trans hZ
      have hfm : ∀ j, 65 ≤ j → E1 j = E j := fun j hj => (hfr21 j (by omega)).trans (hfm j hj)
      refine lv_icmp_lt (tgt := 30) S.1 S.2.1 dX6_track_24 (by decide) (fun c24 => ?_) (fun c24 => ?_)
      · skip
        have hR10 := (htk.le (zn z) 0 (Nat.zero_le _) (by omega)).1
        have hvR : v9 < R 0 := (nI_ltI hv9 (by omega)).mp (by rw [← hr21]; exact c24)
        refine lv_aload_n S.1 S.2.1 dX6_track_30 rfl (lv_at hl 0 rfl) ?_
        refine x_get S hK hP dX6_track_31 hX (by decide) (RX6, TX6, 9) rfl hin6 7 (by decide) fl51 rfl ?_
        refine lv_iload_n S.1 S.2.1 dX6_track_34 rfl (lv_at hl 1 rfl) ?_
        refine x_si (va_runV (As := [.int (nI v9)]) (rest := []) S (c_X5_rowAt l g E1 h61 hp h63 (T := T) (fun k hk => ⟨(hRT k hk).2, (htk.le (zn z) k hk (by omega)).2⟩) (w := v9) (by omega)) (cwV 1 S.2.2.2.2 gX6_track_X5_rowAt rfl rfl rfl (by decide +kernel) ⟨Nat.le_of_ble_eq_true rfl, Nat.le_of_ble_eq_true rfl⟩) (x_preV hK hP h61 (by decide) rfl) rfl rfl hl.1 rfl (lv_room (Nat.le_of_ble_eq_true rfl)) dX6_track_35 ⟨Nat.le_of_ble_eq_true rfl, Nat.le_of_ble_eq_true rfl⟩) (fun r35 hr35 => ?_)
        subst hr35
        obtain ⟨q9, hq9, hq99⟩ := htk.ne hvR
        have hpos := mk_pos hq9 hq99
        refine lv_istore_n (lv' := [(3, .int (nI (mk (pB (zM z) (itr (zn z) T v9 0) (T (itr (zn z) T v9 0))) (zn z)))), (0, .ref (xad g 0)), (1, .int (nI v9)), (2, .int w)]) S.1 S.2.1 dX6_track_38 rfl hl (by decide) rfl (fun ls hl => ?_)
        refine lv_iload_n S.1 S.2.1 dX6_track_39 rfl (lv_at hl 3 rfl) ?_
        rcases Classical.em (w = 0) with s40_0 | s40_0
        · refine lv_tableIn (off := 28) (tgt := 68) S.1 S.2.1 dX6_track_40 (by rw [s40_0]; decide) (by rw [s40_0]; decide) (by rw [s40_0]; rfl) rfl ?_
          refine lv_iload_n S.1 S.2.1 dX6_track_68 rfl (lv_at hl 0 rfl) ?_
          refine x_si (va_runS (As := [.int (nI (mk (pB (zM z) (itr (zn z) T v9 0) (T (itr (zn z) T v9 0))) (zn z)))]) (rest := []) S (c_J6_numberOfTrailingZeros_0f7a4 l g E1 (mk_lt10 (pB (zM z) (itr (zn z) T v9 0) (T (itr (zn z) T v9 0))) h0.2) hpos) (va_cwS 1 S.2.2.2.2 gX6_track_J6_numberOfTrailingZeros_0f7a4 rfl rfl rfl (by decide +kernel) ⟨Nat.le_of_ble_eq_true rfl, Nat.le_of_ble_eq_true rfl⟩) (x_preS hK hP) rfl rfl hl.1 rfl (lv_room (Nat.le_of_ble_eq_true rfl)) dX6_track_69 ⟨Nat.le_of_ble_eq_true rfl, Nat.le_of_ble_eq_true rfl⟩) (fun r69 hr69 => ?_)
          exact x_iret S hr hlocks hP hS dX6_track_72 (⟨Or.inr ⟨hin, R, T, htk, Or.inr ⟨v9, hvR, rfl, Or.inl ⟨s40_0, _, (lob_mk h0.2 hpos).1, (lob_mk h0.2 hpos).2.1, (lob_mk h0.2 hpos).2.2, hr69⟩⟩⟩, sX.mk hX rfl hp hsn hH hHe h57 h58 h59 hA h61 h62 h63 hZ, hfm⟩)
        rcases Classical.em (w = 1) with s40_1 | s40_1
        · refine lv_tableIn (off := 33) (tgt := 73) S.1 S.2.1 dX6_track_40 (by rw [s40_1]; decide) (by rw [s40_1]; decide) (by rw [s40_1]; rfl) rfl ?_
          refine lv_bipush (v := 31) S.1 S.2.1 dX6_track_73 (by decide) ?_
          refine lv_iload_n S.1 S.2.1 dX6_track_75 rfl (lv_at hl 0 rfl) ?_
          refine x_si (va_runS (As := [.int (nI (mk (pB (zM z) (itr (zn z) T v9 0) (T (itr (zn z) T v9 0))) (zn z)))]) (rest := [.int 31]) S (c_J6_numberOfLeadingZeros_0f7a4 l g E1 (mk_lt10 (pB (zM z) (itr (zn z) T v9 0) (T (itr (zn z) T v9 0))) h0.2) hpos) (va_cwS 1 S.2.2.2.2 gX6_track_J6_numberOfLeadingZeros_0f7a4 rfl rfl rfl (by decide +kernel) ⟨Nat.le_of_ble_eq_true rfl, Nat.le_of_ble_eq_true rfl⟩) (x_preS hK hP) rfl rfl hl.1 rfl (lv_room (Nat.le_of_ble_eq_true rfl)) dX6_track_76 ⟨Nat.le_of_ble_eq_true rfl, Nat.le_of_ble_eq_true rfl⟩) (fun r76 hr76 => ?_)
          refine lv_isub S.1 S.2.1 dX6_track_79 ?_
          exact x_iret S hr hlocks hP hS dX6_track_80 (⟨Or.inr ⟨hin, R, T, htk, Or.inr ⟨v9, hvR, rfl, Or.inr (Or.inl ⟨s40_1, _, (hib_mk h0.2 hpos).1, (hib_mk h0.2 hpos).2.1, (hib_mk h0.2 hpos).2.2, hr76⟩)⟩⟩, sX.mk hX rfl hp hsn hH hHe h57 h58 h59 hA h61 h62 h63 hZ, hfm⟩)
        rcases Classical.em (w = 2) with s40_2 | s40_2
        · refine lv_tableIn (off := 41) (tgt := 81) S.1 S.2.1 dX6_track_40 (by rw [s40_2]; decide) (by rw [s40_2]; decide) (by rw [s40_2]; rfl) rfl ?_
          refine lv_iload_n S.1 S.2.1 dX6_track_81 rfl (lv_at hl 0 rfl) ?_
          exact x_iret S hr hlocks hP hS dX6_track_82 (⟨Or.inr ⟨hin, R, T, htk, Or.inr ⟨v9, hvR, rfl, Or.inr (Or.inr (Or.inl ⟨s40_2, rfl⟩))⟩⟩, sX.mk hX rfl hp hsn hH hHe h57 h58 h59 hA h61 h62 h63 hZ, hfm⟩)
        refine lv_tableOut (tgt := 83) S.1 S.2.1 dX6_track_40 (by have := lv_neT s40_0 (a := 0) (by decide); have := lv_neT s40_1 (a := 1) (by decide); have := lv_neT s40_2 (a := 2) (by decide); omega) rfl ?_
        refine lv_aload_n S.1 S.2.1 dX6_track_83 rfl (lv_at hl 1 rfl) ?_
        refine x_get S hK hP dX6_track_84 hX (by decide) (RX6, TX6, 9) rfl hin6 6 (by decide) fl42 rfl ?_
        refine lv_iload_n S.1 S.2.1 dX6_track_87 rfl (lv_at hl 0 rfl) ?_
        refine x_qi (va_runV (As := [.int (nI (mk (pB (zM z) (itr (zn z) T v9 0) (T (itr (zn z) T v9 0))) (zn z)))]) (rest := []) S (c_X0_layBest l g hJ E1 hp hA hv1 (pB (zM z) (itr (zn z) T v9 0) (T (itr (zn z) T v9 0)))) (cwV 1 S.2.2.2.2 gX6_track_X0_layBest rfl rfl rfl (by decide +kernel) ⟨Nat.le_of_ble_eq_true rfl, Nat.le_of_ble_eq_true rfl⟩) (x_preV hK hP hA (by decide) rfl) rfl rfl hl.1 rfl (lv_room (Nat.le_of_ble_eq_true rfl)) dX6_track_88 ⟨Nat.le_of_ble_eq_true rfl, Nat.le_of_ble_eq_true rfl⟩) hS (fun r88 E1_1 H locs hq88 hP hS => ?_)
        obtain ⟨hfr88, hor⟩ := hq88
        have hX := (hfr88 0 (by decide)).trans hX
        have hp := hp.keep (E1 := E1_1) (fun j g1 g2 => hfr88 j (by omega))
        have hsn := hsn.keep (E1 := E1_1) (fun j g1 g2 => hfr88 j (by omega))
        have hH := hH.keep (E1 := E1_1) (fun j g1 g2 => hfr88 j (by omega))
        have h57 := (hfr88 57 (by decide)).trans h57
        have h58 := (hfr88 58 (by decide)).trans h58
        have h59 := (hfr88 59 (by decide)).trans h59
        have h61 := (hfr88 61 (by decide)).trans h61
        have hZ := (hfr88 64 (by decide)).trans hZ
        have hfm : ∀ j, 65 ≤ j → E1_1 j = E j := fun j hj => (hfr88 j (by omega)).trans (hfm j hj)
        have h62 := (hfr88 62 (by decide)).trans h62
        have h63 := (hfr88 63 (by decide)).trans h63
        refine lv_if_eq (tgt := 107) S.1 S.2.1 dX6_track_91 (by decide) (fun c91 => ?_) (fun c91 => ?_)
        · skip
          refine lv_bipush (v := (-5)) S.1 S.2.1 dX6_track_107 (by decide) ?_
          exact x_iret S hr hlocks hP hS dX6_track_109 (by rcases hor with ⟨h1, -⟩ | ⟨-, hno, y1, y2, y3, hA⟩; rw [h1] at c91; exact absurd c91 (by decide); exact ⟨Or.inr ⟨hin, R, T, htk, Or.inr ⟨v9, hvR, rfl, Or.inr (Or.inr (Or.inr ⟨⟨s40_0, s40_1, s40_2⟩, Or.inl ⟨hno, rfl⟩⟩))⟩⟩, sX.mk hX rfl hp hsn hH hHe h57 h58 h59 hA h61 h62 h63 hZ, hfm⟩)
        · skip
          obtain ⟨i, j, k, hb, hA⟩ : ∃ i j k, isBest (zM z) (pB (zM z) (itr (zn z) T v9 0) (T (itr (zn z) T v9 0))) (zn z) i j k ∧ E1_1 60 = .inr (0, [.ref (xad g 1), .int (nI i), .int (nI j), .int (nI k)]) := by rcases hor with ⟨-, h⟩ | ⟨h0, -⟩; exact h; exact absurd h0 c91
          obtain ⟨g1, g2, g3, -⟩ := id hb.1
          refine lv_aload_n S.1 S.2.1 dX6_track_94 rfl (lv_at hl 1 rfl) ?_
          refine x_get S hK hP dX6_track_95 hX (by decide) (RX6, TX6, 9) rfl hin6 6 (by decide) fl42 rfl ?_
          refine lv_iload_n S.1 S.2.1 dX6_track_98 rfl (lv_at hl 3 rfl) ?_
          refine lv_iconst (v := 3) S.1 S.2.1 dX6_track_99 (by decide) ?_
          refine lv_isub S.1 S.2.1 dX6_track_100 ?_
          refine x_si (va_runV (As := [.int (w - 3)]) (rest := []) S (c_X0_photoOf l g E1_1 hp hA (i := i) (j := j) (k := k) (by omega) (by omega) g3 (w - 3)) (cwV 1 S.2.2.2.2 gX6_track_X0_photoOf rfl rfl rfl (by decide +kernel) ⟨Nat.le_of_ble_eq_true rfl, Nat.le_of_ble_eq_true rfl⟩) (x_preV hK hP hA (by decide) rfl) rfl rfl hl.1 rfl (lv_room (Nat.le_of_ble_eq_true rfl)) dX6_track_101 ⟨Nat.le_of_ble_eq_true rfl, Nat.le_of_ble_eq_true rfl⟩) (fun r101 hr101 => ?_)
          refine lv_goto (tgt := 109) S.1 S.2.1 dX6_track_104 (by decide) ?_
          exact x_iret S hr hlocks hP hS dX6_track_109 (⟨Or.inr ⟨hin, R, T, htk, Or.inr ⟨v9, hvR, rfl, Or.inr (Or.inr (Or.inr ⟨⟨s40_0, s40_1, s40_2⟩, Or.inr ⟨i, j, k, hb, by rw [hr101]; exact ifs3⟩⟩))⟩⟩, sX.mk hX rfl hp hsn hH hHe h57 h58 h59 hA h61 h62 h63 hZ, hfm⟩)
      · skip
        refine lv_bipush (v := (-5)) S.1 S.2.1 dX6_track_27 (by decide) ?_
        exact x_iret S hr hlocks hP hS dX6_track_29 (⟨Or.inr ⟨hin, R, T, htk, Or.inl ⟨by rw [← hr21]; exact Int32.not_lt.mp c24, rfl⟩⟩, sX.mk hX rfl hp hsn hH hHe h57 h58 h59 hA h61 h62 h63 hZ, hfm⟩)
    · skip
      refine lv_bipush (v := (-2)) S.1 S.2.1 dX6_track_13 (by decide) ?_
      exact x_iret S hr hlocks hP hS dX6_track_15 (⟨Or.inl ⟨by first | exact Or.inr (hr7.f c10) | exact Or.inl c1, rfl⟩, sX.mk hX rfl hp hsn hH hHe h57 h58 h59 hA h61 h62 h63 hZ, hfm⟩)
set_option maxHeartbeats 4000000 in
set_option maxRecDepth 100000 in
theorem c_X6_fitsFrom (l : Launch) (g : xG) (hJ : xJ (xad g)) (E : Nat → va_E) {z : xS} (hz : sX g E z) (hv : vS z) (x : Int32) : Met l yX6_fitsFrom wsX6_fitsFrom ({ frames := 4, cells := 0, slots := 0, locals := 122 }) (xPc g [.ref (xad g 0), .int x] E) (xQi g (fun r E1 => sp_fitsFrom z x r ∧ sX g E1 z ∧ ∀ j, 65 ≤ j → E1 j = E j)) 0 0 (xA (xad g)) := by
  refine x_met (ws' := _) (by decide) rfl (Nat.le_of_ble_eq_true rfl) ?_
  intro pz ez s m below meth cz ls S hr hlocks hP hK hl
  have hl : lv_has ls 4 [(0, .ref (xad g 0)), (1, .int x)] := hl
  have hS : va_S (xA (xad g)) s.heap s.heap [] := va_S.rf
  have hin2 : ∀ w ∈ u_ws RX2 TX2 2, w ∈ wsX6_fitsFrom := by decide +kernel
  have hin6 : ∀ w ∈ u_ws RX6 TX6 9, w ∈ wsX6_fitsFrom := by decide +kernel
  have fl10 : Cond.fieldLink RX6 10 "DiscArcs" "photos" "LDiscArcs$Photos;" ∈ wsX6_fitsFrom := by decide +kernel
  have fl51 : Cond.fieldLink RX6 51 "DiscArcs" "parting" "LDiscArcs$Track;" ∈ wsX6_fitsFrom := by decide +kernel
  have fl118 : Cond.fieldLink RX6 118 "DiscArcs$Photos" "size" "I" ∈ wsX6_fitsFrom := by decide +kernel
  obtain ⟨hX, hp, hsn, ⟨B, N, MM, hH, hHe⟩, ⟨p0, ta, h57⟩, h58, ⟨f6, h59⟩, ⟨x1, x2, x3, hA⟩, h61, ⟨f2, h62⟩, ⟨f3, h63⟩, u1, u2, u3, hZ⟩ := hz
  have h0 := hp.1
  have hv1 := hv.1.2
  have hfm : ∀ j, 65 ≤ j → E j = E j := fun _ _ => rfl
  refine lv_aload_n S.1 S.2.1 dX6_fitsFrom_0 rfl (lv_at hl 0 rfl) ?_
  refine x_get S hK hP dX6_fitsFrom_1 hX (by decide) (RX6, TX6, 9) rfl hin6 0 (by decide) fl10 rfl ?_
  refine lv_iload_n S.1 S.2.1 dX6_fitsFrom_4 rfl (lv_at hl 1 rfl) ?_
  refine x_si (va_runV (As := [.int x]) (rest := []) S (c_X2_holds l g E hp x) (cwV 1 S.2.2.2.2 gX6_fitsFrom_X2_holds rfl rfl rfl (by decide +kernel) ⟨Nat.le_of_ble_eq_true rfl, Nat.le_of_ble_eq_true rfl⟩) (x_preV hK hP hp.2.1 (by decide) rfl) rfl rfl hl.1 rfl (lv_room (Nat.le_of_ble_eq_true rfl)) dX6_fitsFrom_5 ⟨Nat.le_of_ble_eq_true rfl, Nat.le_of_ble_eq_true rfl⟩) (fun r5 hr5 => ?_)
  refine lv_if_ne (tgt := 13) S.1 S.2.1 dX6_fitsFrom_8 (by decide) (fun c8 => ?_) (fun c8 => ?_)
  · skip
    obtain ⟨k, hk, hxk⟩ := hr5.t c8
    rw [hxk] at hl
    refine lv_aload_n S.1 S.2.1 dX6_fitsFrom_13 rfl (lv_at hl 0 rfl) ?_
    refine x_get S hK hP dX6_fitsFrom_14 hX (by decide) (RX6, TX6, 9) rfl hin6 0 (by decide) fl10 rfl ?_
    refine lv_iload_n S.1 S.2.1 dX6_fitsFrom_17 rfl (lv_at hl 1 rfl) ?_
    refine x_si (va_runV (As := [.int (nI k)]) (rest := []) S (c_X2_isUsable l g E hp hk) (cwV 1 S.2.2.2.2 gX6_fitsFrom_X2_isUsable rfl rfl rfl (by decide +kernel) ⟨Nat.le_of_ble_eq_true rfl, Nat.le_of_ble_eq_true rfl⟩) (x_preV hK hP hp.2.1 (by decide) rfl) rfl rfl hl.1 rfl (lv_room (Nat.le_of_ble_eq_true rfl)) dX6_fitsFrom_18 ⟨Nat.le_of_ble_eq_true rfl, Nat.le_of_ble_eq_true rfl⟩) (fun r18 hr18 => ?_)
    refine lv_if_ne (tgt := 27) S.1 S.2.1 dX6_fitsFrom_21 (by decide) (fun c21 => ?_) (fun c21 => ?_)
    · skip
      have hu := hr18.t c21
      refine lv_aload_n S.1 S.2.1 dX6_fitsFrom_27 rfl (lv_at hl 0 rfl) ?_
      refine x_get S hK hP dX6_fitsFrom_28 hX (by decide) (RX6, TX6, 9) rfl hin6 0 (by decide) fl10 rfl ?_
      refine x_get S hK hP dX6_fitsFrom_31 hp.2.1 (by decide) (RX2, TX2, 2) rfl hin2 1 (by decide) fl118 rfl ?_
      refine lv_istore_n (lv' := [(2, .int (nI (zn z))), (0, .ref (xad g 0)), (1, .int (nI k))]) S.1 S.2.1 dX6_fitsFrom_34 rfl hl (by decide) rfl (fun ls hl => ?_)
      have loop35 : ∀ (d : Nat) (e : Nat) (y1 : Int32) (y2 : Int32) (y3 : Int32) (EL : Nat → va_E) (H : Heap) (locs : List Loc), (hke : k < e) → (he : e ≤ zn z) → (hne : ∀ e', e < e' → e' ≤ zn z → ¬ fitR (zM z) (zn z) k e') → (e) < d → (hX : EL 0 = .inr (6, [.ref (xad g 1), .ref (xad g 10), .int (bI (zf z)), .ref (xad g 19), .ref (xad g 57), .ref (xad g 59), .ref (xad g 60), .ref (xad g 61), .ref (xad g 64)])) → (hp : ePh g EL 1 (zn z) (zM z)) → (hsn : ePh g EL 10 (zsn z) (zsM z)) → (hH : eHi g EL (zh z) B N MM) → (h57 : EL 57 = .inr (4, [.ref (xad g 58), .int (nI (ztl z)), .int p0, .int ta])) → (h58 : EL 58 = .inl (xC g, 60, .inl (ztf z))) → (h59 : EL 59 = .inl (xI g, 6, .inl f6)) → (hA : EL 60 = .inr (0, [.ref (xad g 1), .int y1, .int y2, .int y3])) → (h61 : EL 61 = .inr (5, [.ref (xad g 1), .ref (xad g 60), .ref (xad g 62), .ref (xad g 63)])) → (h62 : EL 62 = .inl (xI g, 11, .inl f2)) → (h63 : EL 63 = .inl (xI g, 11, .inl f3)) → (hZ : EL 64 = .inr (3, [.ref (xad g 1), .int u1, .int u2, .int u3])) → (hfm : ∀ j, 65 ≤ j → EL j = E j) → xP g EL H → va_S (xA (xad g)) s.heap H locs → ∀ ls : Array Slot, lv_has ls 4 [(2, .int (nI e)), (1, .int (nI k)), (0, .ref (xad g 0))] → W pz l ez ({ frames := 4, cells := 0, slots := 0, locals := 122 }) s m ([.ref (xad g 0), .int x] : List Value).toArray below meth cz H locs 0 0 (MQ below (xQi g (fun r E1 => sp_fitsFrom z x r ∧ sX g E1 z ∧ ∀ j, 65 ≤ j → E1 j = E j)) ([.ref (xad g 0), .int x] : List Value).toArray s 0 0 (xA (xad g))) (F0 m 35 ls []) := by
        intro d
        induction d with
        | zero => intro e y1 y2 y3 EL H locs hke he hne hd; exact absurd hd (Nat.not_lt_zero _)
        | succ d ih35 =>
          intro e y1 y2 y3 EL H locs hke he hne hd hX hp hsn hH h57 h58 h59 hA h61 h62 h63 hZ hfm hP hS ls hl
          refine lv_iload_n S.1 S.2.1 dX6_fitsFrom_35 rfl (lv_at hl 0 rfl) ?_
          refine lv_iload_n S.1 S.2.1 dX6_fitsFrom_36 rfl (lv_at hl 1 rfl) ?_
          refine lv_iconst (v := 1) S.1 S.2.1 dX6_fitsFrom_37 (by decide) ?_
          refine lv_iadd S.1 S.2.1 dX6_fitsFrom_38 ?_
          refine lv_icmp_le (tgt := 74) S.1 S.2.1 dX6_fitsFrom_39 (by decide) (fun c39 => ?_) (fun c39 => ?_)
          · skip
            have hek : e = k + 1 := by have := (nI_leI (a := e) (b := k + 1) (by omega) (by omega)).mp (by rw [← nI_1]; exact c39); omega
            refine lv_iconst (v := 1) S.1 S.2.1 dX6_fitsFrom_74 (by decide) ?_
            exact x_iret S hr hlocks hP hS dX6_fitsFrom_75 (⟨Or.inr ⟨k, hk, hxk, Or.inr ⟨hu, e, hke, he, by rw [hek]; exact fitR_one, hne, by rw [hek, cnt_pB1 hk hu]; rfl⟩⟩, sX.mk hX rfl hp hsn hH hHe h57 h58 h59 hA h61 h62 h63 hZ, hfm⟩)
          · skip
            have hke1 : k + 1 < e := Nat.not_le.mp (fun h => c39 (by rw [nI_1]; exact (nI_leI (by omega) (by omega)).mpr h))
            refine lv_aload_n S.1 S.2.1 dX6_fitsFrom_42 rfl (lv_at hl 2 rfl) ?_
            refine x_get S hK hP dX6_fitsFrom_43 hX (by decide) (RX6, TX6, 9) rfl hin6 7 (by decide) fl51 rfl ?_
            refine lv_iload_n S.1 S.2.1 dX6_fitsFrom_46 rfl (lv_at hl 1 rfl) ?_
            refine lv_iload_n S.1 S.2.1 dX6_fitsFrom_47 rfl (lv_at hl 0 rfl) ?_
            refine x_si (va_runV (As := [.int (nI k), .int (nI e)]) (rest := []) S (c_X5_between l g EL h61 hp (a := k) (b := e) (by omega) he) (cwV 2 S.2.2.2.2 gX6_fitsFrom_X5_between rfl rfl rfl (by decide +kernel) ⟨Nat.le_of_ble_eq_true rfl, Nat.le_of_ble_eq_true rfl⟩) (x_preV hK hP h61 (by decide) rfl) rfl rfl hl.1 rfl (lv_room (Nat.le_of_ble_eq_true rfl)) dX6_fitsFrom_48 ⟨Nat.le_of_ble_eq_true rfl, Nat.le_of_ble_eq_true rfl⟩) (fun r48 hr48 => ?_)
            subst hr48
            refine lv_istore_n (lv' := [(3, .int (nI (mk (pB (zM z) k e) (zn z)))), (2, .int (nI e)), (1, .int (nI k)), (0, .ref (xad g 0))]) S.1 S.2.1 dX6_fitsFrom_51 rfl hl (by decide) rfl (fun ls hl => ?_)
            refine lv_aload_n S.1 S.2.1 dX6_fitsFrom_52 rfl (lv_at hl 3 rfl) ?_
            refine x_get S hK hP dX6_fitsFrom_53 hX (by decide) (RX6, TX6, 9) rfl hin6 7 (by decide) fl51 rfl ?_
            refine lv_iload_n S.1 S.2.1 dX6_fitsFrom_56 rfl (lv_at hl 0 rfl) ?_
            refine x_qi (va_runV (As := [.int (nI (mk (pB (zM z) k e) (zn z)))]) (rest := []) S (c_X5_isFitting l g hJ EL h61 hp hA hv1 (pB (zM z) k e)) (cwV 1 S.2.2.2.2 gX6_fitsFrom_X5_isFitting rfl rfl rfl (by decide +kernel) ⟨Nat.le_of_ble_eq_true rfl, Nat.le_of_ble_eq_true rfl⟩) (x_preV hK hP h61 (by decide) rfl) rfl rfl hl.1 rfl (lv_room (Nat.le_of_ble_eq_true rfl)) dX6_fitsFrom_57 ⟨Nat.le_of_ble_eq_true rfl, Nat.le_of_ble_eq_true rfl⟩) hS (fun r57 E1 H locs hq57 hP hS => ?_)
            obtain ⟨hfr57, hr57, w1, w2, w3, hA⟩ := hq57
            have hX := (hfr57 0 (by decide)).trans hX
            have hp := hp.keep (E1 := E1) (fun j g1 g2 => hfr57 j (by omega))
            have hsn := hsn.keep (E1 := E1) (fun j g1 g2 => hfr57 j (by omega))
            have hH := hH.keep (E1 := E1) (fun j g1 g2 => hfr57 j (by omega))
            have h57 := (hfr57 57 (by decide)).trans h57
            have h58 := (hfr57 58 (by decide)).trans h58
            have h59 := (hfr57 59 (by decide)).trans h59
            have h61 := (hfr57 61 (by decide)).trans h61
            have h62 := (hfr57 62 (by decide)).trans h62
            have h63 := (hfr57 63 (by decide)).trans h63
            have hZ := (hfr57 64 (by decide)).trans hZ
            have hfm : ∀ j, 65 ≤ j → E1 j = E j := fun j hj => (hfr57 j (by omega)).trans (hfm j hj)
            refine lv_if_eq (tgt := 68) S.1 S.2.1 dX6_fitsFrom_60 (by decide) (fun c60 => ?_) (fun c60 => ?_)
            · skip
              refine lv_iinc (v := nI (e - 1)) (lv' := [(2, .int (nI (e - 1))), (3, .int (nI (mk (pB (zM z) k e) (zn z)))), (1, .int (nI k)), (0, .ref (xad g 0))]) S.1 S.2.1 dX6_fitsFrom_68 hl (k := 1) rfl (by rw [← pk_sub (show 1 ≤ e by omega), Int32.sub_eq_add_neg]; rfl) (by decide) rfl (fun ls hl => ?_)
              refine lv_goto (tgt := 35) S.1 S.2.1 dX6_fitsFrom_71 (by decide) ?_
              exact ih35 (e - 1) w1 w2 w3 _ _ _ (by omega) (by omega) (fun e1 h1 h2 => by rcases Classical.em (e1 = e) with e9 | e9; subst e9; exact hr57.f c60; exact hne e1 (by omega) h2) (by omega) hX hp hsn hH h57 h58 h59 hA h61 h62 h63 hZ hfm hP hS ls (lv_sub hl [0, 2, 3] rfl)
            · skip
              refine lv_iload_n S.1 S.2.1 dX6_fitsFrom_63 rfl (lv_at hl 0 rfl) ?_
              refine x_si (va_runS (As := [.int (nI (mk (pB (zM z) k e) (zn z)))]) (rest := []) S (c_J6_bitCount_0f7a4 l g E1 (nI (mk (pB (zM z) k e) (zn z)))) (va_cwS 1 S.2.2.2.2 gX6_fitsFrom_J6_bitCount_0f7a4 rfl rfl rfl (by decide +kernel) ⟨Nat.le_of_ble_eq_true rfl, Nat.le_of_ble_eq_true rfl⟩) (x_preS hK hP) rfl rfl hl.1 rfl (lv_room (Nat.le_of_ble_eq_true rfl)) dX6_fitsFrom_64 ⟨Nat.le_of_ble_eq_true rfl, Nat.le_of_ble_eq_true rfl⟩) (fun r64 hr64 => ?_)
              rw [bc_mk h0.2] at hr64
              exact x_iret S hr hlocks hP hS dX6_fitsFrom_67 (⟨Or.inr ⟨k, hk, hxk, Or.inr ⟨hu, e, hke, he, hr57.t c60, hne, hr64⟩⟩, sX.mk hX rfl hp hsn hH hHe h57 h58 h59 hA h61 h62 h63 hZ, hfm⟩)
      exact loop35 _ (zn z) x1 x2 x3 _ _ _ hk (Nat.le_refl _) (fun e1 h1 h2 => by omega) (Nat.lt_succ_self _) hX hp hsn hH h57 h58 h59 hA h61 h62 h63 hZ hfm hP hS ls (lv_sub hl [0, 2, 1] rfl)
    · skip
      refine lv_bipush (v := (-4)) S.1 S.2.1 dX6_fitsFrom_24 (by decide) ?_
      exact x_iret S hr hlocks hP hS dX6_fitsFrom_26 (⟨Or.inr ⟨k, hk, hxk, Or.inl ⟨hr18.f c21, rfl⟩⟩, sX.mk hX rfl hp hsn hH hHe h57 h58 h59 hA h61 h62 h63 hZ, hfm⟩)
  · skip
    refine lv_iconst (v := (-1)) S.1 S.2.1 dX6_fitsFrom_11 (by decide) ?_
    exact x_iret S hr hlocks hP hS dX6_fitsFrom_12 (⟨Or.inl ⟨hr5.f c8, rfl⟩, sX.mk hX rfl hp hsn hH hHe h57 h58 h59 hA h61 h62 h63 hZ, hfm⟩)
set_option maxHeartbeats 4000000 in
set_option maxRecDepth 100000 in
theorem c_X6_spin (l : Launch) (g : xG) (hJ : xJ (xad g)) (E : Nat → va_E) {z : xS} (hz : sX g E z) (hv : vS z) (w : Int32) : Met l yX6_spin wsX6_spin ({ frames := 7, cells := 0, slots := 0, locals := 164 }) (xPc g [.ref (xad g 0), .int w] E) (xQi g (fun r E1 => sp_spin z w r ∧ sX g E1 z ∧ ∀ j, 65 ≤ j → E1 j = E j)) 0 0 (xA (xad g)) := by
  refine x_met (ws' := _) (by decide) rfl (Nat.le_of_ble_eq_true rfl) ?_
  intro pz ez s m below meth cz ls S hr hlocks hP hK hl
  have hl : lv_has ls 2 [(0, .ref (xad g 0)), (1, .int w)] := hl
  have hS : va_S (xA (xad g)) s.heap s.heap [] := va_S.rf
  have hin3 : ∀ w ∈ u_ws RX3 TX3 4, w ∈ wsX6_spin := by decide +kernel
  have hin6 : ∀ w ∈ u_ws RX6 TX6 9, w ∈ wsX6_spin := by decide +kernel
  have fl58 : Cond.fieldLink RX6 58 "DiscArcs" "turning" "LDiscArcs$Spin;" ∈ wsX6_spin := by decide +kernel
  have fl156 : Cond.fieldLink RX6 156 "DiscArcs$Spin" "fitted" "I" ∈ wsX6_spin := by decide +kernel
  have fl218 : Cond.fieldLink RX6 218 "DiscArcs$Spin" "turn" "I" ∈ wsX6_spin := by decide +kernel
  have fl221 : Cond.fieldLink RX6 221 "DiscArcs$Spin" "beginning" "I" ∈ wsX6_spin := by decide +kernel
  obtain ⟨hX, hp, hsn, ⟨B, N, MM, hH, hHe⟩, ⟨p0, ta, h57⟩, h58, ⟨f6, h59⟩, ⟨x1, x2, x3, hA⟩, h61, ⟨f2, h62⟩, ⟨f3, h63⟩, u1, u2, u3, hZ⟩ := hz
  have h0 := hp.1
  have hv1 := hv.1.2
  have hfm : ∀ j, 65 ≤ j → E j = E j := fun _ _ => rfl
  refine lv_iload_n S.1 S.2.1 dX6_spin_0 rfl (lv_at hl 1 rfl) ?_
  refine lv_iconst (v := 0) S.1 S.2.1 dX6_spin_1 (by decide) ?_
  refine lv_iconst (v := 3) S.1 S.2.1 dX6_spin_2 (by decide) ?_
  refine x_si (va_runS (As := [.int w, .int 0, .int 3]) (rest := []) S (c_X6_isWithin l g E w 0 3) (va_cwS 3 S.2.2.2.2 gX6_spin_X6_isWithin rfl rfl rfl (by decide +kernel) ⟨Nat.le_of_ble_eq_true rfl, Nat.le_of_ble_eq_true rfl⟩) (x_preS hK hP) rfl rfl hl.1 rfl (lv_room (Nat.le_of_ble_eq_true rfl)) dX6_spin_3 ⟨Nat.le_of_ble_eq_true rfl, Nat.le_of_ble_eq_true rfl⟩) (fun r3 hr3 => ?_)
  refine lv_if_ne (tgt := 12) S.1 S.2.1 dX6_spin_6 (by decide) (fun c6 => ?_) (fun c6 => ?_)
  · skip
    refine lv_aload_n S.1 S.2.1 dX6_spin_12 rfl (lv_at hl 0 rfl) ?_
    refine x_get S hK hP dX6_spin_13 hX (by decide) (RX6, TX6, 9) rfl hin6 8 (by decide) fl58 rfl ?_
    refine x_qi (va_runV (As := []) (rest := []) S (c_X3_search l g hJ E hZ hp hv1) (cwV 0 S.2.2.2.2 gX6_spin_X3_search rfl rfl rfl (by decide +kernel) ⟨Nat.le_of_ble_eq_true rfl, Nat.le_of_ble_eq_true rfl⟩) (x_preV hK hP hZ (by decide) rfl) rfl rfl hl.1 rfl (lv_room (Nat.le_of_ble_eq_true rfl)) dX6_spin_16 ⟨Nat.le_of_ble_eq_true rfl, Nat.le_of_ble_eq_true rfl⟩) hS (fun r16 E1 H locs hq16 hP hS => ?_)
    obtain ⟨hfr16, hor⟩ := hq16
    have hX := (hfr16 0 (by decide)).trans hX
    have hp := hp.keep (E1 := E1) (fun j g1 g2 => hfr16 j (by omega))
    have hsn := hsn.keep (E1 := E1) (fun j g1 g2 => hfr16 j (by omega))
    have hH := hH.keep (E1 := E1) (fun j g1 g2 => hfr16 j (by omega))
    have h57 := (hfr16 57 (by decide)).trans h57
    have h58 := (hfr16 58 (by decide)).trans h58
    have h59 := (hfr16 59 (by decide)).trans h59
    have hA := (hfr16 60 (by decide)).trans hA
    have h61 := (hfr16 61 (by decide)).trans h61
    have h62 := (hfr16 62 (by decide)).trans h62
    have h63 := (hfr16 63 (by decide)).trans h63
    have hfm : ∀ j, 65 ≤ j → E1 j = E j := fun j hj => (hfr16 j (by omega)).trans (hfm j hj)
    refine lv_if_ne (tgt := 25) S.1 S.2.1 dX6_spin_19 (by decide) (fun c19 => ?_) (fun c19 => ?_)
    · skip
      obtain ⟨hex, T9, B9, hsp, hZ⟩ : (∃ k, k < zn z ∧ pK (zM z) k = true) ∧ ∃ T B : Int32, isSpin (zM z) (zn z) T.toInt B.toInt ∧ E1 64 = .inr (3, [.ref (xad g 1), .int T, .int B, .int (nI (mk (pF (zM z) T.toInt B.toInt) (zn z)))]) := by rcases hor with ⟨h1, -⟩ | ⟨-, h⟩; exact absurd h1 c19; exact h
      refine lv_iload_n S.1 S.2.1 dX6_spin_25 rfl (lv_at hl 1 rfl) ?_
      rcases Classical.em (w = 0) with s26_0 | s26_0
      · refine lv_tableIn (off := 26) (tgt := 52) S.1 S.2.1 dX6_spin_26 (by rw [s26_0]; decide) (by rw [s26_0]; decide) (by rw [s26_0]; rfl) rfl ?_
        refine lv_aload_n S.1 S.2.1 dX6_spin_52 rfl (lv_at hl 0 rfl) ?_
        refine x_get S hK hP dX6_spin_53 hX (by decide) (RX6, TX6, 9) rfl hin6 8 (by decide) fl58 rfl ?_
        refine x_get S hK hP dX6_spin_56 hZ (by decide) (RX3, TX3, 4) rfl hin3 1 (by decide) fl218 rfl ?_
        refine lv_sipush (v := 200) S.1 S.2.1 dX6_spin_59 (by decide) ?_
        refine lv_iadd S.1 S.2.1 dX6_spin_62 ?_
        exact x_iret S hr hlocks hP hS dX6_spin_63 (⟨Or.inr ⟨hr3.t c6, Or.inr ⟨hex, T9, B9, hsp, by rw [if_pos s26_0]⟩⟩, sX.mk hX rfl hp hsn hH hHe h57 h58 h59 hA h61 h62 h63 hZ, hfm⟩)
      rcases Classical.em (w = 1) with s26_1 | s26_1
      · refine lv_tableIn (off := 38) (tgt := 64) S.1 S.2.1 dX6_spin_26 (by rw [s26_1]; decide) (by rw [s26_1]; decide) (by rw [s26_1]; rfl) rfl ?_
        refine lv_aload_n S.1 S.2.1 dX6_spin_64 rfl (lv_at hl 0 rfl) ?_
        refine x_get S hK hP dX6_spin_65 hX (by decide) (RX6, TX6, 9) rfl hin6 8 (by decide) fl58 rfl ?_
        refine x_get S hK hP dX6_spin_68 hZ (by decide) (RX3, TX3, 4) rfl hin3 2 (by decide) fl221 rfl ?_
        exact x_iret S hr hlocks hP hS dX6_spin_71 (⟨Or.inr ⟨hr3.t c6, Or.inr ⟨hex, T9, B9, hsp, by rw [if_neg s26_0, if_pos s26_1]⟩⟩, sX.mk hX rfl hp hsn hH hHe h57 h58 h59 hA h61 h62 h63 hZ, hfm⟩)
      rcases Classical.em (w = 2) with s26_2 | s26_2
      · refine lv_tableIn (off := 46) (tgt := 72) S.1 S.2.1 dX6_spin_26 (by rw [s26_2]; decide) (by rw [s26_2]; decide) (by rw [s26_2]; rfl) rfl ?_
        refine lv_aload_n S.1 S.2.1 dX6_spin_72 rfl (lv_at hl 0 rfl) ?_
        refine x_get S hK hP dX6_spin_73 hX (by decide) (RX6, TX6, 9) rfl hin6 8 (by decide) fl58 rfl ?_
        refine x_get S hK hP dX6_spin_76 hZ (by decide) (RX3, TX3, 4) rfl hin3 3 (by decide) fl156 rfl ?_
        refine x_si (va_runS (As := [.int (nI (mk (pF (zM z) T9.toInt B9.toInt) (zn z)))]) (rest := []) S (c_J6_bitCount_0f7a4 l g E1 (nI (mk (pF (zM z) T9.toInt B9.toInt) (zn z)))) (va_cwS 1 S.2.2.2.2 gX6_spin_J6_bitCount_0f7a4 rfl rfl rfl (by decide +kernel) ⟨Nat.le_of_ble_eq_true rfl, Nat.le_of_ble_eq_true rfl⟩) (x_preS hK hP) rfl rfl hl.1 rfl (lv_room (Nat.le_of_ble_eq_true rfl)) dX6_spin_79 ⟨Nat.le_of_ble_eq_true rfl, Nat.le_of_ble_eq_true rfl⟩) (fun r79 hr79 => ?_)
        rw [bc_mk h0.2] at hr79
        exact x_iret S hr hlocks hP hS dX6_spin_82 (⟨Or.inr ⟨hr3.t c6, Or.inr ⟨hex, T9, B9, hsp, by rw [if_neg s26_0, if_neg s26_1, if_pos s26_2]; exact hr79⟩⟩, sX.mk hX rfl hp hsn hH hHe h57 h58 h59 hA h61 h62 h63 hZ, hfm⟩)
      refine lv_tableOut (tgt := 83) S.1 S.2.1 dX6_spin_26 (by have := lv_neT s26_0 (a := 0) (by decide); have := lv_neT s26_1 (a := 1) (by decide); have := lv_neT s26_2 (a := 2) (by decide); omega) rfl ?_
      refine lv_aload_n S.1 S.2.1 dX6_spin_83 rfl (lv_at hl 0 rfl) ?_
      refine x_get S hK hP dX6_spin_84 hX (by decide) (RX6, TX6, 9) rfl hin6 8 (by decide) fl58 rfl ?_
      refine x_get S hK hP dX6_spin_87 hZ (by decide) (RX3, TX3, 4) rfl hin3 3 (by decide) fl156 rfl ?_
      exact x_iret S hr hlocks hP hS dX6_spin_90 (⟨Or.inr ⟨hr3.t c6, Or.inr ⟨hex, T9, B9, hsp, by rw [if_neg s26_0, if_neg s26_1, if_neg s26_2]⟩⟩, sX.mk hX rfl hp hsn hH hHe h57 h58 h59 hA h61 h62 h63 hZ, hfm⟩)
    · skip
      refine lv_bipush (v := (-4)) S.1 S.2.1 dX6_spin_22 (by decide) ?_
      exact x_iret S hr hlocks hP hS dX6_spin_24 (by rcases hor with ⟨-, hno, u4, u5, u6, hZ⟩ | ⟨h1, -⟩; exact ⟨Or.inr ⟨hr3.t c6, Or.inl ⟨hno, rfl⟩⟩, sX.mk hX rfl hp hsn hH hHe h57 h58 h59 hA h61 h62 h63 hZ, hfm⟩; rw [h1] at c19; exact absurd c19 (by decide))
  · skip
    refine lv_bipush (v := (-2)) S.1 S.2.1 dX6_spin_9 (by decide) ?_
    exact x_iret S hr hlocks hP hS dX6_spin_11 (⟨Or.inl ⟨hr3.f c6, rfl⟩, sX.mk hX rfl hp hsn hH hHe h57 h58 h59 hA h61 h62 h63 hZ, hfm⟩)
theorem okSp_t {t b : Int32} (h1 : -179 ≤ t ∧ t ≤ 180) (h2 : 0 ≤ b ∧ b ≤ 359) : (-179 ≤ t.toInt ∧ t.toInt ≤ 180) ∧ 0 ≤ b.toInt ∧ b.toInt < 360 := by
  rw [I_le, I_le, show (-179 : Int32).toInt = -179 by decide, show (180 : Int32).toInt = 180 by decide] at h1
  rw [I_le, I_le, show (0 : Int32).toInt = 0 by decide, show (359 : Int32).toInt = 359 by decide] at h2
  omega
set_option maxHeartbeats 4000000 in
set_option maxRecDepth 100000 in
theorem c_X6_fits (l : Launch) (g : xG) (hJ : xJ (xad g)) (E : Nat → va_E) {z : xS} (hz : sX g E z) (hv : vS z) (t b : Int32) : Met l yX6_fits wsX6_fits ({ frames := 4, cells := 0, slots := 0, locals := 93 }) (xPc g [.ref (xad g 0), .int t, .int b] E) (xQi g (fun r E1 => sp_fits z t b r ∧ sX g E1 z ∧ ∀ j, 65 ≤ j → E1 j = E j)) 0 0 (xA (xad g)) := by
  refine x_met (ws' := _) (by decide) rfl (Nat.le_of_ble_eq_true rfl) ?_
  intro pz ez s m below meth cz ls S hr hlocks hP hK hl
  have hl : lv_has ls 3 [(0, .ref (xad g 0)), (1, .int t), (2, .int b)] := hl
  have hS : va_S (xA (xad g)) s.heap s.heap [] := va_S.rf
  have hin6 : ∀ w ∈ u_ws RX6 TX6 9, w ∈ wsX6_fits := by decide +kernel
  have fl58 : Cond.fieldLink RX6 58 "DiscArcs" "turning" "LDiscArcs$Spin;" ∈ wsX6_fits := by decide +kernel
  obtain ⟨hX, hp, hsn, ⟨B, N, MM, hH, hHe⟩, ⟨p0, ta, h57⟩, h58, ⟨f6, h59⟩, ⟨x1, x2, x3, hA⟩, h61, ⟨f2, h62⟩, ⟨f3, h63⟩, u1, u2, u3, hZ⟩ := hz
  have h0 := hp.1
  have hv1 := hv.1.2
  have hfm : ∀ j, 65 ≤ j → E j = E j := fun _ _ => rfl
  refine lv_iload_n S.1 S.2.1 dX6_fits_0 rfl (lv_at hl 1 rfl) ?_
  refine lv_sipush (v := (-179)) S.1 S.2.1 dX6_fits_1 (by decide) ?_
  refine lv_sipush (v := 180) S.1 S.2.1 dX6_fits_4 (by decide) ?_
  refine x_si (va_runS (As := [.int t, .int (-179), .int 180]) (rest := []) S (c_X6_isWithin l g E t (-179) 180) (va_cwS 3 S.2.2.2.2 gX6_fits_X6_isWithin rfl rfl rfl (by decide +kernel) ⟨Nat.le_of_ble_eq_true rfl, Nat.le_of_ble_eq_true rfl⟩) (x_preS hK hP) rfl rfl hl.1 rfl (lv_room (Nat.le_of_ble_eq_true rfl)) dX6_fits_7 ⟨Nat.le_of_ble_eq_true rfl, Nat.le_of_ble_eq_true rfl⟩) (fun r7 hr7 => ?_)
  refine lv_if_eq (tgt := 24) S.1 S.2.1 dX6_fits_10 (by decide) (fun c10 => ?_) (fun c10 => ?_)
  · skip
    refine lv_bipush (v := (-2)) S.1 S.2.1 dX6_fits_24 (by decide) ?_
    exact x_iret S hr hlocks hP hS dX6_fits_26 (⟨Or.inl ⟨fun h => by first | exact hr18.f c21 h.2 | exact hr7.f c10 h.1, rfl⟩, sX.mk hX rfl hp hsn hH hHe h57 h58 h59 hA h61 h62 h63 hZ, hfm⟩)
  · skip
    refine lv_iload_n S.1 S.2.1 dX6_fits_13 rfl (lv_at hl 2 rfl) ?_
    refine lv_iconst (v := 0) S.1 S.2.1 dX6_fits_14 (by decide) ?_
    refine lv_sipush (v := 359) S.1 S.2.1 dX6_fits_15 (by decide) ?_
    refine x_si (va_runS (As := [.int b, .int 0, .int 359]) (rest := []) S (c_X6_isWithin l g E b 0 359) (va_cwS 3 S.2.2.2.2 gX6_fits_X6_isWithin rfl rfl rfl (by decide +kernel) ⟨Nat.le_of_ble_eq_true rfl, Nat.le_of_ble_eq_true rfl⟩) (x_preS hK hP) rfl rfl hl.1 rfl (lv_room (Nat.le_of_ble_eq_true rfl)) dX6_fits_18 ⟨Nat.le_of_ble_eq_true rfl, Nat.le_of_ble_eq_true rfl⟩) (fun r18 hr18 => ?_)
    refine lv_if_ne (tgt := 27) S.1 S.2.1 dX6_fits_21 (by decide) (fun c21 => ?_) (fun c21 => ?_)
    · skip
      refine lv_aload_n S.1 S.2.1 dX6_fits_27 rfl (lv_at hl 0 rfl) ?_
      refine x_get S hK hP dX6_fits_28 hX (by decide) (RX6, TX6, 9) rfl hin6 8 (by decide) fl58 rfl ?_
      refine lv_iload_n S.1 S.2.1 dX6_fits_31 rfl (lv_at hl 1 rfl) ?_
      refine lv_iload_n S.1 S.2.1 dX6_fits_32 rfl (lv_at hl 2 rfl) ?_
      refine x_si (va_runV (As := [.int t, .int b]) (rest := []) S (c_X3_fittedBy l g E hZ hp hv1 (okSp_t (hr7.t c10) (hr18.t c21)).1 (okSp_t (hr7.t c10) (hr18.t c21)).2) (cwV 2 S.2.2.2.2 gX6_fits_X3_fittedBy rfl rfl rfl (by decide +kernel) ⟨Nat.le_of_ble_eq_true rfl, Nat.le_of_ble_eq_true rfl⟩) (x_preV hK hP hZ (by decide) rfl) rfl rfl hl.1 rfl (lv_room (Nat.le_of_ble_eq_true rfl)) dX6_fits_33 ⟨Nat.le_of_ble_eq_true rfl, Nat.le_of_ble_eq_true rfl⟩) (fun r33 hr33 => ?_)
      subst hr33
      refine x_si (va_runS (As := [.int (nI (mk (pF (zM z) t.toInt b.toInt) (zn z)))]) (rest := []) S (c_J6_bitCount_0f7a4 l g E (nI (mk (pF (zM z) t.toInt b.toInt) (zn z)))) (va_cwS 1 S.2.2.2.2 gX6_fits_J6_bitCount_0f7a4 rfl rfl rfl (by decide +kernel) ⟨Nat.le_of_ble_eq_true rfl, Nat.le_of_ble_eq_true rfl⟩) (x_preS hK hP) rfl rfl hl.1 rfl (lv_room (Nat.le_of_ble_eq_true rfl)) dX6_fits_36 ⟨Nat.le_of_ble_eq_true rfl, Nat.le_of_ble_eq_true rfl⟩) (fun r36 hr36 => ?_)
      rw [bc_mk h0.2] at hr36
      exact x_iret S hr hlocks hP hS dX6_fits_39 (⟨Or.inr ⟨⟨hr7.t c10, hr18.t c21⟩, hr36⟩, sX.mk hX rfl hp hsn hH hHe h57 h58 h59 hA h61 h62 h63 hZ, hfm⟩)
    · skip
      refine lv_bipush (v := (-2)) S.1 S.2.1 dX6_fits_24 (by decide) ?_
      exact x_iret S hr hlocks hP hS dX6_fits_26 (⟨Or.inl ⟨fun h => by first | exact hr18.f c21 h.2 | exact hr7.f c10 h.1, rfl⟩, sX.mk hX rfl hp hsn hH hHe h57 h58 h59 hA h61 h62 h63 hZ, hfm⟩)
set_option maxHeartbeats 4000000 in
set_option maxRecDepth 100000 in
theorem c_X6_angleAt (l : Launch) (g : xG) (hJ : xJ (xad g)) (E : Nat → va_E) {z : xS} (hz : sX g E z) (hv : vS z) (u : Int32) : Met l yX6_angleAt wsX6_angleAt ({ frames := 7, cells := 0, slots := 0, locals := 164 }) (xPc g [.ref (xad g 0), .int u] E) (xQi g (fun r E1 => sp_angleAt z u r ∧ sX g E1 z ∧ ∀ j, 65 ≤ j → E1 j = E j)) 0 0 (xA (xad g)) := by
  refine x_met (ws' := _) (by decide) rfl (Nat.le_of_ble_eq_true rfl) ?_
  intro pz ez s m below meth cz ls S hr hlocks hP hK hl
  have hl : lv_has ls 2 [(0, .ref (xad g 0)), (1, .int u)] := hl
  have hS : va_S (xA (xad g)) s.heap s.heap [] := va_S.rf
  have hin3 : ∀ w ∈ u_ws RX3 TX3 4, w ∈ wsX6_angleAt := by decide +kernel
  have hin6 : ∀ w ∈ u_ws RX6 TX6 9, w ∈ wsX6_angleAt := by decide +kernel
  have fl58 : Cond.fieldLink RX6 58 "DiscArcs" "turning" "LDiscArcs$Spin;" ∈ wsX6_angleAt := by decide +kernel
  have fl218 : Cond.fieldLink RX6 218 "DiscArcs$Spin" "turn" "I" ∈ wsX6_angleAt := by decide +kernel
  have fl221 : Cond.fieldLink RX6 221 "DiscArcs$Spin" "beginning" "I" ∈ wsX6_angleAt := by decide +kernel
  obtain ⟨hX, hp, hsn, ⟨B, N, MM, hH, hHe⟩, ⟨p0, ta, h57⟩, h58, ⟨f6, h59⟩, ⟨x1, x2, x3, hA⟩, h61, ⟨f2, h62⟩, ⟨f3, h63⟩, u1, u2, u3, hZ⟩ := hz
  have h0 := hp.1
  have hv1 := hv.1.2
  have hfm : ∀ j, 65 ≤ j → E j = E j := fun _ _ => rfl
  refine lv_iload_n S.1 S.2.1 dX6_angleAt_0 rfl (lv_at hl 1 rfl) ?_
  refine lv_iconst (v := 0) S.1 S.2.1 dX6_angleAt_1 (by decide) ?_
  refine lv_bipush (v := 99) S.1 S.2.1 dX6_angleAt_2 (by decide) ?_
  refine x_si (va_runS (As := [.int u, .int 0, .int 99]) (rest := []) S (c_X6_isWithin l g E u 0 99) (va_cwS 3 S.2.2.2.2 gX6_angleAt_X6_isWithin rfl rfl rfl (by decide +kernel) ⟨Nat.le_of_ble_eq_true rfl, Nat.le_of_ble_eq_true rfl⟩) (x_preS hK hP) rfl rfl hl.1 rfl (lv_room (Nat.le_of_ble_eq_true rfl)) dX6_angleAt_4 ⟨Nat.le_of_ble_eq_true rfl, Nat.le_of_ble_eq_true rfl⟩) (fun r4 hr4 => ?_)
  refine lv_if_ne (tgt := 13) S.1 S.2.1 dX6_angleAt_7 (by decide) (fun c7 => ?_) (fun c7 => ?_)
  · skip
    refine lv_aload_n S.1 S.2.1 dX6_angleAt_13 rfl (lv_at hl 0 rfl) ?_
    refine x_get S hK hP dX6_angleAt_14 hX (by decide) (RX6, TX6, 9) rfl hin6 8 (by decide) fl58 rfl ?_
    refine x_qi (va_runV (As := []) (rest := []) S (c_X3_search l g hJ E hZ hp hv1) (cwV 0 S.2.2.2.2 gX6_angleAt_X3_search rfl rfl rfl (by decide +kernel) ⟨Nat.le_of_ble_eq_true rfl, Nat.le_of_ble_eq_true rfl⟩) (x_preV hK hP hZ (by decide) rfl) rfl rfl hl.1 rfl (lv_room (Nat.le_of_ble_eq_true rfl)) dX6_angleAt_17 ⟨Nat.le_of_ble_eq_true rfl, Nat.le_of_ble_eq_true rfl⟩) hS (fun r17 E1 H locs hq17 hP hS => ?_)
    obtain ⟨hfr17, hor⟩ := hq17
    have hX := (hfr17 0 (by decide)).trans hX
    have hp := hp.keep (E1 := E1) (fun j g1 g2 => hfr17 j (by omega))
    have hsn := hsn.keep (E1 := E1) (fun j g1 g2 => hfr17 j (by omega))
    have hH := hH.keep (E1 := E1) (fun j g1 g2 => hfr17 j (by omega))
    have h57 := (hfr17 57 (by decide)).trans h57
    have h58 := (hfr17 58 (by decide)).trans h58
    have h59 := (hfr17 59 (by decide)).trans h59
    have hA := (hfr17 60 (by decide)).trans hA
    have h61 := (hfr17 61 (by decide)).trans h61
    have h62 := (hfr17 62 (by decide)).trans h62
    have h63 := (hfr17 63 (by decide)).trans h63
    have hfm : ∀ j, 65 ≤ j → E1 j = E j := fun j hj => (hfr17 j (by omega)).trans (hfm j hj)
    refine lv_if_ne (tgt := 26) S.1 S.2.1 dX6_angleAt_20 (by decide) (fun c20 => ?_) (fun c20 => ?_)
    · skip
      obtain ⟨hex, T9, B9, hsp, hZ⟩ : (∃ k, k < zn z ∧ pK (zM z) k = true) ∧ ∃ T B : Int32, isSpin (zM z) (zn z) T.toInt B.toInt ∧ E1 64 = .inr (3, [.ref (xad g 1), .int T, .int B, .int (nI (mk (pF (zM z) T.toInt B.toInt) (zn z)))]) := by rcases hor with ⟨h1, -⟩ | ⟨-, h⟩; exact absurd h1 c20; exact h
      refine lv_aload_n S.1 S.2.1 dX6_angleAt_26 rfl (lv_at hl 0 rfl) ?_
      refine x_get S hK hP dX6_angleAt_27 hX (by decide) (RX6, TX6, 9) rfl hin6 8 (by decide) fl58 rfl ?_
      refine x_get S hK hP dX6_angleAt_30 hZ (by decide) (RX3, TX3, 4) rfl hin3 1 (by decide) fl218 rfl ?_
      refine lv_aload_n S.1 S.2.1 dX6_angleAt_33 rfl (lv_at hl 0 rfl) ?_
      refine x_get S hK hP dX6_angleAt_34 hX (by decide) (RX6, TX6, 9) rfl hin6 8 (by decide) fl58 rfl ?_
      refine x_get S hK hP dX6_angleAt_37 hZ (by decide) (RX3, TX3, 4) rfl hin3 2 (by decide) fl221 rfl ?_
      refine lv_iload_n S.1 S.2.1 dX6_angleAt_40 rfl (lv_at hl 1 rfl) ?_
      refine x_si (va_runS (As := [.int T9, .int B9, .int u]) (rest := []) S (c_X3_angleOf l g E1 (t := T9) (b := B9) (u := u) (by have := hsp.1.1; omega) (by have := hsp.1.2; omega) (rng_toInt (hr4.t c7))) (va_cwS 3 S.2.2.2.2 gX6_angleAt_X3_angleOf rfl rfl rfl (by decide +kernel) ⟨Nat.le_of_ble_eq_true rfl, Nat.le_of_ble_eq_true rfl⟩) (x_preS hK hP) rfl rfl hl.1 rfl (lv_room (Nat.le_of_ble_eq_true rfl)) dX6_angleAt_41 ⟨Nat.le_of_ble_eq_true rfl, Nat.le_of_ble_eq_true rfl⟩) (fun r41 hr41 => ?_)
      exact x_iret S hr hlocks hP hS dX6_angleAt_44 (⟨Or.inr ⟨hr4.t c7, Or.inr ⟨hex, T9, B9, hsp, hr41⟩⟩, sX.mk hX rfl hp hsn hH hHe h57 h58 h59 hA h61 h62 h63 hZ, hfm⟩)
    · skip
      refine lv_bipush (v := (-4)) S.1 S.2.1 dX6_angleAt_23 (by decide) ?_
      exact x_iret S hr hlocks hP hS dX6_angleAt_25 (by rcases hor with ⟨-, hno, u4, u5, u6, hZ⟩ | ⟨h1, -⟩; exact ⟨Or.inr ⟨hr4.t c7, Or.inl ⟨hno, rfl⟩⟩, sX.mk hX rfl hp hsn hH hHe h57 h58 h59 hA h61 h62 h63 hZ, hfm⟩; rw [h1] at c20; exact absurd c20 (by decide))
  · skip
    refine lv_bipush (v := (-2)) S.1 S.2.1 dX6_angleAt_10 (by decide) ?_
    exact x_iret S hr hlocks hP hS dX6_angleAt_12 (⟨Or.inl ⟨hr4.f c7, rfl⟩, sX.mk hX rfl hp hsn hH hHe h57 h58 h59 hA h61 h62 h63 hZ, hfm⟩)
set_option maxHeartbeats 4000000 in
set_option maxRecDepth 100000 in
theorem c_X6_count (l : Launch) (g : xG) (hJ : xJ (xad g)) (E : Nat → va_E) {z : xS} (hz : sX g E z) (hv : vS z) (w : Int32) : Met l yX6_count wsX6_count ({ frames := 6, cells := 0, slots := 0, locals := 165 }) (xPc g [.ref (xad g 0), .int w] E) (xQi g (fun r E1 => sp_count z w r ∧ sX g E1 z ∧ ∀ j, 65 ≤ j → E1 j = E j)) 0 0 (xA (xad g)) := by
  refine x_met (ws' := _) (by decide) rfl (Nat.le_of_ble_eq_true rfl) ?_
  intro pz ez s m below meth cz ls S hr hlocks hP hK hl
  have hl : lv_has ls 2 [(0, .ref (xad g 0)), (1, .int w)] := hl
  have hS : va_S (xA (xad g)) s.heap s.heap [] := va_S.rf
  have hin1 : ∀ w ∈ u_ws RX1 TX1 2, w ∈ wsX6_count := by decide +kernel
  have hin2 : ∀ w ∈ u_ws RX2 TX2 2, w ∈ wsX6_count := by decide +kernel
  have hin4 : ∀ w ∈ u_ws RX4 TX4 4, w ∈ wsX6_count := by decide +kernel
  have hin6 : ∀ w ∈ u_ws RX6 TX6 9, w ∈ wsX6_count := by decide +kernel
  have fl10 : Cond.fieldLink RX6 10 "DiscArcs" "photos" "LDiscArcs$Photos;" ∈ wsX6_count := by decide +kernel
  have fl22 : Cond.fieldLink RX6 22 "DiscArcs" "history" "LDiscArcs$History;" ∈ wsX6_count := by decide +kernel
  have fl29 : Cond.fieldLink RX6 29 "DiscArcs" "text" "LDiscArcs$Text;" ∈ wsX6_count := by decide +kernel
  have fl51 : Cond.fieldLink RX6 51 "DiscArcs" "parting" "LDiscArcs$Track;" ∈ wsX6_count := by decide +kernel
  have fl118 : Cond.fieldLink RX6 118 "DiscArcs$Photos" "size" "I" ∈ wsX6_count := by decide +kernel
  have fl133 : Cond.fieldLink RX6 133 "DiscArcs$Text" "length" "I" ∈ wsX6_count := by decide +kernel
  have fl140 : Cond.fieldLink RX6 140 "DiscArcs$History" "size" "I" ∈ wsX6_count := by decide +kernel
  obtain ⟨hX, hp, hsn, ⟨B, N, MM, hH, hHe⟩, ⟨p0, ta, h57⟩, h58, ⟨f6, h59⟩, ⟨x1, x2, x3, hA⟩, h61, ⟨f2, h62⟩, ⟨f3, h63⟩, u1, u2, u3, hZ⟩ := hz
  have h0 := hp.1
  have hv1 := hv.1.2
  have hfm : ∀ j, 65 ≤ j → E j = E j := fun _ _ => rfl
  refine lv_iload_n S.1 S.2.1 dX6_count_0 rfl (lv_at hl 1 rfl) ?_
  rcases Classical.em (w = 0) with s1_0 | s1_0
  · refine lv_tableIn (off := 39) (tgt := 40) S.1 S.2.1 dX6_count_1 (by rw [s1_0]; decide) (by rw [s1_0]; decide) (by rw [s1_0]; rfl) rfl ?_
    refine lv_aload_n S.1 S.2.1 dX6_count_40 rfl (lv_at hl 0 rfl) ?_
    refine x_get S hK hP dX6_count_41 hX (by decide) (RX6, TX6, 9) rfl hin6 0 (by decide) fl10 rfl ?_
    refine x_get S hK hP dX6_count_44 hp.2.1 (by decide) (RX2, TX2, 2) rfl hin2 1 (by decide) fl118 rfl ?_
    exact x_iret S hr hlocks hP hS dX6_count_47 (⟨Or.inl ⟨s1_0, rfl⟩, sX.mk hX rfl hp hsn hH hHe h57 h58 h59 hA h61 h62 h63 hZ, hfm⟩)
  rcases Classical.em (w = 1) with s1_1 | s1_1
  · refine lv_tableIn (off := 47) (tgt := 48) S.1 S.2.1 dX6_count_1 (by rw [s1_1]; decide) (by rw [s1_1]; decide) (by rw [s1_1]; rfl) rfl ?_
    refine lv_aload_n S.1 S.2.1 dX6_count_48 rfl (lv_at hl 0 rfl) ?_
    refine x_get S hK hP dX6_count_49 hX (by decide) (RX6, TX6, 9) rfl hin6 0 (by decide) fl10 rfl ?_
    refine x_si (va_runV (As := []) (rest := []) S (c_X2_usable l g E hp) (cwV 0 S.2.2.2.2 gX6_count_X2_usable rfl rfl rfl (by decide +kernel) ⟨Nat.le_of_ble_eq_true rfl, Nat.le_of_ble_eq_true rfl⟩) (x_preV hK hP hp.2.1 (by decide) rfl) rfl rfl hl.1 rfl (lv_room (Nat.le_of_ble_eq_true rfl)) dX6_count_52 ⟨Nat.le_of_ble_eq_true rfl, Nat.le_of_ble_eq_true rfl⟩) (fun r52 hr52 => ?_)
    exact x_iret S hr hlocks hP hS dX6_count_55 (⟨Or.inr (Or.inl ⟨s1_1, hr52⟩), sX.mk hX rfl hp hsn hH hHe h57 h58 h59 hA h61 h62 h63 hZ, hfm⟩)
  rcases Classical.em (w = 2) with s1_2 | s1_2
  · refine lv_tableIn (off := 55) (tgt := 56) S.1 S.2.1 dX6_count_1 (by rw [s1_2]; decide) (by rw [s1_2]; decide) (by rw [s1_2]; rfl) rfl ?_
    refine lv_aload_n S.1 S.2.1 dX6_count_56 rfl (lv_at hl 0 rfl) ?_
    refine x_get S hK hP dX6_count_57 hX (by decide) (RX6, TX6, 9) rfl hin6 0 (by decide) fl10 rfl ?_
    refine x_si (va_runV (As := []) (rest := []) S (c_X2_marked l g E hp) (cwV 0 S.2.2.2.2 gX6_count_X2_marked rfl rfl rfl (by decide +kernel) ⟨Nat.le_of_ble_eq_true rfl, Nat.le_of_ble_eq_true rfl⟩) (x_preV hK hP hp.2.1 (by decide) rfl) rfl rfl hl.1 rfl (lv_room (Nat.le_of_ble_eq_true rfl)) dX6_count_60 ⟨Nat.le_of_ble_eq_true rfl, Nat.le_of_ble_eq_true rfl⟩) (fun r60 hr60 => ?_)
    exact x_iret S hr hlocks hP hS dX6_count_63 (⟨Or.inr (Or.inr (Or.inl ⟨s1_2, hr60⟩)), sX.mk hX rfl hp hsn hH hHe h57 h58 h59 hA h61 h62 h63 hZ, hfm⟩)
  rcases Classical.em (w = 3) with s1_3 | s1_3
  · refine lv_tableIn (off := 63) (tgt := 64) S.1 S.2.1 dX6_count_1 (by rw [s1_3]; decide) (by rw [s1_3]; decide) (by rw [s1_3]; rfl) rfl ?_
    refine lv_aload_n S.1 S.2.1 dX6_count_64 rfl (lv_at hl 0 rfl) ?_
    refine x_get S hK hP dX6_count_65 hX (by decide) (RX6, TX6, 9) rfl hin6 7 (by decide) fl51 rfl ?_
    refine x_qi (va_runV (As := []) (rest := []) S (c_X5_plan l g hJ E h61 hp hA hv1 h62 h63) (cwV 0 S.2.2.2.2 gX6_count_X5_plan rfl rfl rfl (by decide +kernel) ⟨Nat.le_of_ble_eq_true rfl, Nat.le_of_ble_eq_true rfl⟩) (x_preV hK hP h61 (by decide) rfl) rfl rfl hl.1 rfl (lv_room (Nat.le_of_ble_eq_true rfl)) dX6_count_68 ⟨Nat.le_of_ble_eq_true rfl, Nat.le_of_ble_eq_true rfl⟩) hS (fun r68 E1 H locs hq68 hP hS => ?_)
    obtain ⟨hfr68, ⟨w1, w2, w3, hA⟩, y2, y3, R, T, h62, h63, htk, hRT, hr68⟩ := hq68
    have hX := (hfr68 0 (by decide)).trans hX
    have hp := hp.keep (E1 := E1) (fun j g1 g2 => hfr68 j (by omega))
    have hsn := hsn.keep (E1 := E1) (fun j g1 g2 => hfr68 j (by omega))
    have hH := hH.keep (E1 := E1) (fun j g1 g2 => hfr68 j (by omega))
    have h57 := (hfr68 57 (by decide)).trans h57
    have h58 := (hfr68 58 (by decide)).trans h58
    have h59 := (hfr68 59 (by decide)).trans h59
    have h61 := (hfr68 61 (by decide)).trans h61
    have hZ := (hfr68 64 (by decide)).trans hZ
    have hfm : ∀ j, 65 ≤ j → E1 j = E j := fun j hj => (hfr68 j (by omega)).trans (hfm j hj)
    exact x_iret S hr hlocks hP hS dX6_count_71 (⟨Or.inr (Or.inr (Or.inr (Or.inl ⟨s1_3, R, T, htk, hr68⟩))), sX.mk hX rfl hp hsn hH hHe h57 h58 h59 hA h61 h62 h63 hZ, hfm⟩)
  rcases Classical.em (w = 4) with s1_4 | s1_4
  · refine lv_tableIn (off := 71) (tgt := 72) S.1 S.2.1 dX6_count_1 (by rw [s1_4]; decide) (by rw [s1_4]; decide) (by rw [s1_4]; rfl) rfl ?_
    refine lv_aload_n S.1 S.2.1 dX6_count_72 rfl (lv_at hl 0 rfl) ?_
    refine x_get S hK hP dX6_count_73 hX (by decide) (RX6, TX6, 9) rfl hin6 3 (by decide) fl22 rfl ?_
    refine x_get S hK hP dX6_count_76 hH.2.1 (by decide) (RX1, TX1, 2) rfl hin1 1 (by decide) fl140 rfl ?_
    exact x_iret S hr hlocks hP hS dX6_count_79 (⟨Or.inr (Or.inr (Or.inr (Or.inr (Or.inl ⟨s1_4, rfl⟩)))), sX.mk hX rfl hp hsn hH hHe h57 h58 h59 hA h61 h62 h63 hZ, hfm⟩)
  rcases Classical.em (w = 5) with s1_5 | s1_5
  · refine lv_tableIn (off := 79) (tgt := 80) S.1 S.2.1 dX6_count_1 (by rw [s1_5]; decide) (by rw [s1_5]; decide) (by rw [s1_5]; rfl) rfl ?_
    refine lv_aload_n S.1 S.2.1 dX6_count_80 rfl (lv_at hl 0 rfl) ?_
    refine x_get S hK hP dX6_count_81 hX (by decide) (RX6, TX6, 9) rfl hin6 4 (by decide) fl29 rfl ?_
    refine x_get S hK hP dX6_count_84 h57 (by decide) (RX4, TX4, 4) rfl hin4 1 (by decide) fl133 rfl ?_
    exact x_iret S hr hlocks hP hS dX6_count_87 (⟨Or.inr (Or.inr (Or.inr (Or.inr (Or.inr (Or.inl ⟨s1_5, rfl⟩))))), sX.mk hX rfl hp hsn hH hHe h57 h58 h59 hA h61 h62 h63 hZ, hfm⟩)
  refine lv_tableOut (tgt := 88) S.1 S.2.1 dX6_count_1 (by have := lv_neT s1_0 (a := 0) (by decide); have := lv_neT s1_1 (a := 1) (by decide); have := lv_neT s1_2 (a := 2) (by decide); have := lv_neT s1_3 (a := 3) (by decide); have := lv_neT s1_4 (a := 4) (by decide); have := lv_neT s1_5 (a := 5) (by decide); omega) rfl ?_
  refine lv_bipush (v := (-2)) S.1 S.2.1 dX6_count_88 (by decide) ?_
  exact x_iret S hr hlocks hP hS dX6_count_90 (⟨Or.inr (Or.inr (Or.inr (Or.inr (Or.inr (Or.inr ⟨fun h => by rcases h with h | h | h | h | h | h; exact s1_0 h; exact s1_1 h; exact s1_2 h; exact s1_3 h; exact s1_4 h; exact s1_5 h, rfl⟩))))), sX.mk hX rfl hp hsn hH hHe h57 h58 h59 hA h61 h62 h63 hZ, hfm⟩)
set_option maxHeartbeats 4000000 in
set_option maxRecDepth 100000 in
theorem c_X6_photo (l : Launch) (g : xG) (hJ : xJ (xad g)) (E : Nat → va_E) {z : xS} (hz : sX g E z) (hv : vS z) (x w : Int32) : Met l yX6_photo wsX6_photo ({ frames := 7, cells := 0, slots := 0, locals := 164 }) (xPc g [.ref (xad g 0), .int x, .int w] E) (xQi g (fun r E1 => sp_photo z x w r ∧ sX g E1 z ∧ ∀ j, 65 ≤ j → E1 j = E j)) 0 0 (xA (xad g)) := by
  refine x_met (ws' := _) (by decide) rfl (Nat.le_of_ble_eq_true rfl) ?_
  intro pz ez s m below meth cz ls S hr hlocks hP hK hl
  have hl : lv_has ls 3 [(0, .ref (xad g 0)), (1, .int x), (2, .int w)] := hl
  have hS : va_S (xA (xad g)) s.heap s.heap [] := va_S.rf
  have hin2 : ∀ w ∈ u_ws RX2 TX2 2, w ∈ wsX6_photo := by decide +kernel
  have hin3 : ∀ w ∈ u_ws RX3 TX3 4, w ∈ wsX6_photo := by decide +kernel
  have hin6 : ∀ w ∈ u_ws RX6 TX6 9, w ∈ wsX6_photo := by decide +kernel
  have fl10 : Cond.fieldLink RX6 10 "DiscArcs" "photos" "LDiscArcs$Photos;" ∈ wsX6_photo := by decide +kernel
  have fl58 : Cond.fieldLink RX6 58 "DiscArcs" "turning" "LDiscArcs$Spin;" ∈ wsX6_photo := by decide +kernel
  have fl90 : Cond.fieldLink RX6 90 "DiscArcs$Photos" "rows" "[[I" ∈ wsX6_photo := by decide +kernel
  have fl156 : Cond.fieldLink RX6 156 "DiscArcs$Spin" "fitted" "I" ∈ wsX6_photo := by decide +kernel
  obtain ⟨hX, hp, hsn, ⟨B, N, MM, hH, hHe⟩, ⟨p0, ta, h57⟩, h58, ⟨f6, h59⟩, ⟨x1, x2, x3, hA⟩, h61, ⟨f2, h62⟩, ⟨f3, h63⟩, u1, u2, u3, hZ⟩ := hz
  have h0 := hp.1
  have hv1 := hv.1.2
  have hfm : ∀ j, 65 ≤ j → E j = E j := fun _ _ => rfl
  refine lv_aload_n S.1 S.2.1 dX6_photo_0 rfl (lv_at hl 0 rfl) ?_
  refine x_get S hK hP dX6_photo_1 hX (by decide) (RX6, TX6, 9) rfl hin6 0 (by decide) fl10 rfl ?_
  refine lv_iload_n S.1 S.2.1 dX6_photo_4 rfl (lv_at hl 1 rfl) ?_
  refine x_si (va_runV (As := [.int x]) (rest := []) S (c_X2_holds l g E hp x) (cwV 1 S.2.2.2.2 gX6_photo_X2_holds rfl rfl rfl (by decide +kernel) ⟨Nat.le_of_ble_eq_true rfl, Nat.le_of_ble_eq_true rfl⟩) (x_preV hK hP hp.2.1 (by decide) rfl) rfl rfl hl.1 rfl (lv_room (Nat.le_of_ble_eq_true rfl)) dX6_photo_5 ⟨Nat.le_of_ble_eq_true rfl, Nat.le_of_ble_eq_true rfl⟩) (fun r5 hr5 => ?_)
  refine lv_if_ne (tgt := 13) S.1 S.2.1 dX6_photo_8 (by decide) (fun c8 => ?_) (fun c8 => ?_)
  · skip
    obtain ⟨k, hk, rfl⟩ := hr5.t c8
    refine lv_iload_n S.1 S.2.1 dX6_photo_13 rfl (lv_at hl 2 rfl) ?_
    refine lv_iconst (v := 0) S.1 S.2.1 dX6_photo_14 (by decide) ?_
    refine lv_bipush (v := 7) S.1 S.2.1 dX6_photo_15 (by decide) ?_
    refine x_si (va_runS (As := [.int w, .int 0, .int 7]) (rest := []) S (c_X6_isWithin l g E w 0 7) (va_cwS 3 S.2.2.2.2 gX6_photo_X6_isWithin rfl rfl rfl (by decide +kernel) ⟨Nat.le_of_ble_eq_true rfl, Nat.le_of_ble_eq_true rfl⟩) (x_preS hK hP) rfl rfl hl.1 rfl (lv_room (Nat.le_of_ble_eq_true rfl)) dX6_photo_17 ⟨Nat.le_of_ble_eq_true rfl, Nat.le_of_ble_eq_true rfl⟩) (fun r17 hr17 => ?_)
    refine lv_if_ne (tgt := 26) S.1 S.2.1 dX6_photo_20 (by decide) (fun c20 => ?_) (fun c20 => ?_)
    · skip
      refine lv_iload_n S.1 S.2.1 dX6_photo_26 rfl (lv_at hl 2 rfl) ?_
      rcases Classical.em (w = 1) with s27_1 | s27_1
      · refine lv_tableIn (off := 41) (tgt := 68) S.1 S.2.1 dX6_photo_27 (by rw [s27_1]; decide) (by rw [s27_1]; decide) (by rw [s27_1]; rfl) rfl ?_
        refine lv_aload_n S.1 S.2.1 dX6_photo_68 rfl (lv_at hl 0 rfl) ?_
        refine x_get S hK hP dX6_photo_69 hX (by decide) (RX6, TX6, 9) rfl hin6 0 (by decide) fl10 rfl ?_
        refine x_get S hK hP dX6_photo_72 hp.2.1 (by decide) (RX2, TX2, 2) rfl hin2 0 (by decide) fl90 rfl ?_
        refine lv_iload_n S.1 S.2.1 dX6_photo_75 rfl (lv_at hl 2 rfl) ?_
        refine W.eq (g2 := F0 m 76 ls [.int (nI 1), .ref (xad g 2)]) (by rw [s27_1]; rfl) ?_
        refine x_row S hK hP dX6_photo_76 hp 1 rfl (by decide) ?_
        refine lv_iload_n S.1 S.2.1 dX6_photo_77 rfl (lv_at hl 1 rfl) ?_
        refine x_val S hK hP dX6_photo_78 hp (w := 1) k rfl (by decide) hk ?_
        refine lv_sipush (v := 1000) S.1 S.2.1 dX6_photo_79 (by decide) ?_
        refine lv_iadd S.1 S.2.1 dX6_photo_82 ?_
        exact x_iret S hr hlocks hP hS dX6_photo_83 (⟨Or.inr ⟨k, hk, rfl, Or.inr (Or.inl ⟨1, by decide, s27_1, by simp [phv]⟩)⟩, sX.mk hX rfl hp hsn hH hHe h57 h58 h59 hA h61 h62 h63 hZ, hfm⟩)
      rcases Classical.em (w = 2) with s27_2 | s27_2
      · refine lv_tableIn (off := 41) (tgt := 68) S.1 S.2.1 dX6_photo_27 (by rw [s27_2]; decide) (by rw [s27_2]; decide) (by rw [s27_2]; rfl) rfl ?_
        refine lv_aload_n S.1 S.2.1 dX6_photo_68 rfl (lv_at hl 0 rfl) ?_
        refine x_get S hK hP dX6_photo_69 hX (by decide) (RX6, TX6, 9) rfl hin6 0 (by decide) fl10 rfl ?_
        refine x_get S hK hP dX6_photo_72 hp.2.1 (by decide) (RX2, TX2, 2) rfl hin2 0 (by decide) fl90 rfl ?_
        refine lv_iload_n S.1 S.2.1 dX6_photo_75 rfl (lv_at hl 2 rfl) ?_
        refine W.eq (g2 := F0 m 76 ls [.int (nI 2), .ref (xad g 2)]) (by rw [s27_2]; rfl) ?_
        refine x_row S hK hP dX6_photo_76 hp 2 rfl (by decide) ?_
        refine lv_iload_n S.1 S.2.1 dX6_photo_77 rfl (lv_at hl 1 rfl) ?_
        refine x_val S hK hP dX6_photo_78 hp (w := 2) k rfl (by decide) hk ?_
        refine lv_sipush (v := 1000) S.1 S.2.1 dX6_photo_79 (by decide) ?_
        refine lv_iadd S.1 S.2.1 dX6_photo_82 ?_
        exact x_iret S hr hlocks hP hS dX6_photo_83 (⟨Or.inr ⟨k, hk, rfl, Or.inr (Or.inl ⟨2, by decide, s27_2, by simp [phv]⟩)⟩, sX.mk hX rfl hp hsn hH hHe h57 h58 h59 hA h61 h62 h63 hZ, hfm⟩)
      rcases Classical.em (w = 3) with s27_3 | s27_3
      · refine lv_tableIn (off := 129) (tgt := 156) S.1 S.2.1 dX6_photo_27 (by rw [s27_3]; decide) (by rw [s27_3]; decide) (by rw [s27_3]; rfl) rfl ?_
        refine lv_aload_n S.1 S.2.1 dX6_photo_156 rfl (lv_at hl 0 rfl) ?_
        refine x_get S hK hP dX6_photo_157 hX (by decide) (RX6, TX6, 9) rfl hin6 0 (by decide) fl10 rfl ?_
        refine x_get S hK hP dX6_photo_160 hp.2.1 (by decide) (RX2, TX2, 2) rfl hin2 0 (by decide) fl90 rfl ?_
        refine lv_iload_n S.1 S.2.1 dX6_photo_163 rfl (lv_at hl 2 rfl) ?_
        refine W.eq (g2 := F0 m 164 ls [.int (nI 3), .ref (xad g 2)]) (by rw [s27_3]; rfl) ?_
        refine x_row S hK hP dX6_photo_164 hp 3 rfl (by decide) ?_
        refine lv_iload_n S.1 S.2.1 dX6_photo_165 rfl (lv_at hl 1 rfl) ?_
        refine x_val S hK hP dX6_photo_166 hp (w := 3) k rfl (by decide) hk ?_
        exact x_iret S hr hlocks hP hS dX6_photo_167 (⟨Or.inr ⟨k, hk, rfl, Or.inr (Or.inl ⟨3, by decide, s27_3, by simp [phv]⟩)⟩, sX.mk hX rfl hp hsn hH hHe h57 h58 h59 hA h61 h62 h63 hZ, hfm⟩)
      rcases Classical.em (w = 4) with s27_4 | s27_4
      · refine lv_tableIn (off := 57) (tgt := 84) S.1 S.2.1 dX6_photo_27 (by rw [s27_4]; decide) (by rw [s27_4]; decide) (by rw [s27_4]; rfl) rfl ?_
        refine lv_aload_n S.1 S.2.1 dX6_photo_84 rfl (lv_at hl 0 rfl) ?_
        refine x_get S hK hP dX6_photo_85 hX (by decide) (RX6, TX6, 9) rfl hin6 0 (by decide) fl10 rfl ?_
        refine lv_iload_n S.1 S.2.1 dX6_photo_88 rfl (lv_at hl 1 rfl) ?_
        refine x_si (va_runV (As := [.int (nI k)]) (rest := []) S (c_X2_hasAngle l g E hp hk) (cwV 1 S.2.2.2.2 gX6_photo_X2_hasAngle rfl rfl rfl (by decide +kernel) ⟨Nat.le_of_ble_eq_true rfl, Nat.le_of_ble_eq_true rfl⟩) (x_preV hK hP hp.2.1 (by decide) rfl) rfl rfl hl.1 rfl (lv_room (Nat.le_of_ble_eq_true rfl)) dX6_photo_89 ⟨Nat.le_of_ble_eq_true rfl, Nat.le_of_ble_eq_true rfl⟩) (fun r89 hr89 => ?_)
        refine lv_if_eq (tgt := 109) S.1 S.2.1 dX6_photo_92 (by decide) (fun c92 => ?_) (fun c92 => ?_)
        · skip
          refine lv_bipush (v := (-5)) S.1 S.2.1 dX6_photo_109 (by decide) ?_
          exact x_iret S hr hlocks hP hS dX6_photo_111 (⟨Or.inr ⟨k, hk, rfl, Or.inr (Or.inl ⟨4, by decide, s27_4, by simp [phv, Classical.not_not.mp (hr89.f c92)]⟩)⟩, sX.mk hX rfl hp hsn hH hHe h57 h58 h59 hA h61 h62 h63 hZ, hfm⟩)
        · skip
          refine lv_aload_n S.1 S.2.1 dX6_photo_95 rfl (lv_at hl 0 rfl) ?_
          refine x_get S hK hP dX6_photo_96 hX (by decide) (RX6, TX6, 9) rfl hin6 0 (by decide) fl10 rfl ?_
          refine x_get S hK hP dX6_photo_99 hp.2.1 (by decide) (RX2, TX2, 2) rfl hin2 0 (by decide) fl90 rfl ?_
          refine lv_iload_n S.1 S.2.1 dX6_photo_102 rfl (lv_at hl 2 rfl) ?_
          refine W.eq (g2 := F0 m 103 ls [.int (nI 4), .ref (xad g 2)]) (by rw [s27_4]; rfl) ?_
          refine x_row S hK hP dX6_photo_103 hp 4 rfl (by decide) ?_
          refine lv_iload_n S.1 S.2.1 dX6_photo_104 rfl (lv_at hl 1 rfl) ?_
          refine x_val S hK hP dX6_photo_105 hp (w := 4) k rfl (by decide) hk ?_
          refine lv_goto (tgt := 111) S.1 S.2.1 dX6_photo_106 (by decide) ?_
          exact x_iret S hr hlocks hP hS dX6_photo_111 (⟨Or.inr ⟨k, hk, rfl, Or.inr (Or.inl ⟨4, by decide, s27_4, by simp [phv, hr89.t c92]⟩)⟩, sX.mk hX rfl hp hsn hH hHe h57 h58 h59 hA h61 h62 h63 hZ, hfm⟩)
      rcases Classical.em (w = 5) with s27_5 | s27_5
      · refine lv_tableIn (off := 57) (tgt := 84) S.1 S.2.1 dX6_photo_27 (by rw [s27_5]; decide) (by rw [s27_5]; decide) (by rw [s27_5]; rfl) rfl ?_
        refine lv_aload_n S.1 S.2.1 dX6_photo_84 rfl (lv_at hl 0 rfl) ?_
        refine x_get S hK hP dX6_photo_85 hX (by decide) (RX6, TX6, 9) rfl hin6 0 (by decide) fl10 rfl ?_
        refine lv_iload_n S.1 S.2.1 dX6_photo_88 rfl (lv_at hl 1 rfl) ?_
        refine x_si (va_runV (As := [.int (nI k)]) (rest := []) S (c_X2_hasAngle l g E hp hk) (cwV 1 S.2.2.2.2 gX6_photo_X2_hasAngle rfl rfl rfl (by decide +kernel) ⟨Nat.le_of_ble_eq_true rfl, Nat.le_of_ble_eq_true rfl⟩) (x_preV hK hP hp.2.1 (by decide) rfl) rfl rfl hl.1 rfl (lv_room (Nat.le_of_ble_eq_true rfl)) dX6_photo_89 ⟨Nat.le_of_ble_eq_true rfl, Nat.le_of_ble_eq_true rfl⟩) (fun r89 hr89 => ?_)
        refine lv_if_eq (tgt := 109) S.1 S.2.1 dX6_photo_92 (by decide) (fun c92 => ?_) (fun c92 => ?_)
        · skip
          refine lv_bipush (v := (-5)) S.1 S.2.1 dX6_photo_109 (by decide) ?_
          exact x_iret S hr hlocks hP hS dX6_photo_111 (⟨Or.inr ⟨k, hk, rfl, Or.inr (Or.inl ⟨5, by decide, s27_5, by simp [phv, Classical.not_not.mp (hr89.f c92)]⟩)⟩, sX.mk hX rfl hp hsn hH hHe h57 h58 h59 hA h61 h62 h63 hZ, hfm⟩)
        · skip
          refine lv_aload_n S.1 S.2.1 dX6_photo_95 rfl (lv_at hl 0 rfl) ?_
          refine x_get S hK hP dX6_photo_96 hX (by decide) (RX6, TX6, 9) rfl hin6 0 (by decide) fl10 rfl ?_
          refine x_get S hK hP dX6_photo_99 hp.2.1 (by decide) (RX2, TX2, 2) rfl hin2 0 (by decide) fl90 rfl ?_
          refine lv_iload_n S.1 S.2.1 dX6_photo_102 rfl (lv_at hl 2 rfl) ?_
          refine W.eq (g2 := F0 m 103 ls [.int (nI 5), .ref (xad g 2)]) (by rw [s27_5]; rfl) ?_
          refine x_row S hK hP dX6_photo_103 hp 5 rfl (by decide) ?_
          refine lv_iload_n S.1 S.2.1 dX6_photo_104 rfl (lv_at hl 1 rfl) ?_
          refine x_val S hK hP dX6_photo_105 hp (w := 5) k rfl (by decide) hk ?_
          refine lv_goto (tgt := 111) S.1 S.2.1 dX6_photo_106 (by decide) ?_
          exact x_iret S hr hlocks hP hS dX6_photo_111 (⟨Or.inr ⟨k, hk, rfl, Or.inr (Or.inl ⟨5, by decide, s27_5, by simp [phv, hr89.t c92]⟩)⟩, sX.mk hX rfl hp hsn hH hHe h57 h58 h59 hA h61 h62 h63 hZ, hfm⟩)
      rcases Classical.em (w = 6) with s27_6 | s27_6
      · refine lv_tableIn (off := 129) (tgt := 156) S.1 S.2.1 dX6_photo_27 (by rw [s27_6]; decide) (by rw [s27_6]; decide) (by rw [s27_6]; rfl) rfl ?_
        refine lv_aload_n S.1 S.2.1 dX6_photo_156 rfl (lv_at hl 0 rfl) ?_
        refine x_get S hK hP dX6_photo_157 hX (by decide) (RX6, TX6, 9) rfl hin6 0 (by decide) fl10 rfl ?_
        refine x_get S hK hP dX6_photo_160 hp.2.1 (by decide) (RX2, TX2, 2) rfl hin2 0 (by decide) fl90 rfl ?_
        refine lv_iload_n S.1 S.2.1 dX6_photo_163 rfl (lv_at hl 2 rfl) ?_
        refine W.eq (g2 := F0 m 164 ls [.int (nI 6), .ref (xad g 2)]) (by rw [s27_6]; rfl) ?_
        refine x_row S hK hP dX6_photo_164 hp 6 rfl (by decide) ?_
        refine lv_iload_n S.1 S.2.1 dX6_photo_165 rfl (lv_at hl 1 rfl) ?_
        refine x_val S hK hP dX6_photo_166 hp (w := 6) k rfl (by decide) hk ?_
        exact x_iret S hr hlocks hP hS dX6_photo_167 (⟨Or.inr ⟨k, hk, rfl, Or.inr (Or.inl ⟨6, by decide, s27_6, by simp [phv]⟩)⟩, sX.mk hX rfl hp hsn hH hHe h57 h58 h59 hA h61 h62 h63 hZ, hfm⟩)
      rcases Classical.em (w = 7) with s27_7 | s27_7
      · refine lv_tableIn (off := 85) (tgt := 112) S.1 S.2.1 dX6_photo_27 (by rw [s27_7]; decide) (by rw [s27_7]; decide) (by rw [s27_7]; rfl) rfl ?_
        refine lv_aload_n S.1 S.2.1 dX6_photo_112 rfl (lv_at hl 0 rfl) ?_
        refine x_get S hK hP dX6_photo_113 hX (by decide) (RX6, TX6, 9) rfl hin6 0 (by decide) fl10 rfl ?_
        refine lv_iload_n S.1 S.2.1 dX6_photo_116 rfl (lv_at hl 1 rfl) ?_
        refine x_si (va_runV (As := [.int (nI k)]) (rest := []) S (c_X2_isMarked l g E hp hk) (cwV 1 S.2.2.2.2 gX6_photo_X2_isMarked rfl rfl rfl (by decide +kernel) ⟨Nat.le_of_ble_eq_true rfl, Nat.le_of_ble_eq_true rfl⟩) (x_preV hK hP hp.2.1 (by decide) rfl) rfl rfl hl.1 rfl (lv_room (Nat.le_of_ble_eq_true rfl)) dX6_photo_117 ⟨Nat.le_of_ble_eq_true rfl, Nat.le_of_ble_eq_true rfl⟩) (fun r117 hr117 => ?_)
        refine lv_if_eq (tgt := 133) S.1 S.2.1 dX6_photo_120 (by decide) (fun c120 => ?_) (fun c120 => ?_)
        · skip
          refine lv_bipush (v := (-5)) S.1 S.2.1 dX6_photo_133 (by decide) ?_
          exact x_iret S hr hlocks hP hS dX6_photo_135 (⟨Or.inr ⟨k, hk, rfl, Or.inr (Or.inr ⟨s27_7, Or.inl ⟨hr117.f c120, rfl⟩⟩)⟩, sX.mk hX rfl hp hsn hH hHe h57 h58 h59 hA h61 h62 h63 hZ, hfm⟩)
        · skip
          refine lv_aload_n S.1 S.2.1 dX6_photo_123 rfl (lv_at hl 0 rfl) ?_
          refine x_get S hK hP dX6_photo_124 hX (by decide) (RX6, TX6, 9) rfl hin6 8 (by decide) fl58 rfl ?_
          refine x_qi (va_runV (As := []) (rest := []) S (c_X3_search l g hJ E hZ hp hv1) (cwV 0 S.2.2.2.2 gX6_photo_X3_search rfl rfl rfl (by decide +kernel) ⟨Nat.le_of_ble_eq_true rfl, Nat.le_of_ble_eq_true rfl⟩) (x_preV hK hP hZ (by decide) rfl) rfl rfl hl.1 rfl (lv_room (Nat.le_of_ble_eq_true rfl)) dX6_photo_127 ⟨Nat.le_of_ble_eq_true rfl, Nat.le_of_ble_eq_true rfl⟩) hS (fun r127 E1 H locs hq127 hP hS => ?_)
          obtain ⟨hfr127, hor⟩ := hq127
          have hX := (hfr127 0 (by decide)).trans hX
          have hp := hp.keep (E1 := E1) (fun j g1 g2 => hfr127 j (by omega))
          have hsn := hsn.keep (E1 := E1) (fun j g1 g2 => hfr127 j (by omega))
          have hH := hH.keep (E1 := E1) (fun j g1 g2 => hfr127 j (by omega))
          have h57 := (hfr127 57 (by decide)).trans h57
          have h58 := (hfr127 58 (by decide)).trans h58
          have h59 := (hfr127 59 (by decide)).trans h59
          have hA := (hfr127 60 (by decide)).trans hA
          have h61 := (hfr127 61 (by decide)).trans h61
          have h62 := (hfr127 62 (by decide)).trans h62
          have h63 := (hfr127 63 (by decide)).trans h63
          have hfm : ∀ j, 65 ≤ j → E1 j = E j := fun j hj => (hfr127 j (by omega)).trans (hfm j hj)
          refine lv_if_ne (tgt := 136) S.1 S.2.1 dX6_photo_130 (by decide) (fun c130 => ?_) (fun c130 => ?_)
          · skip
            obtain ⟨hex, T9, B9, hsp, hZ⟩ : (∃ k, k < zn z ∧ pK (zM z) k = true) ∧ ∃ T B : Int32, isSpin (zM z) (zn z) T.toInt B.toInt ∧ E1 64 = .inr (3, [.ref (xad g 1), .int T, .int B, .int (nI (mk (pF (zM z) T.toInt B.toInt) (zn z)))]) := by rcases hor with ⟨h1, -⟩ | ⟨-, h⟩; exact absurd h1 c130; exact h
            refine lv_aload_n S.1 S.2.1 dX6_photo_136 rfl (lv_at hl 0 rfl) ?_
            refine x_get S hK hP dX6_photo_137 hX (by decide) (RX6, TX6, 9) rfl hin6 8 (by decide) fl58 rfl ?_
            refine x_get S hK hP dX6_photo_140 hZ (by decide) (RX3, TX3, 4) rfl hin3 3 (by decide) fl156 rfl ?_
            refine lv_iload_n S.1 S.2.1 dX6_photo_143 rfl (lv_at hl 1 rfl) ?_
            refine x_si (va_runS (As := [.int (nI (mk (pF (zM z) T9.toInt B9.toInt) (zn z))), .int (nI k)]) (rest := []) S (c_X6_isIn l g E1 (mk_lt10 (pF (zM z) T9.toInt B9.toInt) h0.2) (show k < 10 by omega)) (va_cwS 2 S.2.2.2.2 gX6_photo_X6_isIn rfl rfl rfl (by decide +kernel) ⟨Nat.le_of_ble_eq_true rfl, Nat.le_of_ble_eq_true rfl⟩) (x_preS hK hP) rfl rfl hl.1 rfl (lv_room (Nat.le_of_ble_eq_true rfl)) dX6_photo_144 ⟨Nat.le_of_ble_eq_true rfl, Nat.le_of_ble_eq_true rfl⟩) (fun r144 hr144 => ?_)
            refine lv_if_eq (tgt := 154) S.1 S.2.1 dX6_photo_147 (by decide) (fun c147 => ?_) (fun c147 => ?_)
            · skip
              refine lv_iconst (v := 0) S.1 S.2.1 dX6_photo_154 (by decide) ?_
              exact x_iret S hr hlocks hP hS dX6_photo_155 (⟨Or.inr ⟨k, hk, rfl, Or.inr (Or.inr ⟨s27_7, Or.inr ⟨hr117.t c120, T9, B9, hsp, by rw [show pF (zM z) T9.toInt B9.toInt k = false from (mk_in hk).symm.trans (Bool.eq_false_iff.mpr (hr144.f c147))]; rfl⟩⟩)⟩, sX.mk hX rfl hp hsn hH hHe h57 h58 h59 hA h61 h62 h63 hZ, hfm⟩)
            · skip
              refine lv_iconst (v := 1) S.1 S.2.1 dX6_photo_150 (by decide) ?_
              refine lv_goto (tgt := 155) S.1 S.2.1 dX6_photo_151 (by decide) ?_
              exact x_iret S hr hlocks hP hS dX6_photo_155 (⟨Or.inr ⟨k, hk, rfl, Or.inr (Or.inr ⟨s27_7, Or.inr ⟨hr117.t c120, T9, B9, hsp, by rw [show pF (zM z) T9.toInt B9.toInt k = true from (mk_in hk).symm.trans (hr144.t c147)]; rfl⟩⟩)⟩, sX.mk hX rfl hp hsn hH hHe h57 h58 h59 hA h61 h62 h63 hZ, hfm⟩)
          · skip
            refine lv_bipush (v := (-5)) S.1 S.2.1 dX6_photo_133 (by decide) ?_
            exact x_iret S hr hlocks hP hS dX6_photo_135 (by rcases hor with ⟨-, hno, u4, u5, u6, hZ⟩ | ⟨h1, -⟩; exact absurd (hr117.t c120) (hno k hk); rw [h1] at c130; exact absurd c130 (by decide))
      refine lv_tableOut (tgt := 156) S.1 S.2.1 dX6_photo_27 (by have := lv_neT s27_1 (a := 1) (by decide); have := lv_neT s27_2 (a := 2) (by decide); have := lv_neT s27_3 (a := 3) (by decide); have := lv_neT s27_4 (a := 4) (by decide); have := lv_neT s27_5 (a := 5) (by decide); have := lv_neT s27_6 (a := 6) (by decide); have := lv_neT s27_7 (a := 7) (by decide); omega) rfl ?_
      obtain ⟨v9, hv9, hvw⟩ := in_nat (m := 7) (by decide) (hr17.t c20).1 (hr17.t c20).2
      have s27_0 : w = 0 := by
        have h8 : v9 = 0 ∨ v9 = 1 ∨ v9 = 2 ∨ v9 = 3 ∨ v9 = 4 ∨ v9 = 5 ∨ v9 = 6 ∨ v9 = 7 := by omega
        rcases h8 with e | e | e | e | e | e | e | e <;> subst e
        · exact hvw
        · exact absurd hvw s27_1
        · exact absurd hvw s27_2
        · exact absurd hvw s27_3
        · exact absurd hvw s27_4
        · exact absurd hvw s27_5
        · exact absurd hvw s27_6
        · exact absurd hvw s27_7
      refine lv_aload_n S.1 S.2.1 dX6_photo_156 rfl (lv_at hl 0 rfl) ?_
      refine x_get S hK hP dX6_photo_157 hX (by decide) (RX6, TX6, 9) rfl hin6 0 (by decide) fl10 rfl ?_
      refine x_get S hK hP dX6_photo_160 hp.2.1 (by decide) (RX2, TX2, 2) rfl hin2 0 (by decide) fl90 rfl ?_
      refine lv_iload_n S.1 S.2.1 dX6_photo_163 rfl (lv_at hl 2 rfl) ?_
      refine W.eq (g2 := F0 m 164 ls [.int (nI 0), .ref (xad g 2)]) (by rw [s27_0]; rfl) ?_
      refine x_row S hK hP dX6_photo_164 hp 0 rfl (by decide) ?_
      refine lv_iload_n S.1 S.2.1 dX6_photo_165 rfl (lv_at hl 1 rfl) ?_
      refine x_val S hK hP dX6_photo_166 hp (w := 0) k rfl (by decide) hk ?_
      exact x_iret S hr hlocks hP hS dX6_photo_167 (⟨Or.inr ⟨k, hk, rfl, Or.inr (Or.inl ⟨0, by decide, s27_0, by simp [phv]⟩)⟩, sX.mk hX rfl hp hsn hH hHe h57 h58 h59 hA h61 h62 h63 hZ, hfm⟩)
    · skip
      refine lv_bipush (v := (-2)) S.1 S.2.1 dX6_photo_23 (by decide) ?_
      exact x_iret S hr hlocks hP hS dX6_photo_25 (⟨Or.inr ⟨k, hk, rfl, Or.inl ⟨in_natn (m := 7) (by decide) (hr17.f c20), rfl⟩⟩, sX.mk hX rfl hp hsn hH hHe h57 h58 h59 hA h61 h62 h63 hZ, hfm⟩)
  · skip
    refine lv_iconst (v := (-1)) S.1 S.2.1 dX6_photo_11 (by decide) ?_
    exact x_iret S hr hlocks hP hS dX6_photo_12 (⟨Or.inl ⟨hr5.f c8, rfl⟩, sX.mk hX rfl hp hsn hH hHe h57 h58 h59 hA h61 h62 h63 hZ, hfm⟩)
