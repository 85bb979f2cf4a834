/-! THE LAW: the best arc -/
section VB
variable {z : xS} {i j k p : Nat} {r w t q x : Int32} {M : Nat → Nat → Int32} {n : Nat} {y : Int64} {P : Nat → Bool}
theorem cnt_monoN {P : Nat → Bool} {m n : Nat} (h : m ≤ n) : cnt P m ≤ cnt P n := by
  induction n with
  | zero => rw [show m = 0 by omega]; exact Nat.le_refl _
  | succ n ih =>
    by_cases e : m = n + 1
    · rw [e]; exact Nat.le_refl _
    · exact Nat.le_trans (ih (by omega)) (Nat.le_add_right _ _)
theorem cnt_at {P : Nat → Bool} {m : Nat} (h : P m = true) : cnt P (m + 1) = cnt P m + 1 := by
  show cnt P m + (if P m then 1 else 0) = _
  rw [if_pos h]
theorem cnt_get {P : Nat → Bool} : ∀ n, 0 < cnt P n → ∃ m, m < n ∧ P m = true ∧ cnt P m + 1 = cnt P n
  | 0, h => absurd h (Nat.lt_irrefl _)
  | n + 1, h => by
    by_cases e : P n = true
    · exact ⟨n, Nat.lt_succ_self _, e, (cnt_at e).symm⟩
    · have e1 : cnt P (n + 1) = cnt P n := by
        show cnt P n + (if P n then 1 else 0) = _
        rw [if_neg e]
        rfl
      rw [e1] at h
      obtain ⟨m, h1, h2, h3⟩ := cnt_get n h
      exact ⟨m, by omega, h2, by omega⟩
theorem trio_of {P : Nat → Bool} {n : Nat} (h : 3 ≤ cnt P n) : ∃ i j k, trio P n i j k := by
  obtain ⟨k, k1, k2, k3⟩ := cnt_get (P := P) n (by omega)
  obtain ⟨j, j1, j2, j3⟩ := cnt_get (P := P) k (by omega)
  obtain ⟨i, i1, i2, -⟩ := cnt_get (P := P) j (by omega)
  exact ⟨i, j, k, i1, j1, k1, i2, j2, k2⟩
theorem trio_3 {P : Nat → Bool} {n i j k : Nat} (h : trio P n i j k) : 3 ≤ cnt P n := by
  obtain ⟨h1, h2, h3, h4, h5, h6⟩ := h
  have a := cnt_monoN (P := P) (show i + 1 ≤ j by omega)
  have b := cnt_monoN (P := P) (show j + 1 ≤ k by omega)
  have c := cnt_monoN (P := P) (show k + 1 ≤ n by omega)
  rw [cnt_at h4] at a
  rw [cnt_at h5] at b
  rw [cnt_at h6] at c
  omega
theorem no_trio {P : Nat → Bool} {n : Nat} (h : cnt P n < 3) : ∀ i j k, ¬ trio P n i j k := fun _ _ _ t => by
  have := trio_3 t
  omega
theorem v_bsN (hno : ∀ i j k, ¬ trio (pU (zM z)) (zn z) i j k) (hw : 0 ≤ w ∧ w ≤ 4) (h : sp_best z w r) : r = -4 := by
  rcases h with ⟨h, -⟩ | ⟨-, h⟩
  · exact absurd hw h
  · rcases h with ⟨-, h⟩ | ⟨i, j, k, hb, -⟩
    · exact h
    · exact absurd hb.1 (hno i j k)
theorem v_bs9 (hw : ¬ (0 ≤ w ∧ w ≤ 4)) (h : sp_best z w r) : r = -2 := by
  rcases h with ⟨-, h⟩ | ⟨h, -⟩
  · exact h
  · exact absurd h hw
theorem v_bsX (ht : ∃ i j k, trio (pU (zM z)) (zn z) i j k) (h : sp_best z 0 r) : ∃ i j k, isBest (zM z) (pU (zM z)) (zn z) i j k ∧ r = nI i := by
  rcases h with ⟨h, -⟩ | ⟨-, h⟩
  · exact absurd (by decide) h
  · rcases h with ⟨h, -⟩ | ⟨i, j, k, hb, h⟩
    · obtain ⟨i, j, k, ht⟩ := ht
      exact absurd ht (h i j k)
    · exact ⟨i, j, k, hb, h.trans (by rw [if_neg (by decide), if_neg (by decide), if_pos rfl])⟩
theorem v_bs (hv : vS z) (hb : isBest (zM z) (pU (zM z)) (zn z) i j k) (hw : 0 ≤ w ∧ w ≤ 4) (h : sp_best z w r) : r = if w = 3 then nI (cnt (pM (zM z) (pU (zM z)) i j k) (zn z)) else if w = 4 then nI (mk (pM (zM z) (pU (zM z)) i j k) (zn z)) else if w = 0 then nI i else if w = 1 then nI j else nI k := by
  rcases h with ⟨h, -⟩ | ⟨-, h⟩
  · exact absurd hw h
  · rcases h with ⟨h, -⟩ | ⟨i', j', k', hb', h⟩
    · exact absurd hb.1 (h i j k)
    · obtain ⟨rfl, rfl, rfl⟩ := hb.uniq hv.1.1 hb'
      exact h
theorem v_bs1 (hv : vS z) (hb : isBest (zM z) (pU (zM z)) (zn z) i j k) (h : sp_best z 1 r) : r = nI j := (v_bs hv hb (by decide) h).trans (by rw [if_neg (by decide), if_neg (by decide), if_neg (by decide), if_pos rfl])
theorem v_bs2 (hv : vS z) (hb : isBest (zM z) (pU (zM z)) (zn z) i j k) (h : sp_best z 2 r) : r = nI k := (v_bs hv hb (by decide) h).trans (by rw [if_neg (by decide), if_neg (by decide), if_neg (by decide), if_neg (by decide)])
theorem v_bs3 (hv : vS z) (hb : isBest (zM z) (pU (zM z)) (zn z) i j k) (h : sp_best z 3 r) : r = nI (cnt (pM (zM z) (pU (zM z)) i j k) (zn z)) := (v_bs hv hb (by decide) h).trans (by rw [if_pos rfl])
theorem v_bs4 (hv : vS z) (hb : isBest (zM z) (pU (zM z)) (zn z) i j k) (h : sp_best z 4 r) : r = nI (mk (pM (zM z) (pU (zM z)) i j k) (zn z)) := (v_bs hv hb (by decide) h).trans (by rw [if_neg (by decide), if_pos rfl])
theorem v_ldN (hno : ∀ i j k, ¬ trio (pU (zM z)) (zn z) i j k) (h : sp_lands z r) : r = -4 := by
  rcases h with ⟨-, h⟩ | ⟨i, j, k, a, hb, -⟩
  · exact h
  · exact absurd hb.1 (hno i j k)
theorem v_ld (hv : vS z) (hb : isBest (zM z) (pU (zM z)) (zn z) i j k) (h : sp_lands z r) : ∃ a, zM z 0 i = nI a ∧ a ≤ 99 ∧ ldN (zM z) i j k a r := by
  rcases h with ⟨h, -⟩ | ⟨i', j', k', a, hb', h⟩
  · exact absurd hb.1 (h i j k)
  · obtain ⟨rfl, rfl, rfl⟩ := hb.uniq hv.1.1 hb'
    exact ⟨a, h⟩
theorem v_baN (hno : ∀ i j k, ¬ trio (pU (zM z)) (zn z) i j k) (ha : isAsk t w q) (h : sp_bestAt z t w q y) : y = -4 := by
  rcases h with ⟨h, -⟩ | ⟨-, h⟩
  · exact absurd ha h
  · rcases h with ⟨-, h⟩ | ⟨i, j, k, v, hb, -⟩
    · exact h
    · exact absurd hb.1 (hno i j k)
theorem v_ba {v : Nat} (hv : vS z) (hb : isBest (zM z) (pU (zM z)) (zn z) i j k) (hw : v < 2) (ha : isAsk t (nI v) q) (h : sp_bestAt z t (nI v) q y) : y = arN (zM z) v i j k t q := by
  rcases h with ⟨h, -⟩ | ⟨-, h⟩
  · exact absurd ha h
  · rcases h with ⟨h, -⟩ | ⟨i', j', k', v', hb', hv', e, h⟩
    · exact absurd hb.1 (h i j k)
    · obtain ⟨rfl, rfl, rfl⟩ := hb.uniq hv.1.1 hb'
      obtain rfl : v = v' := nI_inj (by omega) (by omega) e
      exact h
theorem v_drN {z' : xS} (hno : ∀ i j k, ¬ trio (pU (zM z)) (zn z) i j k) (h : sp_dropMissed z r z') : r = -4 ∧ z' = z := by
  rcases h with ⟨-, h⟩ | ⟨i, j, k, hb, -⟩
  · exact h
  · exact absurd hb.1 (hno i j k)
theorem anm {P H : Nat → Bool} {n : Nat} : nI (mk P n) &&& (nI (mk (fun u => P u && H u) n) ^^^ -1) = nI (mk (fun u => P u && !H u) n) := by
  rw [and_not_mk]
  refine congrArg nI (mk_congr fun u _ => ?_)
  cases P u <;> cases H u <;> rfl
theorem anmM {n i j k : Nat} : nI (mk (pU M) n) &&& (nI (mk (fun u => pU M u && hitB M i j k u) n) ^^^ -1) = nI (mk (pM M (pU M) i j k) n) := anm
theorem best_min (hv : vS z) (hb : isBest (zM z) (pU (zM z)) (zn z) i j k) {a b c : Nat} (ht : trio (pU (zM z)) (zn z) a b c) : nI (cnt (pM (zM z) (pU (zM z)) i j k) (zn z)) ≤ nI (cnt (pM (zM z) (pU (zM z)) a b c) (zn z)) := by
  have h1 := hb.2.2.1 a b c ht (cod_lt hv.1.1 ht)
  have h2 := cnt_le (pM (zM z) (pU (zM z)) i j k) (zn z)
  have h3 := cnt_le (pM (zM z) (pU (zM z)) a b c) (zn z)
  have hn := hv.1.1
  refine (nI_leI (by omega) (by omega)).mpr ?_
  rw [mis_eq, mis_eq]
  omega
theorem bst3 (hb : isBest M P n i j k) : i < j ∧ j < k ∧ k < n ∧ P i = true ∧ P j = true ∧ P k = true := hb.1
theorem v_htC {a b c : Nat} (hv : vS z) (h1 : a < b) (h2 : b < c) (hc : c < zn z) (h : sp_hits z (nI a) (nI b) (nI c) r) (h0 : ¬ r < 0) : trio (pU (zM z)) (zn z) a b c ∧ r = nI (mk (fun u => pU (zM z) u && hitB (zM z) a b c u) (zn z)) := by
  rcases v_ht hv (show a < zn z by omega) (show b < zn z by omega) hc (srt.same h1 h2) h with ⟨-, e⟩ | ⟨⟨u1, u2, u3⟩, e⟩
  · rw [e] at h0
    exact absurd (by decide) h0
  · exact ⟨⟨h1, h2, hc, u1, u2, u3⟩, e⟩
theorem n_m1 {n : Nat} (h : 0 < n) : nI n - 1 = nI (n - 1) := pk_sub (a := n) (b := 1) h
/-- the first time when the arc is down -/
theorem ld_at {a u : Nat} (h : ldN M i j k a r) (h1 : a ≤ u) (h2 : u ≤ 99) (h3 : r < 0 ∨ nI u ≤ r) : upN M 1 i j k (nI u).toInt64 ≤ 0 ↔ nI u = r := by
  rcases h with ⟨v, v1, v2, v3, v4, rfl⟩ | ⟨h, rfl⟩
  · have h3 : u ≤ v := by
      rcases h3 with h3 | h3
      · exact absurd h3 (nI_pos (by omega))
      · exact (nI_leI (by omega) (by omega)).mp h3
    constructor
    · intro hu
      by_cases e : u = v
      · rw [e]
      · exact absurd hu (v4 u h1 (by omega))
    · intro e
      rw [show u = v from nI_inj (by omega) (by omega) e]
      exact v3
  · refine ⟨fun hu => absurd hu (h u h1 h2), fun e => ?_⟩
    have : (nI u).toInt = -5 := by rw [e]; rfl
    rw [nI_Z (by omega)] at this
    omega
theorem dn_at {u : Nat} (hv : vld n M) (h1 : i < j) (h2 : j < k) (hk : k < n) (hu : u ≤ 99) : arN M 1 i j k (nI u) 0 - 10000000000 ≤ 0 ↔ upN M 1 i j k (nI u).toInt64 ≤ 0 := by
  obtain ⟨G, hG, e, -⟩ := red (t := nI u) (w := 1) hv h1 h2 hk (by decide) (by rw [nI_Z (by omega)]; omega)
  rw [Int64.le_iff_toInt_le, Int64.le_iff_toInt_le, ← e, show (0 : Int64).toInt = 0 from rfl]
  have := mul_le_G (x := (arN M 1 i j k (nI u) 0 - 10000000000).toInt) (y := 0) hG
  rw [Int.zero_mul] at this
  exact this.symm
theorem cn3 {P : Nat → Bool} {n : Nat} (hn : n ≤ 10) : 3 ≤ nI (cnt P n) ↔ 3 ≤ cnt P n := by
  have := cnt_le P n
  exact nI_leI (a := 3) (by decide) (by omega)
end VB
