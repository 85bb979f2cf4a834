section VA
variable {z : xS} {i j k a b c p : Nat} {r w t q x : Int32} {M : Nat → Nat → Int32} {n : Nat} {y : Int64}
theorem num_e {x d : Int} (h : -40 ≤ x ∧ x ≤ 40) (g : 0 < d ∧ d ≤ 970299) : -9223372036854775808 ≤ x * d ∧ x * d < 9223372036854775808 := by
  have q := prod_bound (B := 40) (C := 970299) h.1 h.2 (show -970299 ≤ d by omega) g.2
  omega
theorem num_b {x : Int} (h : -2000000000 ≤ x) : -9223372036854775808 < x := by omega
theorem hB_iff {w : Nat} (hv : vld n M) (h1 : a < b) (h2 : b < c) (hc : c < n) (hp : p < n) (hw : w < 2) : hB M a b c w p = decide (abL (awN M w a b c p) ≤ (M 3 p).toInt64 * abL (loN M a b c)) := by
  obtain ⟨G, hG, e1, e2, d0, d1, ⟨b1, b2⟩, b3, b4⟩ := apart hv h1 h2 hc hp hw
  obtain ⟨l1, l2⟩ := lo_abs hv h1 h2 hc
  have he' : -40 ≤ (M 3 p).toInt64.toInt ∧ (M 3 p).toInt64.toInt ≤ 40 := by
    rw [Int32.toInt_toInt64]
    have he := (hv.1 p hp).2.2.2.1
    clear e1 e2
    omega
  have lo : abL (loN M a b c) = loN M a b c := abL_pos (lo_pos hv h1 h2 hc)
  unfold hB
  apply decide_eq_decide.mpr
  have q1 := num_e he' ⟨d0, d1⟩
  have q2 := num_e he' ⟨l1, l2⟩
  rw [lo, Int64.le_iff_toInt_le, Int64.le_iff_toInt_le, absZ (num_b b3), absL (num_b b1), L_mul q1.1 q1.2, L_mul q2.1 q2.2, ← e1, ← e2, natAbs_G, ← Int.mul_assoc]
  exact (mul_le_G hG).symm
theorem hW2 (hv : vld n M) (h1 : a < b) (h2 : b < c) (hc : c < n) (hp : p < n) : hW M a b c p 2 = hitB M a b c p := by
  show ((true && hB M a b c 0 p) && hB M a b c 1 p) = _
  rw [Bool.true_and, hB_iff hv h1 h2 hc hp (by decide), hB_iff hv h1 h2 hc hp (by decide)]
  unfold hitB
  rw [Bool.decide_and]
theorem bI_a1 (x : Bool) : bI x &&& 1 = bI x := by cases x <;> decide
theorem bI_a0 (x : Bool) : bI x &&& 0 = 0 := by cases x <;> decide
theorem hW_t {w : Nat} (h : abR (apR M a b c w p) ≤ (M 3 p).toInt64 * dnR M a b c w p) : bI (hW M a b c p w) &&& 1 = bI (hW M a b c p (w + 1)) := by
  rw [bI_a1]
  show _ = bI (hW M a b c p w && hB M a b c w p)
  rw [show hB M a b c w p = true from decide_eq_true h, Bool.and_true]
theorem hW_f {w : Nat} (h : ¬ abR (apR M a b c w p) ≤ (M 3 p).toInt64 * dnR M a b c w p) : bI (hW M a b c p w) &&& 0 = bI (hW M a b c p (w + 1)) := by
  rw [bI_a0]
  show _ = bI (hW M a b c p w && hB M a b c w p)
  rw [show hB M a b c w p = false from decide_eq_false h, Bool.and_false]
  rfl
theorem abR_n {x y : Int64} (h : x < 0) (hy : -x ≤ y) : abR x ≤ y := by
  unfold abR
  rw [if_pos h]
  exact hy
theorem abR_p {x y : Int64} (h : ¬ x < 0) (hy : x ≤ y) : abR x ≤ y := by
  unfold abR
  rw [if_neg h]
  exact hy
theorem abR_nn {x y : Int64} (h : x < 0) (hy : ¬ -x ≤ y) : ¬ abR x ≤ y := by
  unfold abR
  rw [if_pos h]
  exact hy
theorem abR_pn {x y : Int64} (h : ¬ x < 0) (hy : ¬ x ≤ y) : ¬ abR x ≤ y := by
  unfold abR
  rw [if_neg h]
  exact hy
theorem hit_at {P : Nat → Bool} (hn : n ≤ 10) (hp : p < n) : (nI (mk P n) >>> (nI p &&& 31)) &&& 1 = bI (P p) := by
  rw [shr_bit _ (mk_lt10 P hn) _ (by omega), mk_in hp]
theorem bI_t {x : Bool} (h : bI x = 1) : x = true := by
  cases x
  · exact absurd h (by decide)
  · rfl
theorem bI_f {x : Bool} (h : ¬ bI x = 1) : x = false := by
  cases x
  · rfl
  · exact absurd rfl h
theorem bI_z {x : Bool} (h : bI x = 0) : x = false := by
  cases x
  · rfl
  · exact absurd h (by decide)
theorem bI_nz {x : Bool} (h : ¬ bI x = 0) : x = true := by
  cases x
  · exact absurd rfl h
  · rfl
end VA
