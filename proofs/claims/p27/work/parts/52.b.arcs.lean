section VA
variable {z : xS} {i j k a b c p : Nat} {r w t q x : Int32} {M : Nat → Nat → Int32} {n : Nat} {y : Int64}
/-! the numbers -/
theorem up_abs (hv : vld n M) {w r s t : Nat} (hw : w < 2) (hr : r < n) (hs : s < n) (ht : t < n) {u : Int64} (hu : 0 ≤ u.toInt ∧ u.toInt ≤ 99) : -1164358800 ≤ (upN M w r s t u).toInt ∧ (upN M w r s t u).toInt ≤ 1164358800 := by
  have ht' : ∀ k, k < n → 0 ≤ (tmL M k).toInt ∧ (tmL M k).toInt ≤ 99 := fun k hk => by rw [tm_toInt]; exact (hv.1 k hk).1
  have hx : ∀ k, k < n → -400 ≤ (M (1 + w) k).toInt64.toInt ∧ (M (1 + w) k).toInt64.toInt ≤ 400 := fun k hk => by
    rw [Int32.toInt_toInt64]
    have : w = 0 ∨ w = 1 := by omega
    rcases this with rfl | rfl
    · exact (hv.1 k hk).2.1
    · exact (hv.1 k hk).2.2.1
  have a1 := up_term (hx r hr) (L_subb hu (ht' s hs)) (L_subb hu (ht' t ht)) (L_subb (ht' t ht) (ht' s hs))
  have a2 := up_term (hx s hs) (L_subb hu (ht' r hr)) (L_subb hu (ht' t ht)) (L_subb (ht' r hr) (ht' t ht))
  have a3 := up_term (hx t ht) (L_subb hu (ht' r hr)) (L_subb hu (ht' s hs)) (L_subb (ht' s hs) (ht' r hr))
  have a4 := L_addb (B := 388119600) (C := 388119600) a1 a2 (by decide)
  exact L_addb (B := 776239200) (C := 388119600) a4 a3 (by decide)
theorem lo_abs (hv : vld n M) (h1 : a < b) (h2 : b < c) (hc : c < n) : 0 < (loN M a b c).toInt ∧ (loN M a b c).toInt ≤ 970299 := by
  have hp := L_pos.mp (lo_pos hv h1 h2 hc)
  refine ⟨hp, ?_⟩
  rw [lo_toInt hv (by omega) (by omega) hc]
  obtain ⟨a1, a2⟩ := (hv.1 a (by omega)).1
  obtain ⟨b1, b2⟩ := (hv.1 b (by omega)).1
  obtain ⟨c1, c2⟩ := (hv.1 c hc).1
  generalize (M 0 a).toInt = x at *
  generalize (M 0 b).toInt = y at *
  generalize (M 0 c).toInt = v at *
  have g1 : -9801 ≤ (y - x) * (v - x) ∧ (y - x) * (v - x) ≤ 9801 := prod_bound (B := 99) (C := 99) (by omega) (by omega) (by omega) (by omega)
  exact (prod_bound (B := 9801) (C := 99) g1.1 g1.2 (by omega) (by omega)).2
theorem L_asc (x y : Int64) : x + y - y = x := Int64.add_sub_cancel x y
theorem I_asc (x y : Int32) : x + y - y = x := Int32.add_sub_cancel x y
/-- a division that goes up -/
theorem div_up {u : Int64} {g : Nat} (hg : 0 < g) (hgb : g < 2 ^ 62) (hd : (g : Int) ∣ u.toInt) (h1 : -4611686018427387904 < u.toInt) (h2 : u.toInt < 4611686018427387904) : (u / lN g).toInt * (g : Int) = u.toInt := by
  obtain ⟨q, hq⟩ := hd
  have hgz : (g : Int) ≠ 0 := by omega
  have hab : q.natAbs ≤ u.toInt.natAbs := by
    rw [hq, Int.natAbs_mul]
    exact Nat.le_mul_of_pos_left _ (by omega)
  rw [Int64.toInt_div, pk_lT (by omega), hq, Int.mul_tdiv_cancel_left _ hgz, Int.bmod_eq_of_le (by omega) (by omega), Int.mul_comm]
theorem red {w : Nat} (hv : vld n M) (h1 : a < b) (h2 : b < c) (hc : c < n) (hw : w < 2) (ht : 0 ≤ t.toInt ∧ t.toInt ≤ 99) : ∃ G : Nat, 0 < G ∧ (arN M w a b c t 0 - 10000000000).toInt * (G : Int) = (upN M w a b c t.toInt64).toInt ∧ (arN M w a b c t 1).toInt * (G : Int) = (loN M a b c).toInt := by
  obtain ⟨l1, l2⟩ := lo_abs hv h1 h2 hc
  obtain ⟨u1, u2⟩ := up_abs hv hw (show a < n by omega) (show b < n by omega) hc (u := t.toInt64) (by rw [Int32.toInt_toInt64]; exact ht)
  unfold arN prt
  rw [if_pos rfl, if_neg (by decide), L_asc]
  generalize hU : upN M w a b c t.toInt64 = U at *
  generalize hL : (loN M a b c).toInt = Z at *
  have hg0 : 0 < Nat.gcd U.toInt.natAbs Z.toNat := Nat.gcd_pos_of_pos_right _ (by omega)
  have hg1 : Nat.gcd U.toInt.natAbs Z.toNat ≤ Z.toNat := Nat.gcd_le_right _ (by omega)
  have hd1 : Nat.gcd U.toInt.natAbs Z.toNat ∣ U.toInt.natAbs := Nat.gcd_dvd_left _ _
  have hd2 : Nat.gcd U.toInt.natAbs Z.toNat ∣ Z.toNat := Nat.gcd_dvd_right _ _
  generalize Nat.gcd U.toInt.natAbs Z.toNat = G at *
  refine ⟨G, hg0, div_up hg0 (by omega) (Int.ofNat_dvd_left.mpr hd1) (by omega) (by omega), ?_⟩
  have e := div_up (u := lN Z.toNat) hg0 (by omega) (by rw [pk_lT (by omega)]; exact Int.ofNat_dvd.mpr hd2) (by rw [pk_lT (by omega)]; omega) (by rw [pk_lT (by omega)]; omega)
  rw [e, pk_lT (by omega)]
  omega
end VA
