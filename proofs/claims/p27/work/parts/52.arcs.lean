/-! THE LAW: arcs as fractions that are cut short -/
theorem srt.rot {i j k a b c : Nat} (h : srt i j k a b c) : srt k i j a b c := by
  unfold srt at *
  omega
theorem srt.in3 {i j k a b c p : Nat} (h : srt i j k a b c) (hp : p = i ∨ p = j ∨ p = k) : p = a ∨ p = b ∨ p = c := by
  unfold srt at h
  omega
theorem srt.bnd {i j k a b c n : Nat} (h : srt i j k a b c) (hi : i < n) (hj : j < n) (hk : k < n) : a < b ∧ b < c ∧ c < n := by
  unfold srt at h
  omega
theorem srt.same {i j k : Nat} (h1 : i < j) (h2 : j < k) : srt i j k i j k := ⟨h1, h2, Or.inl ⟨rfl, rfl, rfl⟩⟩
theorem srt.ex {i j k : Nat} (h : ¬ (i = j ∨ i = k ∨ j = k)) : ∃ a b c, srt i j k a b c := ⟨_, _, _, srt_of (fun q => h (Or.inl q)) (fun q => h (Or.inr (Or.inl q))) (fun q => h (Or.inr (Or.inr q)))⟩
section VA
variable {z : xS} {i j k a b c p : Nat} {r w t q x : Int32} {M : Nat → Nat → Int32} {n : Nat} {y : Int64}
theorem v_ht2 (hv : vS z) (hi : i < zn z) (hj : j < zn z) (hk : k < zn z) (h : i = j ∨ i = k ∨ j = k) (s : sp_hits z (nI i) (nI j) (nI k) r) : r = -2 := by
  rcases s with ⟨s, -⟩ | ⟨i', j', k', ⟨hi', hj', hk'⟩, ⟨e1, e2, e3⟩, s⟩
  · exact absurd ⟨⟨i, hi, rfl⟩, ⟨j, hj, rfl⟩, ⟨k, hk, rfl⟩⟩ s
  · obtain rfl := heldU hv.1.1 hi hi' e1
    obtain rfl := heldU hv.1.1 hj hj' e2
    obtain rfl := heldU hv.1.1 hk hk' e3
    rcases s with ⟨-, s⟩ | ⟨s, -⟩
    · exact s
    · exact absurd h s
theorem v_ht (hv : vS z) (hi : i < zn z) (hj : j < zn z) (hk : k < zn z) (hs : srt i j k a b c) (s : sp_hits z (nI i) (nI j) (nI k) r) : (¬ (pU (zM z) i = true ∧ pU (zM z) j = true ∧ pU (zM z) k = true) ∧ r = -4) ∨ ((pU (zM z) i = true ∧ pU (zM z) j = true ∧ pU (zM z) k = true) ∧ r = nI (mk (fun q => pU (zM z) q && hitB (zM z) a b c q) (zn z))) := by
  have h : ¬ (i = j ∨ i = k ∨ j = k) := by
    unfold srt at hs
    omega
  rcases s with ⟨s, -⟩ | ⟨i', j', k', ⟨hi', hj', hk'⟩, ⟨e1, e2, e3⟩, s⟩
  · exact absurd ⟨⟨i, hi, rfl⟩, ⟨j, hj, rfl⟩, ⟨k, hk, rfl⟩⟩ s
  · obtain rfl := heldU hv.1.1 hi hi' e1
    obtain rfl := heldU hv.1.1 hj hj' e2
    obtain rfl := heldU hv.1.1 hk hk' e3
    rcases s with ⟨s, -⟩ | ⟨-, s⟩
    · exact absurd s h
    · rcases s with s | ⟨hu, a', b', c', hs', s⟩
      · exact Or.inl s
      · obtain ⟨rfl, rfl, rfl⟩ := srt.uniq hs hs'
        exact Or.inr ⟨hu, s⟩
theorem v_ht4 (hv : vS z) (hi : i < zn z) (hj : j < zn z) (hk : k < zn z) (hs : srt i j k a b c) (hu : ¬ (pU (zM z) i = true ∧ pU (zM z) j = true ∧ pU (zM z) k = true)) (s : sp_hits z (nI i) (nI j) (nI k) r) : r = -4 := by
  rcases v_ht hv hi hj hk hs s with ⟨-, s⟩ | ⟨s, -⟩
  · exact s
  · exact absurd s hu
theorem v_htU (hv : vS z) (hi : i < zn z) (hj : j < zn z) (hk : k < zn z) (hs : srt i j k a b c) (hu : pU (zM z) i = true ∧ pU (zM z) j = true ∧ pU (zM z) k = true) (s : sp_hits z (nI i) (nI j) (nI k) r) : r = nI (mk (fun q => pU (zM z) q && hitB (zM z) a b c q) (zn z)) := by
  rcases v_ht hv hi hj hk hs s with ⟨s, -⟩ | ⟨-, s⟩
  · exact absurd hu s
  · exact s
theorem v_ar2 (hv : vS z) (hi : i < zn z) (hj : j < zn z) (hk : k < zn z) (h : (i = j ∨ i = k ∨ j = k) ∨ ¬ isAsk t w q) (s : sp_arc z (nI i) (nI j) (nI k) t w q y) : y = -2 := by
  rcases s with ⟨s, -⟩ | ⟨i', j', k', ⟨hi', hj', hk'⟩, ⟨e1, e2, e3⟩, s⟩
  · exact absurd ⟨⟨i, hi, rfl⟩, ⟨j, hj, rfl⟩, ⟨k, hk, rfl⟩⟩ s
  · obtain rfl := heldU hv.1.1 hi hi' e1
    obtain rfl := heldU hv.1.1 hj hj' e2
    obtain rfl := heldU hv.1.1 hk hk' e3
    rcases s with ⟨-, s⟩ | ⟨s, -⟩
    · exact s
    · exact absurd h s
theorem v_ar (hv : vS z) (hi : i < zn z) (hj : j < zn z) (hk : k < zn z) (hs : srt i j k a b c) (ha : isAsk t w q) (s : sp_arc z (nI i) (nI j) (nI k) t w q y) : (¬ (pU (zM z) i = true ∧ pU (zM z) j = true ∧ pU (zM z) k = true) ∧ y = -4) ∨ ((pU (zM z) i = true ∧ pU (zM z) j = true ∧ pU (zM z) k = true) ∧ ∃ v, v < 2 ∧ w = nI v ∧ y = arN (zM z) v a b c t q) := by
  have h : ¬ (i = j ∨ i = k ∨ j = k) := by
    unfold srt at hs
    omega
  rcases s with ⟨s, -⟩ | ⟨i', j', k', ⟨hi', hj', hk'⟩, ⟨e1, e2, e3⟩, s⟩
  · exact absurd ⟨⟨i, hi, rfl⟩, ⟨j, hj, rfl⟩, ⟨k, hk, rfl⟩⟩ s
  · obtain rfl := heldU hv.1.1 hi hi' e1
    obtain rfl := heldU hv.1.1 hj hj' e2
    obtain rfl := heldU hv.1.1 hk hk' e3
    rcases s with ⟨s, -⟩ | ⟨-, s⟩
    · rcases s with s | s
      · exact absurd s h
      · exact absurd ha s
    · rcases s with s | ⟨hu, a', b', c', v, hs', s⟩
      · exact Or.inl s
      · obtain ⟨rfl, rfl, rfl⟩ := srt.uniq hs hs'
        exact Or.inr ⟨hu, v, s⟩
theorem v_ar4 (hv : vS z) (hi : i < zn z) (hj : j < zn z) (hk : k < zn z) (hs : srt i j k a b c) (ha : isAsk t w q) (hu : ¬ (pU (zM z) i = true ∧ pU (zM z) j = true ∧ pU (zM z) k = true)) (s : sp_arc z (nI i) (nI j) (nI k) t w q y) : y = -4 := by
  rcases v_ar hv hi hj hk hs ha s with ⟨-, s⟩ | ⟨s, -⟩
  · exact s
  · exact absurd s hu
theorem v_arU {v : Nat} (hv : vS z) (hi : i < zn z) (hj : j < zn z) (hk : k < zn z) (hs : srt i j k a b c) (hw : v < 2) (ha : isAsk t (nI v) q) (hu : pU (zM z) i = true ∧ pU (zM z) j = true ∧ pU (zM z) k = true) (s : sp_arc z (nI i) (nI j) (nI k) t (nI v) q y) : y = arN (zM z) v a b c t q := by
  rcases v_ar hv hi hj hk hs ha s with ⟨s, -⟩ | ⟨-, v', hv', e, s⟩
  · exact absurd hu s
  · obtain rfl : v = v' := nI_inj (by omega) (by omega) e
    exact s
theorem ask_p {v : Nat} (hv : vld n M) (hp : p < n) (hw : v < 2) (hq : q = 0 ∨ q = 1) : isAsk (M 0 p) (nI v) q := by
  have h := (hv.1 p hp).1
  refine ⟨⟨?_, ?_⟩, ?_, ?_⟩
  · rw [I_le]; exact h.1
  · rw [I_le]; exact h.2
  · rcases (show v = 0 ∨ v = 1 by omega) with rfl | rfl <;> decide
  · rcases hq with rfl | rfl <;> decide
theorem ask_n {u v : Nat} (hu : u ≤ 99) (hw : v < 2) (hq : q = 0 ∨ q = 1) : isAsk (nI u) (nI v) q := by
  refine ⟨⟨nI_pos' (by omega), (nI_leI (b := 99) (by omega) (by decide)).mpr hu⟩, ?_, ?_⟩
  · rcases (show v = 0 ∨ v = 1 by omega) with rfl | rfl <;> decide
  · rcases hq with rfl | rfl <;> decide
theorem s6 (hv : vld n M) (hi : i < n) (hj : j < n) (hk : k < n) : M 6 i + M 6 j + M 6 k ≤ 0 ↔ (pU M i = true ∧ pU M j = true ∧ pU M k = true) := by
  have hi := (hv.1 i hi).2.2.2.2.2.2
  have hj := (hv.1 j hj).2.2.2.2.2.2
  have hk := (hv.1 k hk).2.2.2.2.2.2
  unfold pU
  rcases hi with hi | hi <;> rcases hj with hj | hj <;> rcases hk with hk | hk <;> rw [hi, hj, hk] <;> decide
/-! the numbers -/
theorem up_abs (hv : vld n M) {w r s t : Nat} (hw : w < 2) (hr : r < n) (hs : s < n) (ht : t < n) {u : Int64} (hu : 0 ≤ u.toInt ∧ u.toInt ≤ 99) : -1164358800 ≤ (upN M w r s t u).toInt ∧ (upN M w r s t u).toInt ≤ 1164358800 := by
  have ht' : ∀ k, k < n → 0 ≤ (tmL M k).toInt ∧ (tmL M k).toInt ≤ 99 := fun k hk => by rw [tm_toInt]; exact (hv.1 k hk).1
  have hx : ∀ k, k < n → -400 ≤ (M (1 + w) k).toInt64.toInt ∧ (M (1 + w) k).toInt64.toInt ≤ 400 := fun k hk => by
    rw [Int32.toInt_toInt64]
    have : w = 0 ∨ w = 1 := by omega
    rcases this with rfl | rfl
    · exact (hv.1 k hk).2.1
    · exact (hv.1 k hk).2.2.1
  have a1 := up_term (hx r hr) (L_subb hu (ht' s hs)) (L_subb hu (ht' t ht)) (L_subb (ht' t ht) (ht' s hs))
  have a2 := up_term (hx s hs) (L_subb hu (ht' r hr)) (L_subb hu (ht' t ht)) (L_subb (ht' r hr) (ht' t ht))
  have a3 := up_term (hx t ht) (L_subb hu (ht' r hr)) (L_subb hu (ht' s hs)) (L_subb (ht' s hs) (ht' r hr))
  have a4 := L_addb (B := 388119600) (C := 388119600) a1 a2 (by decide)
  exact L_addb (B := 776239200) (C := 388119600) a4 a3 (by decide)
theorem lo_abs (hv : vld n M) (h1 : a < b) (h2 : b < c) (hc : c < n) : 0 < (loN M a b c).toInt ∧ (loN M a b c).toInt ≤ 970299 := by
  have hp := L_pos.mp (lo_pos hv h1 h2 hc)
  refine ⟨hp, ?_⟩
  rw [lo_toInt hv (by omega) (by omega) hc]
  obtain ⟨a1, a2⟩ := (hv.1 a (by omega)).1
  obtain ⟨b1, b2⟩ := (hv.1 b (by omega)).1
  obtain ⟨c1, c2⟩ := (hv.1 c hc).1
  generalize (M 0 a).toInt = x at *
  generalize (M 0 b).toInt = y at *
  generalize (M 0 c).toInt = v at *
  have g1 : -9801 ≤ (y - x) * (v - x) ∧ (y - x) * (v - x) ≤ 9801 := prod_bound (B := 99) (C := 99) (by omega) (by omega) (by omega) (by omega)
  exact (prod_bound (B := 9801) (C := 99) g1.1 g1.2 (by omega) (by omega)).2
theorem L_asc (x y : Int64) : x + y - y = x := Int64.add_sub_cancel x y
theorem I_asc (x y : Int32) : x + y - y = x := Int32.add_sub_cancel x y
/-- a division that goes up -/
theorem div_up {u : Int64} {g : Nat} (hg : 0 < g) (hgb : g < 2 ^ 62) (hd : (g : Int) ∣ u.toInt) (h1 : -4611686018427387904 < u.toInt) (h2 : u.toInt < 4611686018427387904) : (u / lN g).toInt * (g : Int) = u.toInt := by
  obtain ⟨q, hq⟩ := hd
  have hgz : (g : Int) ≠ 0 := by omega
  have hab : q.natAbs ≤ u.toInt.natAbs := by
    rw [hq, Int.natAbs_mul]
    exact Nat.le_mul_of_pos_left _ (by omega)
  rw [Int64.toInt_div, pk_lT (by omega), hq, Int.mul_tdiv_cancel_left _ hgz, Int.bmod_eq_of_le (by omega) (by omega), Int.mul_comm]
theorem red {w : Nat} (hv : vld n M) (h1 : a < b) (h2 : b < c) (hc : c < n) (hw : w < 2) (ht : 0 ≤ t.toInt ∧ t.toInt ≤ 99) : ∃ G : Nat, 0 < G ∧ (arN M w a b c t 0 - 10000000000).toInt * (G : Int) = (upN M w a b c t.toInt64).toInt ∧ (arN M w a b c t 1).toInt * (G : Int) = (loN M a b c).toInt := by
  obtain ⟨l1, l2⟩ := lo_abs hv h1 h2 hc
  obtain ⟨u1, u2⟩ := up_abs hv hw (show a < n by omega) (show b < n by omega) hc (u := t.toInt64) (by rw [Int32.toInt_toInt64]; exact ht)
  unfold arN prt
  rw [if_pos rfl, if_neg (by decide), L_asc]
  generalize hU : upN M w a b c t.toInt64 = U at *
  generalize hL : (loN M a b c).toInt = Z at *
  have hg0 : 0 < Nat.gcd U.toInt.natAbs Z.toNat := Nat.gcd_pos_of_pos_right _ (by omega)
  have hg1 : Nat.gcd U.toInt.natAbs Z.toNat ≤ Z.toNat := Nat.gcd_le_right _ (by omega)
  have hd1 : Nat.gcd U.toInt.natAbs Z.toNat ∣ U.toInt.natAbs := Nat.gcd_dvd_left _ _
  have hd2 : Nat.gcd U.toInt.natAbs Z.toNat ∣ Z.toNat := Nat.gcd_dvd_right _ _
  generalize Nat.gcd U.toInt.natAbs Z.toNat = G at *
  refine ⟨G, hg0, div_up hg0 (by omega) (Int.ofNat_dvd_left.mpr hd1) (by omega) (by omega), ?_⟩
  have e := div_up (u := lN Z.toNat) hg0 (by omega) (by rw [pk_lT (by omega)]; exact Int.ofNat_dvd.mpr hd2) (by rw [pk_lT (by omega)]; omega) (by rw [pk_lT (by omega)]; omega)
  rw [e, pk_lT (by omega)]
  omega
/-- up, down and how far a photo is apart, as the law has them -/
def upR (M : Nat → Nat → Int32) (a b c w p : Nat) : Int64 := arN M w a b c (M 0 p) 0 - 10000000000
def dnR (M : Nat → Nat → Int32) (a b c w p : Nat) : Int64 := arN M w a b c (M 0 p) 1
def apR (M : Nat → Nat → Int32) (a b c w p : Nat) : Int64 := upR M a b c w p - (M (1 + w) p + 1000 - 1000).toInt64 * dnR M a b c w p
theorem upR_e (M : Nat → Nat → Int32) (a b c w p : Nat) : arN M w a b c (M 0 p) 0 - 10000000000 = upR M a b c w p := rfl
theorem dnR_e (M : Nat → Nat → Int32) (a b c w p : Nat) : arN M w a b c (M 0 p) 1 = dnR M a b c w p := rfl
theorem apR_e (M : Nat → Nat → Int32) (a b c w p : Nat) : upR M a b c w p - (M (1 + w) p + 1000 - 1000).toInt64 * dnR M a b c w p = apR M a b c w p := rfl
def abR (x : Int64) : Int64 := if x < 0 then -x else x
def hB (M : Nat → Nat → Int32) (a b c w p : Nat) : Bool := decide (abR (apR M a b c w p) ≤ (M 3 p).toInt64 * dnR M a b c w p)
def hW (M : Nat → Nat → Int32) (a b c p : Nat) : Nat → Bool
  | 0 => true
  | w + 1 => hW M a b c p w && hB M a b c w p
theorem absZ {x : Int64} (h : -9223372036854775808 < x.toInt) : (abR x).toInt = (x.toInt.natAbs : Int) := by
  unfold abR
  split
  · rename_i c
    rw [Int64.lt_iff_toInt_lt, show (0 : Int64).toInt = 0 from rfl] at c
    rw [Int64.toInt_neg, Int.bmod_eq_of_le (by omega) (by omega)]
    omega
  · rename_i c
    rw [Int64.lt_iff_toInt_lt, show (0 : Int64).toInt = 0 from rfl] at c
    omega
theorem absL {x : Int64} (h : -9223372036854775808 < x.toInt) : (abL x).toInt = (x.toInt.natAbs : Int) := by
  unfold abL
  split
  · rename_i c
    rw [Int64.lt_iff_toInt_lt, show (0 : Int64).toInt = 0 from rfl] at c
    omega
  · rename_i c
    rw [Int64.lt_iff_toInt_lt, show (0 : Int64).toInt = 0 from rfl] at c
    rw [Int64.toInt_neg, Int.bmod_eq_of_le (by omega) (by omega)]
    omega
theorem mul_le_G {x y : Int} {G : Nat} (hG : 0 < G) : x * (G : Int) ≤ y * (G : Int) ↔ x ≤ y := ⟨fun h => Int.le_of_mul_le_mul_right h (by omega), fun h => Int.mul_le_mul_of_nonneg_right h (by omega)⟩
theorem natAbs_G {x : Int} {G : Nat} : ((x * (G : Int)).natAbs : Int) = (x.natAbs : Int) * (G : Int) := by
  rw [Int.natAbs_mul, Int.natAbs_natCast]
  rfl
theorem apart {w : Nat} (hv : vld n M) (h1 : a < b) (h2 : b < c) (hc : c < n) (hp : p < n) (hw : w < 2) : ∃ G : Nat, 0 < G ∧ (apR M a b c w p).toInt * (G : Int) = (awN M w a b c p).toInt ∧ (dnR M a b c w p).toInt * (G : Int) = (loN M a b c).toInt ∧ 0 < (dnR M a b c w p).toInt ∧ (dnR M a b c w p).toInt ≤ 970299 ∧ (-2000000000 ≤ (awN M w a b c p).toInt ∧ (awN M w a b c p).toInt ≤ 2000000000) ∧ -2000000000 ≤ (apR M a b c w p).toInt ∧ (apR M a b c w p).toInt ≤ 2000000000 := by
  have htp := (hv.1 p hp).1
  obtain ⟨l1, l2⟩ := lo_abs hv h1 h2 hc
  obtain ⟨u1, u2⟩ := up_abs hv hw (show a < n by omega) (show b < n by omega) hc (u := tmL M p) (by rw [tm_toInt]; exact htp)
  obtain ⟨G, hG, e1, e2⟩ := red (t := M 0 p) hv h1 h2 hc hw htp
  have hx : -400 ≤ (M (1 + w) p).toInt64.toInt ∧ (M (1 + w) p).toInt64.toInt ≤ 400 := by
    rw [Int32.toInt_toInt64]
    rcases (show w = 0 ∨ w = 1 by omega) with rfl | rfl
    · exact (hv.1 p hp).2.1
    · exact (hv.1 p hp).2.2.1
  have ea : apR M a b c w p = (arN M w a b c (M 0 p) 0 - 10000000000) - (M (1 + w) p).toInt64 * dnR M a b c w p := by
    unfold apR upR
    rw [I_asc]
  have e2' : (dnR M a b c w p).toInt * (G : Int) = (loN M a b c).toInt := e2
  have hG1 : (1 : Int) ≤ G := by omega
  have hd0 : 0 < (dnR M a b c w p).toInt := by
    rcases Int.lt_or_le 0 (dnR M a b c w p).toInt with h | h
    · exact h
    · have := Int.mul_le_mul_of_nonneg_right h (show (0 : Int) ≤ G by omega)
      omega
  have hd1 : (dnR M a b c w p).toInt ≤ 970299 := by
    have h9 := Int.mul_le_mul_of_nonneg_left hG1 (Int.le_of_lt hd0)
    omega
  have hup : ((arN M w a b c (M 0 p) 0 - 10000000000).toInt.natAbs : Int) ≤ 1164358800 := by
    have h9 : (arN M w a b c (M 0 p) 0 - 10000000000).toInt.natAbs * G = (upN M w a b c (M 0 p).toInt64).toInt.natAbs := by
      rw [← e1, Int.natAbs_mul, Int.natAbs_natCast]
    have h8 : (arN M w a b c (M 0 p) 0 - 10000000000).toInt.natAbs ≤ (upN M w a b c (M 0 p).toInt64).toInt.natAbs := by
      rw [← h9]
      exact Nat.le_mul_of_pos_right _ hG
    have h7 : -1164358800 ≤ (upN M w a b c (M 0 p).toInt64).toInt ∧ (upN M w a b c (M 0 p).toInt64).toInt ≤ 1164358800 := ⟨u1, u2⟩
    omega
  have hxd := prod_bound (B := 400) (C := 970299) hx.1 hx.2 (show -970299 ≤ (dnR M a b c w p).toInt by omega) hd1
  have hxl := prod_bound (B := 400) (C := 970299) hx.1 hx.2 (show -970299 ≤ (loN M a b c).toInt by omega) l2
  have m1 : ((M (1 + w) p).toInt64 * dnR M a b c w p).toInt = (M (1 + w) p).toInt64.toInt * (dnR M a b c w p).toInt := L_mul (by omega) (by omega)
  have m2 : ((M (1 + w) p).toInt64 * loN M a b c).toInt = (M (1 + w) p).toInt64.toInt * (loN M a b c).toInt := L_mul (by omega) (by omega)
  have a1 : (apR M a b c w p).toInt = (arN M w a b c (M 0 p) 0 - 10000000000).toInt - (M (1 + w) p).toInt64.toInt * (dnR M a b c w p).toInt := by
    rw [ea, L_sub (by rw [m1]; omega) (by rw [m1]; omega), m1]
  have a2 : (awN M w a b c p).toInt = (upN M w a b c (M 0 p).toInt64).toInt - (M (1 + w) p).toInt64.toInt * (loN M a b c).toInt := by
    show (upN M w a b c (tmL M p) - (M (1 + w) p).toInt64 * loN M a b c).toInt = _
    rw [L_sub (by rw [m2]; omega) (by rw [m2]; omega), m2]
    rfl
  have u1' : -1164358800 ≤ (upN M w a b c (M 0 p).toInt64).toInt := u1
  have u2' : (upN M w a b c (M 0 p).toInt64).toInt ≤ 1164358800 := u2
  refine ⟨G, hG, ?_, e2', hd0, hd1, ⟨by omega, by omega⟩, by omega, by omega⟩
  rw [a1, a2, Int.sub_mul, e1, Int.mul_assoc, e2']
theorem apR_own {w : Nat} (hv : vld n M) (h1 : a < b) (h2 : b < c) (hc : c < n) (hp : p < n) (hw : w < 2) (h : p = a ∨ p = b ∨ p = c) : apR M a b c w p = 0 := by
  obtain ⟨G, hG, e1, -⟩ := apart hv h1 h2 hc hp hw
  rw [aw_own h, show (0 : Int64).toInt = 0 from rfl] at e1
  rcases Int.mul_eq_zero.mp e1 with e | e
  · exact Int64.toInt_inj.mp (e.trans rfl)
  · omega
theorem dnR_1 {w : Nat} (hv : vld n M) (h1 : a < b) (h2 : b < c) (hc : c < n) (hp : p < n) (hw : w < 2) : ¬ dnR M a b c w p < 1 := by
  obtain ⟨G, hG, -, -, h, -⟩ := apart hv h1 h2 hc hp hw
  rw [Int64.lt_iff_toInt_lt, show (1 : Int64).toInt = 1 from rfl]
  omega
theorem hB_iff {w : Nat} (hv : vld n M) (h1 : a < b) (h2 : b < c) (hc : c < n) (hp : p < n) (hw : w < 2) : hB M a b c w p = decide (abL (awN M w a b c p) ≤ (M 3 p).toInt64 * abL (loN M a b c)) := by
  obtain ⟨G, hG, e1, e2, d0, d1, ⟨b1, b2⟩, b3, b4⟩ := apart hv h1 h2 hc hp hw
  obtain ⟨l1, l2⟩ := lo_abs hv h1 h2 hc
  have he := (hv.1 p hp).2.2.2.1
  have he' : -40 ≤ (M 3 p).toInt64.toInt ∧ (M 3 p).toInt64.toInt ≤ 40 := by
    rw [Int32.toInt_toInt64]
    omega
  have lo : abL (loN M a b c) = loN M a b c := abL_pos (lo_pos hv h1 h2 hc)
  unfold hB
  apply decide_eq_decide.mpr
  have q1 := prod_bound (B := 40) (C := 970299) he'.1 he'.2 (show -970299 ≤ (dnR M a b c w p).toInt by omega) d1
  have q2 := prod_bound (B := 40) (C := 970299) he'.1 he'.2 (show -970299 ≤ (loN M a b c).toInt by omega) l2
  rw [lo, Int64.le_iff_toInt_le, Int64.le_iff_toInt_le, absZ (by omega), absL (by omega), L_mul (by omega) (by omega), L_mul (by omega) (by omega), ← e1, ← e2, natAbs_G, ← Int.mul_assoc]
  exact (mul_le_G hG).symm
theorem hW2 (hv : vld n M) (h1 : a < b) (h2 : b < c) (hc : c < n) (hp : p < n) : hW M a b c p 2 = hitB M a b c p := by
  show ((true && hB M a b c 0 p) && hB M a b c 1 p) = _
  rw [Bool.true_and, hB_iff hv h1 h2 hc hp (by decide), hB_iff hv h1 h2 hc hp (by decide)]
  unfold hitB
  rw [Bool.decide_and]
theorem bI_1 (x : Bool) : bI x &&& 1 = bI x := by cases x <;> decide
theorem bI_0 (x : Bool) : bI x &&& 0 = 0 := by cases x <;> decide
theorem hW_t {w : Nat} (h : abR (apR M a b c w p) ≤ (M 3 p).toInt64 * dnR M a b c w p) : bI (hW M a b c p w) &&& 1 = bI (hW M a b c p (w + 1)) := by
  rw [bI_1]
  show _ = bI (hW M a b c p w && hB M a b c w p)
  rw [show hB M a b c w p = true from decide_eq_true h, Bool.and_true]
theorem hW_f {w : Nat} (h : ¬ abR (apR M a b c w p) ≤ (M 3 p).toInt64 * dnR M a b c w p) : bI (hW M a b c p w) &&& 0 = bI (hW M a b c p (w + 1)) := by
  rw [bI_0]
  show _ = bI (hW M a b c p w && hB M a b c w p)
  rw [show hB M a b c w p = false from decide_eq_false h, Bool.and_false]
  rfl
theorem abR_n {x y : Int64} (h : x < 0) (hy : -x ≤ y) : abR x ≤ y := by
  unfold abR
  rw [if_pos h]
  exact hy
theorem abR_p {x y : Int64} (h : ¬ x < 0) (hy : x ≤ y) : abR x ≤ y := by
  unfold abR
  rw [if_neg h]
  exact hy
theorem abR_nn {x y : Int64} (h : x < 0) (hy : ¬ -x ≤ y) : ¬ abR x ≤ y := by
  unfold abR
  rw [if_pos h]
  exact hy
theorem abR_pn {x y : Int64} (h : ¬ x < 0) (hy : ¬ x ≤ y) : ¬ abR x ≤ y := by
  unfold abR
  rw [if_neg h]
  exact hy
theorem hit_at {P : Nat → Bool} (hn : n ≤ 10) (hp : p < n) : (nI (mk P n) >>> (nI p &&& 31)) &&& 1 = bI (P p) := by
  rw [shr_bit _ (mk_lt10 P hn) _ (by omega), mk_in hp]
theorem bI_t {x : Bool} (h : bI x = 1) : x = true := by
  cases x
  · exact absurd h (by decide)
  · rfl
theorem bI_f {x : Bool} (h : ¬ bI x = 1) : x = false := by
  cases x
  · rfl
  · exact absurd rfl h
theorem bI_z {x : Bool} (h : bI x = 0) : x = false := by
  cases x
  · rfl
  · exact absurd h (by decide)
theorem bI_nz {x : Bool} (h : ¬ bI x = 0) : x = true := by
  cases x
  · exact absurd rfl h
  · rfl
end VA
