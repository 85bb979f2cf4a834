section VA
variable {z : xS} {i j k a b c p : Nat} {r w t q x : Int32} {M : Nat → Nat → Int32} {n : Nat} {y : Int64}
/-- up, down and how far a photo is apart, as the law has them -/
def upR (M : Nat → Nat → Int32) (a b c w p : Nat) : Int64 := arN M w a b c (M 0 p) 0 - 10000000000
def dnR (M : Nat → Nat → Int32) (a b c w p : Nat) : Int64 := arN M w a b c (M 0 p) 1
def apR (M : Nat → Nat → Int32) (a b c w p : Nat) : Int64 := upR M a b c w p - (M (1 + w) p + 1000 - 1000).toInt64 * dnR M a b c w p
theorem upR_e (M : Nat → Nat → Int32) (a b c w p : Nat) : arN M w a b c (M 0 p) 0 - 10000000000 = upR M a b c w p := rfl
theorem dnR_e (M : Nat → Nat → Int32) (a b c w p : Nat) : arN M w a b c (M 0 p) 1 = dnR M a b c w p := rfl
theorem apR_e (M : Nat → Nat → Int32) (a b c w p : Nat) : upR M a b c w p - (M (1 + w) p + 1000 - 1000).toInt64 * dnR M a b c w p = apR M a b c w p := rfl
def abR (x : Int64) : Int64 := if x < 0 then -x else x
def hB (M : Nat → Nat → Int32) (a b c w p : Nat) : Bool := decide (abR (apR M a b c w p) ≤ (M 3 p).toInt64 * dnR M a b c w p)
def hW (M : Nat → Nat → Int32) (a b c p : Nat) : Nat → Bool
  | 0 => true
  | w + 1 => hW M a b c p w && hB M a b c w p
theorem absZ {x : Int64} (h : -9223372036854775808 < x.toInt) : (abR x).toInt = (x.toInt.natAbs : Int) := by
  unfold abR
  split
  · rename_i c
    rw [Int64.lt_iff_toInt_lt, show (0 : Int64).toInt = 0 from rfl] at c
    rw [Int64.toInt_neg, Int.bmod_eq_of_le (by omega) (by omega)]
    omega
  · rename_i c
    rw [Int64.lt_iff_toInt_lt, show (0 : Int64).toInt = 0 from rfl] at c
    omega
theorem absL {x : Int64} (h : -9223372036854775808 < x.toInt) : (abL x).toInt = (x.toInt.natAbs : Int) := by
  unfold abL
  split
  · rename_i c
    rw [Int64.lt_iff_toInt_lt, show (0 : Int64).toInt = 0 from rfl] at c
    omega
  · rename_i c
    rw [Int64.lt_iff_toInt_lt, show (0 : Int64).toInt = 0 from rfl] at c
    rw [Int64.toInt_neg, Int.bmod_eq_of_le (by omega) (by omega)]
    omega
theorem mul_le_G {x y : Int} {G : Nat} (hG : 0 < G) : x * (G : Int) ≤ y * (G : Int) ↔ x ≤ y := ⟨fun h => Int.le_of_mul_le_mul_right h (by omega), fun h => Int.mul_le_mul_of_nonneg_right h (by omega)⟩
theorem natAbs_G {x : Int} {G : Nat} : ((x * (G : Int)).natAbs : Int) = (x.natAbs : Int) * (G : Int) := by
  rw [Int.natAbs_mul, Int.natAbs_natCast]
  rfl
theorem num_d {D Z : Int} {G : Nat} (hG : 0 < G) (e : D * (G : Int) = Z) (l1 : 0 < Z) (l2 : Z ≤ 970299) : 0 < D ∧ D ≤ 970299 := by
  have hG1 : (1 : Int) ≤ G := by omega
  have hd0 : 0 < D := by
    rcases Int.lt_or_le 0 D with h | h
    · exact h
    · have h9 := Int.mul_le_mul_of_nonneg_right h (show (0 : Int) ≤ G by omega)
      rw [e, Int.zero_mul] at h9
      omega
  refine ⟨hd0, ?_⟩
  have h9 := Int.mul_le_mul_of_nonneg_left hG1 (Int.le_of_lt hd0)
  rw [e, Int.mul_one] at h9
  omega
theorem num_u {u U : Int} {G : Nat} (hG : 0 < G) (e : u * (G : Int) = U) (h1 : -1164358800 ≤ U) (h2 : U ≤ 1164358800) : -1164358800 ≤ u ∧ u ≤ 1164358800 := by
  have h9 : u.natAbs * G = U.natAbs := by
    rw [← e, Int.natAbs_mul, Int.natAbs_natCast]
  have h8 : u.natAbs ≤ U.natAbs := by
    rw [← h9]
    exact Nat.le_mul_of_pos_right _ hG
  clear h9 e
  omega
theorem num_s {u v : Int} (h : -1164358800 ≤ u ∧ u ≤ 1164358800) (g : -388119600 ≤ v ∧ v ≤ 388119600) : -9223372036854775808 ≤ u - v ∧ u - v < 9223372036854775808 ∧ -2000000000 ≤ u - v ∧ u - v ≤ 2000000000 := by omega
theorem num_p {v : Int} (g : -388119600 ≤ v ∧ v ≤ 388119600) : -9223372036854775808 ≤ v ∧ v < 9223372036854775808 := by omega
theorem num_x {x d : Int} (h : -400 ≤ x ∧ x ≤ 400) (g : 0 < d ∧ d ≤ 970299) : -388119600 ≤ x * d ∧ x * d ≤ 388119600 := prod_bound (B := 400) (C := 970299) h.1 h.2 (by omega) g.2
theorem x_rng {w : Nat} (hv : vld n M) (hp : p < n) (hw : w < 2) : -400 ≤ (M (1 + w) p).toInt64.toInt ∧ (M (1 + w) p).toInt64.toInt ≤ 400 := by
  rw [Int32.toInt_toInt64]
  rcases (show w = 0 ∨ w = 1 by omega) with rfl | rfl
  · exact (hv.1 p hp).2.1
  · exact (hv.1 p hp).2.2.1
theorem ap_e {w : Nat} : apR M a b c w p = (arN M w a b c (M 0 p) 0 - 10000000000) - (M (1 + w) p).toInt64 * dnR M a b c w p := by
  unfold apR upR
  rw [I_asc]
theorem sub_mul_L {u x : Int64} {D : Int64} (hu : -1164358800 ≤ u.toInt ∧ u.toInt ≤ 1164358800) (hx : -400 ≤ x.toInt ∧ x.toInt ≤ 400) (hd : 0 < D.toInt ∧ D.toInt ≤ 970299) : (u - x * D).toInt = u.toInt - x.toInt * D.toInt ∧ -2000000000 ≤ u.toInt - x.toInt * D.toInt ∧ u.toInt - x.toInt * D.toInt ≤ 2000000000 := by
  have g := num_x hx hd
  have m1 : (x * D).toInt = x.toInt * D.toInt := L_mul (num_p g).1 (num_p g).2
  have s1 := num_s hu g
  refine ⟨?_, s1.2.2⟩
  rw [← m1] at s1
  rw [L_sub s1.1 s1.2.1, m1]
theorem apart {w : Nat} (hv : vld n M) (h1 : a < b) (h2 : b < c) (hc : c < n) (hp : p < n) (hw : w < 2) : ∃ G : Nat, 0 < G ∧ (apR M a b c w p).toInt * (G : Int) = (awN M w a b c p).toInt ∧ (dnR M a b c w p).toInt * (G : Int) = (loN M a b c).toInt ∧ 0 < (dnR M a b c w p).toInt ∧ (dnR M a b c w p).toInt ≤ 970299 ∧ (-2000000000 ≤ (awN M w a b c p).toInt ∧ (awN M w a b c p).toInt ≤ 2000000000) ∧ -2000000000 ≤ (apR M a b c w p).toInt ∧ (apR M a b c w p).toInt ≤ 2000000000 := by
  have htp := (hv.1 p hp).1
  obtain ⟨l1, l2⟩ := lo_abs hv h1 h2 hc
  have hu : -1164358800 ≤ (upN M w a b c (tmL M p)).toInt ∧ (upN M w a b c (tmL M p)).toInt ≤ 1164358800 := up_abs hv hw (Nat.lt_trans h1 (Nat.lt_trans h2 hc)) (Nat.lt_trans h2 hc) hc (u := tmL M p) (by rw [tm_toInt]; exact htp)
  obtain ⟨G, hG, e1, e2⟩ := red (t := M 0 p) hv h1 h2 hc hw htp
  have e1 : (arN M w a b c (M 0 p) 0 - 10000000000).toInt * (G : Int) = (upN M w a b c (tmL M p)).toInt := e1
  have e2 : (dnR M a b c w p).toInt * (G : Int) = (loN M a b c).toInt := e2
  have hd := num_d hG e2 l1 l2
  have hup := num_u hG e1 hu.1 hu.2
  have hx := x_rng (p := p) hv hp hw
  have s1 := sub_mul_L hup hx hd
  have s2 := sub_mul_L hu hx ⟨l1, l2⟩
  rw [← ap_e] at s1
  have s2' : (awN M w a b c p).toInt = (upN M w a b c (tmL M p)).toInt - (M (1 + w) p).toInt64.toInt * (loN M a b c).toInt := s2.1
  refine ⟨G, hG, ?_, e2, hd.1, hd.2, ?_, ?_⟩
  · rw [s1.1, s2', Int.sub_mul, e1, Int.mul_assoc, e2]
  · rw [s2']
    exact s2.2
  · rw [s1.1]
    exact s1.2
theorem apR_own {w : Nat} (hv : vld n M) (h1 : a < b) (h2 : b < c) (hc : c < n) (hp : p < n) (hw : w < 2) (h : p = a ∨ p = b ∨ p = c) : apR M a b c w p = 0 := by
  obtain ⟨G, hG, e1, -⟩ := apart hv h1 h2 hc hp hw
  rw [aw_own h, show (0 : Int64).toInt = 0 from rfl] at e1
  rcases Int.mul_eq_zero.mp e1 with e | e
  · exact Int64.toInt_inj.mp (e.trans rfl)
  · omega
theorem dnR_1 {w : Nat} (hv : vld n M) (h1 : a < b) (h2 : b < c) (hc : c < n) (hp : p < n) (hw : w < 2) : ¬ dnR M a b c w p < 1 := by
  obtain ⟨G, hG, -, -, h, -⟩ := apart hv h1 h2 hc hp hw
  rw [Int64.lt_iff_toInt_lt, show (1 : Int64).toInt = 1 from rfl]
  omega
end VA
