/-! THE LAW: what the class's answers are, as numbers of the state -/
theorem sX.at0 {g : xG} {E : Nat → va_E} {z : xS} (h : sX g E z) : E 0 = .inr (6, [.ref (xad g 1), .ref (xad g 10), .int (bI (zf z)), .ref (xad g 19), .ref (xad g 57), .ref (xad g 59), .ref (xad g 60), .ref (xad g 61), .ref (xad g 64)]) := h.1
theorem hldN {n : Nat} (hn : n ≤ 10) : ¬ held n (nI n) := fun ⟨k, hk, e⟩ => absurd (nI_inj (by omega) (by omega) e) (by omega)
theorem not11 {b c : Int32} (h : b ≤ c) : ¬ c < b := Int32.not_lt.mpr h
/-- photo(k, 4) and photo(k, 5) -/
def an4 (M : Nat → Nat → Int32) (k : Nat) : Int32 := if M 4 k = 360 then -5 else M 4 k
def an5 (M : Nat → Nat → Int32) (k : Nat) : Int32 := if M 4 k = 360 then -5 else M 5 k
section VL
variable {z : xS} {k : Nat} {r w : Int32} {M : Nat → Nat → Int32} {n : Nat}
theorem v_ph {v : Nat} (hv : vS z) (hk : k < zn z) (hw : v < 7) (h : sp_photo z (nI k) (nI v) r) : r = phv (zM z) k v := by
  rcases h with ⟨h, -⟩ | ⟨k', hk', e, h⟩
  · exact absurd ⟨k, hk, rfl⟩ h
  · obtain rfl := heldU hv.1.1 hk hk' e
    rcases h with ⟨h, -⟩ | ⟨v', hv7, e2, h⟩ | ⟨h, -⟩
    · exact absurd ⟨v, by omega, rfl⟩ h
    · obtain rfl : v = v' := nI_inj (by omega) (by omega) e2
      exact h
    · exact absurd (nI_inj (a := v) (b := 7) (by omega) (by decide) h) (by omega)
theorem v_ph0 (hv : vS z) (hk : k < zn z) (h : sp_photo z (nI k) 0 r) : r = zM z 0 k := (v_ph (v := 0) hv hk (by decide) h).trans (by simp [phv])
theorem v_ph1 (hv : vS z) (hk : k < zn z) (h : sp_photo z (nI k) 1 r) : r = zM z 1 k + 1000 := (v_ph (v := 1) hv hk (by decide) h).trans (by simp [phv])
theorem v_ph2 (hv : vS z) (hk : k < zn z) (h : sp_photo z (nI k) 2 r) : r = zM z 2 k + 1000 := (v_ph (v := 2) hv hk (by decide) h).trans (by simp [phv])
theorem v_ph3 (hv : vS z) (hk : k < zn z) (h : sp_photo z (nI k) 3 r) : r = zM z 3 k := (v_ph (v := 3) hv hk (by decide) h).trans (by simp [phv])
theorem v_ph4 (hv : vS z) (hk : k < zn z) (h : sp_photo z (nI k) 4 r) : r = an4 (zM z) k := (v_ph (v := 4) hv hk (by decide) h).trans (by simp [phv, an4])
theorem v_ph5 (hv : vS z) (hk : k < zn z) (h : sp_photo z (nI k) 5 r) : r = an5 (zM z) k := (v_ph (v := 5) hv hk (by decide) h).trans (by simp [phv, an5])
theorem v_ph6 (hv : vS z) (hk : k < zn z) (h : sp_photo z (nI k) 6 r) : r = zM z 6 k := (v_ph (v := 6) hv hk (by decide) h).trans (by simp [phv])
theorem v_phW {v : Nat} (hv : vS z) (hk : k < zn z) (hw : v < 2) (h : sp_photo z (nI k) (1 + nI v) r) : r = zM z (1 + v) k + 1000 := by
  rcases (show v = 0 ∨ v = 1 by omega) with rfl | rfl
  · exact v_ph1 hv hk h
  · exact v_ph2 hv hk h
theorem v_ph8 (hk : k < zn z) (h : sp_photo z (nI k) 8 r) : r = -2 := by
  rcases h with ⟨h, -⟩ | ⟨k', -, -, h⟩
  · exact absurd ⟨k, hk, rfl⟩ h
  · rcases h with ⟨-, h⟩ | ⟨v, hv7, e2, -⟩ | ⟨h, -⟩
    · exact h
    · exact absurd (nI_inj (a := 8) (b := v) (by decide) (by omega) e2) (by omega)
    · exact absurd h (by decide)
theorem v_phN (hn : zn z ≤ 10) (h : sp_photo z (nI (zn z)) w r) : r = -1 := by
  rcases h with ⟨-, h⟩ | ⟨k', hk', e, -⟩
  · exact h
  · exact absurd ⟨k', hk', e⟩ (hldN hn)
theorem v_ct0 (h : sp_count z 0 r) : r = nI (zn z) := by
  rcases h with ⟨-, h⟩ | ⟨h, -⟩ | ⟨h, -⟩ | ⟨h, -⟩ | ⟨h, -⟩ | ⟨h, -⟩ | ⟨h, -⟩
  · exact h
  all_goals first | exact absurd h (by decide) | exact (h (by decide)).elim
theorem v_ct1 (h : sp_count z 1 r) : r = nI (mk (pU (zM z)) (zn z)) := by
  rcases h with ⟨h, -⟩ | ⟨-, h⟩ | ⟨h, -⟩ | ⟨h, -⟩ | ⟨h, -⟩ | ⟨h, -⟩ | ⟨h, -⟩
  · exact absurd h (by decide)
  · exact h
  all_goals first | exact absurd h (by decide) | exact (h (by decide)).elim
theorem v_ct2 (h : sp_count z 2 r) : r = nI (mk (pK (zM z)) (zn z)) := by
  rcases h with ⟨h, -⟩ | ⟨h, -⟩ | ⟨-, h⟩ | ⟨h, -⟩ | ⟨h, -⟩ | ⟨h, -⟩ | ⟨h, -⟩
  · exact absurd h (by decide)
  · exact absurd h (by decide)
  · exact h
  all_goals first | exact absurd h (by decide) | exact (h (by decide)).elim
theorem v_ct3 (h : sp_count z 3 r) : ∃ R T, trk (zM z) (zn z) R T ∧ r = nI (R 0) := by
  rcases h with ⟨h, -⟩ | ⟨h, -⟩ | ⟨h, -⟩ | ⟨-, h⟩ | ⟨h, -⟩ | ⟨h, -⟩ | ⟨h, -⟩
  · exact absurd h (by decide)
  · exact absurd h (by decide)
  · exact absurd h (by decide)
  · exact h
  all_goals first | exact absurd h (by decide) | exact (h (by decide)).elim
theorem v_ct4 (h : sp_count z 4 r) : r = nI (zh z) := by
  rcases h with ⟨h, -⟩ | ⟨h, -⟩ | ⟨h, -⟩ | ⟨h, -⟩ | ⟨-, h⟩ | ⟨h, -⟩ | ⟨h, -⟩
  · exact absurd h (by decide)
  · exact absurd h (by decide)
  · exact absurd h (by decide)
  · exact absurd h (by decide)
  · exact h
  all_goals first | exact absurd h (by decide) | exact (h (by decide)).elim
theorem v_htN {a b : Int32} (hn : zn z ≤ 10) (h : sp_hits z (nI (zn z)) a b r) : r = -1 := by
  rcases h with ⟨-, h⟩ | ⟨i, j, l, ⟨hi, -⟩, ⟨e, -⟩, -⟩
  · exact h
  · exact absurd ⟨i, hi, e⟩ (hldN hn)
theorem v_ftN (hn : zn z ≤ 10) (h : sp_fitsFrom z (nI (zn z)) r) : r = -1 := by
  rcases h with ⟨-, h⟩ | ⟨k', hk', e, -⟩
  · exact h
  · exact absurd ⟨k', hk', e⟩ (hldN hn)
theorem v_ftA (hv : vS z) (hk : k < zn z) (hu : ¬ pU (zM z) k = true) (h : sp_fitsFrom z (nI k) r) : r = -4 := by
  rcases h with ⟨h, -⟩ | ⟨k', hk', e, h⟩
  · exact absurd ⟨k, hk, rfl⟩ h
  · obtain rfl := heldU hv.1.1 hk hk' e
    rcases h with ⟨-, h⟩ | ⟨h, -⟩
    · exact h
    · exact absurd h hu
theorem an4_n (hv : vld n M) (hk : k < n) : an4 M k < 0 ↔ M 4 k = 360 := by
  have h := (hv.1 k hk).2.2.2.2.1
  unfold an4
  split
  · rename_i e
    exact ⟨fun _ => e, fun _ => by decide⟩
  · rename_i e
    refine ⟨fun q => ?_, fun q => absurd q e⟩
    rw [I_lt, show (0 : Int32).toInt = 0 from rfl] at q
    omega
theorem an5_n (hv : vld n M) (hk : k < n) : an5 M k < 0 ↔ M 4 k = 360 := by
  have h := (hv.1 k hk).2.2.2.2.2.1
  unfold an5
  split
  · rename_i e
    exact ⟨fun _ => e, fun _ => by decide⟩
  · rename_i e
    refine ⟨fun q => ?_, fun q => absurd q e⟩
    rw [I_lt, show (0 : Int32).toInt = 0 from rfl] at q
    omega
theorem an_sg (hv : vld n M) (hk : k < n) : 0 ≤ an4 M k ↔ 0 ≤ an5 M k := by
  rw [← Int32.not_lt, ← Int32.not_lt, an4_n hv hk, an5_n hv hk]
theorem pU_1 (h : M 6 k = 1) : ¬ pU M k = true := by
  unfold pU
  rw [h]
  decide
theorem pU_0 (hv : vld n M) (hk : k < n) (h : ¬ M 6 k = 1) : pU M k = true := by
  have := (hv.1 k hk).2.2.2.2.2.2
  exact decide_eq_true (this.resolve_right h)
theorem pU_z (h : M 6 k = 0) : pU M k = true := decide_eq_true h
theorem pU_nz (h : ¬ M 6 k = 0) : ¬ pU M k = true := fun q => h (of_decide_eq_true q)
theorem pK_1 (h : M 6 k = 1) : ¬ pK M k = true := fun q => by
  have := (of_decide_eq_true q : M 6 k = 0 ∧ ¬ M 4 k = 360).1
  rw [h] at this
  exact absurd this (by decide)
theorem pK_n (hv : vld n M) (hk : k < n) (h : an4 M k < 0) : ¬ pK M k = true := fun q => (of_decide_eq_true q : M 6 k = 0 ∧ ¬ M 4 k = 360).2 ((an4_n hv hk).mp h)
theorem pK_t (hv : vld n M) (hk : k < n) (hu : pU M k = true) (h : ¬ an4 M k < 0) : pK M k = true := decide_eq_true ⟨of_decide_eq_true hu, fun q => h ((an4_n hv hk).mpr q)⟩
theorem pK_an (hk : pK M k = true) : pU M k = true ∧ an4 M k = M 4 k ∧ an5 M k = M 5 k ∧ ¬ M 4 k = 360 := by
  have h := (of_decide_eq_true hk : M 6 k = 0 ∧ ¬ M 4 k = 360)
  exact ⟨decide_eq_true h.1, if_neg h.2, if_neg h.2, h.2⟩
theorem mk_or0 {P : Nat → Bool} (h : ¬ P k = true) : nI (mk P k) ||| 0 = nI (mk P (k + 1)) := by
  rw [← mk_skip h, show (0 : Int32) = nI 0 from rfl, nI_or, Nat.or_zero]
theorem v_lt (hv : vld n M) {i j : Nat} (h : i < j) (hj : j < n) : M 0 i < M 0 j := I_lt.mpr (hv.2 i j h hj)
theorem v_m1 (hv : vld n M) (hk : k < n) : -1 < M 0 k := by
  have h := (hv.1 k hk).1
  rw [I_lt, show (-1 : Int32).toInt = -1 from rfl]
  omega
theorem kn_lt {c n : Nat} (hn : n ≤ 10) (hk : c ≤ n) (h : ¬ nI n ≤ nI c) : c < n := Nat.not_le.mp (fun q => h ((nI_leI (by omega) (by omega)).mpr q))
theorem kn_eq {c n : Nat} (hn : n ≤ 10) (hk : c ≤ n) (h : nI n ≤ nI c) : c = n := by
  have := (nI_leI (by omega) (by omega)).mp h
  omega
end VL
/-! ints that are cut down; bits that are counted -/
theorem low_v (x : Int32) {d : Nat} (h0 : 0 < d) (hd : d < 1000) : ∃ q, q < d ∧ (x &&& 2147483647) - (x &&& 2147483647) / nI d * nI d = nI q := by
  obtain ⟨j, hj, e⟩ := pk_andE x (m := 2147483647) 31 (by decide +kernel)
  rw [e, pk_rem (by omega) h0 (by omega)]
  exact ⟨j % d, Nat.mod_lt _ h0, rfl⟩
theorem shr_bit : ∀ a, a < 1024 → ∀ k, k < 12 → (nI a >>> (nI k &&& 31)) &&& 1 = bI (a.testBit k) := by decide +kernel
theorem cnt_bit {a k : Nat} (ha : a < 1024) (hk : k < 12) : nI (cnt (fun i => a.testBit i) k) + ((nI a >>> (nI k &&& 31)) &&& 1) = nI (cnt (fun i => a.testBit i) (k + 1)) := by
  rw [shr_bit a ha k hk]
  show _ = nI (cnt (fun i => a.testBit i) k + (if a.testBit k then 1 else 0))
  rw [← nI_add]
  unfold bI
  split <;> rfl
theorem pop12 {a : Nat} (ha : a < 1024) : cnt (fun i => a.testBit i) 12 = pop a := by
  have h10 : a.testBit 10 = false := Nat.testBit_lt_two_pow (by omega)
  have h11 : a.testBit 11 = false := Nat.testBit_lt_two_pow (by omega)
  show cnt (fun i => a.testBit i) 10 + (if a.testBit 10 then 1 else 0) + (if a.testBit 11 then 1 else 0) = pop a
  rw [h10, h11]
  rfl
theorem k12 {k : Nat} (hk : k ≤ 12) (h : ¬ 12 ≤ nI k) : k < 12 := Nat.not_le.mp (fun q => h ((nI_leI (a := 12) (by decide) (by omega)).mpr q))
theorem e12 {k : Nat} (hk : k ≤ 12) (h : 12 ≤ nI k) : k = 12 := by
  have := (nI_leI (a := 12) (b := k) (by decide) (by omega)).mp h
  omega
theorem k7 {k : Nat} (hk : k ≤ 7) (h : ¬ 7 ≤ nI k) : k < 7 := Nat.not_le.mp (fun q => h ((nI_leI (a := 7) (by decide) (by omega)).mpr q))
theorem e7 {k : Nat} (hk : k ≤ 7) (h : 7 ≤ nI k) : k = 7 := by
  have := (nI_leI (a := 7) (b := k) (by decide) (by omega)).mp h
  omega
theorem k2 {k : Nat} (hk : k ≤ 2) (h : ¬ 2 ≤ nI k) : k < 2 := Nat.not_le.mp (fun q => h ((nI_leI (a := 2) (by decide) (by omega)).mpr q))
theorem e2 {k : Nat} (hk : k ≤ 2) (h : 2 ≤ nI k) : k = 2 := by
  have := (nI_leI (a := 2) (b := k) (by decide) (by omega)).mp h
  omega
/-! the digest of a state -/
def dgI (M : Nat → Nat → Int32) (p : Nat) (h : Int64) : Nat → Int64
  | 0 => h
  | w + 1 => 31 * dgI M p h w + (phv M p w).toInt64
def dgO (n : Nat) (M : Nat → Nat → Int32) : Nat → Int64
  | 0 => 157 + (nI (mk (pU M) n)).toInt64
  | p + 1 => dgI M p (dgO n M p) 7
theorem dgI_s (M : Nat → Nat → Int32) (p : Nat) (h : Int64) (w : Nat) : 31 * dgI M p h w + (phv M p w).toInt64 = dgI M p h (w + 1) := rfl
theorem dgO_0 (n : Nat) (M : Nat → Nat → Int32) : 157 + (nI (mk (pU M) n)).toInt64 = dgO n M 0 := rfl
