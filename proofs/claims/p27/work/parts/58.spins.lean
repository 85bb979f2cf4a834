/-! THE LAW: spins -/
section VS
variable {z : xS} {k p : Nat} {r w t b u T B m d : Int32} {M : Nat → Nat → Int32} {n : Nat} {P : Nat → Bool}
theorem v_fi (h : okSp t b) (s : sp_fits z t b r) : r = nI (cnt (pF (zM z) t.toInt b.toInt) (zn z)) := by
  rcases s with ⟨s, -⟩ | ⟨-, s⟩
  · exact absurd h s
  · exact s
theorem v_fi2 (h : ¬ okSp t b) (s : sp_fits z t b r) : r = -2 := by
  rcases s with ⟨-, s⟩ | ⟨s, -⟩
  · exact s
  · exact absurd s h
theorem spT {q : Nat} (hq : q < 360) (h : t = nI q - 179) : -179 ≤ t.toInt ∧ t.toInt ≤ 180 := by
  rw [h, show (179 : Int32) = nI 179 from rfl, pk_sub_toInt (by omega) (by decide)]
  omega
theorem okS {q : Nat} (ht : -179 ≤ t.toInt ∧ t.toInt ≤ 180) (hq : q < 360) : okSp t (nI q) := by
  refine ⟨⟨?_, ?_⟩, nI_pos' (by omega), (nI_leI (b := 359) (by omega) (by decide)).mpr (by omega)⟩
  · rw [I_le]; exact ht.1
  · rw [I_le]; exact ht.2
theorem cnt_no {k : Nat} (h : ¬ P k = true) : nI (cnt P k) = nI (cnt P (k + 1)) := by
  show _ = nI (cnt P k + (if P k then 1 else 0))
  rw [if_neg h]
  rfl
theorem cnt_none {n : Nat} (h : ∀ k, k < n → ¬ P k = true) : cnt P n = 0 := by
  induction n with
  | zero => rfl
  | succ n ih =>
    show cnt P n + (if P n then 1 else 0) = 0
    rw [if_neg (h n (Nat.lt_succ_self _)), ih (fun k hk => h k (by omega))]
theorem cnt_t {k : Nat} (h : P k = true) : nI (cnt P k) + 1 = nI (cnt P (k + 1)) := by
  show _ = nI (cnt P k + (if P k then 1 else 0))
  rw [if_pos h, nI_1]
theorem cnt_f {k : Nat} (h : ¬ P k = true) : nI (cnt P k) + 0 = nI (cnt P (k + 1)) := by
  rw [← cnt_no h, show (0 : Int32) = nI 0 from rfl, nI_add]
  rfl
/-- an angle that a spin gives, less the photo's: the machine's remainder -/
theorem ap_x (hv : vld n M) (hk : k < n) (hkp : pK M k = true) {q : Nat} (ht : -179 ≤ t.toInt ∧ t.toInt ≤ 180) (hq : q < 360) (hm : m = nI q + t * M 0 k - M 4 k - (nI q + t * M 0 k - M 4 k) / 360 * 360) : m.toInt = if 0 ≤ (nI q).toInt + t.toInt * (M 0 k).toInt - (M 4 k).toInt then ((nI q).toInt + t.toInt * (M 0 k).toInt - (M 4 k).toInt) % 360 else -((-((nI q).toInt + t.toInt * (M 0 k).toInt - (M 4 k).toInt)) % 360) := by
  obtain ⟨a1, a2⟩ := (hv.1 k hk).1
  obtain ⟨b1, b2⟩ := (hv.1 k hk).2.2.2.2.1
  have hz := nI_Z (n := q) (by omega)
  have g := prod_bound (a := t.toInt) (b := (M 0 k).toInt) (B := 180) (C := 99) (by omega) (by omega) (by omega) (by omega)
  have e1 : (t * M 0 k).toInt = t.toInt * (M 0 k).toInt := I_mul (by omega) (by omega)
  have e2 : (nI q + t * M 0 k).toInt = (nI q).toInt + t.toInt * (M 0 k).toInt := by rw [I_add (by rw [e1]; omega) (by rw [e1]; omega), e1]
  have e3 : (nI q + t * M 0 k - M 4 k).toInt = (nI q).toInt + t.toInt * (M 0 k).toInt - (M 4 k).toInt := by rw [I_sub (by rw [e2]; omega) (by rw [e2]; omega), e2]
  rw [hm, rem360, e3]
theorem ap_p {x : Int} (h : m.toInt = if 0 ≤ x then x % 360 else -((-x) % 360)) (hx : -100000 < x ∧ x < 100000) (h0 : 0 ≤ m) : m.toInt = x % 360 := by
  rw [I_le, show (0 : Int32).toInt = 0 from rfl] at h0
  split at h <;> omega
theorem ap_n {x : Int} (h : m.toInt = if 0 ≤ x then x % 360 else -((-x) % 360)) (hx : -100000 < x ∧ x < 100000) (h0 : ¬ 0 ≤ m) (hd : d = m + 360) : d.toInt = x % 360 := by
  rw [I_le, show (0 : Int32).toInt = 0 from rfl] at h0
  have e : (m + 360).toInt = m.toInt + 360 := I_add (by rw [show (360 : Int32).toInt = 360 from rfl]; split at h <;> omega) (by rw [show (360 : Int32).toInt = 360 from rfl]; split at h <;> omega)
  rw [hd, e]
  split at h <;> omega
theorem ap_b (hv : vld n M) (hk : k < n) {q : Nat} (ht : -179 ≤ t.toInt ∧ t.toInt ≤ 180) (hq : q < 360) : -100000 < (nI q).toInt + t.toInt * (M 0 k).toInt - (M 4 k).toInt ∧ (nI q).toInt + t.toInt * (M 0 k).toInt - (M 4 k).toInt < 100000 := by
  obtain ⟨a1, a2⟩ := (hv.1 k hk).1
  obtain ⟨b1, b2⟩ := (hv.1 k hk).2.2.2.2.1
  have hz := nI_Z (n := q) (by omega)
  have g := prod_bound (a := t.toInt) (b := (M 0 k).toInt) (B := 180) (C := 99) (by omega) (by omega) (by omega) (by omega)
  omega
theorem pF_iff (hkp : pK M k = true) {x y : Int} : pF M x y k = true ↔ (y + x * (M 0 k).toInt - (M 4 k).toInt + (M 5 k).toInt) % 360 ≤ 2 * (M 5 k).toInt := by
  unfold pF fitZ
  rw [hkp, Bool.true_and, decide_eq_true_eq]
theorem near_lo (hv : vld n M) (hk : k < n) (hkp : pK M k = true) {x y : Int} (hd : d.toInt = (y + x * (M 0 k).toInt - (M 4 k).toInt) % 360) (h : d ≤ 180) : d ≤ M 5 k ↔ pF M x y k = true := by
  obtain ⟨b1, b2⟩ := (hv.1 k hk).2.2.2.2.2.1
  rw [pF_iff hkp, I_le, hd]
  rw [I_le, hd, show (180 : Int32).toInt = 180 from rfl] at h
  generalize y + x * (M 0 k).toInt - (M 4 k).toInt = v at *
  omega
theorem near_hi (hv : vld n M) (hk : k < n) (hkp : pK M k = true) {x y : Int} (hd : d.toInt = (y + x * (M 0 k).toInt - (M 4 k).toInt) % 360) (h : ¬ d ≤ 180) : 360 - d ≤ M 5 k ↔ pF M x y k = true := by
  obtain ⟨b1, b2⟩ := (hv.1 k hk).2.2.2.2.2.1
  have e : (360 - d).toInt = 360 - d.toInt := I_sub (by rw [show (360 : Int32).toInt = 360 from rfl, hd]; omega) (by rw [show (360 : Int32).toInt = 360 from rfl, hd]; omega)
  rw [pF_iff hkp, I_le, e, hd]
  rw [I_le, hd, show (180 : Int32).toInt = 180 from rfl] at h
  generalize y + x * (M 0 k).toInt - (M 4 k).toInt = v at *
  omega
/-! the best spin -/
theorem mk_00 (h : nI (mk P n) = 0) (hn : n ≤ 10) : ∀ k, k < n → ¬ P k = true := fun k hk => mk_no ((nI_mk0 hn).mp h) hk
theorem v_spN (hno : ∀ k, k < zn z → ¬ pK (zM z) k = true) (hw : 0 ≤ w ∧ w ≤ 3) (h : sp_spin z w r) : r = -4 := by
  rcases h with ⟨h, -⟩ | ⟨-, h⟩
  · exact absurd hw h
  · rcases h with ⟨-, h⟩ | ⟨⟨k, hk, h⟩, -⟩
    · exact h
    · exact absurd h (hno k hk)
theorem v_anN (hno : ∀ k, k < zn z → ¬ pK (zM z) k = true) (hu : 0 ≤ u ∧ u ≤ 99) (h : sp_angleAt z u r) : r = -4 := by
  rcases h with ⟨h, -⟩ | ⟨-, h⟩
  · exact absurd hu h
  · rcases h with ⟨-, h⟩ | ⟨⟨k, hk, h⟩, -⟩
    · exact h
    · exact absurd h (hno k hk)
theorem v_sp0 (hex : ∃ k, k < zn z ∧ pK (zM z) k = true) (h : sp_spin z 0 r) : ∃ T B : Int32, isSpin (zM z) (zn z) T.toInt B.toInt ∧ r = T + 200 := by
  rcases h with ⟨h, -⟩ | ⟨-, h⟩
  · exact absurd (by decide) h
  · rcases h with ⟨h, -⟩ | ⟨-, T, B, hs, h⟩
    · obtain ⟨k, hk, hp⟩ := hex
      exact absurd hp (h k hk)
    · rw [if_pos rfl] at h
      exact ⟨T, B, hs, h⟩
theorem v_sp (hs : isSpin (zM z) (zn z) T.toInt B.toInt) (hex : ∃ k, k < zn z ∧ pK (zM z) k = true) (hw : 0 ≤ w ∧ w ≤ 3) (h : sp_spin z w r) : r = if w = 0 then T + 200 else if w = 1 then B else if w = 2 then nI (cnt (pF (zM z) T.toInt B.toInt) (zn z)) else nI (mk (pF (zM z) T.toInt B.toInt) (zn z)) := by
  rcases h with ⟨h, -⟩ | ⟨-, h⟩
  · exact absurd hw h
  · rcases h with ⟨h, -⟩ | ⟨-, T', B', hs', h⟩
    · obtain ⟨k, hk, hp⟩ := hex
      exact absurd hp (h k hk)
    · obtain ⟨rfl, rfl⟩ := spinU hs hs'
      exact h
theorem v_sp1 (hs : isSpin (zM z) (zn z) T.toInt B.toInt) (hex : ∃ k, k < zn z ∧ pK (zM z) k = true) (h : sp_spin z 1 r) : r = B := (v_sp hs hex (by decide) h).trans (by rw [if_neg (by decide), if_pos rfl])
theorem v_sp2 (hs : isSpin (zM z) (zn z) T.toInt B.toInt) (hex : ∃ k, k < zn z ∧ pK (zM z) k = true) (h : sp_spin z 2 r) : r = nI (cnt (pF (zM z) T.toInt B.toInt) (zn z)) := (v_sp hs hex (by decide) h).trans (by rw [if_neg (by decide), if_neg (by decide), if_pos rfl])
theorem v_sp3 (hs : isSpin (zM z) (zn z) T.toInt B.toInt) (hex : ∃ k, k < zn z ∧ pK (zM z) k = true) (h : sp_spin z 3 r) : r = nI (mk (pF (zM z) T.toInt B.toInt) (zn z)) := (v_sp hs hex (by decide) h).trans (by rw [if_neg (by decide), if_neg (by decide), if_neg (by decide)])
theorem v_an (hs : isSpin (zM z) (zn z) T.toInt B.toInt) (hex : ∃ k, k < zn z ∧ pK (zM z) k = true) (hu : 0 ≤ u ∧ u ≤ 99) (h : sp_angleAt z u r) : r.toInt = (B.toInt + T.toInt * u.toInt) % 360 := by
  rcases h with ⟨h, -⟩ | ⟨-, h⟩
  · exact absurd hu h
  · rcases h with ⟨h, -⟩ | ⟨-, T', B', hs', h⟩
    · obtain ⟨k, hk, hp⟩ := hex
      exact absurd hp (h k hk)
    · obtain ⟨rfl, rfl⟩ := spinU hs hs'
      exact h
theorem okB (hs : isSpin M n T.toInt B.toInt) : okSp T B := by
  obtain ⟨⟨⟨h1, h2⟩, h3, h4⟩, -⟩ := hs
  refine ⟨⟨?_, ?_⟩, ?_, ?_⟩ <;> rw [I_le]
  · exact h1
  · exact h2
  · exact h3
  · rw [show (359 : Int32).toInt = 359 from rfl]
    omega
theorem sp_max (hn : n ≤ 10) (hs : isSpin M n T.toInt B.toInt) (h : okSp t b) : ¬ nI (cnt (pF M T.toInt B.toInt) n) < nI (cnt (pF M t.toInt b.toInt) n) := by
  have h2 := okSp_t h.1 h.2
  have h3 : ssc M n t.toInt b.toInt ≤ ssc M n T.toInt B.toInt := (hs.2 t.toInt b.toInt ⟨h2.1, h2.2.1, h2.2.2⟩).1
  have h4 := cnt_le (pF M T.toInt B.toInt) n
  exact nI_nlt h3 (by omega)
theorem sp_pos (hn : n ≤ 10) (hv : vld n M) (hs : isSpin M n T.toInt B.toInt) (hex : ∃ k, k < n ∧ pK M k = true) : ¬ nI (cnt (pF M T.toInt B.toInt) n) ≤ 0 := by
  obtain ⟨k, hk, hp⟩ := hex
  obtain ⟨b1, b2⟩ := (hv.1 k hk).2.2.2.2.1
  obtain ⟨c1, c2⟩ := (hv.1 k hk).2.2.2.2.2.1
  have h3 : ssc M n 0 ((M 4 k).toInt % 360) ≤ ssc M n T.toInt B.toInt := (hs.2 0 ((M 4 k).toInt % 360) ⟨⟨by decide, by decide⟩, by omega, by omega⟩).1
  have h5 : 0 < ssc M n 0 ((M 4 k).toInt % 360) := cnt_pos hk ((pF_iff hp).mpr (by omega))
  have h4 := cnt_le (pF M T.toInt B.toInt) n
  exact nI_nle (show 0 < cnt (pF M T.toInt B.toInt) n from Nat.lt_of_lt_of_le h5 h3) (by omega)
theorem sp_in {x y : Int} : nI (mk (pF M x y) n) &&& (nI (mk (pK M) n) ^^^ -1) = 0 := by
  rw [and_not_mk, show mk (fun q => pF M x y q && !pK M q) n = 0 from ?_]
  · rfl
  · rw [show (0 : Nat) = mk (fun _ => false) n from ?_]
    · refine mk_congr (fun q _ => ?_)
      unfold pF
      cases pK M q
      · rfl
      · simp
    · exact (Nat.eq_of_testBit_eq (fun i => by rw [mk_tb, Nat.zero_testBit, Bool.and_false])).symm
theorem I_200 (x : Int32) : x + 200 - 200 = x := Int32.add_sub_cancel x 200
/-- the angle at 40 -/
theorem at40 (hs : isSpin M n T.toInt B.toInt) (hm : m = B + T * 40 - (B + T * 40) / 360 * 360) : m.toInt = if 0 ≤ B.toInt + T.toInt * (40 : Int32).toInt then (B.toInt + T.toInt * (40 : Int32).toInt) % 360 else -((-(B.toInt + T.toInt * (40 : Int32).toInt)) % 360) := by
  obtain ⟨⟨⟨h1, h2⟩, h3, h4⟩, -⟩ := hs
  have e0 : (40 : Int32).toInt = 40 := rfl
  have e1 : (T * 40).toInt = T.toInt * (40 : Int32).toInt := I_mul (by rw [e0]; omega) (by rw [e0]; omega)
  have e2 : (B + T * 40).toInt = B.toInt + T.toInt * (40 : Int32).toInt := by rw [I_add (by rw [e1, e0]; omega) (by rw [e1, e0]; omega), e1]
  rw [hm, rem360, e2]
theorem b40 (hs : isSpin M n T.toInt B.toInt) : -100000 < B.toInt + T.toInt * (40 : Int32).toInt ∧ B.toInt + T.toInt * (40 : Int32).toInt < 100000 := by
  obtain ⟨⟨⟨h1, h2⟩, h3, h4⟩, -⟩ := hs
  have e0 : (40 : Int32).toInt = 40 := rfl
  rw [e0]
  omega
end VS
