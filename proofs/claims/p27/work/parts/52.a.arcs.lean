/-! THE LAW: arcs as fractions that are cut short -/
theorem srt.rot {i j k a b c : Nat} (h : srt i j k a b c) : srt k i j a b c := by
  obtain ⟨h1, h2, h⟩ := h
  refine ⟨h1, h2, ?_⟩
  rcases h with ⟨e1, e2, e3⟩ | ⟨e1, e2, e3⟩ | ⟨e1, e2, e3⟩ | ⟨e1, e2, e3⟩ | ⟨e1, e2, e3⟩ | ⟨e1, e2, e3⟩
  · exact Or.inr (Or.inr (Or.inr (Or.inr (Or.inl ⟨e3, e1, e2⟩))))
  · exact Or.inr (Or.inr (Or.inl ⟨e3, e1, e2⟩))
  · exact Or.inr (Or.inr (Or.inr (Or.inr (Or.inr ⟨e3, e1, e2⟩))))
  · exact Or.inl ⟨e3, e1, e2⟩
  · exact Or.inr (Or.inr (Or.inr (Or.inl ⟨e3, e1, e2⟩)))
  · exact Or.inr (Or.inl ⟨e3, e1, e2⟩)
theorem srt.in3 {i j k a b c p : Nat} (h : srt i j k a b c) (hp : p = i ∨ p = j ∨ p = k) : p = a ∨ p = b ∨ p = c := by
  obtain ⟨-, -, h⟩ := h
  rcases h with ⟨e1, e2, e3⟩ | ⟨e1, e2, e3⟩ | ⟨e1, e2, e3⟩ | ⟨e1, e2, e3⟩ | ⟨e1, e2, e3⟩ | ⟨e1, e2, e3⟩ <;> rcases hp with hp | hp | hp <;> omega
theorem srt.bnd {i j k a b c n : Nat} (h : srt i j k a b c) (hi : i < n) (hj : j < n) (hk : k < n) : a < b ∧ b < c ∧ c < n := by
  obtain ⟨h1, h2, h⟩ := h
  refine ⟨h1, h2, ?_⟩
  rcases h with ⟨e1, e2, e3⟩ | ⟨e1, e2, e3⟩ | ⟨e1, e2, e3⟩ | ⟨e1, e2, e3⟩ | ⟨e1, e2, e3⟩ | ⟨e1, e2, e3⟩ <;> omega
theorem srt.dif {i j k a b c : Nat} (h : srt i j k a b c) : ¬ (i = j ∨ i = k ∨ j = k) := by
  obtain ⟨h1, h2, h⟩ := h
  rcases h with ⟨e1, e2, e3⟩ | ⟨e1, e2, e3⟩ | ⟨e1, e2, e3⟩ | ⟨e1, e2, e3⟩ | ⟨e1, e2, e3⟩ | ⟨e1, e2, e3⟩ <;> omega
theorem srt.same {i j k : Nat} (h1 : i < j) (h2 : j < k) : srt i j k i j k := ⟨h1, h2, Or.inl ⟨rfl, rfl, rfl⟩⟩
theorem srt.ex {i j k : Nat} (h : ¬ (i = j ∨ i = k ∨ j = k)) : ∃ a b c, srt i j k a b c := ⟨_, _, _, srt_of (fun q => h (Or.inl q)) (fun q => h (Or.inr (Or.inl q))) (fun q => h (Or.inr (Or.inr q)))⟩
section VA
variable {z : xS} {i j k a b c p : Nat} {r w t q x : Int32} {M : Nat → Nat → Int32} {n : Nat} {y : Int64}
theorem v_ht2 (hv : vS z) (hi : i < zn z) (hj : j < zn z) (hk : k < zn z) (h : i = j ∨ i = k ∨ j = k) (s : sp_hits z (nI i) (nI j) (nI k) r) : r = -2 := by
  rcases s with ⟨s, -⟩ | ⟨i', j', k', ⟨hi', hj', hk'⟩, ⟨e1, e2, e3⟩, s⟩
  · exact absurd ⟨⟨i, hi, rfl⟩, ⟨j, hj, rfl⟩, ⟨k, hk, rfl⟩⟩ s
  · obtain rfl := heldU hv.1.1 hi hi' e1
    obtain rfl := heldU hv.1.1 hj hj' e2
    obtain rfl := heldU hv.1.1 hk hk' e3
    rcases s with ⟨-, s⟩ | ⟨s, -⟩
    · exact s
    · exact absurd h s
theorem v_ht (hv : vS z) (hi : i < zn z) (hj : j < zn z) (hk : k < zn z) (hs : srt i j k a b c) (s : sp_hits z (nI i) (nI j) (nI k) r) : (¬ (pU (zM z) i = true ∧ pU (zM z) j = true ∧ pU (zM z) k = true) ∧ r = -4) ∨ ((pU (zM z) i = true ∧ pU (zM z) j = true ∧ pU (zM z) k = true) ∧ r = nI (mk (fun q => pU (zM z) q && hitB (zM z) a b c q) (zn z))) := by
  have h : ¬ (i = j ∨ i = k ∨ j = k) := hs.dif
  rcases s with ⟨s, -⟩ | ⟨i', j', k', ⟨hi', hj', hk'⟩, ⟨e1, e2, e3⟩, s⟩
  · exact absurd ⟨⟨i, hi, rfl⟩, ⟨j, hj, rfl⟩, ⟨k, hk, rfl⟩⟩ s
  · obtain rfl := heldU hv.1.1 hi hi' e1
    obtain rfl := heldU hv.1.1 hj hj' e2
    obtain rfl := heldU hv.1.1 hk hk' e3
    rcases s with ⟨s, -⟩ | ⟨-, s⟩
    · exact absurd s h
    · rcases s with s | ⟨hu, a', b', c', hs', s⟩
      · exact Or.inl s
      · obtain ⟨rfl, rfl, rfl⟩ := srt.uniq hs hs'
        exact Or.inr ⟨hu, s⟩
theorem v_ht4 (hv : vS z) (hi : i < zn z) (hj : j < zn z) (hk : k < zn z) (hs : srt i j k a b c) (hu : ¬ (pU (zM z) i = true ∧ pU (zM z) j = true ∧ pU (zM z) k = true)) (s : sp_hits z (nI i) (nI j) (nI k) r) : r = -4 := by
  rcases v_ht hv hi hj hk hs s with ⟨-, s⟩ | ⟨s, -⟩
  · exact s
  · exact absurd s hu
theorem v_htU (hv : vS z) (hi : i < zn z) (hj : j < zn z) (hk : k < zn z) (hs : srt i j k a b c) (hu : pU (zM z) i = true ∧ pU (zM z) j = true ∧ pU (zM z) k = true) (s : sp_hits z (nI i) (nI j) (nI k) r) : r = nI (mk (fun q => pU (zM z) q && hitB (zM z) a b c q) (zn z)) := by
  rcases v_ht hv hi hj hk hs s with ⟨s, -⟩ | ⟨-, s⟩
  · exact absurd hu s
  · exact s
theorem v_ar2 (hv : vS z) (hi : i < zn z) (hj : j < zn z) (hk : k < zn z) (h : (i = j ∨ i = k ∨ j = k) ∨ ¬ isAsk t w q) (s : sp_arc z (nI i) (nI j) (nI k) t w q y) : y = -2 := by
  rcases s with ⟨s, -⟩ | ⟨i', j', k', ⟨hi', hj', hk'⟩, ⟨e1, e2, e3⟩, s⟩
  · exact absurd ⟨⟨i, hi, rfl⟩, ⟨j, hj, rfl⟩, ⟨k, hk, rfl⟩⟩ s
  · obtain rfl := heldU hv.1.1 hi hi' e1
    obtain rfl := heldU hv.1.1 hj hj' e2
    obtain rfl := heldU hv.1.1 hk hk' e3
    rcases s with ⟨-, s⟩ | ⟨s, -⟩
    · exact s
    · exact absurd h s
theorem v_ar (hv : vS z) (hi : i < zn z) (hj : j < zn z) (hk : k < zn z) (hs : srt i j k a b c) (ha : isAsk t w q) (s : sp_arc z (nI i) (nI j) (nI k) t w q y) : (¬ (pU (zM z) i = true ∧ pU (zM z) j = true ∧ pU (zM z) k = true) ∧ y = -4) ∨ ((pU (zM z) i = true ∧ pU (zM z) j = true ∧ pU (zM z) k = true) ∧ ∃ v, v < 2 ∧ w = nI v ∧ y = arN (zM z) v a b c t q) := by
  have h : ¬ (i = j ∨ i = k ∨ j = k) := hs.dif
  rcases s with ⟨s, -⟩ | ⟨i', j', k', ⟨hi', hj', hk'⟩, ⟨e1, e2, e3⟩, s⟩
  · exact absurd ⟨⟨i, hi, rfl⟩, ⟨j, hj, rfl⟩, ⟨k, hk, rfl⟩⟩ s
  · obtain rfl := heldU hv.1.1 hi hi' e1
    obtain rfl := heldU hv.1.1 hj hj' e2
    obtain rfl := heldU hv.1.1 hk hk' e3
    rcases s with ⟨s, -⟩ | ⟨-, s⟩
    · rcases s with s | s
      · exact absurd s h
      · exact absurd ha s
    · rcases s with s | ⟨hu, a', b', c', v, hs', s⟩
      · exact Or.inl s
      · obtain ⟨rfl, rfl, rfl⟩ := srt.uniq hs hs'
        exact Or.inr ⟨hu, v, s⟩
theorem v_ar4 (hv : vS z) (hi : i < zn z) (hj : j < zn z) (hk : k < zn z) (hs : srt i j k a b c) (ha : isAsk t w q) (hu : ¬ (pU (zM z) i = true ∧ pU (zM z) j = true ∧ pU (zM z) k = true)) (s : sp_arc z (nI i) (nI j) (nI k) t w q y) : y = -4 := by
  rcases v_ar hv hi hj hk hs ha s with ⟨-, s⟩ | ⟨s, -⟩
  · exact s
  · exact absurd s hu
theorem v_arU {v : Nat} (hv : vS z) (hi : i < zn z) (hj : j < zn z) (hk : k < zn z) (hs : srt i j k a b c) (hw : v < 2) (ha : isAsk t (nI v) q) (hu : pU (zM z) i = true ∧ pU (zM z) j = true ∧ pU (zM z) k = true) (s : sp_arc z (nI i) (nI j) (nI k) t (nI v) q y) : y = arN (zM z) v a b c t q := by
  rcases v_ar hv hi hj hk hs ha s with ⟨s, -⟩ | ⟨-, v', hv', e, s⟩
  · exact absurd hu s
  · obtain rfl : v = v' := nI_inj (by omega) (by omega) e
    exact s
theorem ask_p {v : Nat} (hv : vld n M) (hp : p < n) (hw : v < 2) (hq : q = 0 ∨ q = 1) : isAsk (M 0 p) (nI v) q := by
  have h := (hv.1 p hp).1
  refine ⟨⟨?_, ?_⟩, ?_, ?_⟩
  · rw [I_le]; exact h.1
  · rw [I_le]; exact h.2
  · rcases (show v = 0 ∨ v = 1 by omega) with rfl | rfl <;> decide
  · rcases hq with rfl | rfl <;> decide
theorem ask_n {u v : Nat} (hu : u ≤ 99) (hw : v < 2) (hq : q = 0 ∨ q = 1) : isAsk (nI u) (nI v) q := by
  refine ⟨⟨nI_pos' (by omega), (nI_leI (b := 99) (by omega) (by decide)).mpr hu⟩, ?_, ?_⟩
  · rcases (show v = 0 ∨ v = 1 by omega) with rfl | rfl <;> decide
  · rcases hq with rfl | rfl <;> decide
theorem s6 (hv : vld n M) (hi : i < n) (hj : j < n) (hk : k < n) : M 6 i + M 6 j + M 6 k ≤ 0 ↔ (pU M i = true ∧ pU M j = true ∧ pU M k = true) := by
  have hi := (hv.1 i hi).2.2.2.2.2.2
  have hj := (hv.1 j hj).2.2.2.2.2.2
  have hk := (hv.1 k hk).2.2.2.2.2.2
  unfold pU
  rcases hi with hi | hi <;> rcases hj with hj | hj <;> rcases hk with hk | hk <;> rw [hi, hj, hk] <;> decide
end VA
