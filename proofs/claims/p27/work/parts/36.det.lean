/-! WHAT THE SPECS DETERMINE: one answer, one state -/
theorem heldU {n k k' : Nat} (hn : n ≤ 10) (hk : k < n) (hk' : k' < n) (h : nI k = nI k') : k = k' := nI_inj (by omega) (by omega) h
theorem sp_addPhoto.det {z z1 z2 : xS} {t x y e r r' : Int32} (h : sp_addPhoto z t x y e r z1) (h' : sp_addPhoto z t x y e r' z2) : r = r' ∧ z1 = z2 := by
  rcases h with ⟨a1, a2, a3⟩ | ⟨a1, a2⟩ <;> rcases h' with ⟨b1, b2, b3⟩ | ⟨b1, b2⟩
  · exact ⟨a2.trans b2.symm, a3.trans b3.symm⟩
  · exact absurd b1 a1
  · exact absurd a1 b1
  · exact sp_comes.det (fun _ _ => rfl) a2 b2
theorem sp_readPhoto.det {z z1 z2 : xS} {r r' : Int32} (h : sp_readPhoto z r z1) (h' : sp_readPhoto z r' z2) : r = r' ∧ z1 = z2 := by
  rcases h with ⟨a1, a2, a3⟩ | ⟨a1, ⟨a2, a3, a4⟩ | ⟨a2, a3⟩⟩ <;> rcases h' with ⟨b1, b2, b3⟩ | ⟨b1, ⟨b2, b3, b4⟩ | ⟨b2, b3⟩⟩
  · exact ⟨a2.trans b2.symm, a3.trans b3.symm⟩
  · exact absurd b1 a1
  · exact absurd b1 a1
  · exact absurd a1 b1
  · exact ⟨a3.trans b3.symm, a4.trans b4.symm⟩
  · exact absurd b2 a2
  · exact absurd a1 b1
  · exact absurd a2 b2
  · exact sp_comes.det (fun _ _ => rfl) a3 b3
theorem sp_setAngle.det {z z1 z2 : xS} {x a e r r' : Int32} (hv : vS z) (h : sp_setAngle z x a e r z1) (h' : sp_setAngle z x a e r' z2) : r = r' ∧ z1 = z2 := by
  rcases h with ⟨a1, a2, a3⟩ | ⟨k, hk, hx, h⟩ <;> rcases h' with ⟨b1, b2, b3⟩ | ⟨k', hk', hx', h'⟩
  · exact ⟨a2.trans b2.symm, a3.trans b3.symm⟩
  · exact absurd ⟨k', hk', hx'⟩ a1
  · exact absurd ⟨k, hk, hx⟩ b1
  · obtain rfl := heldU hv.1.1 hk hk' (hx.symm.trans hx')
    rcases h with ⟨a1, a2, a3⟩ | ⟨a1, ⟨a2, a3, a4⟩ | ⟨a2, a3, a4⟩⟩ <;> rcases h' with ⟨b1, b2, b3⟩ | ⟨b1, ⟨b2, b3, b4⟩ | ⟨b2, b3, b4⟩⟩
    · exact ⟨a2.trans b2.symm, a3.trans b3.symm⟩
    · exact absurd b1 a1
    · exact absurd b1 a1
    · exact absurd a1 b1
    · exact ⟨a3.trans b3.symm, a4.trans b4.symm⟩
    · exact absurd a2 b2
    · exact absurd a1 b1
    · exact absurd b2 a2
    · exact ⟨a3.trans b3.symm, a4.trans b4.symm⟩
theorem sp_move.det {z z1 z2 : xS} {x a e r r' : Int32} (hv : vS z) (h : sp_move z x a e r z1) (h' : sp_move z x a e r' z2) : r = r' ∧ z1 = z2 := by
  rcases h with ⟨a1, a2, a3⟩ | ⟨k, hk, hx, h⟩ <;> rcases h' with ⟨b1, b2, b3⟩ | ⟨k', hk', hx', h'⟩
  · exact ⟨a2.trans b2.symm, a3.trans b3.symm⟩
  · exact absurd ⟨k', hk', hx'⟩ a1
  · exact absurd ⟨k, hk, hx⟩ b1
  · obtain rfl := heldU hv.1.1 hk hk' (hx.symm.trans hx')
    rcases h with ⟨a1, a2, a3⟩ | ⟨a1, ⟨a2, a3, a4⟩ | ⟨a2, ⟨v, a3, a4⟩, a5⟩⟩ <;> rcases h' with ⟨b1, b2, b3⟩ | ⟨b1, ⟨b2, b3, b4⟩ | ⟨b2, ⟨v', b3, b4⟩, b5⟩⟩
    · exact ⟨a2.trans b2.symm, a3.trans b3.symm⟩
    · exact absurd b1 a1
    · exact absurd b1 a1
    · exact absurd a1 b1
    · exact ⟨a3.trans b3.symm, a4.trans b4.symm⟩
    · exact absurd a2 b2
    · exact absurd a1 b1
    · exact absurd b2 a2
    · obtain rfl := a3.uniq hv.1.1 b3
      exact ⟨a4.trans b4.symm, a5.trans b5.symm⟩
theorem sp_setAside.det {z z1 z2 : xS} {x r r' : Int32} {b : Bool} (hv : vS z) (h : sp_setAside z x b r z1) (h' : sp_setAside z x b r' z2) : r = r' ∧ z1 = z2 := by
  rcases h with ⟨a1, a2, a3⟩ | ⟨k, hk, hx, h⟩ <;> rcases h' with ⟨b1, b2, b3⟩ | ⟨k', hk', hx', h'⟩
  · exact ⟨a2.trans b2.symm, a3.trans b3.symm⟩
  · exact absurd ⟨k', hk', hx'⟩ a1
  · exact absurd ⟨k, hk, hx⟩ b1
  · obtain rfl := heldU hv.1.1 hk hk' (hx.symm.trans hx')
    rcases h with ⟨a1, a2, a3⟩ | ⟨a1, a2, a3⟩ <;> rcases h' with ⟨b1, b2, b3⟩ | ⟨b1, b2, b3⟩
    · exact ⟨a2.trans b2.symm, a3.trans b3.symm⟩
    · exact absurd b1 a1
    · exact absurd a1 b1
    · exact ⟨a2.trans b2.symm, a3.trans b3.symm⟩
theorem sp_dropMissed.det {z z1 z2 : xS} {r r' : Int32} (hv : vS z) (h : sp_dropMissed z r z1) (h' : sp_dropMissed z r' z2) : r = r' ∧ z1 = z2 := by
  rcases h with ⟨a1, a2, a3⟩ | ⟨i, j, k, hb, h⟩ <;> rcases h' with ⟨b1, b2, b3⟩ | ⟨i', j', k', hb', h'⟩
  · exact ⟨a2.trans b2.symm, a3.trans b3.symm⟩
  · exact absurd hb'.1 (a1 _ _ _)
  · exact absurd hb.1 (b1 _ _ _)
  · obtain ⟨rfl, rfl, rfl⟩ := hb.uniq hv.1.1 hb'
    rcases h with ⟨a1, a2, a3⟩ | ⟨a1, a2, a3⟩ <;> rcases h' with ⟨b1, b2, b3⟩ | ⟨b1, b2, b3⟩
    · exact ⟨a2.trans b2.symm, a3.trans b3.symm⟩
    · exact absurd a1 b1
    · exact absurd b1 a1
    · exact ⟨a2.trans b2.symm, a3.trans b3.symm⟩
theorem sp_remove.det {z z1 z2 : xS} {x r r' : Int32} (hv : vS z) (h : sp_remove z x r z1) (h' : sp_remove z x r' z2) : r = r' ∧ z1 = z2 := by
  rcases h with ⟨a1, a2, a3⟩ | ⟨k, hk, hx, a2, a3⟩ <;> rcases h' with ⟨b1, b2, b3⟩ | ⟨k', hk', hx', b2, b3⟩
  · exact ⟨a2.trans b2.symm, a3.trans b3.symm⟩
  · exact absurd ⟨k', hk', hx'⟩ a1
  · exact absurd ⟨k, hk, hx⟩ b1
  · obtain rfl := heldU hv.1.1 hk hk' (hx.symm.trans hx')
    exact ⟨a2.trans b2.symm, a3.trans b3.symm⟩
theorem sp_type.det {z z1 z2 : xS} {x r r' : Int32} (h : sp_type z x r z1) (h' : sp_type z x r' z2) : r = r' ∧ z1 = z2 := by
  rcases h with ⟨a1, a2, a3⟩ | ⟨a1, a2, a3⟩ <;> rcases h' with ⟨b1, b2, b3⟩ | ⟨b1, b2, b3⟩
  · exact ⟨a2.trans b2.symm, a3.trans b3.symm⟩
  · omega
  · omega
  · exact ⟨a2.trans b2.symm, a3.trans b3.symm⟩
theorem sp_clearText.det {z z1 z2 : xS} {r r' : Int32} (h : sp_clearText z r z1) (h' : sp_clearText z r' z2) : r = r' ∧ z1 = z2 := ⟨h.1.trans h'.1.symm, h.2.trans h'.2.symm⟩
theorem sp_undo.det {z z1 z2 : xS} {r r' : Int32} (h : sp_undo z r z1) (h' : sp_undo z r' z2) : r = r' ∧ z1 = z2 := by
  rcases h with ⟨a1, a2, a3⟩ | ⟨a1, a2, a3⟩ <;> rcases h' with ⟨b1, b2, b3⟩ | ⟨b1, b2, b3⟩
  · exact ⟨a2.trans b2.symm, a3.trans b3.symm⟩
  · omega
  · omega
  · exact ⟨a2.trans b2.symm, a3.trans b3.symm⟩
theorem sp_keep.det {z z1 z2 : xS} {r r' : Int32} (h : sp_keep z r z1) (h' : sp_keep z r' z2) : r = r' ∧ z1 = z2 := ⟨h.1.trans h'.1.symm, h.2.trans h'.2.symm⟩
theorem sp_restore.det {z z1 z2 : xS} {r r' : Int32} (h : sp_restore z r z1) (h' : sp_restore z r' z2) : r = r' ∧ z1 = z2 := by
  rcases h with ⟨a1, a2, a3⟩ | ⟨a1, a2, a3⟩ <;> rcases h' with ⟨b1, b2, b3⟩ | ⟨b1, b2, b3⟩
  · exact ⟨a2.trans b2.symm, a3.trans b3.symm⟩
  · rw [a1] at b1; exact absurd b1 (by decide)
  · rw [a1] at b1; exact absurd b1 (by decide)
  · exact ⟨a2.trans b2.symm, a3.trans b3.symm⟩
/-! the queries -/
theorem spinU {M : Nat → Nat → Int32} {n : Nat} {T B T' B' : Int32} (h : isSpin M n T.toInt B.toInt) (h' : isSpin M n T'.toInt B'.toInt) : T = T' ∧ B = B' := by
  obtain ⟨h1, h2⟩ := h.uniq h'
  exact ⟨Int32.toInt_inj.mp h1, Int32.toInt_inj.mp h2⟩
theorem sp_wf.det {M : Nat → Nat → Int32} {n k : Nat} {r r' : Int32} (h : sp_wf n M k r) (h' : sp_wf n M k r') : r = r' := by
  rcases h with ⟨a1, a2⟩ | ⟨a1, T, B, a2, a3⟩ <;> rcases h' with ⟨b1, b2⟩ | ⟨b1, T', B', b2, b3⟩
  · exact a2.trans b2.symm
  · exact absurd b1 a1
  · exact absurd a1 b1
  · obtain ⟨rfl, rfl⟩ := spinU a2 b2
    exact a3.trans b3.symm
theorem sp_photo.det {z : xS} {x w r r' : Int32} (hv : vS z) (h : sp_photo z x w r) (h' : sp_photo z x w r') : r = r' := by
  rcases h with ⟨a1, a2⟩ | ⟨k, hk, hx, h⟩ <;> rcases h' with ⟨b1, b2⟩ | ⟨k', hk', hx', h'⟩
  · exact a2.trans b2.symm
  · exact absurd ⟨k', hk', hx'⟩ a1
  · exact absurd ⟨k, hk, hx⟩ b1
  · obtain rfl := heldU hv.1.1 hk hk' (hx.symm.trans hx')
    rcases h with ⟨a1, a2⟩ | ⟨v, a1, a2, a3⟩ | ⟨a1, a2⟩ <;> rcases h' with ⟨b1, b2⟩ | ⟨v', b1, b2, b3⟩ | ⟨b1, b2⟩
    · exact a2.trans b2.symm
    · exact absurd ⟨v', by omega, b2⟩ a1
    · exact absurd ⟨7, by decide, b1⟩ a1
    · exact absurd ⟨v, by omega, a2⟩ b1
    · obtain rfl := nI_inj (a := v) (b := v') (by omega) (by omega) (a2.symm.trans b2)
      exact a3.trans b3.symm
    · have := nI_inj (a := v) (b := 7) (by omega) (by omega) (a2.symm.trans b1)
      omega
    · exact absurd ⟨7, by decide, a1⟩ b1
    · have := nI_inj (a := v') (b := 7) (by omega) (by omega) (b2.symm.trans a1)
      omega
    · exact a2.det b2
theorem srt.uniq {i j k a b c a' b' c' : Nat} (h : srt i j k a b c) (h' : srt i j k a' b' c') : a = a' ∧ b = b' ∧ c = c' := by
  obtain ⟨h1, h2, h3⟩ := h
  obtain ⟨g1, g2, g3⟩ := h'
  omega
theorem sp_arc.det {z : xS} {a b c t w q : Int32} {r r' : Int64} (hv : vS z) (h : sp_arc z a b c t w q r) (h' : sp_arc z a b c t w q r') : r = r' := by
  rcases h with ⟨a1, a2⟩ | ⟨i, j, k, ⟨hi, hj, hk⟩, ⟨xi, xj, xk⟩, h⟩ <;> rcases h' with ⟨b1, b2⟩ | ⟨i', j', k', ⟨hi', hj', hk'⟩, ⟨yi, yj, yk⟩, h'⟩
  · exact a2.trans b2.symm
  · exact absurd ⟨⟨i', hi', yi⟩, ⟨j', hj', yj⟩, ⟨k', hk', yk⟩⟩ a1
  · exact absurd ⟨⟨i, hi, xi⟩, ⟨j, hj, xj⟩, ⟨k, hk, xk⟩⟩ b1
  · obtain rfl := heldU hv.1.1 hi hi' (xi.symm.trans yi)
    obtain rfl := heldU hv.1.1 hj hj' (xj.symm.trans yj)
    obtain rfl := heldU hv.1.1 hk hk' (xk.symm.trans yk)
    rcases h with ⟨a1, a2⟩ | ⟨a1, ⟨a2, a3⟩ | ⟨a2, i1, j1, k1, v, s1, v1, w1, a3⟩⟩ <;> rcases h' with ⟨b1, b2⟩ | ⟨b1, ⟨b2, b3⟩ | ⟨b2, i2, j2, k2, v', s2, v2, w2, b3⟩⟩
    · exact a2.trans b2.symm
    · exact absurd a1 b1
    · exact absurd a1 b1
    · exact absurd b1 a1
    · exact a3.trans b3.symm
    · exact absurd b2 a2
    · exact absurd b1 a1
    · exact absurd a2 b2
    · obtain ⟨rfl, rfl, rfl⟩ := s1.uniq s2
      obtain rfl := nI_inj (a := v) (b := v') (by omega) (by omega) (w1.symm.trans w2)
      exact a3.trans b3.symm
theorem sp_hits.det {z : xS} {a b c r r' : Int32} (hv : vS z) (h : sp_hits z a b c r) (h' : sp_hits z a b c r') : r = r' := by
  rcases h with ⟨a1, a2⟩ | ⟨i, j, k, ⟨hi, hj, hk⟩, ⟨xi, xj, xk⟩, h⟩ <;> rcases h' with ⟨b1, b2⟩ | ⟨i', j', k', ⟨hi', hj', hk'⟩, ⟨yi, yj, yk⟩, h'⟩
  · exact a2.trans b2.symm
  · exact absurd ⟨⟨i', hi', yi⟩, ⟨j', hj', yj⟩, ⟨k', hk', yk⟩⟩ a1
  · exact absurd ⟨⟨i, hi, xi⟩, ⟨j, hj, xj⟩, ⟨k, hk, xk⟩⟩ b1
  · obtain rfl := heldU hv.1.1 hi hi' (xi.symm.trans yi)
    obtain rfl := heldU hv.1.1 hj hj' (xj.symm.trans yj)
    obtain rfl := heldU hv.1.1 hk hk' (xk.symm.trans yk)
    rcases h with ⟨a1, a2⟩ | ⟨a1, ⟨a2, a3⟩ | ⟨a2, i1, j1, k1, s1, a3⟩⟩ <;> rcases h' with ⟨b1, b2⟩ | ⟨b1, ⟨b2, b3⟩ | ⟨b2, i2, j2, k2, s2, b3⟩⟩
    · exact a2.trans b2.symm
    · exact absurd a1 b1
    · exact absurd a1 b1
    · exact absurd b1 a1
    · exact a3.trans b3.symm
    · exact absurd b2 a2
    · exact absurd b1 a1
    · exact absurd a2 b2
    · obtain ⟨rfl, rfl, rfl⟩ := s1.uniq s2
      exact a3.trans b3.symm
theorem sp_best.det {z : xS} {w r r' : Int32} (hv : vS z) (h : sp_best z w r) (h' : sp_best z w r') : r = r' := by
  rcases h with ⟨a1, a2⟩ | ⟨a1, ⟨a2, a3⟩ | ⟨i, j, k, a2, a3⟩⟩ <;> rcases h' with ⟨b1, b2⟩ | ⟨b1, ⟨b2, b3⟩ | ⟨i', j', k', b2, b3⟩⟩
  · exact a2.trans b2.symm
  · exact absurd b1 a1
  · exact absurd b1 a1
  · exact absurd a1 b1
  · exact a3.trans b3.symm
  · exact absurd b2.1 (a2 _ _ _)
  · exact absurd a1 b1
  · exact absurd a2.1 (b2 _ _ _)
  · obtain ⟨rfl, rfl, rfl⟩ := a2.uniq hv.1.1 b2
    exact a3.trans b3.symm
theorem sp_bestAt.det {z : xS} {t w q : Int32} {r r' : Int64} (hv : vS z) (h : sp_bestAt z t w q r) (h' : sp_bestAt z t w q r') : r = r' := by
  rcases h with ⟨a1, a2⟩ | ⟨a1, ⟨a2, a3⟩ | ⟨i, j, k, v, a2, v1, w1, a3⟩⟩ <;> rcases h' with ⟨b1, b2⟩ | ⟨b1, ⟨b2, b3⟩ | ⟨i', j', k', v', b2, v2, w2, b3⟩⟩
  · exact a2.trans b2.symm
  · exact absurd b1 a1
  · exact absurd b1 a1
  · exact absurd a1 b1
  · exact a3.trans b3.symm
  · exact absurd b2.1 (a2 _ _ _)
  · exact absurd a1 b1
  · exact absurd a2.1 (b2 _ _ _)
  · obtain ⟨rfl, rfl, rfl⟩ := a2.uniq hv.1.1 b2
    obtain rfl := nI_inj (a := v) (b := v') (by omega) (by omega) (w1.symm.trans w2)
    exact a3.trans b3.symm
theorem ldN.det {M : Nat → Nat → Int32} {i j k a : Nat} {r r' : Int32} (h : ldN M i j k a r) (h' : ldN M i j k a r') : r = r' := by
  rcases h with ⟨u, a1, a2, a3, a4, a5⟩ | ⟨a1, a2⟩ <;> rcases h' with ⟨u', b1, b2, b3, b4, b5⟩ | ⟨b1, b2⟩
  · have : u = u' := by
      rcases Nat.lt_trichotomy u u' with c | c | c
      · exact absurd a3 (b4 u a1 c)
      · exact c
      · exact absurd b3 (a4 u' b1 c)
    subst this
    exact a5.trans b5.symm
  · exact absurd a3 (b1 u a1 a2)
  · exact absurd b3 (a1 u' b1 b2)
  · exact a2.trans b2.symm
theorem sp_lands.det {z : xS} {r r' : Int32} (hv : vS z) (h : sp_lands z r) (h' : sp_lands z r') : r = r' := by
  rcases h with ⟨a1, a2⟩ | ⟨i, j, k, a, a1, a2, a3, a4⟩ <;> rcases h' with ⟨b1, b2⟩ | ⟨i', j', k', a', b1, b2, b3, b4⟩
  · exact a2.trans b2.symm
  · exact absurd b1.1 (a1 _ _ _)
  · exact absurd a1.1 (b1 _ _ _)
  · obtain ⟨rfl, rfl, rfl⟩ := a1.uniq hv.1.1 b1
    obtain rfl := nI_inj (a := a) (b := a') (by omega) (by omega) (a2.symm.trans b2)
    exact a4.det b4
theorem sp_row.det {M : Nat → Nat → Int32} {n a b : Nat} {w r r' : Int32} (hn : n ≤ 10) (h : sp_row M n a b w r) (h' : sp_row M n a b w r') : r = r' := by
  rcases h with ⟨a0, e, a1, a2, a3, a4⟩ | ⟨a0, e, a1, a2, a3, a4⟩ | ⟨a0, a1⟩ | ⟨⟨a0, a1, a2⟩, h⟩ <;> rcases h' with ⟨b0, e', b1, b2, b3, b4⟩ | ⟨b0, e', b1, b2, b3, b4⟩ | ⟨b0, b1⟩ | ⟨⟨b0, b1, b2⟩, h'⟩
  · have : e = e' := by
      rcases Nat.lt_trichotomy e e' with c | c | c
      · exact absurd a2 (b3 e c)
      · exact c
      · exact absurd b2 (a3 e' c)
    subst this
    exact a4.trans b4.symm
  · rw [a0] at b0; exact absurd b0 (by decide)
  · rw [a0] at b0; exact absurd b0 (by decide)
  · exact absurd a0 b0
  · rw [a0] at b0; exact absurd b0 (by decide)
  · have : e = e' := by
      rcases Nat.lt_trichotomy e e' with c | c | c
      · exact absurd b2 (a3 e' c b1)
      · exact c
      · exact absurd a2 (b3 e c a1)
    subst this
    exact a4.trans b4.symm
  · rw [a0] at b0; exact absurd b0 (by decide)
  · exact absurd a0 b1
  · rw [a0] at b0; exact absurd b0 (by decide)
  · rw [a0] at b0; exact absurd b0 (by decide)
  · exact a1.trans b1.symm
  · exact absurd a0 b2
  · exact absurd b0 a0
  · exact absurd b0 a1
  · exact absurd b0 a2
  · rcases h with ⟨c1, c2⟩ | ⟨i, j, k, c1, c2⟩ <;> rcases h' with ⟨d1, d2⟩ | ⟨i', j', k', d1, d2⟩
    · exact c2.trans d2.symm
    · exact absurd d1.1 (c1 _ _ _)
    · exact absurd c1.1 (d1 _ _ _)
    · obtain ⟨rfl, rfl, rfl⟩ := c1.uniq hn d1
      exact c2.trans d2.symm
theorem itr_congr {M : Nat → Nat → Int32} {n : Nat} {R T R' T' : Nat → Nat} (h : trk M n R T) (h' : trk M n R' T') : ∀ v, itr n T v 0 = itr n T' v 0 ∧ itr n T v 0 ≤ n
  | 0 => ⟨rfl, Nat.zero_le _⟩
  | v + 1 => by
    obtain ⟨a1, a2⟩ := itr_congr h h' v
    have e := (h.uniq h' (n - itr n T v 0) _ a2 (Nat.le_refl _)).2
    have l := (h.le (n - itr n T v 0) _ a2 (Nat.le_refl _)).2.2
    rw [itr_succ, itr_succ, ← a1, ← e]
    refine ⟨rfl, ?_⟩
    split
    · exact l
    · exact a2
theorem sp_track.det {z : xS} {x w r r' : Int32} (hv : vS z) (h : sp_track z x w r) (h' : sp_track z x w r') : r = r' := by
  rcases h with ⟨a1, a2⟩ | ⟨a1, R, T, ht, h⟩ <;> rcases h' with ⟨b1, b2⟩ | ⟨b1, R', T', ht', h'⟩
  · exact a2.trans b2.symm
  · exact absurd a1 b1
  · exact absurd b1 a1
  · have e0 := (ht.uniq ht' (zn z) 0 (Nat.zero_le _) (Nat.le_refl _)).1
    have l0 := (ht.le (zn z) 0 (Nat.zero_le _) (Nat.le_refl _)).1
    have hn := hv.1.1
    rcases h with ⟨a3, a4⟩ | ⟨v, a3, a4, a5⟩ <;> rcases h' with ⟨b3, b4⟩ | ⟨v', b3, b4, b5⟩
    · exact a4.trans b4.symm
    · rw [b4] at a3
      have := (nI_leI (a := R 0) (b := v') (by omega) (by omega)).mp a3
      omega
    · rw [a4] at b3
      have := (nI_leI (a := R' 0) (b := v) (by omega) (by omega)).mp b3
      omega
    · obtain rfl := nI_inj (a := v) (b := v') (by omega) (by omega) (a4.symm.trans b4)
      obtain ⟨c1, c2⟩ := itr_congr ht ht' v
      have c3 := (ht.uniq ht' (zn z - itr (zn z) T v 0) _ c2 (Nat.le_refl _)).2
      rw [← c1, ← c3] at b5
      exact a5.det hn b5
theorem sp_fitsFrom.det {z : xS} {x r r' : Int32} (hv : vS z) (h : sp_fitsFrom z x r) (h' : sp_fitsFrom z x r') : r = r' := by
  rcases h with ⟨a1, a2⟩ | ⟨k, hk, hx, h⟩ <;> rcases h' with ⟨b1, b2⟩ | ⟨k', hk', hx', h'⟩
  · exact a2.trans b2.symm
  · exact absurd ⟨k', hk', hx'⟩ a1
  · exact absurd ⟨k, hk, hx⟩ b1
  · obtain rfl := heldU hv.1.1 hk hk' (hx.symm.trans hx')
    rcases h with ⟨a1, a2⟩ | ⟨a1, e, a2, a3, a4, a5, a6⟩ <;> rcases h' with ⟨b1, b2⟩ | ⟨b1, e', b2, b3, b4, b5, b6⟩
    · exact a2.trans b2.symm
    · exact absurd b1 a1
    · exact absurd a1 b1
    · have : e = e' := by
        rcases Nat.lt_trichotomy e e' with c | c | c
        · exact absurd b4 (a5 e' c b3)
        · exact c
        · exact absurd a4 (b5 e c a3)
      subst this
      exact a6.trans b6.symm
theorem sp_spin.det {z : xS} {w r r' : Int32} (h : sp_spin z w r) (h' : sp_spin z w r') : r = r' := by
  rcases h with ⟨a1, a2⟩ | ⟨a1, ⟨a2, a3⟩ | ⟨⟨q, hq, hq2⟩, T, B, a3, a4⟩⟩ <;> rcases h' with ⟨b1, b2⟩ | ⟨b1, ⟨b2, b3⟩ | ⟨⟨q', hq', hq2'⟩, T', B', b3, b4⟩⟩
  · exact a2.trans b2.symm
  · exact absurd b1 a1
  · exact absurd b1 a1
  · exact absurd a1 b1
  · exact a3.trans b3.symm
  · exact absurd hq2' (a2 q' hq')
  · exact absurd a1 b1
  · exact absurd hq2 (b2 q hq)
  · obtain ⟨rfl, rfl⟩ := spinU a3 b3
    exact a4.trans b4.symm
theorem sp_fits.det {z : xS} {t b r r' : Int32} (h : sp_fits z t b r) (h' : sp_fits z t b r') : r = r' := by
  rcases h with ⟨a1, a2⟩ | ⟨a1, a2⟩ <;> rcases h' with ⟨b1, b2⟩ | ⟨b1, b2⟩
  · exact a2.trans b2.symm
  · exact absurd b1 a1
  · exact absurd a1 b1
  · exact a2.trans b2.symm
theorem sp_angleAt.det {z : xS} {u r r' : Int32} (h : sp_angleAt z u r) (h' : sp_angleAt z u r') : r = r' := by
  rcases h with ⟨a1, a2⟩ | ⟨a1, ⟨a2, a3⟩ | ⟨⟨q, hq, hq2⟩, T, B, a3, a4⟩⟩ <;> rcases h' with ⟨b1, b2⟩ | ⟨b1, ⟨b2, b3⟩ | ⟨⟨q', hq', hq2'⟩, T', B', b3, b4⟩⟩
  · exact a2.trans b2.symm
  · exact absurd b1 a1
  · exact absurd b1 a1
  · exact absurd a1 b1
  · exact a3.trans b3.symm
  · exact absurd hq2' (a2 q' hq')
  · exact absurd a1 b1
  · exact absurd hq2 (b2 q hq)
  · obtain ⟨rfl, rfl⟩ := spinU a3 b3
    exact Int32.toInt_inj.mp (a4.trans b4.symm)
theorem sp_count.det {z : xS} {w r r' : Int32} (h : sp_count z w r) (h' : sp_count z w r') : r = r' := by
  by_cases c0 : w = 0
  · subst c0
    have k : ∀ r, sp_count z 0 r → r = nI (zn z) := fun r h => by
      rcases h with ⟨-, h⟩ | ⟨h, -⟩ | ⟨h, -⟩ | ⟨h, -⟩ | ⟨h, -⟩ | ⟨h, -⟩ | ⟨h, -⟩
      · exact h
      · exact absurd h (by decide)
      · exact absurd h (by decide)
      · exact absurd h (by decide)
      · exact absurd h (by decide)
      · exact absurd h (by decide)
      · exact absurd (Or.inl rfl) h
    rw [k r h, k r' h']
  by_cases c1 : w = 1
  · subst c1
    have k : ∀ r, sp_count z 1 r → r = nI (mk (pU (zM z)) (zn z)) := fun r h => by
      rcases h with ⟨h, -⟩ | ⟨-, h⟩ | ⟨h, -⟩ | ⟨h, -⟩ | ⟨h, -⟩ | ⟨h, -⟩ | ⟨h, -⟩
      · exact absurd h (by decide)
      · exact h
      · exact absurd h (by decide)
      · exact absurd h (by decide)
      · exact absurd h (by decide)
      · exact absurd h (by decide)
      · exact absurd (Or.inr (Or.inl rfl)) h
    rw [k r h, k r' h']
  by_cases c2 : w = 2
  · subst c2
    have k : ∀ r, sp_count z 2 r → r = nI (mk (pK (zM z)) (zn z)) := fun r h => by
      rcases h with ⟨h, -⟩ | ⟨h, -⟩ | ⟨-, h⟩ | ⟨h, -⟩ | ⟨h, -⟩ | ⟨h, -⟩ | ⟨h, -⟩
      · exact absurd h (by decide)
      · exact absurd h (by decide)
      · exact h
      · exact absurd h (by decide)
      · exact absurd h (by decide)
      · exact absurd h (by decide)
      · exact absurd (Or.inr (Or.inr (Or.inl rfl))) h
    rw [k r h, k r' h']
  by_cases c3 : w = 3
  · subst c3
    have k : ∀ r, sp_count z 3 r → ∃ R T, trk (zM z) (zn z) R T ∧ r = nI (R 0) := fun r h => by
      rcases h with ⟨h, -⟩ | ⟨h, -⟩ | ⟨h, -⟩ | ⟨-, h⟩ | ⟨h, -⟩ | ⟨h, -⟩ | ⟨h, -⟩
      · exact absurd h (by decide)
      · exact absurd h (by decide)
      · exact absurd h (by decide)
      · exact h
      · exact absurd h (by decide)
      · exact absurd h (by decide)
      · exact absurd (Or.inr (Or.inr (Or.inr (Or.inl rfl)))) h
    obtain ⟨R, T, a1, a2⟩ := k r h
    obtain ⟨R', T', b1, b2⟩ := k r' h'
    rw [a2, b2, (a1.uniq b1 (zn z) 0 (Nat.zero_le _) (Nat.le_refl _)).1]
  by_cases c4 : w = 4
  · subst c4
    have k : ∀ r, sp_count z 4 r → r = nI (zh z) := fun r h => by
      rcases h with ⟨h, -⟩ | ⟨h, -⟩ | ⟨h, -⟩ | ⟨h, -⟩ | ⟨-, h⟩ | ⟨h, -⟩ | ⟨h, -⟩
      · exact absurd h (by decide)
      · exact absurd h (by decide)
      · exact absurd h (by decide)
      · exact absurd h (by decide)
      · exact h
      · exact absurd h (by decide)
      · exact absurd (Or.inr (Or.inr (Or.inr (Or.inr (Or.inl rfl))))) h
    rw [k r h, k r' h']
  by_cases c5 : w = 5
  · subst c5
    have k : ∀ r, sp_count z 5 r → r = nI (ztl z) := fun r h => by
      rcases h with ⟨h, -⟩ | ⟨h, -⟩ | ⟨h, -⟩ | ⟨h, -⟩ | ⟨h, -⟩ | ⟨-, h⟩ | ⟨h, -⟩
      · exact absurd h (by decide)
      · exact absurd h (by decide)
      · exact absurd h (by decide)
      · exact absurd h (by decide)
      · exact absurd h (by decide)
      · exact h
      · exact absurd (Or.inr (Or.inr (Or.inr (Or.inr (Or.inr rfl))))) h
    rw [k r h, k r' h']
  have k : ∀ r, sp_count z w r → r = -2 := fun r h => by
    rcases h with ⟨h, -⟩ | ⟨h, -⟩ | ⟨h, -⟩ | ⟨h, -⟩ | ⟨h, -⟩ | ⟨h, -⟩ | ⟨-, h⟩
    · exact absurd h c0
    · exact absurd h c1
    · exact absurd h c2
    · exact absurd h c3
    · exact absurd h c4
    · exact absurd h c5
    · exact h
  rw [k r h, k r' h']
/-! every state stays a state -/
theorem vld_ins {n q : Nat} {M : Nat → Nat → Int32} {f : Nat → Int32} (hv : vld n M) (hn : n < 10) (hf : rngT f) (hno : ¬ ∃ k, k < n ∧ M 0 k = f 0) (hq : q = plc M (f 0) n 0) : vld (n + 1) (insM M q f) := by
  have hqn : q ≤ n := by
    have := plc_le M (f 0) n 0
    omega
  obtain ⟨f0, f1, f2, f3, f4, f5⟩ := hf
  have r0 := rng_toInt f0
  have r1 := rng_toInt f1
  have r2 := rng_toInt f2
  have r3 := rng_toInt f3
  have r4 := rng_toInt f4
  have r5 := rng_toInt f5
  have lo : ∀ k, k < q → (M 0 k).toInt < (f 0).toInt := fun k hk => I_lt.mp (plc_lt n 0 k (Nat.zero_le _) (by rw [← hq]; exact hk))
  have hi : ∀ k, q ≤ k → k < n → (f 0).toInt < (M 0 k).toInt := fun k h1 h2 => by
    have g := plc_ge (M := M) (x := f 0) n 0 (by rw [← hq]; omega)
    rw [← hq, I_lt] at g
    have h3 : ¬ (M 0 q).toInt = (f 0).toInt := fun e => hno ⟨q, by omega, I_eq.mpr e⟩
    by_cases e : k = q
    · subst e; omega
    · have := hv.2 q k (by omega) h2
      omega
  have e1 : ∀ w k, k < q → insM M q f w k = M w k := fun w k h => if_pos h
  have e2 : ∀ w, w < 6 → insM M q f w q = f w := fun w h => by
    unfold insM
    rw [if_neg (Nat.lt_irrefl _), if_pos rfl, if_pos h]
  have e3 : insM M q f 6 q = 0 := by
    unfold insM
    rw [if_neg (Nat.lt_irrefl _), if_pos rfl, if_neg (by decide)]
  have e4 : ∀ w k, q < k → insM M q f w k = M w (k - 1) := fun w k h => by
    unfold insM
    rw [if_neg (by omega), if_neg (by omega)]
  refine ⟨fun k hk => ?_, fun i j hij hj => ?_⟩
  · rcases Nat.lt_trichotomy k q with c | c | c
    · rw [e1 _ _ c, e1 _ _ c, e1 _ _ c, e1 _ _ c, e1 _ _ c, e1 _ _ c, e1 _ _ c]
      exact hv.1 k (by omega)
    · subst c
      rw [e2 0 (by decide), e2 1 (by decide), e2 2 (by decide), e2 3 (by decide), e2 4 (by decide), e2 5 (by decide), e3]
      exact ⟨r0, r1, r2, r3, r4, r5, Or.inl rfl⟩
    · rw [e4 _ _ c, e4 _ _ c, e4 _ _ c, e4 _ _ c, e4 _ _ c, e4 _ _ c, e4 _ _ c]
      exact hv.1 (k - 1) (by omega)
  · rcases Nat.lt_trichotomy i q with c | c | c
    · rw [e1 _ _ c]
      rcases Nat.lt_trichotomy j q with d | d | d
      · rw [e1 _ _ d]
        exact hv.2 i j hij (by omega)
      · subst d
        rw [e2 0 (by decide)]
        exact lo i c
      · rw [e4 _ _ d]
        have := lo i c
        have := hi (j - 1) (by omega) (by omega)
        omega
    · subst c
      rw [e2 0 (by decide), e4 _ _ hij]
      exact hi (j - 1) (by omega) (by omega)
    · rw [e4 _ _ c, e4 _ _ (by omega)]
      exact hv.2 (i - 1) (j - 1) (by omega) (by omega)
theorem sp_comes.vS {z z1 : xS} {f : Nat → Int32} {r : Int32} (hv : vS z) (hf : rngT f) (h : sp_comes z f r z1) : vS z1 := by
  rcases h with ⟨a1, a2, a3⟩ | ⟨a1, ⟨a2, a3, a4⟩ | ⟨a2, a3, a4⟩⟩
  · rw [a3]; exact hv
  · rw [a4]; exact hv
  · rw [a4]
    exact hv.wR.wP (by omega) (vld_ins hv.1.2 a2 hf a1 rfl)
theorem sp_addPhoto.vS {z z1 : xS} {t x y e r : Int32} (hv : vS z) (h : sp_addPhoto z t x y e r z1) : vS z1 := by
  rcases h with ⟨a1, a2, a3⟩ | ⟨a1, a2⟩
  · rw [a3]; exact hv
  · exact a2.vS hv a1
theorem sp_readPhoto.vS {z z1 : xS} {r : Int32} (hv : vS z) (h : sp_readPhoto z r z1) : vS z1 := by
  rcases h with ⟨a1, a2, a3⟩ | ⟨a1, ⟨a2, a3, a4⟩ | ⟨a2, a3⟩⟩
  · rw [a3]; exact hv
  · rw [a4]; exact hv
  · exact a3.vS hv a2.1
theorem sp_setAngle.vS {z z1 : xS} {x a e r : Int32} (hv : vS z) (h : sp_setAngle z x a e r z1) : vS z1 := by
  rcases h with ⟨a1, a2, a3⟩ | ⟨k, hk, hx, ⟨a1, a2, a3⟩ | ⟨a1, ⟨a2, a3, a4⟩ | ⟨a2, a3, a4⟩⟩⟩
  · rw [a3]; exact hv
  · rw [a3]; exact hv
  · rw [a4]; exact hv
  · rw [a4]
    obtain ⟨b1, b2⟩ := rng_toInt a1.1
    obtain ⟨b3, b4⟩ := rng_toInt a1.2.1
    exact hv.wR.wP hv.1.1 ((hv.1.2.set (w := 4) (Or.inr (Or.inr (Or.inl ⟨rfl, b1, b2⟩)))).set (w := 5) (Or.inr (Or.inr (Or.inr (Or.inl ⟨rfl, b3, b4⟩)))))
theorem sp_move.vS {z z1 : xS} {x a b r : Int32} (hv : vS z) (h : sp_move z x a b r z1) : vS z1 := by
  rcases h with ⟨a1, a2, a3⟩ | ⟨k, hk, hx, ⟨a1, a2, a3⟩ | ⟨a1, ⟨a2, a3, a4⟩ | ⟨a2, a3, a4⟩⟩⟩
  · rw [a3]; exact hv
  · rw [a3]; exact hv
  · rw [a4]; exact hv
  · rw [a4]
    obtain ⟨b1, b2⟩ := rng_toInt a1.1
    obtain ⟨b3, b4⟩ := rng_toInt a1.2
    exact hv.wR.wP hv.1.1 ((hv.1.2.set (w := 1) (Or.inl ⟨rfl, b1, b2⟩)).set (w := 2) (Or.inr (Or.inl ⟨rfl, b3, b4⟩)))
theorem sp_setAside.vS {z z1 : xS} {x r : Int32} {b : Bool} (hv : vS z) (h : sp_setAside z x b r z1) : vS z1 := by
  rcases h with ⟨a1, a2, a3⟩ | ⟨k, hk, hx, ⟨a1, a2, a3⟩ | ⟨a1, a2, a3⟩⟩
  · rw [a3]; exact hv
  · rw [a3]; exact hv
  · rw [a3]
    refine hv.wR.wP hv.1.1 (hv.1.2.set (w := 6) (Or.inr (Or.inr (Or.inr (Or.inr ⟨rfl, ?_⟩)))))
    cases b
    · exact Or.inl rfl
    · exact Or.inr rfl
theorem vld_drop {n q : Nat} {M : Nat → Nat → Int32} {Q : Nat → Bool} (hv : vld n M) : vld n (drM M Q q) := by
  have e : ∀ w k, ¬ w = 6 → drM M Q q w k = M w k := fun w k h => if_neg (fun g => h g.1)
  refine ⟨fun k hk => ?_, fun i j hij hj => ?_⟩
  · obtain ⟨a1, a2, a3, a4, a5, a6, a7⟩ := hv.1 k hk
    rw [e 0 k (by decide), e 1 k (by decide), e 2 k (by decide), e 3 k (by decide), e 4 k (by decide), e 5 k (by decide)]
    refine ⟨a1, a2, a3, a4, a5, a6, ?_⟩
    unfold drM
    split
    · exact Or.inr rfl
    · exact a7
  · rw [e 0 i (by decide), e 0 j (by decide)]
    exact hv.2 i j hij hj
theorem sp_dropMissed.vS {z z1 : xS} {r : Int32} (hv : vS z) (h : sp_dropMissed z r z1) : vS z1 := by
  rcases h with ⟨a1, a2, a3⟩ | ⟨i, j, k, hb, ⟨a1, a2, a3⟩ | ⟨a1, a2, a3⟩⟩
  · rw [a3]; exact hv
  · rw [a3]; exact hv
  · rw [a3]
    exact hv.wR.wP hv.1.1 (vld_drop hv.1.2)
theorem vld_del {n q : Nat} {M : Nat → Nat → Int32} (hv : vld n M) (hq : q < n) : vld (n - 1) (delM M q) := by
  have e1 : ∀ w k, k < q → delM M q w k = M w k := fun w k h => if_pos h
  have e2 : ∀ w k, ¬ k < q → delM M q w k = M w (k + 1) := fun w k h => if_neg h
  refine ⟨fun k hk => ?_, fun i j hij hj => ?_⟩
  · by_cases c : k < q
    · rw [e1 _ _ c, e1 _ _ c, e1 _ _ c, e1 _ _ c, e1 _ _ c, e1 _ _ c, e1 _ _ c]
      exact hv.1 k (by omega)
    · rw [e2 _ _ c, e2 _ _ c, e2 _ _ c, e2 _ _ c, e2 _ _ c, e2 _ _ c, e2 _ _ c]
      exact hv.1 (k + 1) (by omega)
  · by_cases c : i < q
    · rw [e1 _ _ c]
      by_cases d : j < q
      · rw [e1 _ _ d]
        exact hv.2 i j hij (by omega)
      · rw [e2 _ _ d]
        exact hv.2 i (j + 1) (by omega) (by omega)
    · rw [e2 _ _ c, e2 _ _ (show ¬ j < q by omega)]
      exact hv.2 (i + 1) (j + 1) (by omega) (by omega)
theorem sp_remove.vS {z z1 : xS} {x r : Int32} (hv : vS z) (h : sp_remove z x r z1) : vS z1 := by
  rcases h with ⟨a1, a2, a3⟩ | ⟨k, hk, hx, a2, a3⟩
  · rw [a3]; exact hv
  · rw [a3]
    have := hv.1.1
    exact hv.wR.wP (by omega) (vld_del hv.1.2 hk)
theorem sp_type.vS {z z1 : xS} {x r : Int32} (hv : vS z) (h : sp_type z x r z1) : vS z1 := by
  rcases h with ⟨a1, a2, a3⟩ | ⟨a1, a2, a3⟩
  · rw [a3]; exact hv
  · rw [a3]; exact hv.wT (by omega)
theorem sp_clearText.vS {z z1 : xS} {r : Int32} (hv : vS z) (h : sp_clearText z r z1) : vS z1 := by
  rw [h.2]; exact hv.wT (by omega)
theorem sp_undo.vS {z z1 : xS} {r : Int32} (hv : vS z) (h : sp_undo z r z1) : vS z1 := by
  rcases h with ⟨a1, a2, a3⟩ | ⟨a1, a2, a3⟩
  · rw [a3]; exact hv
  · rw [a3]
    obtain ⟨b1, b2⟩ := hv.2.1.2 (zh z - 1) (by omega)
    exact (hv.wH (Nat.sub_le _ _)).wP b1 b2
theorem sp_keep.vS {z z1 : xS} {r : Int32} (hv : vS z) (h : sp_keep z r z1) : vS z1 := by
  rw [h.2]; exact hv.wS
theorem sp_restore.vS {z z1 : xS} {r : Int32} (hv : vS z) (h : sp_restore z r z1) : vS z1 := by
  rcases h with ⟨a1, a2, a3⟩ | ⟨a1, a2, a3⟩
  · rw [a3]; exact hv
  · rw [a3]; exact hv.wR.wP hv.2.2.1.1 hv.2.2.1.2
