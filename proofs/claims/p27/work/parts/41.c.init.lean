set_option maxHeartbeats 4000000 in
set_option maxRecDepth 100000 in
theorem c_X6_init (l : Launch) (g : xG) (wl : va_W) (sz k a : Nat) (hk0 : wl[k]? = some (a, .inr (6, [.null, .null, .int 0, .null, .null, .null, .null, .null, .null]))) : Met l yX6_init wsX6_init ({ frames := 3, cells := 64, slots := 584, locals := 80 }) (yPc g [.ref a] sz wl) (yQ g sz wl (fun u => yO wl u 64 k ∧ ∃ (p0 p9 p18 p56 p58 p59 p60 p63 q19 q57 q61 q62 : Nat) (f : Nat → Option Nat), u[k]? = some (a, .inr (6, [.ref p0, .ref p9, .int 0, .ref p18, .ref p56, .ref p58, .ref p59, .ref p60, .ref p63])) ∧ phL g u (wl.length) p0 ∧ phL g u (wl.length + 9) p9 ∧ u[wl.length + 18]? = some (p18, .inr (1, [.ref q19, .int 0])) ∧ u[wl.length + 19]? = some (q19, .inl (xQ g, 4, .inr (.inr (.inr (.inr f))))) ∧ (∀ i, i < 4 → ∃ p, f i = some p ∧ phL g u (wl.length + 20 + 9 * i) p) ∧ u[wl.length + 56]? = some (p56, .inr (4, [.ref q57, .int 0, .int 0, .int 0])) ∧ u[wl.length + 57]? = some (q57, .inl (xC g, 60, .inl (fun _ => 0))) ∧ u[wl.length + 58]? = some (p58, .inl (xI g, 6, .inl (fun _ => 0))) ∧ u[wl.length + 59]? = some (p59, .inr (0, [.ref p0, .int 0, .int 0, .int 0])) ∧ u[wl.length + 60]? = some (p60, .inr (5, [.ref p0, .ref p59, .ref q61, .ref q62])) ∧ u[wl.length + 61]? = some (q61, .inl (xI g, 11, .inl (fun _ => 0))) ∧ u[wl.length + 62]? = some (q62, .inl (xI g, 11, .inl (fun _ => 0))) ∧ u[wl.length + 63]? = some (p63, .inr (3, [.ref p0, .int 0, .int 0, .int 0])))) 64 584 (va_A wl sz) := by
  refine y_met (ws' := _) (by decide) rfl (Nat.le_of_ble_eq_true rfl) ?_
  intro pz ez s m below meth cz ls S hr hlocks hin2 hsz hP hK hD0 hl
  have hl : lv_has ls 1 [(0, .ref a)] := hl
  subst hsz
  have hD := hD0.self (sz := s.heap.size)
  have hA : ∀ q, s.heap.size ≤ q → va_A wl s.heap.size q := fun q h => Or.inr h
  have hS : va_S (va_A wl s.heap.size) s.heap s.heap [] := va_S.rf
  have hkl := (List.getElem?_eq_some_iff.mp hk0).1
  have ck := hk0
  have hfr : ∀ i, i < wl.length → i ≠ k → wl[i]? = wl[i]? := fun _ _ _ => rfl
  have hlen : wl.length = wl.length + 0 := rfl
  refine lv_aload_n S.1 S.2.1 dX6_init_0 rfl (lv_at hl 0 rfl) ?_
  refine y_obj S hl.1 dX6_init_1 (by decide +kernel) (by decide +kernel) (by decide +kernel) (Nat.le_of_ble_eq_true rfl) (Nat.le_of_ble_eq_true rfl) ?_
  refine lv_aload_n S.1 S.2.1 dX6_init_4 rfl (lv_at hl 0 rfl) ?_
  refine y_new S hK.1 hP hD hS hA dX6_init_5 2 (RX2, TX2, 2) rfl (by decide +kernel) tyX2 tyX2_ok (by decide +kernel) (by decide +kernel) (by decide +kernel) (fs := [.null, .int 0]) (fun j hj => by rcases (show j = 0 ∨ j = 1 by have hj : j < 2 := hj; omega) with rfl | rfl <;> rfl) (Nat.le_of_ble_eq_true rfl) (Nat.le_of_ble_eq_true rfl) (fun p0 H w1 hg hP hD hS => ?_)
  have ck : w1[k]? = some (a, .inr (6, [.null, .null, .int 0, .null, .null, .null, .null, .null, .null])) := kG ck hg hkl hlen
  have hfr : ∀ i, i < wl.length → i ≠ k → w1[i]? = wl[i]? := fG hfr hg hlen
  have c0 : w1[wl.length]? = some (p0, .inr (2, [.null, .int 0])) := nG hg hlen
  have hlen : w1.length = wl.length + 1 := lG hg hlen rfl
  refine lv_dup S.1 S.2.1 dX6_init_8 rfl ?_
  refine y_ci (va_runIN (As := []) (rest := [.ref p0, .ref a]) S (c_X2_init l g w1 _ (wl.length) p0  c0) ⟨va_cnB 0 S.2.2.2.2 gX6_init_X2_init_n9 rfl rfl rfl hK.2.2.2.1 (S.2.2.2.2 (.initialized RX2) (by decide +kernel)) (by decide +kernel) ⟨Nat.le_of_ble_eq_true rfl, Nat.le_of_ble_eq_true rfl⟩, rfl, S.2.2.2.2 (.instanceMethod yX2_init) (by decide +kernel)⟩ (y_pre hK hP hD) rfl rfl hl.1 rfl (lv_room (Nat.le_of_ble_eq_true rfl)) dX6_init_9 ⟨Nat.le_of_ble_eq_true rfl, Nat.le_of_ble_eq_true rfl⟩) hD hS hA (fun w2 H locs hu hP hD hS => ?_)
  obtain ⟨ho, hnew⟩ := hu
  have ck : w2[k]? = some (a, .inr (6, [.null, .null, .int 0, .null, .null, .null, .null, .null, .null])) := kO 0 ck ho hkl hlen
  have hfr : ∀ i, i < wl.length → i ≠ k → w2[i]? = wl[i]? := fO 0 hfr ho hlen
  have hlen0 := hlen
  have hlen : w2.length = wl.length + 9 := lO ho hlen rfl
  obtain ⟨q9, r9, h1, h2, h3⟩ := hnew
  have ph_p0 : phL g w2 (wl.length) p0 := phN 0 h1 h2 h3 hlen0
  refine y_putF S hin2 hK.1 hP hD hS dX6_init_12 (k) ck (RX6, TX6, 9) rfl (by decide +kernel) tyX6 tyX6_ok nmX6 0 (by decide) (by decide +kernel) rfl rfl rfl rfl (Nat.le_of_ble_eq_true rfl) (fun H locs w3 hs hP hD hS => ?_)
  have ck : w3[k]? = some (a, .inr (6, [.ref p0, .null, .int 0, .null, .null, .null, .null, .null, .null])) := hs.2.1
  have ph_p0 : phL g w3 (wl.length) p0 := phK 0 ph_p0 hs hkl
  have hfr : ∀ i, i < wl.length → i ≠ k → w3[i]? = wl[i]? := fK hfr hs
  have hlen : w3.length = wl.length + 9 := lS hs hlen
  refine lv_aload_n S.1 S.2.1 dX6_init_15 rfl (lv_at hl 0 rfl) ?_
  refine y_new S hK.1 hP hD hS hA dX6_init_16 2 (RX2, TX2, 2) rfl (by decide +kernel) tyX2 tyX2_ok (by decide +kernel) (by decide +kernel) (by decide +kernel) (fs := [.null, .int 0]) (fun j hj => by rcases (show j = 0 ∨ j = 1 by have hj : j < 2 := hj; omega) with rfl | rfl <;> rfl) (Nat.le_of_ble_eq_true rfl) (Nat.le_of_ble_eq_true rfl) (fun p9 H w4 hg hP hD hS => ?_)
  have ck : w4[k]? = some (a, .inr (6, [.ref p0, .null, .int 0, .null, .null, .null, .null, .null, .null])) := kG ck hg hkl hlen
  have ph_p0 : phL g w4 (wl.length) p0 := phG 0 ph_p0 hg hlen (by decide)
  have hfr : ∀ i, i < wl.length → i ≠ k → w4[i]? = wl[i]? := fG hfr hg hlen
  have c9 : w4[wl.length + 9]? = some (p9, .inr (2, [.null, .int 0])) := nG hg hlen
  have hlen : w4.length = wl.length + 10 := lG hg hlen rfl
  refine lv_dup S.1 S.2.1 dX6_init_19 rfl ?_
  refine y_ci (va_runIN (As := []) (rest := [.ref p9, .ref a]) S (c_X2_init l g w4 _ (wl.length + 9) p9  c9) ⟨va_cnB 0 S.2.2.2.2 gX6_init_X2_init_n9 rfl rfl rfl hK.2.2.2.1 (S.2.2.2.2 (.initialized RX2) (by decide +kernel)) (by decide +kernel) ⟨Nat.le_of_ble_eq_true rfl, Nat.le_of_ble_eq_true rfl⟩, rfl, S.2.2.2.2 (.instanceMethod yX2_init) (by decide +kernel)⟩ (y_pre hK hP hD) rfl rfl hl.1 rfl (lv_room (Nat.le_of_ble_eq_true rfl)) dX6_init_20 ⟨Nat.le_of_ble_eq_true rfl, Nat.le_of_ble_eq_true rfl⟩) hD hS hA (fun w5 H locs hu hP hD hS => ?_)
  obtain ⟨ho, hnew⟩ := hu
  have ck : w5[k]? = some (a, .inr (6, [.ref p0, .null, .int 0, .null, .null, .null, .null, .null, .null])) := kO 9 ck ho hkl hlen
  have ph_p0 : phL g w5 (wl.length) p0 := phO 0 9 ph_p0 ho hlen (by decide) (by decide)
  have hfr : ∀ i, i < wl.length → i ≠ k → w5[i]? = wl[i]? := fO 9 hfr ho hlen
  have hlen0 := hlen
  have hlen : w5.length = wl.length + 18 := lO ho hlen rfl
  obtain ⟨q9, r9, h1, h2, h3⟩ := hnew
  have ph_p9 : phL g w5 (wl.length + 9) p9 := phN 9 h1 h2 h3 hlen0
  refine y_putF S hin2 hK.1 hP hD hS dX6_init_23 (k) ck (RX6, TX6, 9) rfl (by decide +kernel) tyX6 tyX6_ok nmX6 1 (by decide) (by decide +kernel) rfl rfl rfl rfl (Nat.le_of_ble_eq_true rfl) (fun H locs w6 hs hP hD hS => ?_)
  have ck : w6[k]? = some (a, .inr (6, [.ref p0, .ref p9, .int 0, .null, .null, .null, .null, .null, .null])) := hs.2.1
  have ph_p0 : phL g w6 (wl.length) p0 := phK 0 ph_p0 hs hkl
  have ph_p9 : phL g w6 (wl.length + 9) p9 := phK 9 ph_p9 hs hkl
  have hfr : ∀ i, i < wl.length → i ≠ k → w6[i]? = wl[i]? := fK hfr hs
  have hlen : w6.length = wl.length + 18 := lS hs hlen
  refine lv_aload_n S.1 S.2.1 dX6_init_26 rfl (lv_at hl 0 rfl) ?_
  refine y_new S hK.1 hP hD hS hA dX6_init_27 1 (RX1, TX1, 2) rfl (by decide +kernel) tyX1 tyX1_ok (by decide +kernel) (by decide +kernel) (by decide +kernel) (fs := [.null, .int 0]) (fun j hj => by rcases (show j = 0 ∨ j = 1 by have hj : j < 2 := hj; omega) with rfl | rfl <;> rfl) (Nat.le_of_ble_eq_true rfl) (Nat.le_of_ble_eq_true rfl) (fun p18 H w7 hg hP hD hS => ?_)
  have ck : w7[k]? = some (a, .inr (6, [.ref p0, .ref p9, .int 0, .null, .null, .null, .null, .null, .null])) := kG ck hg hkl hlen
  have ph_p0 : phL g w7 (wl.length) p0 := phG 0 ph_p0 hg hlen (by decide)
  have ph_p9 : phL g w7 (wl.length + 9) p9 := phG 9 ph_p9 hg hlen (by decide)
  have hfr : ∀ i, i < wl.length → i ≠ k → w7[i]? = wl[i]? := fG hfr hg hlen
  have c18 : w7[wl.length + 18]? = some (p18, .inr (1, [.null, .int 0])) := nG hg hlen
  have hlen : w7.length = wl.length + 19 := lG hg hlen rfl
  refine lv_dup S.1 S.2.1 dX6_init_30 rfl ?_
  refine y_ci (va_runI (As := []) (rest := [.ref p18, .ref a]) S (c_X1_init l g w7 _ (wl.length + 18) p18  c18) (cwI 0 S.2.2.2.2 gX6_init_X1_init rfl rfl rfl (S.2.2.2.2 (.initialized RX1) (by decide +kernel)) (S.2.2.2.2 (.methodLink RX6 21 yX1_init) (by decide +kernel)) (S.2.2.2.2 (.instanceMethod yX1_init) (by decide +kernel)) rfl (by decide +kernel) ⟨Nat.le_of_ble_eq_true rfl, Nat.le_of_ble_eq_true rfl⟩) (y_pre hK hP hD) rfl rfl hl.1 rfl (lv_room (Nat.le_of_ble_eq_true rfl)) dX6_init_31 ⟨Nat.le_of_ble_eq_true rfl, Nat.le_of_ble_eq_true rfl⟩) hD hS hA (fun w8 H locs hu hP hD hS => ?_)
  obtain ⟨ho, hnew⟩ := hu
  have ck : w8[k]? = some (a, .inr (6, [.ref p0, .ref p9, .int 0, .null, .null, .null, .null, .null, .null])) := kO 18 ck ho hkl hlen
  have ph_p0 : phL g w8 (wl.length) p0 := phO 0 18 ph_p0 ho hlen (by decide) (by decide)
  have ph_p9 : phL g w8 (wl.length + 9) p9 := phO 9 18 ph_p9 ho hlen (by decide) (by decide)
  have hfr : ∀ i, i < wl.length → i ≠ k → w8[i]? = wl[i]? := fO 18 hfr ho hlen
  have hlen0 := hlen
  have hlen : w8.length = wl.length + 56 := lO ho hlen rfl
  obtain ⟨q19, f9, c18, h2, h3⟩ := hnew
  have c19 : w8[wl.length + 19]? = some (q19, .inl (xQ g, 4, .inr (.inr (.inr (.inr f9))))) := by rw [hlen0] at h2; exact h2
  obtain ⟨p20, hf0, ph_p20⟩ := h3 0 (by decide)
  have ph_p20 : phL g w8 (wl.length + 20) p20 := by rw [hlen0] at ph_p20; exact ph_p20
  obtain ⟨p29, hf1, ph_p29⟩ := h3 1 (by decide)
  have ph_p29 : phL g w8 (wl.length + 29) p29 := by rw [hlen0] at ph_p29; exact ph_p29
  obtain ⟨p38, hf2, ph_p38⟩ := h3 2 (by decide)
  have ph_p38 : phL g w8 (wl.length + 38) p38 := by rw [hlen0] at ph_p38; exact ph_p38
  obtain ⟨p47, hf3, ph_p47⟩ := h3 3 (by decide)
  have ph_p47 : phL g w8 (wl.length + 47) p47 := by rw [hlen0] at ph_p47; exact ph_p47
  refine y_putF S hin2 hK.1 hP hD hS dX6_init_34 (k) ck (RX6, TX6, 9) rfl (by decide +kernel) tyX6 tyX6_ok nmX6 3 (by decide) (by decide +kernel) rfl rfl rfl rfl (Nat.le_of_ble_eq_true rfl) (fun H locs w9 hs hP hD hS => ?_)
  have ck : w9[k]? = some (a, .inr (6, [.ref p0, .ref p9, .int 0, .ref p18, .null, .null, .null, .null, .null])) := hs.2.1
  have c18 : w9[wl.length + 18]? = some (p18, .inr (1, [.ref q19, .int 0])) := cK 18 c18 hs hkl
  have c19 : w9[wl.length + 19]? = some (q19, .inl (xQ g, 4, .inr (.inr (.inr (.inr f9))))) := cK 19 c19 hs hkl
  have ph_p0 : phL g w9 (wl.length) p0 := phK 0 ph_p0 hs hkl
  have ph_p9 : phL g w9 (wl.length + 9) p9 := phK 9 ph_p9 hs hkl
  have ph_p20 : phL g w9 (wl.length + 20) p20 := phK 20 ph_p20 hs hkl
  have ph_p29 : phL g w9 (wl.length + 29) p29 := phK 29 ph_p29 hs hkl
  have ph_p38 : phL g w9 (wl.length + 38) p38 := phK 38 ph_p38 hs hkl
  have ph_p47 : phL g w9 (wl.length + 47) p47 := phK 47 ph_p47 hs hkl
  have hfr : ∀ i, i < wl.length → i ≠ k → w9[i]? = wl[i]? := fK hfr hs
  have hlen : w9.length = wl.length + 56 := lS hs hlen
  refine lv_aload_n S.1 S.2.1 dX6_init_37 rfl (lv_at hl 0 rfl) ?_
  refine y_new S hK.1 hP hD hS hA dX6_init_38 4 (RX4, TX4, 4) rfl (by decide +kernel) tyX4 tyX4_ok (by decide +kernel) (by decide +kernel) (by decide +kernel) (fs := [.null, .int 0, .int 0, .int 0]) (fun j hj => by rcases (show j = 0 ∨ j = 1 ∨ j = 2 ∨ j = 3 by have hj : j < 4 := hj; omega) with rfl | rfl | rfl | rfl <;> rfl) (Nat.le_of_ble_eq_true rfl) (Nat.le_of_ble_eq_true rfl) (fun p56 H w10 hg hP hD hS => ?_)
  have ck : w10[k]? = some (a, .inr (6, [.ref p0, .ref p9, .int 0, .ref p18, .null, .null, .null, .null, .null])) := kG ck hg hkl hlen
  have c18 : w10[wl.length + 18]? = some (p18, .inr (1, [.ref q19, .int 0])) := cG 18 c18 hg hlen (by decide)
  have c19 : w10[wl.length + 19]? = some (q19, .inl (xQ g, 4, .inr (.inr (.inr (.inr f9))))) := cG 19 c19 hg hlen (by decide)
  have ph_p0 : phL g w10 (wl.length) p0 := phG 0 ph_p0 hg hlen (by decide)
  have ph_p9 : phL g w10 (wl.length + 9) p9 := phG 9 ph_p9 hg hlen (by decide)
  have ph_p20 : phL g w10 (wl.length + 20) p20 := phG 20 ph_p20 hg hlen (by decide)
  have ph_p29 : phL g w10 (wl.length + 29) p29 := phG 29 ph_p29 hg hlen (by decide)
  have ph_p38 : phL g w10 (wl.length + 38) p38 := phG 38 ph_p38 hg hlen (by decide)
  have ph_p47 : phL g w10 (wl.length + 47) p47 := phG 47 ph_p47 hg hlen (by decide)
  have hfr : ∀ i, i < wl.length → i ≠ k → w10[i]? = wl[i]? := fG hfr hg hlen
  have c56 : w10[wl.length + 56]? = some (p56, .inr (4, [.null, .int 0, .int 0, .int 0])) := nG hg hlen
  have hlen : w10.length = wl.length + 57 := lG hg hlen rfl
  refine lv_dup S.1 S.2.1 dX6_init_41 rfl ?_
  refine y_ci (va_runIN (As := []) (rest := [.ref p56, .ref a]) S (c_X4_init l g w10 _ (wl.length + 56) p56  c56) ⟨va_cnB 0 S.2.2.2.2 gX6_init_X4_init_n28 rfl rfl rfl hK.2.2.2.2.2 (S.2.2.2.2 (.initialized RX4) (by decide +kernel)) (by decide +kernel) ⟨Nat.le_of_ble_eq_true rfl, Nat.le_of_ble_eq_true rfl⟩, rfl, S.2.2.2.2 (.instanceMethod yX4_init) (by decide +kernel)⟩ (y_pre hK hP hD) rfl rfl hl.1 rfl (lv_room (Nat.le_of_ble_eq_true rfl)) dX6_init_42 ⟨Nat.le_of_ble_eq_true rfl, Nat.le_of_ble_eq_true rfl⟩) hD hS hA (fun w11 H locs hu hP hD hS => ?_)
  obtain ⟨ho, hnew⟩ := hu
  have ck : w11[k]? = some (a, .inr (6, [.ref p0, .ref p9, .int 0, .ref p18, .null, .null, .null, .null, .null])) := kO 56 ck ho hkl hlen
  have c18 : w11[wl.length + 18]? = some (p18, .inr (1, [.ref q19, .int 0])) := cO 18 56 c18 ho hlen (by decide) (by decide)
  have c19 : w11[wl.length + 19]? = some (q19, .inl (xQ g, 4, .inr (.inr (.inr (.inr f9))))) := cO 19 56 c19 ho hlen (by decide) (by decide)
  have ph_p0 : phL g w11 (wl.length) p0 := phO 0 56 ph_p0 ho hlen (by decide) (by decide)
  have ph_p9 : phL g w11 (wl.length + 9) p9 := phO 9 56 ph_p9 ho hlen (by decide) (by decide)
  have ph_p20 : phL g w11 (wl.length + 20) p20 := phO 20 56 ph_p20 ho hlen (by decide) (by decide)
  have ph_p29 : phL g w11 (wl.length + 29) p29 := phO 29 56 ph_p29 ho hlen (by decide) (by decide)
  have ph_p38 : phL g w11 (wl.length + 38) p38 := phO 38 56 ph_p38 ho hlen (by decide) (by decide)
  have ph_p47 : phL g w11 (wl.length + 47) p47 := phO 47 56 ph_p47 ho hlen (by decide) (by decide)
  have hfr : ∀ i, i < wl.length → i ≠ k → w11[i]? = wl[i]? := fO 56 hfr ho hlen
  have hlen0 := hlen
  have hlen : w11.length = wl.length + 58 := lO ho hlen rfl
  obtain ⟨q57, c56, h2⟩ := hnew
  have c57 : w11[wl.length + 57]? = some (q57, .inl (xC g, 60, .inl (fun _ => 0))) := by rw [hlen0] at h2; exact h2
  refine y_putF S hin2 hK.1 hP hD hS dX6_init_45 (k) ck (RX6, TX6, 9) rfl (by decide +kernel) tyX6 tyX6_ok nmX6 4 (by decide) (by decide +kernel) rfl rfl rfl rfl (Nat.le_of_ble_eq_true rfl) (fun H locs w12 hs hP hD hS => ?_)
  have ck : w12[k]? = some (a, .inr (6, [.ref p0, .ref p9, .int 0, .ref p18, .ref p56, .null, .null, .null, .null])) := hs.2.1
  have c18 : w12[wl.length + 18]? = some (p18, .inr (1, [.ref q19, .int 0])) := cK 18 c18 hs hkl
  have c19 : w12[wl.length + 19]? = some (q19, .inl (xQ g, 4, .inr (.inr (.inr (.inr f9))))) := cK 19 c19 hs hkl
  have c56 : w12[wl.length + 56]? = some (p56, .inr (4, [.ref q57, .int 0, .int 0, .int 0])) := cK 56 c56 hs hkl
  have c57 : w12[wl.length + 57]? = some (q57, .inl (xC g, 60, .inl (fun _ => 0))) := cK 57 c57 hs hkl
  have ph_p0 : phL g w12 (wl.length) p0 := phK 0 ph_p0 hs hkl
  have ph_p9 : phL g w12 (wl.length + 9) p9 := phK 9 ph_p9 hs hkl
  have ph_p20 : phL g w12 (wl.length + 20) p20 := phK 20 ph_p20 hs hkl
  have ph_p29 : phL g w12 (wl.length + 29) p29 := phK 29 ph_p29 hs hkl
  have ph_p38 : phL g w12 (wl.length + 38) p38 := phK 38 ph_p38 hs hkl
  have ph_p47 : phL g w12 (wl.length + 47) p47 := phK 47 ph_p47 hs hkl
  have hfr : ∀ i, i < wl.length → i ≠ k → w12[i]? = wl[i]? := fK hfr hs
  have hlen : w12.length = wl.length + 58 := lS hs hlen
  refine lv_aload_n S.1 S.2.1 dX6_init_48 rfl (lv_at hl 0 rfl) ?_
  refine lv_bipush (v := 6) S.1 S.2.1 dX6_init_49 (by decide) ?_
  refine y_newi S hK.1 hP hD hS hA dX6_init_51 (by decide +kernel) 6 rfl (by decide) (Nat.le_of_ble_eq_true rfl) (Nat.le_of_ble_eq_true rfl) (fun p58 H w13 hg hP hD hS => ?_)
  have ck : w13[k]? = some (a, .inr (6, [.ref p0, .ref p9, .int 0, .ref p18, .ref p56, .null, .null, .null, .null])) := kG ck hg hkl hlen
  have c18 : w13[wl.length + 18]? = some (p18, .inr (1, [.ref q19, .int 0])) := cG 18 c18 hg hlen (by decide)
  have c19 : w13[wl.length + 19]? = some (q19, .inl (xQ g, 4, .inr (.inr (.inr (.inr f9))))) := cG 19 c19 hg hlen (by decide)
  have c56 : w13[wl.length + 56]? = some (p56, .inr (4, [.ref q57, .int 0, .int 0, .int 0])) := cG 56 c56 hg hlen (by decide)
  have c57 : w13[wl.length + 57]? = some (q57, .inl (xC g, 60, .inl (fun _ => 0))) := cG 57 c57 hg hlen (by decide)
  have ph_p0 : phL g w13 (wl.length) p0 := phG 0 ph_p0 hg hlen (by decide)
  have ph_p9 : phL g w13 (wl.length + 9) p9 := phG 9 ph_p9 hg hlen (by decide)
  have ph_p20 : phL g w13 (wl.length + 20) p20 := phG 20 ph_p20 hg hlen (by decide)
  have ph_p29 : phL g w13 (wl.length + 29) p29 := phG 29 ph_p29 hg hlen (by decide)
  have ph_p38 : phL g w13 (wl.length + 38) p38 := phG 38 ph_p38 hg hlen (by decide)
  have ph_p47 : phL g w13 (wl.length + 47) p47 := phG 47 ph_p47 hg hlen (by decide)
  have hfr : ∀ i, i < wl.length → i ≠ k → w13[i]? = wl[i]? := fG hfr hg hlen
  have c58 : w13[wl.length + 58]? = some (p58, .inl (xI g, 6, .inl (fun _ => 0))) := nG hg hlen
  have hlen : w13.length = wl.length + 59 := lG hg hlen rfl
  refine y_putF S hin2 hK.1 hP hD hS dX6_init_53 (k) ck (RX6, TX6, 9) rfl (by decide +kernel) tyX6 tyX6_ok nmX6 5 (by decide) (by decide +kernel) rfl rfl rfl rfl (Nat.le_of_ble_eq_true rfl) (fun H locs w14 hs hP hD hS => ?_)
  have ck : w14[k]? = some (a, .inr (6, [.ref p0, .ref p9, .int 0, .ref p18, .ref p56, .ref p58, .null, .null, .null])) := hs.2.1
  have c18 : w14[wl.length + 18]? = some (p18, .inr (1, [.ref q19, .int 0])) := cK 18 c18 hs hkl
  have c19 : w14[wl.length + 19]? = some (q19, .inl (xQ g, 4, .inr (.inr (.inr (.inr f9))))) := cK 19 c19 hs hkl
  have c56 : w14[wl.length + 56]? = some (p56, .inr (4, [.ref q57, .int 0, .int 0, .int 0])) := cK 56 c56 hs hkl
  have c57 : w14[wl.length + 57]? = some (q57, .inl (xC g, 60, .inl (fun _ => 0))) := cK 57 c57 hs hkl
  have c58 : w14[wl.length + 58]? = some (p58, .inl (xI g, 6, .inl (fun _ => 0))) := cK 58 c58 hs hkl
  have ph_p0 : phL g w14 (wl.length) p0 := phK 0 ph_p0 hs hkl
  have ph_p9 : phL g w14 (wl.length + 9) p9 := phK 9 ph_p9 hs hkl
  have ph_p20 : phL g w14 (wl.length + 20) p20 := phK 20 ph_p20 hs hkl
  have ph_p29 : phL g w14 (wl.length + 29) p29 := phK 29 ph_p29 hs hkl
  have ph_p38 : phL g w14 (wl.length + 38) p38 := phK 38 ph_p38 hs hkl
  have ph_p47 : phL g w14 (wl.length + 47) p47 := phK 47 ph_p47 hs hkl
  have hfr : ∀ i, i < wl.length → i ≠ k → w14[i]? = wl[i]? := fK hfr hs
  have hlen : w14.length = wl.length + 59 := lS hs hlen
  refine lv_aload_n S.1 S.2.1 dX6_init_56 rfl (lv_at hl 0 rfl) ?_
  refine y_new S hK.1 hP hD hS hA dX6_init_57 0 (RX0, TX0, 4) rfl (by decide +kernel) tyX0 tyX0_ok (by decide +kernel) (by decide +kernel) (by decide +kernel) (fs := [.null, .int 0, .int 0, .int 0]) (fun j hj => by rcases (show j = 0 ∨ j = 1 ∨ j = 2 ∨ j = 3 by have hj : j < 4 := hj; omega) with rfl | rfl | rfl | rfl <;> rfl) (Nat.le_of_ble_eq_true rfl) (Nat.le_of_ble_eq_true rfl) (fun p59 H w15 hg hP hD hS => ?_)
  have ck : w15[k]? = some (a, .inr (6, [.ref p0, .ref p9, .int 0, .ref p18, .ref p56, .ref p58, .null, .null, .null])) := kG ck hg hkl hlen
  have c18 : w15[wl.length + 18]? = some (p18, .inr (1, [.ref q19, .int 0])) := cG 18 c18 hg hlen (by decide)
  have c19 : w15[wl.length + 19]? = some (q19, .inl (xQ g, 4, .inr (.inr (.inr (.inr f9))))) := cG 19 c19 hg hlen (by decide)
  have c56 : w15[wl.length + 56]? = some (p56, .inr (4, [.ref q57, .int 0, .int 0, .int 0])) := cG 56 c56 hg hlen (by decide)
  have c57 : w15[wl.length + 57]? = some (q57, .inl (xC g, 60, .inl (fun _ => 0))) := cG 57 c57 hg hlen (by decide)
  have c58 : w15[wl.length + 58]? = some (p58, .inl (xI g, 6, .inl (fun _ => 0))) := cG 58 c58 hg hlen (by decide)
  have ph_p0 : phL g w15 (wl.length) p0 := phG 0 ph_p0 hg hlen (by decide)
  have ph_p9 : phL g w15 (wl.length + 9) p9 := phG 9 ph_p9 hg hlen (by decide)
  have ph_p20 : phL g w15 (wl.length + 20) p20 := phG 20 ph_p20 hg hlen (by decide)
  have ph_p29 : phL g w15 (wl.length + 29) p29 := phG 29 ph_p29 hg hlen (by decide)
  have ph_p38 : phL g w15 (wl.length + 38) p38 := phG 38 ph_p38 hg hlen (by decide)
  have ph_p47 : phL g w15 (wl.length + 47) p47 := phG 47 ph_p47 hg hlen (by decide)
  have hfr : ∀ i, i < wl.length → i ≠ k → w15[i]? = wl[i]? := fG hfr hg hlen
  have c59 : w15[wl.length + 59]? = some (p59, .inr (0, [.null, .int 0, .int 0, .int 0])) := nG hg hlen
  have hlen : w15.length = wl.length + 60 := lG hg hlen rfl
  refine lv_dup S.1 S.2.1 dX6_init_60 rfl ?_
  refine lv_aload_n S.1 S.2.1 dX6_init_61 rfl (lv_at hl 0 rfl) ?_
  refine y_get S hK.1 hP dX6_init_62 (k) ck (RX6, TX6, 9) rfl (by decide +kernel) 0 (by decide) (by decide +kernel) rfl ?_
  refine y_ci (va_runI (As := [.ref p0]) (rest := [.ref p59, .ref a]) S (c_X0_init l g w15 _ (wl.length + 59) p59 p0 c59) (cwI 1 S.2.2.2.2 gX6_init_X0_init rfl rfl rfl (S.2.2.2.2 (.initialized RX0) (by decide +kernel)) (S.2.2.2.2 (.methodLink RX6 39 yX0_init) (by decide +kernel)) (S.2.2.2.2 (.instanceMethod yX0_init) (by decide +kernel)) rfl (by decide +kernel) ⟨Nat.le_of_ble_eq_true rfl, Nat.le_of_ble_eq_true rfl⟩) (y_pre hK hP hD) rfl rfl hl.1 rfl (lv_room (Nat.le_of_ble_eq_true rfl)) dX6_init_65 ⟨Nat.le_of_ble_eq_true rfl, Nat.le_of_ble_eq_true rfl⟩) hD hS hA (fun w16 H locs hu hP hD hS => ?_)
  obtain ⟨ho, hnew⟩ := hu
  have ck : w16[k]? = some (a, .inr (6, [.ref p0, .ref p9, .int 0, .ref p18, .ref p56, .ref p58, .null, .null, .null])) := kO 59 ck ho hkl hlen
  have c18 : w16[wl.length + 18]? = some (p18, .inr (1, [.ref q19, .int 0])) := cO 18 59 c18 ho hlen (by decide) (by decide)
  have c19 : w16[wl.length + 19]? = some (q19, .inl (xQ g, 4, .inr (.inr (.inr (.inr f9))))) := cO 19 59 c19 ho hlen (by decide) (by decide)
  have c56 : w16[wl.length + 56]? = some (p56, .inr (4, [.ref q57, .int 0, .int 0, .int 0])) := cO 56 59 c56 ho hlen (by decide) (by decide)
  have c57 : w16[wl.length + 57]? = some (q57, .inl (xC g, 60, .inl (fun _ => 0))) := cO 57 59 c57 ho hlen (by decide) (by decide)
  have c58 : w16[wl.length + 58]? = some (p58, .inl (xI g, 6, .inl (fun _ => 0))) := cO 58 59 c58 ho hlen (by decide) (by decide)
  have ph_p0 : phL g w16 (wl.length) p0 := phO 0 59 ph_p0 ho hlen (by decide) (by decide)
  have ph_p9 : phL g w16 (wl.length + 9) p9 := phO 9 59 ph_p9 ho hlen (by decide) (by decide)
  have ph_p20 : phL g w16 (wl.length + 20) p20 := phO 20 59 ph_p20 ho hlen (by decide) (by decide)
  have ph_p29 : phL g w16 (wl.length + 29) p29 := phO 29 59 ph_p29 ho hlen (by decide) (by decide)
  have ph_p38 : phL g w16 (wl.length + 38) p38 := phO 38 59 ph_p38 ho hlen (by decide) (by decide)
  have ph_p47 : phL g w16 (wl.length + 47) p47 := phO 47 59 ph_p47 ho hlen (by decide) (by decide)
  have hfr : ∀ i, i < wl.length → i ≠ k → w16[i]? = wl[i]? := fO 59 hfr ho hlen
  have hlen0 := hlen
  have hlen : w16.length = wl.length + 60 := lO ho hlen rfl
  have c59 := hnew
  refine y_putF S hin2 hK.1 hP hD hS dX6_init_68 (k) ck (RX6, TX6, 9) rfl (by decide +kernel) tyX6 tyX6_ok nmX6 6 (by decide) (by decide +kernel) rfl rfl rfl rfl (Nat.le_of_ble_eq_true rfl) (fun H locs w17 hs hP hD hS => ?_)
  have ck : w17[k]? = some (a, .inr (6, [.ref p0, .ref p9, .int 0, .ref p18, .ref p56, .ref p58, .ref p59, .null, .null])) := hs.2.1
  have c18 : w17[wl.length + 18]? = some (p18, .inr (1, [.ref q19, .int 0])) := cK 18 c18 hs hkl
  have c19 : w17[wl.length + 19]? = some (q19, .inl (xQ g, 4, .inr (.inr (.inr (.inr f9))))) := cK 19 c19 hs hkl
  have c56 : w17[wl.length + 56]? = some (p56, .inr (4, [.ref q57, .int 0, .int 0, .int 0])) := cK 56 c56 hs hkl
  have c57 : w17[wl.length + 57]? = some (q57, .inl (xC g, 60, .inl (fun _ => 0))) := cK 57 c57 hs hkl
  have c58 : w17[wl.length + 58]? = some (p58, .inl (xI g, 6, .inl (fun _ => 0))) := cK 58 c58 hs hkl
  have c59 : w17[wl.length + 59]? = some (p59, .inr (0, [.ref p0, .int 0, .int 0, .int 0])) := cK 59 c59 hs hkl
  have ph_p0 : phL g w17 (wl.length) p0 := phK 0 ph_p0 hs hkl
  have ph_p9 : phL g w17 (wl.length + 9) p9 := phK 9 ph_p9 hs hkl
  have ph_p20 : phL g w17 (wl.length + 20) p20 := phK 20 ph_p20 hs hkl
  have ph_p29 : phL g w17 (wl.length + 29) p29 := phK 29 ph_p29 hs hkl
  have ph_p38 : phL g w17 (wl.length + 38) p38 := phK 38 ph_p38 hs hkl
  have ph_p47 : phL g w17 (wl.length + 47) p47 := phK 47 ph_p47 hs hkl
  have hfr : ∀ i, i < wl.length → i ≠ k → w17[i]? = wl[i]? := fK hfr hs
  have hlen : w17.length = wl.length + 60 := lS hs hlen
  refine lv_aload_n S.1 S.2.1 dX6_init_71 rfl (lv_at hl 0 rfl) ?_
  refine y_new S hK.1 hP hD hS hA dX6_init_72 5 (RX5, TX5, 4) rfl (by decide +kernel) tyX5 tyX5_ok (by decide +kernel) (by decide +kernel) (by decide +kernel) (fs := [.null, .null, .null, .null]) (fun j hj => by rcases (show j = 0 ∨ j = 1 ∨ j = 2 ∨ j = 3 by have hj : j < 4 := hj; omega) with rfl | rfl | rfl | rfl <;> rfl) (Nat.le_of_ble_eq_true rfl) (Nat.le_of_ble_eq_true rfl) (fun p60 H w18 hg hP hD hS => ?_)
  have ck : w18[k]? = some (a, .inr (6, [.ref p0, .ref p9, .int 0, .ref p18, .ref p56, .ref p58, .ref p59, .null, .null])) := kG ck hg hkl hlen
  have c18 : w18[wl.length + 18]? = some (p18, .inr (1, [.ref q19, .int 0])) := cG 18 c18 hg hlen (by decide)
  have c19 : w18[wl.length + 19]? = some (q19, .inl (xQ g, 4, .inr (.inr (.inr (.inr f9))))) := cG 19 c19 hg hlen (by decide)
  have c56 : w18[wl.length + 56]? = some (p56, .inr (4, [.ref q57, .int 0, .int 0, .int 0])) := cG 56 c56 hg hlen (by decide)
  have c57 : w18[wl.length + 57]? = some (q57, .inl (xC g, 60, .inl (fun _ => 0))) := cG 57 c57 hg hlen (by decide)
  have c58 : w18[wl.length + 58]? = some (p58, .inl (xI g, 6, .inl (fun _ => 0))) := cG 58 c58 hg hlen (by decide)
  have c59 : w18[wl.length + 59]? = some (p59, .inr (0, [.ref p0, .int 0, .int 0, .int 0])) := cG 59 c59 hg hlen (by decide)
  have ph_p0 : phL g w18 (wl.length) p0 := phG 0 ph_p0 hg hlen (by decide)
  have ph_p9 : phL g w18 (wl.length + 9) p9 := phG 9 ph_p9 hg hlen (by decide)
  have ph_p20 : phL g w18 (wl.length + 20) p20 := phG 20 ph_p20 hg hlen (by decide)
  have ph_p29 : phL g w18 (wl.length + 29) p29 := phG 29 ph_p29 hg hlen (by decide)
  have ph_p38 : phL g w18 (wl.length + 38) p38 := phG 38 ph_p38 hg hlen (by decide)
  have ph_p47 : phL g w18 (wl.length + 47) p47 := phG 47 ph_p47 hg hlen (by decide)
  have hfr : ∀ i, i < wl.length → i ≠ k → w18[i]? = wl[i]? := fG hfr hg hlen
  have c60 : w18[wl.length + 60]? = some (p60, .inr (5, [.null, .null, .null, .null])) := nG hg hlen
  have hlen : w18.length = wl.length + 61 := lG hg hlen rfl
  refine lv_dup S.1 S.2.1 dX6_init_75 rfl ?_
  refine lv_aload_n S.1 S.2.1 dX6_init_76 rfl (lv_at hl 0 rfl) ?_
  refine y_get S hK.1 hP dX6_init_77 (k) ck (RX6, TX6, 9) rfl (by decide +kernel) 0 (by decide) (by decide +kernel) rfl ?_
  refine lv_aload_n S.1 S.2.1 dX6_init_80 rfl (lv_at hl 0 rfl) ?_
  refine y_get S hK.1 hP dX6_init_81 (k) ck (RX6, TX6, 9) rfl (by decide +kernel) 6 (by decide) (by decide +kernel) rfl ?_
  refine y_ci (va_runI (As := [.ref p0, .ref p59]) (rest := [.ref p60, .ref a]) S (c_X5_init l g w18 _ (wl.length + 60) p60 p0 p59 c60) (cwI 2 S.2.2.2.2 gX6_init_X5_init rfl rfl rfl (S.2.2.2.2 (.initialized RX5) (by decide +kernel)) (S.2.2.2.2 (.methodLink RX6 48 yX5_init) (by decide +kernel)) (S.2.2.2.2 (.instanceMethod yX5_init) (by decide +kernel)) rfl (by decide +kernel) ⟨Nat.le_of_ble_eq_true rfl, Nat.le_of_ble_eq_true rfl⟩) (y_pre hK hP hD) rfl rfl hl.1 rfl (lv_room (Nat.le_of_ble_eq_true rfl)) dX6_init_84 ⟨Nat.le_of_ble_eq_true rfl, Nat.le_of_ble_eq_true rfl⟩) hD hS hA (fun w19 H locs hu hP hD hS => ?_)
  obtain ⟨ho, hnew⟩ := hu
  have ck : w19[k]? = some (a, .inr (6, [.ref p0, .ref p9, .int 0, .ref p18, .ref p56, .ref p58, .ref p59, .null, .null])) := kO 60 ck ho hkl hlen
  have c18 : w19[wl.length + 18]? = some (p18, .inr (1, [.ref q19, .int 0])) := cO 18 60 c18 ho hlen (by decide) (by decide)
  have c19 : w19[wl.length + 19]? = some (q19, .inl (xQ g, 4, .inr (.inr (.inr (.inr f9))))) := cO 19 60 c19 ho hlen (by decide) (by decide)
  have c56 : w19[wl.length + 56]? = some (p56, .inr (4, [.ref q57, .int 0, .int 0, .int 0])) := cO 56 60 c56 ho hlen (by decide) (by decide)
  have c57 : w19[wl.length + 57]? = some (q57, .inl (xC g, 60, .inl (fun _ => 0))) := cO 57 60 c57 ho hlen (by decide) (by decide)
  have c58 : w19[wl.length + 58]? = some (p58, .inl (xI g, 6, .inl (fun _ => 0))) := cO 58 60 c58 ho hlen (by decide) (by decide)
  have c59 : w19[wl.length + 59]? = some (p59, .inr (0, [.ref p0, .int 0, .int 0, .int 0])) := cO 59 60 c59 ho hlen (by decide) (by decide)
  have ph_p0 : phL g w19 (wl.length) p0 := phO 0 60 ph_p0 ho hlen (by decide) (by decide)
  have ph_p9 : phL g w19 (wl.length + 9) p9 := phO 9 60 ph_p9 ho hlen (by decide) (by decide)
  have ph_p20 : phL g w19 (wl.length + 20) p20 := phO 20 60 ph_p20 ho hlen (by decide) (by decide)
  have ph_p29 : phL g w19 (wl.length + 29) p29 := phO 29 60 ph_p29 ho hlen (by decide) (by decide)
  have ph_p38 : phL g w19 (wl.length + 38) p38 := phO 38 60 ph_p38 ho hlen (by decide) (by decide)
  have ph_p47 : phL g w19 (wl.length + 47) p47 := phO 47 60 ph_p47 ho hlen (by decide) (by decide)
  have hfr : ∀ i, i < wl.length → i ≠ k → w19[i]? = wl[i]? := fO 60 hfr ho hlen
  have hlen0 := hlen
  have hlen : w19.length = wl.length + 63 := lO ho hlen rfl
  obtain ⟨q61, q62, c60, h2, h3⟩ := hnew
  have c61 : w19[wl.length + 61]? = some (q61, .inl (xI g, 11, .inl (fun _ => 0))) := by rw [hlen0] at h2; exact h2
  have c62 : w19[wl.length + 62]? = some (q62, .inl (xI g, 11, .inl (fun _ => 0))) := by rw [hlen0] at h3; exact h3
  refine y_putF S hin2 hK.1 hP hD hS dX6_init_87 (k) ck (RX6, TX6, 9) rfl (by decide +kernel) tyX6 tyX6_ok nmX6 7 (by decide) (by decide +kernel) rfl rfl rfl rfl (Nat.le_of_ble_eq_true rfl) (fun H locs w20 hs hP hD hS => ?_)
  have ck : w20[k]? = some (a, .inr (6, [.ref p0, .ref p9, .int 0, .ref p18, .ref p56, .ref p58, .ref p59, .ref p60, .null])) := hs.2.1
  have c18 : w20[wl.length + 18]? = some (p18, .inr (1, [.ref q19, .int 0])) := cK 18 c18 hs hkl
  have c19 : w20[wl.length + 19]? = some (q19, .inl (xQ g, 4, .inr (.inr (.inr (.inr f9))))) := cK 19 c19 hs hkl
  have c56 : w20[wl.length + 56]? = some (p56, .inr (4, [.ref q57, .int 0, .int 0, .int 0])) := cK 56 c56 hs hkl
  have c57 : w20[wl.length + 57]? = some (q57, .inl (xC g, 60, .inl (fun _ => 0))) := cK 57 c57 hs hkl
  have c58 : w20[wl.length + 58]? = some (p58, .inl (xI g, 6, .inl (fun _ => 0))) := cK 58 c58 hs hkl
  have c59 : w20[wl.length + 59]? = some (p59, .inr (0, [.ref p0, .int 0, .int 0, .int 0])) := cK 59 c59 hs hkl
  have c60 : w20[wl.length + 60]? = some (p60, .inr (5, [.ref p0, .ref p59, .ref q61, .ref q62])) := cK 60 c60 hs hkl
  have c61 : w20[wl.length + 61]? = some (q61, .inl (xI g, 11, .inl (fun _ => 0))) := cK 61 c61 hs hkl
  have c62 : w20[wl.length + 62]? = some (q62, .inl (xI g, 11, .inl (fun _ => 0))) := cK 62 c62 hs hkl
  have ph_p0 : phL g w20 (wl.length) p0 := phK 0 ph_p0 hs hkl
  have ph_p9 : phL g w20 (wl.length + 9) p9 := phK 9 ph_p9 hs hkl
  have ph_p20 : phL g w20 (wl.length + 20) p20 := phK 20 ph_p20 hs hkl
  have ph_p29 : phL g w20 (wl.length + 29) p29 := phK 29 ph_p29 hs hkl
  have ph_p38 : phL g w20 (wl.length + 38) p38 := phK 38 ph_p38 hs hkl
  have ph_p47 : phL g w20 (wl.length + 47) p47 := phK 47 ph_p47 hs hkl
  have hfr : ∀ i, i < wl.length → i ≠ k → w20[i]? = wl[i]? := fK hfr hs
  have hlen : w20.length = wl.length + 63 := lS hs hlen
  refine lv_aload_n S.1 S.2.1 dX6_init_90 rfl (lv_at hl 0 rfl) ?_
  refine y_new S hK.1 hP hD hS hA dX6_init_91 3 (RX3, TX3, 4) rfl (by decide +kernel) tyX3 tyX3_ok (by decide +kernel) (by decide +kernel) (by decide +kernel) (fs := [.null, .int 0, .int 0, .int 0]) (fun j hj => by rcases (show j = 0 ∨ j = 1 ∨ j = 2 ∨ j = 3 by have hj : j < 4 := hj; omega) with rfl | rfl | rfl | rfl <;> rfl) (Nat.le_of_ble_eq_true rfl) (Nat.le_of_ble_eq_true rfl) (fun p63 H w21 hg hP hD hS => ?_)
  have ck : w21[k]? = some (a, .inr (6, [.ref p0, .ref p9, .int 0, .ref p18, .ref p56, .ref p58, .ref p59, .ref p60, .null])) := kG ck hg hkl hlen
  have c18 : w21[wl.length + 18]? = some (p18, .inr (1, [.ref q19, .int 0])) := cG 18 c18 hg hlen (by decide)
  have c19 : w21[wl.length + 19]? = some (q19, .inl (xQ g, 4, .inr (.inr (.inr (.inr f9))))) := cG 19 c19 hg hlen (by decide)
  have c56 : w21[wl.length + 56]? = some (p56, .inr (4, [.ref q57, .int 0, .int 0, .int 0])) := cG 56 c56 hg hlen (by decide)
  have c57 : w21[wl.length + 57]? = some (q57, .inl (xC g, 60, .inl (fun _ => 0))) := cG 57 c57 hg hlen (by decide)
  have c58 : w21[wl.length + 58]? = some (p58, .inl (xI g, 6, .inl (fun _ => 0))) := cG 58 c58 hg hlen (by decide)
  have c59 : w21[wl.length + 59]? = some (p59, .inr (0, [.ref p0, .int 0, .int 0, .int 0])) := cG 59 c59 hg hlen (by decide)
  have c60 : w21[wl.length + 60]? = some (p60, .inr (5, [.ref p0, .ref p59, .ref q61, .ref q62])) := cG 60 c60 hg hlen (by decide)
  have c61 : w21[wl.length + 61]? = some (q61, .inl (xI g, 11, .inl (fun _ => 0))) := cG 61 c61 hg hlen (by decide)
  have c62 : w21[wl.length + 62]? = some (q62, .inl (xI g, 11, .inl (fun _ => 0))) := cG 62 c62 hg hlen (by decide)
  have ph_p0 : phL g w21 (wl.length) p0 := phG 0 ph_p0 hg hlen (by decide)
  have ph_p9 : phL g w21 (wl.length + 9) p9 := phG 9 ph_p9 hg hlen (by decide)
  have ph_p20 : phL g w21 (wl.length + 20) p20 := phG 20 ph_p20 hg hlen (by decide)
  have ph_p29 : phL g w21 (wl.length + 29) p29 := phG 29 ph_p29 hg hlen (by decide)
  have ph_p38 : phL g w21 (wl.length + 38) p38 := phG 38 ph_p38 hg hlen (by decide)
  have ph_p47 : phL g w21 (wl.length + 47) p47 := phG 47 ph_p47 hg hlen (by decide)
  have hfr : ∀ i, i < wl.length → i ≠ k → w21[i]? = wl[i]? := fG hfr hg hlen
  have c63 : w21[wl.length + 63]? = some (p63, .inr (3, [.null, .int 0, .int 0, .int 0])) := nG hg hlen
  have hlen : w21.length = wl.length + 64 := lG hg hlen rfl
  refine lv_dup S.1 S.2.1 dX6_init_94 rfl ?_
  refine lv_aload_n S.1 S.2.1 dX6_init_95 rfl (lv_at hl 0 rfl) ?_
  refine y_get S hK.1 hP dX6_init_96 (k) ck (RX6, TX6, 9) rfl (by decide +kernel) 0 (by decide) (by decide +kernel) rfl ?_
  refine y_ci (va_runI (As := [.ref p0]) (rest := [.ref p63, .ref a]) S (c_X3_init l g w21 _ (wl.length + 63) p63 p0 c63) (cwI 1 S.2.2.2.2 gX6_init_X3_init rfl rfl rfl (S.2.2.2.2 (.initialized RX3) (by decide +kernel)) (S.2.2.2.2 (.methodLink RX6 57 yX3_init) (by decide +kernel)) (S.2.2.2.2 (.instanceMethod yX3_init) (by decide +kernel)) rfl (by decide +kernel) ⟨Nat.le_of_ble_eq_true rfl, Nat.le_of_ble_eq_true rfl⟩) (y_pre hK hP hD) rfl rfl hl.1 rfl (lv_room (Nat.le_of_ble_eq_true rfl)) dX6_init_99 ⟨Nat.le_of_ble_eq_true rfl, Nat.le_of_ble_eq_true rfl⟩) hD hS hA (fun w22 H locs hu hP hD hS => ?_)
  obtain ⟨ho, hnew⟩ := hu
  have ck : w22[k]? = some (a, .inr (6, [.ref p0, .ref p9, .int 0, .ref p18, .ref p56, .ref p58, .ref p59, .ref p60, .null])) := kO 63 ck ho hkl hlen
  have c18 : w22[wl.length + 18]? = some (p18, .inr (1, [.ref q19, .int 0])) := cO 18 63 c18 ho hlen (by decide) (by decide)
  have c19 : w22[wl.length + 19]? = some (q19, .inl (xQ g, 4, .inr (.inr (.inr (.inr f9))))) := cO 19 63 c19 ho hlen (by decide) (by decide)
  have c56 : w22[wl.length + 56]? = some (p56, .inr (4, [.ref q57, .int 0, .int 0, .int 0])) := cO 56 63 c56 ho hlen (by decide) (by decide)
  have c57 : w22[wl.length + 57]? = some (q57, .inl (xC g, 60, .inl (fun _ => 0))) := cO 57 63 c57 ho hlen (by decide) (by decide)
  have c58 : w22[wl.length + 58]? = some (p58, .inl (xI g, 6, .inl (fun _ => 0))) := cO 58 63 c58 ho hlen (by decide) (by decide)
  have c59 : w22[wl.length + 59]? = some (p59, .inr (0, [.ref p0, .int 0, .int 0, .int 0])) := cO 59 63 c59 ho hlen (by decide) (by decide)
  have c60 : w22[wl.length + 60]? = some (p60, .inr (5, [.ref p0, .ref p59, .ref q61, .ref q62])) := cO 60 63 c60 ho hlen (by decide) (by decide)
  have c61 : w22[wl.length + 61]? = some (q61, .inl (xI g, 11, .inl (fun _ => 0))) := cO 61 63 c61 ho hlen (by decide) (by decide)
  have c62 : w22[wl.length + 62]? = some (q62, .inl (xI g, 11, .inl (fun _ => 0))) := cO 62 63 c62 ho hlen (by decide) (by decide)
  have ph_p0 : phL g w22 (wl.length) p0 := phO 0 63 ph_p0 ho hlen (by decide) (by decide)
  have ph_p9 : phL g w22 (wl.length + 9) p9 := phO 9 63 ph_p9 ho hlen (by decide) (by decide)
  have ph_p20 : phL g w22 (wl.length + 20) p20 := phO 20 63 ph_p20 ho hlen (by decide) (by decide)
  have ph_p29 : phL g w22 (wl.length + 29) p29 := phO 29 63 ph_p29 ho hlen (by decide) (by decide)
  have ph_p38 : phL g w22 (wl.length + 38) p38 := phO 38 63 ph_p38 ho hlen (by decide) (by decide)
  have ph_p47 : phL g w22 (wl.length + 47) p47 := phO 47 63 ph_p47 ho hlen (by decide) (by decide)
  have hfr : ∀ i, i < wl.length → i ≠ k → w22[i]? = wl[i]? := fO 63 hfr ho hlen
  have hlen0 := hlen
  have hlen : w22.length = wl.length + 64 := lO ho hlen rfl
  have c63 := hnew
  refine y_putF S hin2 hK.1 hP hD hS dX6_init_102 (k) ck (RX6, TX6, 9) rfl (by decide +kernel) tyX6 tyX6_ok nmX6 8 (by decide) (by decide +kernel) rfl rfl rfl rfl (Nat.le_of_ble_eq_true rfl) (fun H locs w23 hs hP hD hS => ?_)
  have ck : w23[k]? = some (a, .inr (6, [.ref p0, .ref p9, .int 0, .ref p18, .ref p56, .ref p58, .ref p59, .ref p60, .ref p63])) := hs.2.1
  have c18 : w23[wl.length + 18]? = some (p18, .inr (1, [.ref q19, .int 0])) := cK 18 c18 hs hkl
  have c19 : w23[wl.length + 19]? = some (q19, .inl (xQ g, 4, .inr (.inr (.inr (.inr f9))))) := cK 19 c19 hs hkl
  have c56 : w23[wl.length + 56]? = some (p56, .inr (4, [.ref q57, .int 0, .int 0, .int 0])) := cK 56 c56 hs hkl
  have c57 : w23[wl.length + 57]? = some (q57, .inl (xC g, 60, .inl (fun _ => 0))) := cK 57 c57 hs hkl
  have c58 : w23[wl.length + 58]? = some (p58, .inl (xI g, 6, .inl (fun _ => 0))) := cK 58 c58 hs hkl
  have c59 : w23[wl.length + 59]? = some (p59, .inr (0, [.ref p0, .int 0, .int 0, .int 0])) := cK 59 c59 hs hkl
  have c60 : w23[wl.length + 60]? = some (p60, .inr (5, [.ref p0, .ref p59, .ref q61, .ref q62])) := cK 60 c60 hs hkl
  have c61 : w23[wl.length + 61]? = some (q61, .inl (xI g, 11, .inl (fun _ => 0))) := cK 61 c61 hs hkl
  have c62 : w23[wl.length + 62]? = some (q62, .inl (xI g, 11, .inl (fun _ => 0))) := cK 62 c62 hs hkl
  have c63 : w23[wl.length + 63]? = some (p63, .inr (3, [.ref p0, .int 0, .int 0, .int 0])) := cK 63 c63 hs hkl
  have ph_p0 : phL g w23 (wl.length) p0 := phK 0 ph_p0 hs hkl
  have ph_p9 : phL g w23 (wl.length + 9) p9 := phK 9 ph_p9 hs hkl
  have ph_p20 : phL g w23 (wl.length + 20) p20 := phK 20 ph_p20 hs hkl
  have ph_p29 : phL g w23 (wl.length + 29) p29 := phK 29 ph_p29 hs hkl
  have ph_p38 : phL g w23 (wl.length + 38) p38 := phK 38 ph_p38 hs hkl
  have ph_p47 : phL g w23 (wl.length + 47) p47 := phK 47 ph_p47 hs hkl
  have hfr : ∀ i, i < wl.length → i ≠ k → w23[i]? = wl[i]? := fK hfr hs
  have hlen : w23.length = wl.length + 64 := lS hs hlen
  exact y_vret S hr hlocks hP hD hS dX6_init_105 ⟨⟨hlen, hfr⟩, ⟨p0, p9, p18, p56, p58, p59, p60, p63, q19, q57, q61, q62, f9, ck, ph_p0, ph_p9, c18, c19, fun i hi => by have h4 : i = 0 ∨ i = 1 ∨ i = 2 ∨ i = 3 := (by omega); rcases h4 with rfl | rfl | rfl | rfl; exact ⟨_, hf0, ph_p20⟩; exact ⟨_, hf1, ph_p29⟩; exact ⟨_, hf2, ph_p38⟩; exact ⟨_, hf3, ph_p47⟩, c56, c57, c58, c59, c60, c61, c62, c63⟩⟩
