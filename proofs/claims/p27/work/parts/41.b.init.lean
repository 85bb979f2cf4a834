set_option maxHeartbeats 4000000 in
set_option maxRecDepth 100000 in
theorem c_X1_init (l : Launch) (g : xG) (wl : va_W) (sz k a : Nat) (hk0 : wl[k]? = some (a, .inr (1, [.null, .int 0]))) : Met l yX1_init wsX1_init ({ frames := 2, cells := 37, slots := 320, locals := 40 }) (yPc g [.ref a] sz wl) (yQ g sz wl (fun u => yO wl u 37 k ∧ ∃ (q : Nat) (f : Nat → Option Nat), u[k]? = some (a, .inr (1, [.ref q, .int 0])) ∧ u[wl.length]? = some (q, .inl (xQ g, 4, .inr (.inr (.inr (.inr f))))) ∧ ∀ i, i < 4 → ∃ p, f i = some p ∧ phL g u (wl.length + 1 + 9 * i) p)) 37 320 (va_A wl sz) := by
  refine y_met (ws' := _) (by decide) rfl (Nat.le_of_ble_eq_true rfl) ?_
  intro pz ez s m below meth cz ls S hr hlocks hin2 hsz hP hK hD0 hl
  have hl : lv_has ls 2 [(0, .ref a)] := hl
  subst hsz
  have hD := hD0.self (sz := s.heap.size)
  have hA : ∀ q, s.heap.size ≤ q → va_A wl s.heap.size q := fun q h => Or.inr h
  have hS : va_S (va_A wl s.heap.size) s.heap s.heap [] := va_S.rf
  have hkl := (List.getElem?_eq_some_iff.mp hk0).1
  have ck := hk0
  have hfr : ∀ i, i < wl.length → i ≠ k → wl[i]? = wl[i]? := fun _ _ _ => rfl
  have hlen : wl.length = wl.length + 0 := rfl
  refine lv_aload_n S.1 S.2.1 dX1_init_0 rfl (lv_at hl 0 rfl) ?_
  refine y_obj S hl.1 dX1_init_1 (by decide +kernel) (by decide +kernel) (by decide +kernel) (Nat.le_of_ble_eq_true rfl) (Nat.le_of_ble_eq_true rfl) ?_
  refine lv_aload_n S.1 S.2.1 dX1_init_4 rfl (lv_at hl 0 rfl) ?_
  refine lv_iconst (v := 4) S.1 S.2.1 dX1_init_5 (by decide) ?_
  refine y_newq S hK hP hD hS hA dX1_init_6 (by decide +kernel) 4 rfl (by decide) (Nat.le_of_ble_eq_true rfl) (Nat.le_of_ble_eq_true rfl) (fun p0 H w1 hg hP hD hS => ?_)
  have ck : w1[k]? = some (a, .inr (1, [.null, .int 0])) := kG ck hg hkl hlen
  have hfr : ∀ i, i < wl.length → i ≠ k → w1[i]? = wl[i]? := fG hfr hg hlen
  have c0 : w1[wl.length]? = some (p0, .inl (xQ g, 4, .inr (.inr (.inr (.inr (fun _ => none)))))) := nG hg hlen
  have hlen : w1.length = wl.length + 1 := lG hg hlen rfl
  refine y_putF S hin2 hK.1 hP hD hS dX1_init_9 (k) ck (RX1, TX1, 2) rfl (by decide +kernel) tyX1 tyX1_ok nmX1 0 (by decide) (by decide +kernel) rfl rfl rfl rfl (Nat.le_of_ble_eq_true rfl) (fun H locs w2 hs hP hD hS => ?_)
  have ck : w2[k]? = some (a, .inr (1, [.ref p0, .int 0])) := hs.2.1
  have c0 : w2[wl.length]? = some (p0, .inl (xQ g, 4, .inr (.inr (.inr (.inr (fun _ => none)))))) := cK 0 c0 hs hkl
  have hfr : ∀ i, i < wl.length → i ≠ k → w2[i]? = wl[i]? := fK hfr hs
  have hlen : w2.length = wl.length + 1 := lS hs hlen
  refine lv_iconst (v := 0) S.1 S.2.1 dX1_init_12 (by decide) ?_
  refine lv_istore_n (lv' := [(1, .int 0), (0, .ref a)]) S.1 S.2.1 dX1_init_13 rfl hl (by decide) rfl (fun ls hl => ?_)
  refine lv_iload_n S.1 S.2.1 dX1_init_14 rfl (lv_at hl 0 rfl) ?_
  refine lv_iconst (v := 4) S.1 S.2.1 dX1_init_15 (by decide) ?_
  refine lv_icmp_ge (tgt := 38) S.1 S.2.1 dX1_init_16 (by decide) (fun cc => absurd cc (by decide)) (fun cc => ?_)
  refine lv_aload_n S.1 S.2.1 dX1_init_19 rfl (lv_at hl 1 rfl) ?_
  refine y_get S hK.1 hP dX1_init_20 (k) ck (RX1, TX1, 2) rfl (by decide +kernel) 0 (by decide) (by decide +kernel) rfl ?_
  refine lv_iload_n S.1 S.2.1 dX1_init_23 rfl (lv_at hl 0 rfl) ?_
  refine y_new S hK.1 hP hD hS hA dX1_init_24 2 (RX2, TX2, 2) rfl (by decide +kernel) tyX2 tyX2_ok (by decide +kernel) (by decide +kernel) (by decide +kernel) (fs := [.null, .int 0]) (fun j hj => by rcases (show j = 0 ∨ j = 1 by have hj : j < 2 := hj; omega) with rfl | rfl <;> rfl) (Nat.le_of_ble_eq_true rfl) (Nat.le_of_ble_eq_true rfl) (fun p1 H w3 hg hP hD hS => ?_)
  have ck : w3[k]? = some (a, .inr (1, [.ref p0, .int 0])) := kG ck hg hkl hlen
  have c0 : w3[wl.length]? = some (p0, .inl (xQ g, 4, .inr (.inr (.inr (.inr (fun _ => none)))))) := cG 0 c0 hg hlen (by decide)
  have hfr : ∀ i, i < wl.length → i ≠ k → w3[i]? = wl[i]? := fG hfr hg hlen
  have c1 : w3[wl.length + 1]? = some (p1, .inr (2, [.null, .int 0])) := nG hg hlen
  have hlen : w3.length = wl.length + 2 := lG hg hlen rfl
  refine lv_dup S.1 S.2.1 dX1_init_27 rfl ?_
  refine y_ci (va_runIN (As := []) (rest := [.ref p1, .int 0, .ref p0]) S (c_X2_init l g w3 _ (wl.length + 1) p1  c1) ⟨va_cnB 0 S.2.2.2.2 gX1_init_X2_init_n17 rfl rfl rfl hK.2.2.2.2.1 (S.2.2.2.2 (.initialized RX2) (by decide +kernel)) (by decide +kernel) ⟨Nat.le_of_ble_eq_true rfl, Nat.le_of_ble_eq_true rfl⟩, rfl, S.2.2.2.2 (.instanceMethod yX2_init) (by decide +kernel)⟩ (y_pre hK hP hD) rfl rfl hl.1 rfl (lv_room (Nat.le_of_ble_eq_true rfl)) dX1_init_28 ⟨Nat.le_of_ble_eq_true rfl, Nat.le_of_ble_eq_true rfl⟩) hD hS hA (fun w4 H locs hu hP hD hS => ?_)
  obtain ⟨ho, hnew⟩ := hu
  have ck : w4[k]? = some (a, .inr (1, [.ref p0, .int 0])) := kO 1 ck ho hkl hlen
  have c0 : w4[wl.length]? = some (p0, .inl (xQ g, 4, .inr (.inr (.inr (.inr (fun _ => none)))))) := cO 0 1 c0 ho hlen (by decide) (by decide)
  have hfr : ∀ i, i < wl.length → i ≠ k → w4[i]? = wl[i]? := fO 1 hfr ho hlen
  have hlen0 := hlen
  have hlen : w4.length = wl.length + 10 := lO ho hlen rfl
  obtain ⟨q9, r9, h1, h2, h3⟩ := hnew
  have ph_p1 : phL g w4 (wl.length + 1) p1 := phN 1 h1 h2 h3 hlen0
  obtain ⟨q9, r9, hq9, -⟩ := id ph_p1
  refine y_astq S hK.1 hP hD hS dX1_init_31 (wl.length) (wl.length + 1) c0 hq9 0 rfl (by decide) (by decide) (fun H locs w5 hs hP hD hS => ?_)
  have ck : w5[k]? = some (a, .inr (1, [.ref p0, .int 0])) := kS 0 ck hs hkl
  have c0 : w5[wl.length]? = some (p0, .inl (xQ g, 4, .inr (.inr (.inr (.inr (va_up (fun _ => none) 0 (some p1))))))) := hs.2.1
  have ph_p1 : phL g w5 (wl.length + 1) p1 := phS 1 0 ph_p1 hs (by decide)
  have hfr : ∀ i, i < wl.length → i ≠ k → w5[i]? = wl[i]? := fS 0 hfr hs
  have hlen : w5.length = wl.length + 10 := lS hs hlen
  refine lv_iinc (v := 1) (lv' := [(1, .int 1), (0, .ref a)]) S.1 S.2.1 dX1_init_32 hl (k := 0) rfl (by decide) (by decide) rfl (fun ls hl => ?_)
  refine lv_goto (tgt := 14) S.1 S.2.1 dX1_init_35 (by decide) ?_
  refine lv_iload_n S.1 S.2.1 dX1_init_14 rfl (lv_at hl 0 rfl) ?_
  refine lv_iconst (v := 4) S.1 S.2.1 dX1_init_15 (by decide) ?_
  refine lv_icmp_ge (tgt := 38) S.1 S.2.1 dX1_init_16 (by decide) (fun cc => absurd cc (by decide)) (fun cc => ?_)
  refine lv_aload_n S.1 S.2.1 dX1_init_19 rfl (lv_at hl 1 rfl) ?_
  refine y_get S hK.1 hP dX1_init_20 (k) ck (RX1, TX1, 2) rfl (by decide +kernel) 0 (by decide) (by decide +kernel) rfl ?_
  refine lv_iload_n S.1 S.2.1 dX1_init_23 rfl (lv_at hl 0 rfl) ?_
  refine y_new S hK.1 hP hD hS hA dX1_init_24 2 (RX2, TX2, 2) rfl (by decide +kernel) tyX2 tyX2_ok (by decide +kernel) (by decide +kernel) (by decide +kernel) (fs := [.null, .int 0]) (fun j hj => by rcases (show j = 0 ∨ j = 1 by have hj : j < 2 := hj; omega) with rfl | rfl <;> rfl) (Nat.le_of_ble_eq_true rfl) (Nat.le_of_ble_eq_true rfl) (fun p10 H w6 hg hP hD hS => ?_)
  have ck : w6[k]? = some (a, .inr (1, [.ref p0, .int 0])) := kG ck hg hkl hlen
  have c0 : w6[wl.length]? = some (p0, .inl (xQ g, 4, .inr (.inr (.inr (.inr (va_up (fun _ => none) 0 (some p1))))))) := cG 0 c0 hg hlen (by decide)
  have ph_p1 : phL g w6 (wl.length + 1) p1 := phG 1 ph_p1 hg hlen (by decide)
  have hfr : ∀ i, i < wl.length → i ≠ k → w6[i]? = wl[i]? := fG hfr hg hlen
  have c10 : w6[wl.length + 10]? = some (p10, .inr (2, [.null, .int 0])) := nG hg hlen
  have hlen : w6.length = wl.length + 11 := lG hg hlen rfl
  refine lv_dup S.1 S.2.1 dX1_init_27 rfl ?_
  refine y_ci (va_runIN (As := []) (rest := [.ref p10, .int 1, .ref p0]) S (c_X2_init l g w6 _ (wl.length + 10) p10  c10) ⟨va_cnB 0 S.2.2.2.2 gX1_init_X2_init_n17 rfl rfl rfl hK.2.2.2.2.1 (S.2.2.2.2 (.initialized RX2) (by decide +kernel)) (by decide +kernel) ⟨Nat.le_of_ble_eq_true rfl, Nat.le_of_ble_eq_true rfl⟩, rfl, S.2.2.2.2 (.instanceMethod yX2_init) (by decide +kernel)⟩ (y_pre hK hP hD) rfl rfl hl.1 rfl (lv_room (Nat.le_of_ble_eq_true rfl)) dX1_init_28 ⟨Nat.le_of_ble_eq_true rfl, Nat.le_of_ble_eq_true rfl⟩) hD hS hA (fun w7 H locs hu hP hD hS => ?_)
  obtain ⟨ho, hnew⟩ := hu
  have ck : w7[k]? = some (a, .inr (1, [.ref p0, .int 0])) := kO 10 ck ho hkl hlen
  have c0 : w7[wl.length]? = some (p0, .inl (xQ g, 4, .inr (.inr (.inr (.inr (va_up (fun _ => none) 0 (some p1))))))) := cO 0 10 c0 ho hlen (by decide) (by decide)
  have ph_p1 : phL g w7 (wl.length + 1) p1 := phO 1 10 ph_p1 ho hlen (by decide) (by decide)
  have hfr : ∀ i, i < wl.length → i ≠ k → w7[i]? = wl[i]? := fO 10 hfr ho hlen
  have hlen0 := hlen
  have hlen : w7.length = wl.length + 19 := lO ho hlen rfl
  obtain ⟨q9, r9, h1, h2, h3⟩ := hnew
  have ph_p10 : phL g w7 (wl.length + 10) p10 := phN 10 h1 h2 h3 hlen0
  obtain ⟨q9, r9, hq9, -⟩ := id ph_p10
  refine y_astq S hK.1 hP hD hS dX1_init_31 (wl.length) (wl.length + 10) c0 hq9 1 rfl (by decide) (by decide) (fun H locs w8 hs hP hD hS => ?_)
  have ck : w8[k]? = some (a, .inr (1, [.ref p0, .int 0])) := kS 0 ck hs hkl
  have c0 : w8[wl.length]? = some (p0, .inl (xQ g, 4, .inr (.inr (.inr (.inr (va_up (va_up (fun _ => none) 0 (some p1)) 1 (some p10))))))) := hs.2.1
  have ph_p1 : phL g w8 (wl.length + 1) p1 := phS 1 0 ph_p1 hs (by decide)
  have ph_p10 : phL g w8 (wl.length + 10) p10 := phS 10 0 ph_p10 hs (by decide)
  have hfr : ∀ i, i < wl.length → i ≠ k → w8[i]? = wl[i]? := fS 0 hfr hs
  have hlen : w8.length = wl.length + 19 := lS hs hlen
  refine lv_iinc (v := 2) (lv' := [(1, .int 2), (0, .ref a)]) S.1 S.2.1 dX1_init_32 hl (k := 0) rfl (by decide) (by decide) rfl (fun ls hl => ?_)
  refine lv_goto (tgt := 14) S.1 S.2.1 dX1_init_35 (by decide) ?_
  refine lv_iload_n S.1 S.2.1 dX1_init_14 rfl (lv_at hl 0 rfl) ?_
  refine lv_iconst (v := 4) S.1 S.2.1 dX1_init_15 (by decide) ?_
  refine lv_icmp_ge (tgt := 38) S.1 S.2.1 dX1_init_16 (by decide) (fun cc => absurd cc (by decide)) (fun cc => ?_)
  refine lv_aload_n S.1 S.2.1 dX1_init_19 rfl (lv_at hl 1 rfl) ?_
  refine y_get S hK.1 hP dX1_init_20 (k) ck (RX1, TX1, 2) rfl (by decide +kernel) 0 (by decide) (by decide +kernel) rfl ?_
  refine lv_iload_n S.1 S.2.1 dX1_init_23 rfl (lv_at hl 0 rfl) ?_
  refine y_new S hK.1 hP hD hS hA dX1_init_24 2 (RX2, TX2, 2) rfl (by decide +kernel) tyX2 tyX2_ok (by decide +kernel) (by decide +kernel) (by decide +kernel) (fs := [.null, .int 0]) (fun j hj => by rcases (show j = 0 ∨ j = 1 by have hj : j < 2 := hj; omega) with rfl | rfl <;> rfl) (Nat.le_of_ble_eq_true rfl) (Nat.le_of_ble_eq_true rfl) (fun p19 H w9 hg hP hD hS => ?_)
  have ck : w9[k]? = some (a, .inr (1, [.ref p0, .int 0])) := kG ck hg hkl hlen
  have c0 : w9[wl.length]? = some (p0, .inl (xQ g, 4, .inr (.inr (.inr (.inr (va_up (va_up (fun _ => none) 0 (some p1)) 1 (some p10))))))) := cG 0 c0 hg hlen (by decide)
  have ph_p1 : phL g w9 (wl.length + 1) p1 := phG 1 ph_p1 hg hlen (by decide)
  have ph_p10 : phL g w9 (wl.length + 10) p10 := phG 10 ph_p10 hg hlen (by decide)
  have hfr : ∀ i, i < wl.length → i ≠ k → w9[i]? = wl[i]? := fG hfr hg hlen
  have c19 : w9[wl.length + 19]? = some (p19, .inr (2, [.null, .int 0])) := nG hg hlen
  have hlen : w9.length = wl.length + 20 := lG hg hlen rfl
  refine lv_dup S.1 S.2.1 dX1_init_27 rfl ?_
  refine y_ci (va_runIN (As := []) (rest := [.ref p19, .int 2, .ref p0]) S (c_X2_init l g w9 _ (wl.length + 19) p19  c19) ⟨va_cnB 0 S.2.2.2.2 gX1_init_X2_init_n17 rfl rfl rfl hK.2.2.2.2.1 (S.2.2.2.2 (.initialized RX2) (by decide +kernel)) (by decide +kernel) ⟨Nat.le_of_ble_eq_true rfl, Nat.le_of_ble_eq_true rfl⟩, rfl, S.2.2.2.2 (.instanceMethod yX2_init) (by decide +kernel)⟩ (y_pre hK hP hD) rfl rfl hl.1 rfl (lv_room (Nat.le_of_ble_eq_true rfl)) dX1_init_28 ⟨Nat.le_of_ble_eq_true rfl, Nat.le_of_ble_eq_true rfl⟩) hD hS hA (fun w10 H locs hu hP hD hS => ?_)
  obtain ⟨ho, hnew⟩ := hu
  have ck : w10[k]? = some (a, .inr (1, [.ref p0, .int 0])) := kO 19 ck ho hkl hlen
  have c0 : w10[wl.length]? = some (p0, .inl (xQ g, 4, .inr (.inr (.inr (.inr (va_up (va_up (fun _ => none) 0 (some p1)) 1 (some p10))))))) := cO 0 19 c0 ho hlen (by decide) (by decide)
  have ph_p1 : phL g w10 (wl.length + 1) p1 := phO 1 19 ph_p1 ho hlen (by decide) (by decide)
  have ph_p10 : phL g w10 (wl.length + 10) p10 := phO 10 19 ph_p10 ho hlen (by decide) (by decide)
  have hfr : ∀ i, i < wl.length → i ≠ k → w10[i]? = wl[i]? := fO 19 hfr ho hlen
  have hlen0 := hlen
  have hlen : w10.length = wl.length + 28 := lO ho hlen rfl
  obtain ⟨q9, r9, h1, h2, h3⟩ := hnew
  have ph_p19 : phL g w10 (wl.length + 19) p19 := phN 19 h1 h2 h3 hlen0
  obtain ⟨q9, r9, hq9, -⟩ := id ph_p19
  refine y_astq S hK.1 hP hD hS dX1_init_31 (wl.length) (wl.length + 19) c0 hq9 2 rfl (by decide) (by decide) (fun H locs w11 hs hP hD hS => ?_)
  have ck : w11[k]? = some (a, .inr (1, [.ref p0, .int 0])) := kS 0 ck hs hkl
  have c0 : w11[wl.length]? = some (p0, .inl (xQ g, 4, .inr (.inr (.inr (.inr (va_up (va_up (va_up (fun _ => none) 0 (some p1)) 1 (some p10)) 2 (some p19))))))) := hs.2.1
  have ph_p1 : phL g w11 (wl.length + 1) p1 := phS 1 0 ph_p1 hs (by decide)
  have ph_p10 : phL g w11 (wl.length + 10) p10 := phS 10 0 ph_p10 hs (by decide)
  have ph_p19 : phL g w11 (wl.length + 19) p19 := phS 19 0 ph_p19 hs (by decide)
  have hfr : ∀ i, i < wl.length → i ≠ k → w11[i]? = wl[i]? := fS 0 hfr hs
  have hlen : w11.length = wl.length + 28 := lS hs hlen
  refine lv_iinc (v := 3) (lv' := [(1, .int 3), (0, .ref a)]) S.1 S.2.1 dX1_init_32 hl (k := 0) rfl (by decide) (by decide) rfl (fun ls hl => ?_)
  refine lv_goto (tgt := 14) S.1 S.2.1 dX1_init_35 (by decide) ?_
  refine lv_iload_n S.1 S.2.1 dX1_init_14 rfl (lv_at hl 0 rfl) ?_
  refine lv_iconst (v := 4) S.1 S.2.1 dX1_init_15 (by decide) ?_
  refine lv_icmp_ge (tgt := 38) S.1 S.2.1 dX1_init_16 (by decide) (fun cc => absurd cc (by decide)) (fun cc => ?_)
  refine lv_aload_n S.1 S.2.1 dX1_init_19 rfl (lv_at hl 1 rfl) ?_
  refine y_get S hK.1 hP dX1_init_20 (k) ck (RX1, TX1, 2) rfl (by decide +kernel) 0 (by decide) (by decide +kernel) rfl ?_
  refine lv_iload_n S.1 S.2.1 dX1_init_23 rfl (lv_at hl 0 rfl) ?_
  refine y_new S hK.1 hP hD hS hA dX1_init_24 2 (RX2, TX2, 2) rfl (by decide +kernel) tyX2 tyX2_ok (by decide +kernel) (by decide +kernel) (by decide +kernel) (fs := [.null, .int 0]) (fun j hj => by rcases (show j = 0 ∨ j = 1 by have hj : j < 2 := hj; omega) with rfl | rfl <;> rfl) (Nat.le_of_ble_eq_true rfl) (Nat.le_of_ble_eq_true rfl) (fun p28 H w12 hg hP hD hS => ?_)
  have ck : w12[k]? = some (a, .inr (1, [.ref p0, .int 0])) := kG ck hg hkl hlen
  have c0 : w12[wl.length]? = some (p0, .inl (xQ g, 4, .inr (.inr (.inr (.inr (va_up (va_up (va_up (fun _ => none) 0 (some p1)) 1 (some p10)) 2 (some p19))))))) := cG 0 c0 hg hlen (by decide)
  have ph_p1 : phL g w12 (wl.length + 1) p1 := phG 1 ph_p1 hg hlen (by decide)
  have ph_p10 : phL g w12 (wl.length + 10) p10 := phG 10 ph_p10 hg hlen (by decide)
  have ph_p19 : phL g w12 (wl.length + 19) p19 := phG 19 ph_p19 hg hlen (by decide)
  have hfr : ∀ i, i < wl.length → i ≠ k → w12[i]? = wl[i]? := fG hfr hg hlen
  have c28 : w12[wl.length + 28]? = some (p28, .inr (2, [.null, .int 0])) := nG hg hlen
  have hlen : w12.length = wl.length + 29 := lG hg hlen rfl
  refine lv_dup S.1 S.2.1 dX1_init_27 rfl ?_
  refine y_ci (va_runIN (As := []) (rest := [.ref p28, .int 3, .ref p0]) S (c_X2_init l g w12 _ (wl.length + 28) p28  c28) ⟨va_cnB 0 S.2.2.2.2 gX1_init_X2_init_n17 rfl rfl rfl hK.2.2.2.2.1 (S.2.2.2.2 (.initialized RX2) (by decide +kernel)) (by decide +kernel) ⟨Nat.le_of_ble_eq_true rfl, Nat.le_of_ble_eq_true rfl⟩, rfl, S.2.2.2.2 (.instanceMethod yX2_init) (by decide +kernel)⟩ (y_pre hK hP hD) rfl rfl hl.1 rfl (lv_room (Nat.le_of_ble_eq_true rfl)) dX1_init_28 ⟨Nat.le_of_ble_eq_true rfl, Nat.le_of_ble_eq_true rfl⟩) hD hS hA (fun w13 H locs hu hP hD hS => ?_)
  obtain ⟨ho, hnew⟩ := hu
  have ck : w13[k]? = some (a, .inr (1, [.ref p0, .int 0])) := kO 28 ck ho hkl hlen
  have c0 : w13[wl.length]? = some (p0, .inl (xQ g, 4, .inr (.inr (.inr (.inr (va_up (va_up (va_up (fun _ => none) 0 (some p1)) 1 (some p10)) 2 (some p19))))))) := cO 0 28 c0 ho hlen (by decide) (by decide)
  have ph_p1 : phL g w13 (wl.length + 1) p1 := phO 1 28 ph_p1 ho hlen (by decide) (by decide)
  have ph_p10 : phL g w13 (wl.length + 10) p10 := phO 10 28 ph_p10 ho hlen (by decide) (by decide)
  have ph_p19 : phL g w13 (wl.length + 19) p19 := phO 19 28 ph_p19 ho hlen (by decide) (by decide)
  have hfr : ∀ i, i < wl.length → i ≠ k → w13[i]? = wl[i]? := fO 28 hfr ho hlen
  have hlen0 := hlen
  have hlen : w13.length = wl.length + 37 := lO ho hlen rfl
  obtain ⟨q9, r9, h1, h2, h3⟩ := hnew
  have ph_p28 : phL g w13 (wl.length + 28) p28 := phN 28 h1 h2 h3 hlen0
  obtain ⟨q9, r9, hq9, -⟩ := id ph_p28
  refine y_astq S hK.1 hP hD hS dX1_init_31 (wl.length) (wl.length + 28) c0 hq9 3 rfl (by decide) (by decide) (fun H locs w14 hs hP hD hS => ?_)
  have ck : w14[k]? = some (a, .inr (1, [.ref p0, .int 0])) := kS 0 ck hs hkl
  have c0 : w14[wl.length]? = some (p0, .inl (xQ g, 4, .inr (.inr (.inr (.inr (va_up (va_up (va_up (va_up (fun _ => none) 0 (some p1)) 1 (some p10)) 2 (some p19)) 3 (some p28))))))) := hs.2.1
  have ph_p1 : phL g w14 (wl.length + 1) p1 := phS 1 0 ph_p1 hs (by decide)
  have ph_p10 : phL g w14 (wl.length + 10) p10 := phS 10 0 ph_p10 hs (by decide)
  have ph_p19 : phL g w14 (wl.length + 19) p19 := phS 19 0 ph_p19 hs (by decide)
  have ph_p28 : phL g w14 (wl.length + 28) p28 := phS 28 0 ph_p28 hs (by decide)
  have hfr : ∀ i, i < wl.length → i ≠ k → w14[i]? = wl[i]? := fS 0 hfr hs
  have hlen : w14.length = wl.length + 37 := lS hs hlen
  refine lv_iinc (v := 4) (lv' := [(1, .int 4), (0, .ref a)]) S.1 S.2.1 dX1_init_32 hl (k := 0) rfl (by decide) (by decide) rfl (fun ls hl => ?_)
  refine lv_goto (tgt := 14) S.1 S.2.1 dX1_init_35 (by decide) ?_
  refine lv_iload_n S.1 S.2.1 dX1_init_14 rfl (lv_at hl 0 rfl) ?_
  refine lv_iconst (v := 4) S.1 S.2.1 dX1_init_15 (by decide) ?_
  refine lv_icmp_ge (tgt := 38) S.1 S.2.1 dX1_init_16 (by decide) (fun cc => ?_) (fun cc => absurd (by decide) cc)
  exact y_vret S hr hlocks hP hD hS dX1_init_38 ⟨⟨hlen, hfr⟩, ⟨_, _, ck, c0, fun i hi => by have h4 : i = 0 ∨ i = 1 ∨ i = 2 ∨ i = 3 := (by omega); rcases h4 with rfl | rfl | rfl | rfl; exact ⟨_, rfl, ph_p1⟩; exact ⟨_, rfl, ph_p10⟩; exact ⟨_, rfl, ph_p19⟩; exact ⟨_, rfl, ph_p28⟩⟩⟩
