set_option maxHeartbeats 4000000 in
set_option maxRecDepth 100000 in
theorem c_X7_init (l : Launch) (g : xG) (wl : va_W) (sz k a : Nat) (hk0 : wl[k]? = some (a, .inr (7, [.null, .null, .int 0, .null, .int 0, .null, .int 0, .null, .null, .null, .int 0, .int 0, .int 0, .int 0, .int 0, .null, .int 0, .int 0, .null]))) : Met l yX7_init wsX7_init ({ frames := 1, cells := 9, slots := 526, locals := 13 }) (yPc g [.ref a] sz wl) (yQ g sz wl (fun u => yO wl u 9 k ∧ ∃ (q0 q1 q2 q3 q4 q5 q6 q7 q8 : Nat), u[k]? = some (a, .inr (7, [.ref q0, .ref q1, .int 0, .ref q2, .int 0, .ref q3, .int 0, .ref q4, .ref q5, .ref q6, .int 0, .int 0, .int 0, .int 0, .int 0, .ref q7, .int 0, .int 0, .ref q8])) ∧ u[wl.length]? = some (q0, .inl (xI g, 71, .inl (fun _ => 0))) ∧ u[wl.length + 1]? = some (q1, .inl (xI g, 284, .inl (fun _ => 0))) ∧ u[wl.length + 2]? = some (q2, .inl (xI g, 71, .inl (fun _ => 0))) ∧ u[wl.length + 3]? = some (q3, .inl (xI g, 3, .inl (fun _ => 0))) ∧ u[wl.length + 4]? = some (q4, .inl (xI g, 11, .inl (fun _ => 0))) ∧ u[wl.length + 5]? = some (q5, .inl (xI g, 10, .inl (fun _ => 0))) ∧ u[wl.length + 6]? = some (q6, .inl (xI g, 10, .inl (fun _ => 0))) ∧ u[wl.length + 7]? = some (q7, .inl (xC g, 60, .inl (fun _ => 0))) ∧ u[wl.length + 8]? = some (q8, .inl (xI g, 6, .inl (fun _ => 0))))) 9 526 (va_A wl sz) := by
  refine y_met (ws' := _) (by decide) rfl (Nat.le_of_ble_eq_true rfl) ?_
  intro pz ez s m below meth cz ls S hr hlocks hin2 hsz hP hK hD0 hl
  have hl : lv_has ls 1 [(0, .ref a)] := hl
  subst hsz
  have hD := hD0.self (sz := s.heap.size)
  have hA : ∀ q, s.heap.size ≤ q → va_A wl s.heap.size q := fun q h => Or.inr h
  have hS : va_S (va_A wl s.heap.size) s.heap s.heap [] := va_S.rf
  have hkl := (List.getElem?_eq_some_iff.mp hk0).1
  have ck := hk0
  have hfr : ∀ i, i < wl.length → i ≠ k → wl[i]? = wl[i]? := fun _ _ _ => rfl
  have hlen : wl.length = wl.length + 0 := rfl
  refine lv_aload_n S.1 S.2.1 dX7_init_0 rfl (lv_at hl 0 rfl) ?_
  refine y_obj S hl.1 dX7_init_1 (by decide +kernel) (by decide +kernel) (by decide +kernel) (Nat.le_of_ble_eq_true rfl) (Nat.le_of_ble_eq_true rfl) ?_
  refine lv_aload_n S.1 S.2.1 dX7_init_4 rfl (lv_at hl 0 rfl) ?_
  refine lv_bipush (v := 71) S.1 S.2.1 dX7_init_5 (by decide) ?_
  refine y_newi S hK.1 hP hD hS hA dX7_init_7 (by decide +kernel) 71 rfl (by decide) (Nat.le_of_ble_eq_true rfl) (Nat.le_of_ble_eq_true rfl) (fun p0 H w1 hg hP hD hS => ?_)
  have ck : w1[k]? = some (a, .inr (7, [.null, .null, .int 0, .null, .int 0, .null, .int 0, .null, .null, .null, .int 0, .int 0, .int 0, .int 0, .int 0, .null, .int 0, .int 0, .null])) := kG ck hg hkl hlen
  have hfr : ∀ i, i < wl.length → i ≠ k → w1[i]? = wl[i]? := fG hfr hg hlen
  have c0 : w1[wl.length]? = some (p0, .inl (xI g, 71, .inl (fun _ => 0))) := nG hg hlen
  have hlen : w1.length = wl.length + 1 := lG hg hlen rfl
  refine y_putF S hin2 hK.1 hP hD hS dX7_init_9 (k) ck (RX7, TX7, 19) rfl (by decide +kernel) tyX7 tyX7_ok nmX7 0 (by decide) (by decide +kernel) rfl rfl rfl rfl (Nat.le_of_ble_eq_true rfl) (fun H locs w2 hs hP hD hS => ?_)
  have ck : w2[k]? = some (a, .inr (7, [.ref p0, .null, .int 0, .null, .int 0, .null, .int 0, .null, .null, .null, .int 0, .int 0, .int 0, .int 0, .int 0, .null, .int 0, .int 0, .null])) := hs.2.1
  have c0 : w2[wl.length]? = some (p0, .inl (xI g, 71, .inl (fun _ => 0))) := cK 0 c0 hs hkl
  have hfr : ∀ i, i < wl.length → i ≠ k → w2[i]? = wl[i]? := fK hfr hs
  have hlen : w2.length = wl.length + 1 := lS hs hlen
  refine lv_aload_n S.1 S.2.1 dX7_init_12 rfl (lv_at hl 0 rfl) ?_
  refine lv_sipush (v := 284) S.1 S.2.1 dX7_init_13 (by decide) ?_
  refine y_newi S hK.1 hP hD hS hA dX7_init_16 (by decide +kernel) 284 rfl (by decide) (Nat.le_of_ble_eq_true rfl) (Nat.le_of_ble_eq_true rfl) (fun p1 H w3 hg hP hD hS => ?_)
  have ck : w3[k]? = some (a, .inr (7, [.ref p0, .null, .int 0, .null, .int 0, .null, .int 0, .null, .null, .null, .int 0, .int 0, .int 0, .int 0, .int 0, .null, .int 0, .int 0, .null])) := kG ck hg hkl hlen
  have c0 : w3[wl.length]? = some (p0, .inl (xI g, 71, .inl (fun _ => 0))) := cG 0 c0 hg hlen (by decide)
  have hfr : ∀ i, i < wl.length → i ≠ k → w3[i]? = wl[i]? := fG hfr hg hlen
  have c1 : w3[wl.length + 1]? = some (p1, .inl (xI g, 284, .inl (fun _ => 0))) := nG hg hlen
  have hlen : w3.length = wl.length + 2 := lG hg hlen rfl
  refine y_putF S hin2 hK.1 hP hD hS dX7_init_18 (k) ck (RX7, TX7, 19) rfl (by decide +kernel) tyX7 tyX7_ok nmX7 1 (by decide) (by decide +kernel) rfl rfl rfl rfl (Nat.le_of_ble_eq_true rfl) (fun H locs w4 hs hP hD hS => ?_)
  have ck : w4[k]? = some (a, .inr (7, [.ref p0, .ref p1, .int 0, .null, .int 0, .null, .int 0, .null, .null, .null, .int 0, .int 0, .int 0, .int 0, .int 0, .null, .int 0, .int 0, .null])) := hs.2.1
  have c0 : w4[wl.length]? = some (p0, .inl (xI g, 71, .inl (fun _ => 0))) := cK 0 c0 hs hkl
  have c1 : w4[wl.length + 1]? = some (p1, .inl (xI g, 284, .inl (fun _ => 0))) := cK 1 c1 hs hkl
  have hfr : ∀ i, i < wl.length → i ≠ k → w4[i]? = wl[i]? := fK hfr hs
  have hlen : w4.length = wl.length + 2 := lS hs hlen
  refine lv_aload_n S.1 S.2.1 dX7_init_21 rfl (lv_at hl 0 rfl) ?_
  refine lv_bipush (v := 71) S.1 S.2.1 dX7_init_22 (by decide) ?_
  refine y_newi S hK.1 hP hD hS hA dX7_init_24 (by decide +kernel) 71 rfl (by decide) (Nat.le_of_ble_eq_true rfl) (Nat.le_of_ble_eq_true rfl) (fun p2 H w5 hg hP hD hS => ?_)
  have ck : w5[k]? = some (a, .inr (7, [.ref p0, .ref p1, .int 0, .null, .int 0, .null, .int 0, .null, .null, .null, .int 0, .int 0, .int 0, .int 0, .int 0, .null, .int 0, .int 0, .null])) := kG ck hg hkl hlen
  have c0 : w5[wl.length]? = some (p0, .inl (xI g, 71, .inl (fun _ => 0))) := cG 0 c0 hg hlen (by decide)
  have c1 : w5[wl.length + 1]? = some (p1, .inl (xI g, 284, .inl (fun _ => 0))) := cG 1 c1 hg hlen (by decide)
  have hfr : ∀ i, i < wl.length → i ≠ k → w5[i]? = wl[i]? := fG hfr hg hlen
  have c2 : w5[wl.length + 2]? = some (p2, .inl (xI g, 71, .inl (fun _ => 0))) := nG hg hlen
  have hlen : w5.length = wl.length + 3 := lG hg hlen rfl
  refine y_putF S hin2 hK.1 hP hD hS dX7_init_26 (k) ck (RX7, TX7, 19) rfl (by decide +kernel) tyX7 tyX7_ok nmX7 3 (by decide) (by decide +kernel) rfl rfl rfl rfl (Nat.le_of_ble_eq_true rfl) (fun H locs w6 hs hP hD hS => ?_)
  have ck : w6[k]? = some (a, .inr (7, [.ref p0, .ref p1, .int 0, .ref p2, .int 0, .null, .int 0, .null, .null, .null, .int 0, .int 0, .int 0, .int 0, .int 0, .null, .int 0, .int 0, .null])) := hs.2.1
  have c0 : w6[wl.length]? = some (p0, .inl (xI g, 71, .inl (fun _ => 0))) := cK 0 c0 hs hkl
  have c1 : w6[wl.length + 1]? = some (p1, .inl (xI g, 284, .inl (fun _ => 0))) := cK 1 c1 hs hkl
  have c2 : w6[wl.length + 2]? = some (p2, .inl (xI g, 71, .inl (fun _ => 0))) := cK 2 c2 hs hkl
  have hfr : ∀ i, i < wl.length → i ≠ k → w6[i]? = wl[i]? := fK hfr hs
  have hlen : w6.length = wl.length + 3 := lS hs hlen
  refine lv_aload_n S.1 S.2.1 dX7_init_29 rfl (lv_at hl 0 rfl) ?_
  refine lv_iconst (v := 3) S.1 S.2.1 dX7_init_30 (by decide) ?_
  refine y_newi S hK.1 hP hD hS hA dX7_init_31 (by decide +kernel) 3 rfl (by decide) (Nat.le_of_ble_eq_true rfl) (Nat.le_of_ble_eq_true rfl) (fun p3 H w7 hg hP hD hS => ?_)
  have ck : w7[k]? = some (a, .inr (7, [.ref p0, .ref p1, .int 0, .ref p2, .int 0, .null, .int 0, .null, .null, .null, .int 0, .int 0, .int 0, .int 0, .int 0, .null, .int 0, .int 0, .null])) := kG ck hg hkl hlen
  have c0 : w7[wl.length]? = some (p0, .inl (xI g, 71, .inl (fun _ => 0))) := cG 0 c0 hg hlen (by decide)
  have c1 : w7[wl.length + 1]? = some (p1, .inl (xI g, 284, .inl (fun _ => 0))) := cG 1 c1 hg hlen (by decide)
  have c2 : w7[wl.length + 2]? = some (p2, .inl (xI g, 71, .inl (fun _ => 0))) := cG 2 c2 hg hlen (by decide)
  have hfr : ∀ i, i < wl.length → i ≠ k → w7[i]? = wl[i]? := fG hfr hg hlen
  have c3 : w7[wl.length + 3]? = some (p3, .inl (xI g, 3, .inl (fun _ => 0))) := nG hg hlen
  have hlen : w7.length = wl.length + 4 := lG hg hlen rfl
  refine y_putF S hin2 hK.1 hP hD hS dX7_init_33 (k) ck (RX7, TX7, 19) rfl (by decide +kernel) tyX7 tyX7_ok nmX7 5 (by decide) (by decide +kernel) rfl rfl rfl rfl (Nat.le_of_ble_eq_true rfl) (fun H locs w8 hs hP hD hS => ?_)
  have ck : w8[k]? = some (a, .inr (7, [.ref p0, .ref p1, .int 0, .ref p2, .int 0, .ref p3, .int 0, .null, .null, .null, .int 0, .int 0, .int 0, .int 0, .int 0, .null, .int 0, .int 0, .null])) := hs.2.1
  have c0 : w8[wl.length]? = some (p0, .inl (xI g, 71, .inl (fun _ => 0))) := cK 0 c0 hs hkl
  have c1 : w8[wl.length + 1]? = some (p1, .inl (xI g, 284, .inl (fun _ => 0))) := cK 1 c1 hs hkl
  have c2 : w8[wl.length + 2]? = some (p2, .inl (xI g, 71, .inl (fun _ => 0))) := cK 2 c2 hs hkl
  have c3 : w8[wl.length + 3]? = some (p3, .inl (xI g, 3, .inl (fun _ => 0))) := cK 3 c3 hs hkl
  have hfr : ∀ i, i < wl.length → i ≠ k → w8[i]? = wl[i]? := fK hfr hs
  have hlen : w8.length = wl.length + 4 := lS hs hlen
  refine lv_aload_n S.1 S.2.1 dX7_init_36 rfl (lv_at hl 0 rfl) ?_
  refine lv_bipush (v := 11) S.1 S.2.1 dX7_init_37 (by decide) ?_
  refine y_newi S hK.1 hP hD hS hA dX7_init_39 (by decide +kernel) 11 rfl (by decide) (Nat.le_of_ble_eq_true rfl) (Nat.le_of_ble_eq_true rfl) (fun p4 H w9 hg hP hD hS => ?_)
  have ck : w9[k]? = some (a, .inr (7, [.ref p0, .ref p1, .int 0, .ref p2, .int 0, .ref p3, .int 0, .null, .null, .null, .int 0, .int 0, .int 0, .int 0, .int 0, .null, .int 0, .int 0, .null])) := kG ck hg hkl hlen
  have c0 : w9[wl.length]? = some (p0, .inl (xI g, 71, .inl (fun _ => 0))) := cG 0 c0 hg hlen (by decide)
  have c1 : w9[wl.length + 1]? = some (p1, .inl (xI g, 284, .inl (fun _ => 0))) := cG 1 c1 hg hlen (by decide)
  have c2 : w9[wl.length + 2]? = some (p2, .inl (xI g, 71, .inl (fun _ => 0))) := cG 2 c2 hg hlen (by decide)
  have c3 : w9[wl.length + 3]? = some (p3, .inl (xI g, 3, .inl (fun _ => 0))) := cG 3 c3 hg hlen (by decide)
  have hfr : ∀ i, i < wl.length → i ≠ k → w9[i]? = wl[i]? := fG hfr hg hlen
  have c4 : w9[wl.length + 4]? = some (p4, .inl (xI g, 11, .inl (fun _ => 0))) := nG hg hlen
  have hlen : w9.length = wl.length + 5 := lG hg hlen rfl
  refine y_putF S hin2 hK.1 hP hD hS dX7_init_41 (k) ck (RX7, TX7, 19) rfl (by decide +kernel) tyX7 tyX7_ok nmX7 7 (by decide) (by decide +kernel) rfl rfl rfl rfl (Nat.le_of_ble_eq_true rfl) (fun H locs w10 hs hP hD hS => ?_)
  have ck : w10[k]? = some (a, .inr (7, [.ref p0, .ref p1, .int 0, .ref p2, .int 0, .ref p3, .int 0, .ref p4, .null, .null, .int 0, .int 0, .int 0, .int 0, .int 0, .null, .int 0, .int 0, .null])) := hs.2.1
  have c0 : w10[wl.length]? = some (p0, .inl (xI g, 71, .inl (fun _ => 0))) := cK 0 c0 hs hkl
  have c1 : w10[wl.length + 1]? = some (p1, .inl (xI g, 284, .inl (fun _ => 0))) := cK 1 c1 hs hkl
  have c2 : w10[wl.length + 2]? = some (p2, .inl (xI g, 71, .inl (fun _ => 0))) := cK 2 c2 hs hkl
  have c3 : w10[wl.length + 3]? = some (p3, .inl (xI g, 3, .inl (fun _ => 0))) := cK 3 c3 hs hkl
  have c4 : w10[wl.length + 4]? = some (p4, .inl (xI g, 11, .inl (fun _ => 0))) := cK 4 c4 hs hkl
  have hfr : ∀ i, i < wl.length → i ≠ k → w10[i]? = wl[i]? := fK hfr hs
  have hlen : w10.length = wl.length + 5 := lS hs hlen
  refine lv_aload_n S.1 S.2.1 dX7_init_44 rfl (lv_at hl 0 rfl) ?_
  refine lv_bipush (v := 10) S.1 S.2.1 dX7_init_45 (by decide) ?_
  refine y_newi S hK.1 hP hD hS hA dX7_init_47 (by decide +kernel) 10 rfl (by decide) (Nat.le_of_ble_eq_true rfl) (Nat.le_of_ble_eq_true rfl) (fun p5 H w11 hg hP hD hS => ?_)
  have ck : w11[k]? = some (a, .inr (7, [.ref p0, .ref p1, .int 0, .ref p2, .int 0, .ref p3, .int 0, .ref p4, .null, .null, .int 0, .int 0, .int 0, .int 0, .int 0, .null, .int 0, .int 0, .null])) := kG ck hg hkl hlen
  have c0 : w11[wl.length]? = some (p0, .inl (xI g, 71, .inl (fun _ => 0))) := cG 0 c0 hg hlen (by decide)
  have c1 : w11[wl.length + 1]? = some (p1, .inl (xI g, 284, .inl (fun _ => 0))) := cG 1 c1 hg hlen (by decide)
  have c2 : w11[wl.length + 2]? = some (p2, .inl (xI g, 71, .inl (fun _ => 0))) := cG 2 c2 hg hlen (by decide)
  have c3 : w11[wl.length + 3]? = some (p3, .inl (xI g, 3, .inl (fun _ => 0))) := cG 3 c3 hg hlen (by decide)
  have c4 : w11[wl.length + 4]? = some (p4, .inl (xI g, 11, .inl (fun _ => 0))) := cG 4 c4 hg hlen (by decide)
  have hfr : ∀ i, i < wl.length → i ≠ k → w11[i]? = wl[i]? := fG hfr hg hlen
  have c5 : w11[wl.length + 5]? = some (p5, .inl (xI g, 10, .inl (fun _ => 0))) := nG hg hlen
  have hlen : w11.length = wl.length + 6 := lG hg hlen rfl
  refine y_putF S hin2 hK.1 hP hD hS dX7_init_49 (k) ck (RX7, TX7, 19) rfl (by decide +kernel) tyX7 tyX7_ok nmX7 8 (by decide) (by decide +kernel) rfl rfl rfl rfl (Nat.le_of_ble_eq_true rfl) (fun H locs w12 hs hP hD hS => ?_)
  have ck : w12[k]? = some (a, .inr (7, [.ref p0, .ref p1, .int 0, .ref p2, .int 0, .ref p3, .int 0, .ref p4, .ref p5, .null, .int 0, .int 0, .int 0, .int 0, .int 0, .null, .int 0, .int 0, .null])) := hs.2.1
  have c0 : w12[wl.length]? = some (p0, .inl (xI g, 71, .inl (fun _ => 0))) := cK 0 c0 hs hkl
  have c1 : w12[wl.length + 1]? = some (p1, .inl (xI g, 284, .inl (fun _ => 0))) := cK 1 c1 hs hkl
  have c2 : w12[wl.length + 2]? = some (p2, .inl (xI g, 71, .inl (fun _ => 0))) := cK 2 c2 hs hkl
  have c3 : w12[wl.length + 3]? = some (p3, .inl (xI g, 3, .inl (fun _ => 0))) := cK 3 c3 hs hkl
  have c4 : w12[wl.length + 4]? = some (p4, .inl (xI g, 11, .inl (fun _ => 0))) := cK 4 c4 hs hkl
  have c5 : w12[wl.length + 5]? = some (p5, .inl (xI g, 10, .inl (fun _ => 0))) := cK 5 c5 hs hkl
  have hfr : ∀ i, i < wl.length → i ≠ k → w12[i]? = wl[i]? := fK hfr hs
  have hlen : w12.length = wl.length + 6 := lS hs hlen
  refine lv_aload_n S.1 S.2.1 dX7_init_52 rfl (lv_at hl 0 rfl) ?_
  refine lv_bipush (v := 10) S.1 S.2.1 dX7_init_53 (by decide) ?_
  refine y_newi S hK.1 hP hD hS hA dX7_init_55 (by decide +kernel) 10 rfl (by decide) (Nat.le_of_ble_eq_true rfl) (Nat.le_of_ble_eq_true rfl) (fun p6 H w13 hg hP hD hS => ?_)
  have ck : w13[k]? = some (a, .inr (7, [.ref p0, .ref p1, .int 0, .ref p2, .int 0, .ref p3, .int 0, .ref p4, .ref p5, .null, .int 0, .int 0, .int 0, .int 0, .int 0, .null, .int 0, .int 0, .null])) := kG ck hg hkl hlen
  have c0 : w13[wl.length]? = some (p0, .inl (xI g, 71, .inl (fun _ => 0))) := cG 0 c0 hg hlen (by decide)
  have c1 : w13[wl.length + 1]? = some (p1, .inl (xI g, 284, .inl (fun _ => 0))) := cG 1 c1 hg hlen (by decide)
  have c2 : w13[wl.length + 2]? = some (p2, .inl (xI g, 71, .inl (fun _ => 0))) := cG 2 c2 hg hlen (by decide)
  have c3 : w13[wl.length + 3]? = some (p3, .inl (xI g, 3, .inl (fun _ => 0))) := cG 3 c3 hg hlen (by decide)
  have c4 : w13[wl.length + 4]? = some (p4, .inl (xI g, 11, .inl (fun _ => 0))) := cG 4 c4 hg hlen (by decide)
  have c5 : w13[wl.length + 5]? = some (p5, .inl (xI g, 10, .inl (fun _ => 0))) := cG 5 c5 hg hlen (by decide)
  have hfr : ∀ i, i < wl.length → i ≠ k → w13[i]? = wl[i]? := fG hfr hg hlen
  have c6 : w13[wl.length + 6]? = some (p6, .inl (xI g, 10, .inl (fun _ => 0))) := nG hg hlen
  have hlen : w13.length = wl.length + 7 := lG hg hlen rfl
  refine y_putF S hin2 hK.1 hP hD hS dX7_init_57 (k) ck (RX7, TX7, 19) rfl (by decide +kernel) tyX7 tyX7_ok nmX7 9 (by decide) (by decide +kernel) rfl rfl rfl rfl (Nat.le_of_ble_eq_true rfl) (fun H locs w14 hs hP hD hS => ?_)
  have ck : w14[k]? = some (a, .inr (7, [.ref p0, .ref p1, .int 0, .ref p2, .int 0, .ref p3, .int 0, .ref p4, .ref p5, .ref p6, .int 0, .int 0, .int 0, .int 0, .int 0, .null, .int 0, .int 0, .null])) := hs.2.1
  have c0 : w14[wl.length]? = some (p0, .inl (xI g, 71, .inl (fun _ => 0))) := cK 0 c0 hs hkl
  have c1 : w14[wl.length + 1]? = some (p1, .inl (xI g, 284, .inl (fun _ => 0))) := cK 1 c1 hs hkl
  have c2 : w14[wl.length + 2]? = some (p2, .inl (xI g, 71, .inl (fun _ => 0))) := cK 2 c2 hs hkl
  have c3 : w14[wl.length + 3]? = some (p3, .inl (xI g, 3, .inl (fun _ => 0))) := cK 3 c3 hs hkl
  have c4 : w14[wl.length + 4]? = some (p4, .inl (xI g, 11, .inl (fun _ => 0))) := cK 4 c4 hs hkl
  have c5 : w14[wl.length + 5]? = some (p5, .inl (xI g, 10, .inl (fun _ => 0))) := cK 5 c5 hs hkl
  have c6 : w14[wl.length + 6]? = some (p6, .inl (xI g, 10, .inl (fun _ => 0))) := cK 6 c6 hs hkl
  have hfr : ∀ i, i < wl.length → i ≠ k → w14[i]? = wl[i]? := fK hfr hs
  have hlen : w14.length = wl.length + 7 := lS hs hlen
  refine lv_aload_n S.1 S.2.1 dX7_init_60 rfl (lv_at hl 0 rfl) ?_
  refine lv_bipush (v := 60) S.1 S.2.1 dX7_init_61 (by decide) ?_
  refine y_newc S hK.1 hP hD hS hA dX7_init_63 (by decide +kernel) 60 rfl (by decide) (Nat.le_of_ble_eq_true rfl) (Nat.le_of_ble_eq_true rfl) (fun p7 H w15 hg hP hD hS => ?_)
  have ck : w15[k]? = some (a, .inr (7, [.ref p0, .ref p1, .int 0, .ref p2, .int 0, .ref p3, .int 0, .ref p4, .ref p5, .ref p6, .int 0, .int 0, .int 0, .int 0, .int 0, .null, .int 0, .int 0, .null])) := kG ck hg hkl hlen
  have c0 : w15[wl.length]? = some (p0, .inl (xI g, 71, .inl (fun _ => 0))) := cG 0 c0 hg hlen (by decide)
  have c1 : w15[wl.length + 1]? = some (p1, .inl (xI g, 284, .inl (fun _ => 0))) := cG 1 c1 hg hlen (by decide)
  have c2 : w15[wl.length + 2]? = some (p2, .inl (xI g, 71, .inl (fun _ => 0))) := cG 2 c2 hg hlen (by decide)
  have c3 : w15[wl.length + 3]? = some (p3, .inl (xI g, 3, .inl (fun _ => 0))) := cG 3 c3 hg hlen (by decide)
  have c4 : w15[wl.length + 4]? = some (p4, .inl (xI g, 11, .inl (fun _ => 0))) := cG 4 c4 hg hlen (by decide)
  have c5 : w15[wl.length + 5]? = some (p5, .inl (xI g, 10, .inl (fun _ => 0))) := cG 5 c5 hg hlen (by decide)
  have c6 : w15[wl.length + 6]? = some (p6, .inl (xI g, 10, .inl (fun _ => 0))) := cG 6 c6 hg hlen (by decide)
  have hfr : ∀ i, i < wl.length → i ≠ k → w15[i]? = wl[i]? := fG hfr hg hlen
  have c7 : w15[wl.length + 7]? = some (p7, .inl (xC g, 60, .inl (fun _ => 0))) := nG hg hlen
  have hlen : w15.length = wl.length + 8 := lG hg hlen rfl
  refine y_putF S hin2 hK.1 hP hD hS dX7_init_65 (k) ck (RX7, TX7, 19) rfl (by decide +kernel) tyX7 tyX7_ok nmX7 15 (by decide) (by decide +kernel) rfl rfl rfl rfl (Nat.le_of_ble_eq_true rfl) (fun H locs w16 hs hP hD hS => ?_)
  have ck : w16[k]? = some (a, .inr (7, [.ref p0, .ref p1, .int 0, .ref p2, .int 0, .ref p3, .int 0, .ref p4, .ref p5, .ref p6, .int 0, .int 0, .int 0, .int 0, .int 0, .ref p7, .int 0, .int 0, .null])) := hs.2.1
  have c0 : w16[wl.length]? = some (p0, .inl (xI g, 71, .inl (fun _ => 0))) := cK 0 c0 hs hkl
  have c1 : w16[wl.length + 1]? = some (p1, .inl (xI g, 284, .inl (fun _ => 0))) := cK 1 c1 hs hkl
  have c2 : w16[wl.length + 2]? = some (p2, .inl (xI g, 71, .inl (fun _ => 0))) := cK 2 c2 hs hkl
  have c3 : w16[wl.length + 3]? = some (p3, .inl (xI g, 3, .inl (fun _ => 0))) := cK 3 c3 hs hkl
  have c4 : w16[wl.length + 4]? = some (p4, .inl (xI g, 11, .inl (fun _ => 0))) := cK 4 c4 hs hkl
  have c5 : w16[wl.length + 5]? = some (p5, .inl (xI g, 10, .inl (fun _ => 0))) := cK 5 c5 hs hkl
  have c6 : w16[wl.length + 6]? = some (p6, .inl (xI g, 10, .inl (fun _ => 0))) := cK 6 c6 hs hkl
  have c7 : w16[wl.length + 7]? = some (p7, .inl (xC g, 60, .inl (fun _ => 0))) := cK 7 c7 hs hkl
  have hfr : ∀ i, i < wl.length → i ≠ k → w16[i]? = wl[i]? := fK hfr hs
  have hlen : w16.length = wl.length + 8 := lS hs hlen
  refine lv_aload_n S.1 S.2.1 dX7_init_68 rfl (lv_at hl 0 rfl) ?_
  refine lv_bipush (v := 6) S.1 S.2.1 dX7_init_69 (by decide) ?_
  refine y_newi S hK.1 hP hD hS hA dX7_init_71 (by decide +kernel) 6 rfl (by decide) (Nat.le_of_ble_eq_true rfl) (Nat.le_of_ble_eq_true rfl) (fun p8 H w17 hg hP hD hS => ?_)
  have ck : w17[k]? = some (a, .inr (7, [.ref p0, .ref p1, .int 0, .ref p2, .int 0, .ref p3, .int 0, .ref p4, .ref p5, .ref p6, .int 0, .int 0, .int 0, .int 0, .int 0, .ref p7, .int 0, .int 0, .null])) := kG ck hg hkl hlen
  have c0 : w17[wl.length]? = some (p0, .inl (xI g, 71, .inl (fun _ => 0))) := cG 0 c0 hg hlen (by decide)
  have c1 : w17[wl.length + 1]? = some (p1, .inl (xI g, 284, .inl (fun _ => 0))) := cG 1 c1 hg hlen (by decide)
  have c2 : w17[wl.length + 2]? = some (p2, .inl (xI g, 71, .inl (fun _ => 0))) := cG 2 c2 hg hlen (by decide)
  have c3 : w17[wl.length + 3]? = some (p3, .inl (xI g, 3, .inl (fun _ => 0))) := cG 3 c3 hg hlen (by decide)
  have c4 : w17[wl.length + 4]? = some (p4, .inl (xI g, 11, .inl (fun _ => 0))) := cG 4 c4 hg hlen (by decide)
  have c5 : w17[wl.length + 5]? = some (p5, .inl (xI g, 10, .inl (fun _ => 0))) := cG 5 c5 hg hlen (by decide)
  have c6 : w17[wl.length + 6]? = some (p6, .inl (xI g, 10, .inl (fun _ => 0))) := cG 6 c6 hg hlen (by decide)
  have c7 : w17[wl.length + 7]? = some (p7, .inl (xC g, 60, .inl (fun _ => 0))) := cG 7 c7 hg hlen (by decide)
  have hfr : ∀ i, i < wl.length → i ≠ k → w17[i]? = wl[i]? := fG hfr hg hlen
  have c8 : w17[wl.length + 8]? = some (p8, .inl (xI g, 6, .inl (fun _ => 0))) := nG hg hlen
  have hlen : w17.length = wl.length + 9 := lG hg hlen rfl
  refine y_putF S hin2 hK.1 hP hD hS dX7_init_73 (k) ck (RX7, TX7, 19) rfl (by decide +kernel) tyX7 tyX7_ok nmX7 18 (by decide) (by decide +kernel) rfl rfl rfl rfl (Nat.le_of_ble_eq_true rfl) (fun H locs w18 hs hP hD hS => ?_)
  have ck : w18[k]? = some (a, .inr (7, [.ref p0, .ref p1, .int 0, .ref p2, .int 0, .ref p3, .int 0, .ref p4, .ref p5, .ref p6, .int 0, .int 0, .int 0, .int 0, .int 0, .ref p7, .int 0, .int 0, .ref p8])) := hs.2.1
  have c0 : w18[wl.length]? = some (p0, .inl (xI g, 71, .inl (fun _ => 0))) := cK 0 c0 hs hkl
  have c1 : w18[wl.length + 1]? = some (p1, .inl (xI g, 284, .inl (fun _ => 0))) := cK 1 c1 hs hkl
  have c2 : w18[wl.length + 2]? = some (p2, .inl (xI g, 71, .inl (fun _ => 0))) := cK 2 c2 hs hkl
  have c3 : w18[wl.length + 3]? = some (p3, .inl (xI g, 3, .inl (fun _ => 0))) := cK 3 c3 hs hkl
  have c4 : w18[wl.length + 4]? = some (p4, .inl (xI g, 11, .inl (fun _ => 0))) := cK 4 c4 hs hkl
  have c5 : w18[wl.length + 5]? = some (p5, .inl (xI g, 10, .inl (fun _ => 0))) := cK 5 c5 hs hkl
  have c6 : w18[wl.length + 6]? = some (p6, .inl (xI g, 10, .inl (fun _ => 0))) := cK 6 c6 hs hkl
  have c7 : w18[wl.length + 7]? = some (p7, .inl (xC g, 60, .inl (fun _ => 0))) := cK 7 c7 hs hkl
  have c8 : w18[wl.length + 8]? = some (p8, .inl (xI g, 6, .inl (fun _ => 0))) := cK 8 c8 hs hkl
  have hfr : ∀ i, i < wl.length → i ≠ k → w18[i]? = wl[i]? := fK hfr hs
  have hlen : w18.length = wl.length + 9 := lS hs hlen
  exact y_vret S hr hlocks hP hD hS dX7_init_76 ⟨⟨hlen, hfr⟩, ⟨_, _, _, _, _, _, _, _, _, ck, c0, c1, c2, c3, c4, c5, c6, c7, c8⟩⟩
