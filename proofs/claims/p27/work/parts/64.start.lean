set_option maxHeartbeats 4000000 in
set_option maxRecDepth 100000 in
/-- the classes that the tables know, the arrays' classes, the links out of a nest -/
theorem z_known {s : State} {b : Nat} (hts : ∀ w ∈ lw_tbl, w.before #[Value.ref b] s = true) : ∃ g : xG, yK g s := by
  obtain ⟨k0, i0, h0⟩ := u_known (C := RX0) (T := TX0) (N := 4) (n := 4) hts inX0 (hts (.instantiable RX0 4) (by decide +kernel))
  obtain ⟨k1, i1, h1⟩ := u_known (C := RX1) (T := TX1) (N := 2) (n := 2) hts inX1 (hts (.instantiable RX1 2) (by decide +kernel))
  obtain ⟨k2, i2, h2⟩ := u_known (C := RX2) (T := TX2) (N := 2) (n := 2) hts inX2 (hts (.instantiable RX2 2) (by decide +kernel))
  obtain ⟨k3, i3, h3⟩ := u_known (C := RX3) (T := TX3) (N := 4) (n := 4) hts inX3 (hts (.instantiable RX3 4) (by decide +kernel))
  obtain ⟨k4, i4, h4⟩ := u_known (C := RX4) (T := TX4) (N := 4) (n := 4) hts inX4 (hts (.instantiable RX4 4) (by decide +kernel))
  obtain ⟨k5, i5, h5⟩ := u_known (C := RX5) (T := TX5) (N := 4) (n := 4) hts inX5 (hts (.instantiable RX5 4) (by decide +kernel))
  obtain ⟨k6, i6, h6⟩ := u_known (C := RX6) (T := TX6) (N := 9) (n := 9) hts inX6 (hts (.instantiable RX6 9) (by decide +kernel))
  obtain ⟨dC, dI, hKc⟩ : ∃ (dC : Nat → ClassId) (dI : Nat → Nat → Nat), ∀ (k : Nat) (q : vw_C), vwCl[k]? = some q → u_Kn s q.1 q.2.1 q.2.2 (dC k) (dI k) := by
    refine ⟨fun k => match k with | 0 => k0 | 1 => k1 | 2 => k2 | 3 => k3 | 4 => k4 | 5 => k5 | _ => k6, fun k => match k with | 0 => i0 | 1 => i1 | 2 => i2 | 3 => i3 | 4 => i4 | 5 => i5 | _ => i6, ?_⟩
    intro k q hq
    match k, hq with
    | 0, hq =>
      obtain rfl : (RX0, TX0, 4) = q := Option.some.inj hq
      exact h0
    | 1, hq =>
      obtain rfl : (RX1, TX1, 2) = q := Option.some.inj hq
      exact h1
    | 2, hq =>
      obtain rfl : (RX2, TX2, 2) = q := Option.some.inj hq
      exact h2
    | 3, hq =>
      obtain rfl : (RX3, TX3, 4) = q := Option.some.inj hq
      exact h3
    | 4, hq =>
      obtain rfl : (RX4, TX4, 4) = q := Option.some.inj hq
      exact h4
    | 5, hq =>
      obtain rfl : (RX5, TX5, 4) = q := Option.some.inj hq
      exact h5
    | 6, hq =>
      obtain rfl : (RX6, TX6, 9) = q := Option.some.inj hq
      exact h6
    | k + 7, hq => exact absurd (show (none : Option vw_C) = some q from hq) (by simp)
  obtain ⟨cI, kI, mI, a1, a2, a3⟩ := Cond.arrayClass_spec (hts (.arrayClass .int) (by decide +kernel))
  obtain ⟨cC, kC, mC, b1, b2, b3⟩ := Cond.arrayClass_spec (hts (.arrayClass .char) (by decide +kernel))
  obtain ⟨mQ, cQ, kQ, d1, d2, d3, d4, d5⟩ := Cond.arrayOver_spec (hts (.arrayOver (.object "DiscArcs$Photos")) (by decide +kernel))
  obtain ⟨mR, cR, kR, e1, e2, e3, e4⟩ := Cond.arrayOver_specA (hts (.arrayOver (.array .int)) (by decide +kernel))
  refine ⟨((dC, dI), cI, cC, cQ, cR, fun _ => 0), ⟨⟨hKc, fun k q hq => ?_⟩, va_Nw.of rfl (hts (.methodLinkNest RX0 55 yX6_isIn RX6) (by decide +kernel))⟩, va_AO.of (hts (.arrayOver (.object "DiscArcs$Photos")) (by decide +kernel)), hts (.arrayOver (.array .int)) (by decide +kernel), va_Nw.of rfl (hts (.methodLinkNest RX6 9 yX2_init RX6) (by decide +kernel)), va_Nw.of rfl (hts (.methodLinkNest RX1 17 yX2_init RX6) (by decide +kernel)), va_Nw.of rfl (hts (.methodLinkNest RX6 28 yX4_init RX6) (by decide +kernel))⟩
  match k, hq with
  | 0, hq =>
    obtain rfl : (cI, FieldType.int) = q := Option.some.inj hq
    exact ⟨fun N z => ⟨(fun k h => by cases h), kI, a2, mI, a3⟩, a1⟩
  | 1, hq =>
    obtain rfl : (cC, FieldType.char) = q := Option.some.inj hq
    exact ⟨fun N z => ⟨(fun k h => by cases h), kC, b2, mC, b3⟩, b1⟩
  | 2, hq =>
    obtain rfl : (cQ, FieldType.object "DiscArcs$Photos") = q := Option.some.inj hq
    exact ⟨fun N z => ⟨(fun k h => by cases h), kQ, d3, mQ, d4⟩, kQ, mQ, d3, d4, d1, d5⟩
  | 3, hq =>
    obtain rfl : (cR, FieldType.array .int) = q := Option.some.inj hq
    exact ⟨fun N z => ⟨(fun k h => by cases h), kR, e2, mR, e3⟩, e4⟩
  | k + 4, hq => exact absurd (show (none : Option (ClassId × FieldType)) = some q from hq) (by simp)
set_option maxHeartbeats 4000000 in
set_option maxRecDepth 100000 in
theorem whole_start {p : Program} {e : Env} {s : State} {m : MethodId} {below : List Frame} {meth : Method} {c : Code} (l : Launch) (hflags : l.flags = flags0) {b L : Nat} {xs : Nat → Int32} (hL : L ≤ 260) (C0 : lw_At p s m meth c b L xs) : W p l e room_1 s m #[Value.ref b] below meth c s.heap [] 0 0 (lw_Z below #[Value.ref b] s) (entryFrame m ([Value.ref b] : List Value).toArray 12) := by
  obtain ⟨hx, hb, hr, hml, hown, hts, hX, hbl, hlocks, hgv⟩ := id C0
  have S : CallFix p m c cL_law 12 s #[Value.ref b] wsL_law RL := ⟨hx, hb, hml, hown, fun w h => hts w (wsL_law_in w h)⟩
  have hA : ∀ q : Nat, s.heap.size ≤ q → zA s q := fun _ h => h
  obtain ⟨g, hK⟩ := z_known hts
  have hS : va_S (zA s) s.heap s.heap [] := va_S.rf
  have hP : yP g [] s.heap := fun k q h => by simp at h
  have hD : va_D (zA s) [] := ⟨fun i j p q h => by simp at h, fun k q h => by simp at h⟩
  have hl := lv_entry ([.ref b]) (n := 12) (Nat.le_of_ble_eq_true rfl)
  rw [lg_entry_eq]
  generalize (lg_sl ([.ref b]) ++ List.replicate (12 - (lg_sl ([.ref b])).length) Slot.unset).toArray = ls at hl ⊢
  have hl : lv_has ls 12 [(0, .ref b)] := hl
  refine y_new S hK.1 hP hD hS hA dL_law_0 6 (RX6, TX6, 9) rfl inlX6 tyX6 tyX6_ok (by decide +kernel) (by decide +kernel) (by decide +kernel) (fs := [.null, .null, .int 0, .null, .null, .null, .null, .null, .null]) (fun j hj => by rcases (show j = 0 ∨ j = 1 ∨ j = 2 ∨ j = 3 ∨ j = 4 ∨ j = 5 ∨ j = 6 ∨ j = 7 ∨ j = 8 by have hj : j < 9 := hj; omega) with rfl | rfl | rfl | rfl | rfl | rfl | rfl | rfl | rfl <;> rfl) (Nat.le_of_ble_eq_true rfl) (Nat.le_of_ble_eq_true rfl) (fun a6 H w1 hg hP hD hS => ?_)
  have hl1 : w1.length = 1 := hg.1
  have h0 : w1[0]? = some (a6, .inr (6, [.null, .null, .int 0, .null, .null, .null, .null, .null, .null])) := hg.2.1
  refine lv_dup S.1 S.2.1 dL_law_3 rfl ?_
  refine y_ci (va_runI (As := []) (rest := [.ref a6]) S (c_X6_init l g w1 _ 0 a6 h0) (cwI 0 S.2.2.2.2 gL_law_X6_init rfl rfl rfl (S.2.2.2.2 (.initialized RX6) (by decide +kernel)) (S.2.2.2.2 (.methodLink RL 95 yX6_init) (by decide +kernel)) (S.2.2.2.2 (.instanceMethod yX6_init) (by decide +kernel)) rfl (by decide +kernel) ⟨Nat.le_of_ble_eq_true rfl, Nat.le_of_ble_eq_true rfl⟩) (y_pre hK hP hD) rfl rfl hl.1 rfl (lv_room (Nat.le_of_ble_eq_true rfl)) dL_law_4 ⟨Nat.le_of_ble_eq_true rfl, Nat.le_of_ble_eq_true rfl⟩) hD hS hA (fun u1 H locs hu hP hD hS => ?_)
  obtain ⟨ho, p0, p9, p18, p56, p58, p59, p60, p63, q19, q57, q61, q62, f, k0, k1, k10, k19, k20, kph, k57, k58, k59, k60, k61, k62, k63, k64⟩ := hu
  rw [hl1] at k1
  rw [hl1] at k10
  rw [hl1] at k19
  rw [hl1] at k20
  rw [hl1] at k57
  rw [hl1] at k58
  rw [hl1] at k59
  rw [hl1] at k60
  rw [hl1] at k61
  rw [hl1] at k62
  rw [hl1] at k63
  rw [hl1] at k64
  have hlen1 : u1.length = 65 := by have h9 := ho.1; omega
  refine lv_astore_n (lv' := [(1, .ref a6), (0, .ref b)]) S.1 S.2.1 dL_law_7 rfl hl (by decide) rfl (fun ls hl => ?_)
  have hz : sX (gW g u1) (EW u1) z0 := z_X0 k0 k1 k10 k19 k20 (fun i hi => by
      obtain ⟨p, e1, e2⟩ := kph i hi
      rw [hl1] at e2
      exact ⟨p, e1, e2⟩) k57 k58 k59 k60 k61 k62 k63 k64
  have e6 : xad (gW g u1) 0 = a6 := gW_ad k0
  refine W.widen (k := 600000) (n := 7302250) (Nat.le_of_ble_eq_true rfl) (Nat.le_of_ble_eq_true rfl) ?_
  exact law_start l (gW g u1) S (gW_J hlen1 hD) (gW_K hK.1) (gW_A hlen1 hD) hX hbl hL hr hlocks hz (gW_P hlen1 hP) hS (by rw [e6]; exact lv_sub hl [1, 0] rfl)
