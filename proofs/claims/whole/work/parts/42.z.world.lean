/-! THE LAW: two objects and one state -/
theorem sX.keep {g : xG} {E E1 : Nat → va_E} {z : xS} (h : sX g E z) (hE : ∀ j, j < 65 → E1 j = E j) : sX g E1 z := by
  obtain ⟨h0, h1, h2, ⟨B, N, MM, h3, h4⟩, ⟨p0, ta, h5⟩, h6, ⟨f6, h7⟩, ⟨a1, b1, c1, h8⟩, h9, ⟨f2, h10⟩, ⟨f3, h11⟩, a2, b2, c2, h12⟩ := h
  exact sX.mk ((hE 0 (by decide)).trans h0) rfl (h1.keep (fun j _ _ => hE j (by omega))) (h2.keep (fun j _ _ => hE j (by omega))) (h3.keep (fun j _ _ => hE j (by omega))) h4 ((hE 57 (by decide)).trans h5) ((hE 58 (by decide)).trans h6) ((hE 59 (by decide)).trans h7) ((hE 60 (by decide)).trans h8) ((hE 61 (by decide)).trans h9) ((hE 62 (by decide)).trans h10) ((hE 63 (by decide)).trans h11) ((hE 64 (by decide)).trans h12)
theorem sM.keep {g : xG} {E E1 : Nat → va_E} {z : xS} (h : sM g E z) (hE : ∀ j, 65 ≤ j → E1 j = E j) : sM g E1 z := by
  obtain ⟨hi, od, bs, bb, bf, at9, nu, f, fh, fs, fa, fr, fl, fo, fd, h65, h66, h67, h68, h69, h70, h71, h72, h73, h74, hr⟩ := h
  exact ⟨hi, od, bs, bb, bf, at9, nu, f, fh, fs, fa, fr, fl, fo, fd, (hE 65 (by decide)).trans h65, (hE 66 (by decide)).trans h66, (hE 67 (by decide)).trans h67, (hE 68 (by decide)).trans h68, (hE 69 (by decide)).trans h69, (hE 70 (by decide)).trans h70, (hE 71 (by decide)).trans h71, (hE 72 (by decide)).trans h72, (hE 73 (by decide)).trans h73, (hE 74 (by decide)).trans h74, hr⟩
theorem sX.at0 {g : xG} {E : Nat → va_E} {z : xS} (h : sX g E z) : E 0 = .inr (6, [.ref (xad g 1), .ref (xad g 10), .int (bI (zf z)), .ref (xad g 19), .ref (xad g 57), .ref (xad g 59), .ref (xad g 60), .ref (xad g 61), .ref (xad g 64)]) := h.1
theorem sM.at0 {g : xG} {E : Nat → va_E} {z : xS} (h : sM g E z) : ∃ fs : List Value, E 65 = .inr (7, fs) := by
  obtain ⟨hi, od, bs, bb, bf, at9, nu, f, fh, fs, fa, fr, fl, fo, fd, h65, -⟩ := h
  exact ⟨_, h65⟩
/-- the first state -/
def z0 : xS := (0, fun _ _ => 0, 0, fun _ => 0, fun _ _ _ => 0, false, 0, fun _ _ => 0, 0, fun _ => 0)
theorem vld_0 (M : Nat → Nat → Int32) : vld 0 M := by
  refine ⟨fun k hk => absurd hk (Nat.not_lt_zero _), ?_⟩
  intros
  omega
theorem z0_v : vS z0 := ⟨⟨Nat.zero_le _, vld_0 _⟩, ⟨Nat.zero_le _, fun i hi => absurd hi (Nat.not_lt_zero _)⟩, ⟨Nat.zero_le _, vld_0 _⟩, Nat.zero_le _⟩
/-- a list of 75 places as addresses and what they hold -/
def uE (u : va_W) (k : Nat) : Nat × va_E := (u[k]?).getD (0, .inr (0, []))
theorem uE_at {u : va_W} {k : Nat} {q : Nat × va_E} (h : u[k]? = some q) : uE u k = q := by
  unfold uE
  rw [h]
  rfl
theorem uE_get {u : va_W} {k : Nat} (h : u.length = 75) (hk : k < 75) : u[k]? = some (uE u k) := by
  have h1 : u[k]? = some (u[k]'(by omega)) := List.getElem?_eq_getElem (by omega)
  rw [h1, uE_at h1]
theorem xW_of {u : va_W} (h : u.length = 75) : xW (fun k => (uE u k).1) (fun k => (uE u k).2) = u := by
  apply List.ext_getElem?
  intro k
  by_cases hk : k < 75
  · rw [xW_at hk, uE_get h hk]
  · unfold xW
    rw [List.getElem?_eq_none (by simp; omega), List.getElem?_eq_none (by omega)]
def gW (g : xG) (u : va_W) : xG := (xD g, xI g, xC g, xQ g, xR g, fun k => (uE u k).1)
def EW (u : va_W) : Nat → va_E := fun k => (uE u k).2
theorem gW_P {g : xG} {u : va_W} {H : Heap} (h7 : u.length = 75) (h : yP g u H) : xP (gW g u) (EW u) H := by
  show va_P (xD g) vwCl (xW (fun k => (uE u k).1) (fun k => (uE u k).2)) H
  rw [xW_of h7]
  exact h
theorem gW_K {g : xG} {u : va_W} {s : State} (h : xK g s) : xK (gW g u) s := h
theorem gW_J {g : xG} {u : va_W} {A : Nat → Prop} (h7 : u.length = 75) (hD : va_D A u) : xJ (xad (gW g u)) := fun i j hi hj e => hD.1 i j _ _ (uE_get h7 hi) (uE_get h7 hj) e
theorem gW_A {g : xG} {u : va_W} {A : Nat → Prop} (h7 : u.length = 75) (hD : va_D A u) : ∀ k, k < 75 → A (xad (gW g u) k) := fun k hk => hD.2 k _ (uE_get h7 hk)
theorem gW_ad {g : xG} {u : va_W} {k : Nat} {q : Nat × va_E} (h : u[k]? = some q) : xad (gW g u) k = q.1 := congrArg Prod.fst (uE_at h)
theorem EW_at {u : va_W} {k : Nat} {q : Nat × va_E} (h : u[k]? = some q) : EW u k = q.2 := congrArg Prod.snd (uE_at h)
theorem phL.ad {g : xG} {u : va_W} {b a : Nat} (h : phL g u b a) : xad (gW g u) b = a := by
  obtain ⟨q, r, h1, h2, h3⟩ := h
  exact gW_ad h1
theorem phL.e {g : xG} {u : va_W} {b a : Nat} (h : phL g u b a) (hb : b + 9 ≤ 75) (M : Nat → Nat → Int32) : ePh (gW g u) (EW u) b 0 M := by
  obtain ⟨q, r, h1, h2, h3⟩ := h
  refine ⟨⟨hb, Nat.zero_le _⟩, ?_, ?_, fun w hw => ⟨fun _ => 0, EW_at (h3 w hw), fun k hk => absurd hk (Nat.not_lt_zero _)⟩⟩
  · rw [EW_at h1, show xad (gW g u) (b + 1) = q from gW_ad h2]
    rfl
  · rw [EW_at h2]
    have h : (fun i => if i < 7 then some (r i) else none) = fun w => if w < 7 then some (xad (gW g u) (b + 2 + w)) else none := by
      funext w
      by_cases hw : w < 7
      · rw [if_pos hw, if_pos hw, show xad (gW g u) (b + 2 + w) = r w from gW_ad (h3 w hw)]
      · rw [if_neg hw, if_neg hw]
    rw [← h]
    rfl
theorem z_X0 {g : xG} {u : va_W} {a p0 p9 p18 p56 p58 p59 p60 p63 q19 q57 q61 q62 : Nat} {f : Nat → Option Nat} (h0 : u[0]? = some (a, .inr (6, [.ref p0, .ref p9, .int 0, .ref p18, .ref p56, .ref p58, .ref p59, .ref p60, .ref p63]))) (hp0 : phL g u 1 p0) (hp9 : phL g u 10 p9) (h19 : u[19]? = some (p18, .inr (1, [.ref q19, .int 0]))) (h20 : u[20]? = some (q19, .inl (xQ g, 4, .inr (.inr (.inr (.inr f)))))) (hph : ∀ i, i < 4 → ∃ p, f i = some p ∧ phL g u (21 + 9 * i) p) (h57 : u[57]? = some (p56, .inr (4, [.ref q57, .int 0, .int 0, .int 0]))) (h58 : u[58]? = some (q57, .inl (xC g, 60, .inl (fun _ => 0)))) (h59 : u[59]? = some (p58, .inl (xI g, 6, .inl (fun _ => 0)))) (h60 : u[60]? = some (p59, .inr (0, [.ref p0, .int 0, .int 0, .int 0]))) (h61 : u[61]? = some (p60, .inr (5, [.ref p0, .ref p59, .ref q61, .ref q62]))) (h62 : u[62]? = some (q61, .inl (xI g, 11, .inl (fun _ => 0)))) (h63 : u[63]? = some (q62, .inl (xI g, 11, .inl (fun _ => 0)))) (h64 : u[64]? = some (p63, .inr (3, [.ref p0, .int 0, .int 0, .int 0]))) : sX (gW g u) (EW u) z0 := by
  have a1 := hp0.ad
  have a10 := hp9.ad
  have a19 : xad (gW g u) 19 = p18 := gW_ad h19
  have a20 : xad (gW g u) 20 = q19 := gW_ad h20
  have a57 : xad (gW g u) 57 = p56 := gW_ad h57
  have a58 : xad (gW g u) 58 = q57 := gW_ad h58
  have a59 : xad (gW g u) 59 = p58 := gW_ad h59
  have a60 : xad (gW g u) 60 = p59 := gW_ad h60
  have a61 : xad (gW g u) 61 = p60 := gW_ad h61
  have a62 : xad (gW g u) 62 = q61 := gW_ad h62
  have a63 : xad (gW g u) 63 = q62 := gW_ad h63
  have a64 : xad (gW g u) 64 = p63 := gW_ad h64
  refine sX.mk (hf := 0) (p0 := 0) (ta := 0) (a1 := 0) (b1 := 0) (c1 := 0) (a2 := 0) (b2 := 0) (c2 := 0) (f6 := fun _ => 0) (f2 := fun _ => 0) (f3 := fun _ => 0) (B := fun i => 21 + 9 * i) (N := fun _ => 0) (MM := fun _ _ _ => 0) ?_ rfl (hp0.e (by decide) _) (hp9.e (by decide) _) ⟨by decide, ?_, ⟨f, ?_, fun i hi => ?_⟩, fun i hi => ?_, fun i j h1 h2 => ?_⟩ (fun i hi => absurd hi (Nat.not_lt_zero _)) ?_ ?_ ?_ ?_ ?_ ?_ ?_ ?_
  · rw [EW_at h0, a1, a10, a19, a57, a59, a60, a61, a64]
  · rw [EW_at h19, a20]
    rfl
  · rw [EW_at h20]
    rfl
  · obtain ⟨p, e1, e2⟩ := hph i hi
    rw [e1, e2.ad]
  · obtain ⟨p, e1, e2⟩ := hph i hi
    exact ⟨(by omega : 21 ≤ 21 + 9 * i), (by omega : 21 + 9 * i ≤ 48), e2.e (by omega) _⟩
  · show 21 + 9 * i + 9 ≤ 21 + 9 * j ∨ 21 + 9 * j + 9 ≤ 21 + 9 * i
    omega
  · rw [EW_at h57, a58]
    rfl
  · rw [EW_at h58]
    rfl
  · rw [EW_at h59]
    rfl
  · rw [EW_at h60, a1]
  · rw [EW_at h61, a1, a60, a62, a63]
  · rw [EW_at h62]
    rfl
  · rw [EW_at h63]
    rfl
  · rw [EW_at h64, a1]
theorem z_M0 {g : xG} {u : va_W} {a q0 q1 q2 q3 q4 q5 q6 q7 q8 : Nat} (h65 : u[65]? = some (a, .inr (7, [.ref q0, .ref q1, .int 0, .ref q2, .int 0, .ref q3, .int 0, .ref q4, .ref q5, .ref q6, .int 0, .int 0, .int 0, .int 0, .int 0, .ref q7, .int 0, .int 0, .ref q8]))) (h66 : u[66]? = some (q0, .inl (xI g, 71, .inl (fun _ => 0)))) (h67 : u[67]? = some (q1, .inl (xI g, 284, .inl (fun _ => 0)))) (h68 : u[68]? = some (q2, .inl (xI g, 71, .inl (fun _ => 0)))) (h69 : u[69]? = some (q3, .inl (xI g, 3, .inl (fun _ => 0)))) (h70 : u[70]? = some (q4, .inl (xI g, 11, .inl (fun _ => 0)))) (h71 : u[71]? = some (q5, .inl (xI g, 10, .inl (fun _ => 0)))) (h72 : u[72]? = some (q6, .inl (xI g, 10, .inl (fun _ => 0)))) (h73 : u[73]? = some (q7, .inl (xC g, 60, .inl (fun _ => 0)))) (h74 : u[74]? = some (q8, .inl (xI g, 6, .inl (fun _ => 0)))) : sM (gW g u) (EW u) z0 := by
  have a66 : xad (gW g u) 66 = q0 := gW_ad h66
  have a67 : xad (gW g u) 67 = q1 := gW_ad h67
  have a68 : xad (gW g u) 68 = q2 := gW_ad h68
  have a69 : xad (gW g u) 69 = q3 := gW_ad h69
  have a70 : xad (gW g u) 70 = q4 := gW_ad h70
  have a71 : xad (gW g u) 71 = q5 := gW_ad h71
  have a72 : xad (gW g u) 72 = q6 := gW_ad h72
  have a73 : xad (gW g u) 73 = q7 := gW_ad h73
  have a74 : xad (gW g u) 74 = q8 := gW_ad h74
  refine ⟨0, 0, 0, 0, 0, 0, 0, fun _ => 0, fun _ => 0, fun _ => 0, fun _ => 0, fun _ => 0, fun _ => 0, fun _ => 0, fun _ => 0, ?_, EW_at h66, EW_at h67, EW_at h68, EW_at h69, EW_at h70, EW_at h71, EW_at h72, EW_at h73, EW_at h74, ⟨Nat.zero_le _, rfl, fun k w hk => absurd hk (Nat.not_lt_zero _)⟩, fun i hi => absurd hi (Nat.not_lt_zero _), fun h => Bool.noConfusion h⟩
  show EW u 65 = .inr (7, [.ref (xad (gW g u) 66), .ref (xad (gW g u) 67), .int 0, .ref (xad (gW g u) 68), .int 0, .ref (xad (gW g u) 69), .int 0, .ref (xad (gW g u) 70), .ref (xad (gW g u) 71), .ref (xad (gW g u) 72), .int 0, .int 0, .int 0, .int 0, .int 0, .ref (xad (gW g u) 73), .int 0, .int 0, .ref (xad (gW g u) 74)])
  rw [EW_at h65, a66, a67, a68, a69, a70, a71, a72, a73, a74]
/-- every cell from the law's entry on may be written -/
def zA (s : State) : Nat → Prop := fun q => s.heap.size ≤ q
section ZL
variable {p : Program} {l : Launch} {e : Env} {s : State} {m : MethodId} {below : List Frame} {meth : Method} {c : Code} {H : Heap} {locs : List Loc} {cells slots : Nat} {Q : State → Prop} {pc : Nat} {ls : Array Slot} {rest st0 : List Value} {b L i x1 x2 : Nat} {xs : Nat → Int32} {g : xG} {a : Array Value}
/-- the n-th int of a call's seven -/
theorem z_a1 {n : Nat} {nn : Int} (S : CallFix p m c cL_law 4 s #[Value.ref b] wsL_law RL) (hX : va_X b L xs s s.heap) (hbl : b < s.heap.size) (hS : va_S (zA s) s.heap H locs) (hL : L ≤ 3584) (hi : i + 7 ≤ L) (hl : lv_has ls 4 [(0, .ref b), (1, .ref x1), (2, .ref x2), (3, .int (nI i))]) (hn : n < 7) (d0 : decode cL_law pc = .ok (.aload_n 0, 1)) (d1 : decode cL_law (pc + 1) = .ok (.iload_n 3, 1)) (d2 : decode cL_law (pc + 2) = .ok (.iconst nn, 1)) (hnn : Int32.ofInt nn = nI n) (d3 : decode cL_law (pc + 3) = .ok (.iadd, 1)) (d4 : decode cL_law (pc + 4) = .ok (.iaload, 1))
    (kk : W p l e room_1 s m #[Value.ref b] below meth c H locs cells slots Q (F0 m (pc + 5) ls (.int (xs (i + n)) :: rest))) : W p l e room_1 s m #[Value.ref b] below meth c H locs cells slots Q (F0 m pc ls rest) := by
  refine lv_aload_n S.1 S.2.1 d0 rfl (lv_at hl 0 rfl) ?_
  refine lv_iload_n S.1 S.2.1 d1 rfl (lv_at hl 3 rfl) ?_
  refine lv_iconst S.1 S.2.1 d2 hnn ?_
  refine lv_iadd S.1 S.2.1 d3 ?_
  rw [nI_add]
  refine va_sld S.1 S.2.1 hX hbl (Nat.not_le.mpr hbl) hS (vp_in_nI (by omega) (by omega)) d4 ?_
  rw [nI_clamp (by omega)]
  exact kk
theorem z_a2 {n : Nat} {nn : Int} (S : CallFix p m c cL_law 4 s #[Value.ref b] wsL_law RL) (hX : va_X b L xs s s.heap) (hbl : b < s.heap.size) (hS : va_S (zA s) s.heap H locs) (hL : L ≤ 3584) (hi : i + 7 ≤ L) (hl : lv_has ls 4 [(0, .ref b), (1, .ref x1), (2, .ref x2), (3, .int (nI i))]) (hn : n < 7) (d0 : decode cL_law pc = .ok (.aload_n 0, 1)) (d1 : decode cL_law (pc + 1) = .ok (.iload_n 3, 1)) (d2 : decode cL_law (pc + 2) = .ok (.bipush nn, 2)) (hnn : (Int8.ofInt nn).toInt32 = nI n) (d3 : decode cL_law (pc + 4) = .ok (.iadd, 1)) (d4 : decode cL_law (pc + 5) = .ok (.iaload, 1))
    (kk : W p l e room_1 s m #[Value.ref b] below meth c H locs cells slots Q (F0 m (pc + 6) ls (.int (xs (i + n)) :: rest))) : W p l e room_1 s m #[Value.ref b] below meth c H locs cells slots Q (F0 m pc ls rest) := by
  refine lv_aload_n S.1 S.2.1 d0 rfl (lv_at hl 0 rfl) ?_
  refine lv_iload_n S.1 S.2.1 d1 rfl (lv_at hl 3 rfl) ?_
  refine lv_bipush S.1 S.2.1 d2 hnn ?_
  refine lv_iadd S.1 S.2.1 d3 ?_
  rw [nI_add]
  refine va_sld S.1 S.2.1 hX hbl (Nat.not_le.mpr hbl) hS (vp_in_nI (by omega) (by omega)) d4 ?_
  rw [nI_clamp (by omega)]
  exact kk
/-- whether an int is not 0 -/
theorem z_nz {x : Int32} (S : CallFix p m c cL_law 4 s #[Value.ref b] wsL_law RL) (d0 : decode cL_law pc = .ok (.ifCond .eq 7, 3)) (d3 : decode cL_law (pc + 3) = .ok (.iconst 1, 1)) (d4 : decode cL_law (pc + 4) = .ok (.goto 4, 3)) (d7 : decode cL_law (pc + 7) = .ok (.iconst 0, 1))
    (kk : W p l e room_1 s m #[Value.ref b] below meth c H locs cells slots Q (F0 m (pc + 8) ls (.int (bI (decide (x ≠ 0))) :: rest))) : W p l e room_1 s m #[Value.ref b] below meth c H locs cells slots Q (F0 m pc ls (.int x :: rest)) := by
  refine lv_if_eq (tgt := pc + 7) S.1 S.2.1 d0 (by omega) (fun h => ?_) (fun h => ?_)
  · refine lv_iconst (v := 0) S.1 S.2.1 d7 (by decide) ?_
    rw [show bI (decide (x ≠ 0)) = 0 by subst h; rfl] at kk
    exact kk
  · refine lv_iconst (v := 1) S.1 S.2.1 d3 (by decide) ?_
    refine lv_goto (tgt := pc + 8) S.1 S.2.1 d4 (by omega) ?_
    rw [show bI (decide (x ≠ 0)) = 1 by rw [decide_eq_true h]; rfl] at kk
    exact kk
theorem z_qi {post : Int32 → (Nat → va_E) → Prop} (hr : va_Run p l e room_1 s m #[Value.ref b] below meth c H locs cells slots 0 0 (F0 m pc ls st0) rest (xQi g post a) (xA (xad g))) (hAd : ∀ k, k < 75 → zA s (xad g k)) (hS : va_S (zA s) s.heap H locs)
    (kk : ∀ (r : Int32) (E1 : Nat → va_E) (H1 : Heap) (locs1 : List Loc), post r E1 → xP g E1 H1 → va_S (zA s) s.heap H1 locs1 → W p l e room_1 s m #[Value.ref b] below meth c H1 locs1 cells slots Q (F0 m (pc + 3) ls (.int r :: rest))) : W p l e room_1 s m #[Value.ref b] below meth c H locs cells slots Q (F0 m pc ls st0) :=
  va_calli hr hS (fun q _ h => by obtain ⟨k, hk, rfl⟩ := h; exact hAd k hk) (fun q h => by obtain ⟨k, hk, rfl⟩ := h; exact hAd k hk) (fun r u t H1 locs1 h1 _ h3 h4 _ _ h7 => kk r u H1 locs1 h3 (by rw [← h1]; exact h4) h7)
theorem z_ql {post : Int64 → (Nat → va_E) → Prop} (hr : va_Run p l e room_1 s m #[Value.ref b] below meth c H locs cells slots 0 0 (F0 m pc ls st0) rest (xQl g post a) (xA (xad g))) (hAd : ∀ k, k < 75 → zA s (xad g k)) (hS : va_S (zA s) s.heap H locs)
    (kk : ∀ (r : Int64) (E1 : Nat → va_E) (H1 : Heap) (locs1 : List Loc), post r E1 → xP g E1 H1 → va_S (zA s) s.heap H1 locs1 → W p l e room_1 s m #[Value.ref b] below meth c H1 locs1 cells slots Q (F0 m (pc + 3) ls (.long r :: rest))) : W p l e room_1 s m #[Value.ref b] below meth c H locs cells slots Q (F0 m pc ls st0) :=
  va_calll hr hS (fun q _ h => by obtain ⟨k, hk, rfl⟩ := h; exact hAd k hk) (fun q h => by obtain ⟨k, hk, rfl⟩ := h; exact hAd k hk) (fun r u t H1 locs1 h1 _ h3 h4 _ _ h7 => kk r u H1 locs1 h3 (by rw [← h1]; exact h4) h7)
/-- the loop goes on while seven ints are left -/
theorem z_more (hL : L ≤ 3584) (hi : i ≤ L) (h : ¬ nI i > Int32.ofNat L - 7) : i + 7 ≤ L := by
  have h1 : (Int32.ofNat L - 7).toInt = (L : Int) - 7 := pk_sub_toInt (a := L) (b := 7) (by omega) (by omega)
  have h2 : (nI i).toInt = (i : Int) := nI_toInt (by omega)
  have h3 : nI i ≤ Int32.ofNat L - 7 := Int32.not_lt.mp h
  rw [Int32.le_iff_toInt_le, h1, h2] at h3
  omega
end ZL
