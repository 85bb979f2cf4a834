/-! THE LAW: the world that the constructor lays -/
/-- the first state -/
def z0 : xS := (0, fun _ _ => 0, 0, fun _ => 0, fun _ _ _ => 0, false, 0, fun _ _ => 0, 0, fun _ => 0)
theorem vld_0 (M : Nat → Nat → Int32) : vld 0 M := by
  refine ⟨fun k hk => absurd hk (Nat.not_lt_zero _), ?_⟩
  intros
  omega
theorem z0_v : vS z0 := ⟨⟨Nat.zero_le _, vld_0 _⟩, ⟨Nat.zero_le _, fun i hi => absurd hi (Nat.not_lt_zero _)⟩, ⟨Nat.zero_le _, vld_0 _⟩, Nat.zero_le _⟩
/-- a list of 65 places as addresses and what they hold -/
def uE (u : va_W) (k : Nat) : Nat × va_E := (u[k]?).getD (0, .inr (0, []))
theorem uE_at {u : va_W} {k : Nat} {q : Nat × va_E} (h : u[k]? = some q) : uE u k = q := by
  unfold uE
  rw [h]
  rfl
theorem uE_get {u : va_W} {k : Nat} (h : u.length = 65) (hk : k < 65) : u[k]? = some (uE u k) := by
  have h1 : u[k]? = some (u[k]'(by omega)) := List.getElem?_eq_getElem (by omega)
  rw [h1, uE_at h1]
theorem xW_of {u : va_W} (h : u.length = 65) : xW (fun k => (uE u k).1) (fun k => (uE u k).2) = u := by
  apply List.ext_getElem?
  intro k
  by_cases hk : k < 65
  · rw [xW_at hk, uE_get h hk]
  · unfold xW
    rw [List.getElem?_eq_none (by simp; omega), List.getElem?_eq_none (by omega)]
def gW (g : xG) (u : va_W) : xG := (xD g, xI g, xC g, xQ g, xR g, fun k => (uE u k).1)
def EW (u : va_W) : Nat → va_E := fun k => (uE u k).2
theorem gW_P {g : xG} {u : va_W} {H : Heap} (h7 : u.length = 65) (h : yP g u H) : xP (gW g u) (EW u) H := by
  show va_P (xD g) vwCl (xW (fun k => (uE u k).1) (fun k => (uE u k).2)) H
  rw [xW_of h7]
  exact h
theorem gW_K {g : xG} {u : va_W} {s : State} (h : xK g s) : xK (gW g u) s := h
theorem gW_J {g : xG} {u : va_W} {A : Nat → Prop} (h7 : u.length = 65) (hD : va_D A u) : xJ (xad (gW g u)) := fun i j hi hj e => hD.1 i j _ _ (uE_get h7 hi) (uE_get h7 hj) e
theorem gW_A {g : xG} {u : va_W} {A : Nat → Prop} (h7 : u.length = 65) (hD : va_D A u) : ∀ k, k < 65 → A (xad (gW g u) k) := fun k hk => hD.2 k _ (uE_get h7 hk)
theorem gW_ad {g : xG} {u : va_W} {k : Nat} {q : Nat × va_E} (h : u[k]? = some q) : xad (gW g u) k = q.1 := congrArg Prod.fst (uE_at h)
theorem EW_at {u : va_W} {k : Nat} {q : Nat × va_E} (h : u[k]? = some q) : EW u k = q.2 := congrArg Prod.snd (uE_at h)
theorem phL.ad {g : xG} {u : va_W} {b a : Nat} (h : phL g u b a) : xad (gW g u) b = a := by
  obtain ⟨q, r, h1, h2, h3⟩ := h
  exact gW_ad h1
theorem phL.e {g : xG} {u : va_W} {b a : Nat} (h : phL g u b a) (hb : b + 9 ≤ 65) (M : Nat → Nat → Int32) : ePh (gW g u) (EW u) b 0 M := by
  obtain ⟨q, r, h1, h2, h3⟩ := h
  refine ⟨⟨hb, Nat.zero_le _⟩, ?_, ?_, fun w hw => ⟨fun _ => 0, EW_at (h3 w hw), fun k hk => absurd hk (Nat.not_lt_zero _)⟩⟩
  · rw [EW_at h1, show xad (gW g u) (b + 1) = q from gW_ad h2]
    rfl
  · rw [EW_at h2]
    have h : (fun i => if i < 7 then some (r i) else none) = fun w => if w < 7 then some (xad (gW g u) (b + 2 + w)) else none := by
      funext w
      by_cases hw : w < 7
      · rw [if_pos hw, if_pos hw, show xad (gW g u) (b + 2 + w) = r w from gW_ad (h3 w hw)]
      · rw [if_neg hw, if_neg hw]
    rw [← h]
    rfl
theorem z_X0 {g : xG} {u : va_W} {a p0 p9 p18 p56 p58 p59 p60 p63 q19 q57 q61 q62 : Nat} {f : Nat → Option Nat} (h0 : u[0]? = some (a, .inr (6, [.ref p0, .ref p9, .int 0, .ref p18, .ref p56, .ref p58, .ref p59, .ref p60, .ref p63]))) (hp0 : phL g u 1 p0) (hp9 : phL g u 10 p9) (h19 : u[19]? = some (p18, .inr (1, [.ref q19, .int 0]))) (h20 : u[20]? = some (q19, .inl (xQ g, 4, .inr (.inr (.inr (.inr f)))))) (hph : ∀ i, i < 4 → ∃ p, f i = some p ∧ phL g u (21 + 9 * i) p) (h57 : u[57]? = some (p56, .inr (4, [.ref q57, .int 0, .int 0, .int 0]))) (h58 : u[58]? = some (q57, .inl (xC g, 60, .inl (fun _ => 0)))) (h59 : u[59]? = some (p58, .inl (xI g, 6, .inl (fun _ => 0)))) (h60 : u[60]? = some (p59, .inr (0, [.ref p0, .int 0, .int 0, .int 0]))) (h61 : u[61]? = some (p60, .inr (5, [.ref p0, .ref p59, .ref q61, .ref q62]))) (h62 : u[62]? = some (q61, .inl (xI g, 11, .inl (fun _ => 0)))) (h63 : u[63]? = some (q62, .inl (xI g, 11, .inl (fun _ => 0)))) (h64 : u[64]? = some (p63, .inr (3, [.ref p0, .int 0, .int 0, .int 0]))) : sX (gW g u) (EW u) z0 := by
  have a1 := hp0.ad
  have a10 := hp9.ad
  have a19 : xad (gW g u) 19 = p18 := gW_ad h19
  have a20 : xad (gW g u) 20 = q19 := gW_ad h20
  have a57 : xad (gW g u) 57 = p56 := gW_ad h57
  have a58 : xad (gW g u) 58 = q57 := gW_ad h58
  have a59 : xad (gW g u) 59 = p58 := gW_ad h59
  have a60 : xad (gW g u) 60 = p59 := gW_ad h60
  have a61 : xad (gW g u) 61 = p60 := gW_ad h61
  have a62 : xad (gW g u) 62 = q61 := gW_ad h62
  have a63 : xad (gW g u) 63 = q62 := gW_ad h63
  have a64 : xad (gW g u) 64 = p63 := gW_ad h64
  refine sX.mk (hf := 0) (p0 := 0) (ta := 0) (a1 := 0) (b1 := 0) (c1 := 0) (a2 := 0) (b2 := 0) (c2 := 0) (f6 := fun _ => 0) (f2 := fun _ => 0) (f3 := fun _ => 0) (B := fun i => 21 + 9 * i) (N := fun _ => 0) (MM := fun _ _ _ => 0) ?_ rfl (hp0.e (by decide) _) (hp9.e (by decide) _) ⟨by decide, ?_, ⟨f, ?_, fun i hi => ?_⟩, fun i hi => ?_, fun i j h1 h2 => ?_⟩ (fun i hi => absurd hi (Nat.not_lt_zero _)) ?_ ?_ ?_ ?_ ?_ ?_ ?_ ?_
  · rw [EW_at h0, a1, a10, a19, a57, a59, a60, a61, a64]
  · rw [EW_at h19, a20]
    rfl
  · rw [EW_at h20]
    rfl
  · obtain ⟨p, e1, e2⟩ := hph i hi
    rw [e1, e2.ad]
  · obtain ⟨p, e1, e2⟩ := hph i hi
    exact ⟨(by omega : 21 ≤ 21 + 9 * i), (by omega : 21 + 9 * i ≤ 48), e2.e (by omega) _⟩
  · show 21 + 9 * i + 9 ≤ 21 + 9 * j ∨ 21 + 9 * j + 9 ≤ 21 + 9 * i
    omega
  · rw [EW_at h57, a58]
    rfl
  · rw [EW_at h58]
    rfl
  · rw [EW_at h59]
    rfl
  · rw [EW_at h60, a1]
  · rw [EW_at h61, a1, a60, a62, a63]
  · rw [EW_at h62]
    rfl
  · rw [EW_at h63]
    rfl
  · rw [EW_at h64, a1]
