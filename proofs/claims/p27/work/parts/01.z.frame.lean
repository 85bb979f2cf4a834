/-! THE WORLD of the whole claim: 65 cells at the addresses ad 0 .. ad 74 (0 .. 64 the class's, in the order in which its constructor makes them; 65 .. 74 the reference's); E tells what each holds. A method's contract has the whole world; the frame is what E keeps. -/
def xW (ad : Nat → Nat) (E : Nat → va_E) : va_W := (List.range 65).map (fun k => (ad k, E k))
def xJ (ad : Nat → Nat) : Prop := ∀ i j, i < 65 → j < 65 → ad i = ad j → i = j
def xA (ad : Nat → Nat) : Nat → Prop := fun q => ∃ k, k < 65 ∧ q = ad k
abbrev xG : Type := va_G × ClassId × ClassId × ClassId × ClassId × (Nat → Nat)
def xD (g : xG) : va_G := g.1
def xI (g : xG) : ClassId := g.2.1
def xC (g : xG) : ClassId := g.2.2.1
def xQ (g : xG) : ClassId := g.2.2.2.1
def xR (g : xG) : ClassId := g.2.2.2.2.1
def xad (g : xG) : Nat → Nat := g.2.2.2.2.2
def xt (g : xG) : List (ClassId × FieldType) := [(xI g, .int), (xC g, .char), (xQ g, .object "DiscArcs$Photos"), (xR g, .array .int)]
def xK (g : xG) (U : State) : Prop := va_K (xD g) vwCl (xt g) U ∧ va_Nw (.methodLinkNest RX0 55 yX6_isIn RX6) U
def xP (g : xG) (E : Nat → va_E) (H : Heap) : Prop := va_P (xD g) vwCl (xW (xad g) E) H
def xPc (g : xG) (av : List Value) (E : Nat → va_E) : Array Value → State → Prop := va_Pc av (fun U => xP g E U.heap ∧ xK g U)
/-- E1 is E, but e at k -/
def xU (E : Nat → va_E) (k : Nat) (e : va_E) (E1 : Nat → va_E) : Prop := E1 k = e ∧ ∀ j, j ≠ k → E1 j = E j
theorem xW_at {ad : Nat → Nat} {E : Nat → va_E} {k : Nat} (hk : k < 65) : (xW ad E)[k]? = some (ad k, E k) := by
  unfold xW
  rw [List.getElem?_map, List.getElem?_range hk]
  rfl
theorem xW_len {ad : Nat → Nat} {E : Nat → va_E} : (xW ad E).length = 65 := by simp [xW]
theorem xW_lt {ad : Nat → Nat} {E : Nat → va_E} {k : Nat} {q : Nat × va_E} (h : (xW ad E)[k]? = some q) : k < 65 ∧ q = (ad k, E k) := by
  have h1 := (List.getElem?_eq_some_iff.mp h).1
  rw [xW_len] at h1
  rw [xW_at h1] at h
  exact ⟨h1, (Option.some.inj h).symm⟩
theorem xW_set {ad : Nat → Nat} {E : Nat → va_E} {k : Nat} {e : va_E} (hk : k < 65) : (xW ad E).set k (ad k, e) = xW ad (va_up E k e) := by
  apply List.ext_getElem?
  intro i
  by_cases hi : i < 65
  · rw [xW_at hi]
    by_cases h : i = k
    · subst h
      rw [List.getElem?_set_self (by rw [xW_len]; exact hi)]
      simp [va_up]
    · rw [List.getElem?_set_ne (Ne.symm h), xW_at hi]
      simp [va_up, h]
  · rw [List.getElem?_eq_none (by rw [List.length_set, xW_len]; omega), List.getElem?_eq_none (by rw [xW_len]; omega)]
theorem xW_D {ad : Nat → Nat} {E : Nat → va_E} {A : Nat → Prop} (hj : xJ ad) (hA : ∀ k, k < 65 → A (ad k)) : va_D A (xW ad E) := by
  refine ⟨fun i j p q hp hq h => ?_, fun k q hk => ?_⟩
  · obtain ⟨h1, rfl⟩ := xW_lt hp
    obtain ⟨h2, rfl⟩ := xW_lt hq
    exact hj i j h1 h2 h
  · obtain ⟨h1, rfl⟩ := xW_lt hk
    exact hA k h1
theorem xU_up (E : Nat → va_E) (k : Nat) (e : va_E) : xU E k e (va_up E k e) := ⟨by simp [va_up], fun j h => by simp [va_up, h]⟩
theorem xA_in {ad : Nat → Nat} : ∀ k, k < 65 → xA ad (ad k) := fun k h => ⟨k, h, rfl⟩
theorem xK.call {g : xG} {U : State} {f : JFrame} {mk : MethodId} {a : Array Value} (h : xK g U) : xK g (U.calling f mk a) := ⟨va_K.moved (u := U) (U := U.calling f mk a) (Vm.Alike.refl U.vm) h.1, va_Nw.same (u := U) rfl rfl h.2⟩
theorem xK.warm {g : xG} {s U : State} (hW : s.WarmedH U.vm) (h : xK g s) : xK g U := ⟨va_K.moved hW.alike h.1, va_Nw.warmM hW h.2⟩
theorem x_blind {g : xG} {av : List Value} {E : Nat → va_E} : FrameBlind (xPc g av E) := fun a U f mk q => ⟨q.1, q.2.1, q.2.2.call⟩
/-- a truth as an int -/
def xb (P : Prop) (r : Int32) : Prop := (r = 0 ∨ r = 1) ∧ (¬ r = 0 ↔ P)
theorem xb.t {P : Prop} {r : Int32} (h : xb P r) (c : ¬ r = 0) : P := h.2.mp c
theorem xb.f {P : Prop} {r : Int32} (h : xb P r) (c : r = 0) : ¬ P := fun q => h.2.mpr q c
theorem xb.one {P : Prop} (h : P) : xb P 1 := ⟨Or.inr rfl, fun _ => h, fun _ => by decide⟩
theorem xb.zero {P : Prop} (h : ¬ P) : xb P 0 := ⟨Or.inl rfl, fun q => absurd rfl q, fun q => absurd q h⟩
theorem xb.iff {P P' : Prop} {r : Int32} (h : xb P r) (e : P ↔ P') : xb P' r := ⟨h.1, h.2.trans e⟩
theorem xb.eq {P : Prop} {r r' : Int32} (h : xb P r) (h' : xb P r') : r = r' := by
  rcases h.1 with a | a <;> rcases h'.1 with b | b
  · rw [a, b]
  · exact absurd (h'.2.mp (by rw [b]; decide)) (h.f a)
  · exact absurd (h.2.mp (by rw [a]; decide)) (h'.f b)
  · rw [a, b]
theorem xb.nar {P : Prop} {r : Int32} (h : xb P r) : narrow .boolean (.int r) = .int r := by
  rcases h.1 with a | a <;> rw [a] <;> rfl
theorem xb.fit {P : Prop} {r : Int32} (h : xb P r) : fits .boolean (.int r) = true := by
  rcases h.1 with a | a <;> rw [a] <;> rfl
section XR
variable {p : Program} {l : Launch} {e : Env} {R : Room} {s : State} {m : MethodId} {args : Array Value} {below : List Frame} {meth : Method} {c : Code} {H : Heap} {locs : List Loc} {cells slots : Nat} {Q : State → Prop}
variable {cc : ByteArray} {pc nL index : Nat} {ls : Array Slot} {rest : List Value} {g : xG} {A : Nat → Prop} {H0 : Heap} {E : Nat → va_E} {Ts : List Cond} {own : String}
theorem x_get (S : CallFix p m c cc nL s args Ts own) (hK : xK g s) (hP : xP g E H) (hdg : decode cc pc = .ok (.getfield index, 3)) {k ci : Nat} {fs : List Value} (he : E k = .inr (ci, fs)) (hk : k < 65) (ro : vw_C) (hc : vwCl[ci]? = some ro) (hin : ∀ w ∈ u_ws ro.1 ro.2.1 ro.2.2, w ∈ Ts) (j : Nat) (hj : j < ro.2.2) (hl : Cond.fieldLink own index (ro.2.1 j).1 (ro.2.1 j).2.1 (ro.2.1 j).2.2.1 ∈ Ts) {v : Value} (hv : fs[j]? = some v)
    (kk : W p l e R s m args below meth c H locs cells slots Q (F0 m (pc + 3) ls (v :: rest))) : W p l e R s m args below meth c H locs cells slots Q (F0 m pc ls (.ref (xad g k) :: rest)) := by
  obtain ⟨C, T, N⟩ := ro
  exact va_get (C := C) (T := T) (N := N) S.1 S.2.1 S.2.2.2.2 hin S.2.2.2.1 hK.1 hP k (by rw [xW_at hk, he]) hc j hj (S.2.2.2.2 _ hl) (fun _ h => h) hv hdg kk
theorem x_put (S : CallFix p m c cc nL s args Ts own) (hK : xK g s) (hJ : xJ (xad g)) (hP : xP g E H) (hS : va_S (xA (xad g)) H0 H locs) (hdg : decode cc pc = .ok (.putfield index, 3)) {k ci : Nat} {fs : List Value} (he : E k = .inr (ci, fs)) (hk : k < 65) (ro : vw_C) (hc : vwCl[ci]? = some ro) (hin : ∀ w ∈ u_ws ro.1 ro.2.1 ro.2.2, w ∈ Ts) (ty : Nat → FieldType) (hty : ∀ k, k < ro.2.2 → parseFieldDescriptor (ro.2.1 k).2.2.1 = some (ty k)) (hnm : ∀ a, a < ro.2.2 → ∀ b, b < ro.2.2 → a ≠ b → (ro.2.1 a).2.1 ≠ (ro.2.1 b).2.1) (j : Nat) (hj : j < ro.2.2) (hl : Cond.fieldLink own index (ro.2.1 j).1 (ro.2.1 j).2.1 (ro.2.1 j).2.2.1 ∈ Ts) (hfin : (ro.2.1 j).2.2.2 = false) {v : Value} (hn : narrow (ty j) v = v) (hfit : fits (ty j) v = true) (hlen : j < fs.length)
    (kk : ∀ (H1 : Heap) (locs1 : List Loc) (E1 : Nat → va_E), xU E k (.inr (ci, fs.set j v)) E1 → xP g E1 H1 → va_S (xA (xad g)) H0 H1 locs1 → W p l e R s m args below meth c H1 locs1 cells slots Q (F0 m (pc + 3) ls rest)) : W p l e R s m args below meth c H locs cells slots Q (F0 m pc ls (v :: .ref (xad g k) :: rest)) := by
  obtain ⟨C, T, N⟩ := ro
  refine va_put (C := C) (T := T) (N := N) S.1 S.2.1 S.2.2.2.2 hin ty hty hnm S.2.2.2.1 hK.1 hP (xW_D hJ xA_in) hS k (by rw [xW_at hk, he]) hc j hj (S.2.2.2.2 _ hl) (fun _ h => h) hfin (hty j hj) hn hfit hlen hdg (fun H1 locs1 h1 _ h3 => ?_)
  rw [xW_set hk] at h1
  exact kk H1 locs1 _ (xU_up _ _ _) h1 h3
theorem x_iald (S : CallFix p m c cc nL s args Ts own) (hK : xK g s) (hP : xP g E H) (hdg : decode cc pc = .ok (.iaload, 1)) {k n : Nat} {f : Nat → Int32} (he : E k = .inl (xI g, n, .inl f)) (hk : k < 65) {i : Int32} {j : Nat} (hi : i = nI j) (hj : j < n) (hn : n < 2 ^ 31)
    (kk : W p l e R s m args below meth c H locs cells slots Q (F0 m (pc + 1) ls (.int (f j) :: rest))) : W p l e R s m args below meth c H locs cells slots Q (F0 m pc ls (.int i :: .ref (xad g k) :: rest)) := by
  subst hi
  refine va_iald S.1 S.2.1 hK.1 hP k 0 (by rw [xW_at hk, he]) rfl (vp_in_nI hj hn) hdg ?_
  rw [nI_clamp (by omega)]
  exact kk
theorem x_cald (S : CallFix p m c cc nL s args Ts own) (hK : xK g s) (hP : xP g E H) (hdg : decode cc pc = .ok (.caload, 1)) {k n : Nat} {f : Nat → Int32} (he : E k = .inl (xC g, n, .inl f)) (hk : k < 65) {i : Int32} {j : Nat} (hi : i = nI j) (hj : j < n) (hn : n < 2 ^ 31)
    (kk : W p l e R s m args below meth c H locs cells slots Q (F0 m (pc + 1) ls (.int (f j) :: rest))) : W p l e R s m args below meth c H locs cells slots Q (F0 m pc ls (.int i :: .ref (xad g k) :: rest)) := by
  subst hi
  refine va_cald S.1 S.2.1 hK.1 hP k 1 (by rw [xW_at hk, he]) rfl (vp_in_nI hj hn) hdg ?_
  rw [nI_clamp (by omega)]
  exact kk
theorem x_aldp (S : CallFix p m c cc nL s args Ts own) (hK : xK g s) (hP : xP g E H) (hdg : decode cc pc = .ok (.aaload, 1)) {k n : Nat} {f : Nat → Option Nat} (he : E k = .inl (xQ g, n, .inr (.inr (.inr (.inr f))))) (hk : k < 65) {i : Int32} {j q : Nat} (hi : i = nI j) (hj : j < n) (hn : n < 2 ^ 31) (hq : f j = some q)
    (kk : W p l e R s m args below meth c H locs cells slots Q (F0 m (pc + 1) ls (.ref q :: rest))) : W p l e R s m args below meth c H locs cells slots Q (F0 m pc ls (.int i :: .ref (xad g k) :: rest)) := by
  subst hi
  refine va_aldq S.1 S.2.1 hK.1 hP k 2 (by rw [xW_at hk, he]) rfl (vp_in_nI hj hn) hdg ?_
  rw [nI_clamp (by omega), hq]
  exact kk
theorem x_aldr (S : CallFix p m c cc nL s args Ts own) (hK : xK g s) (hP : xP g E H) (hdg : decode cc pc = .ok (.aaload, 1)) {k n : Nat} {f : Nat → Option Nat} (he : E k = .inl (xR g, n, .inr (.inr (.inr (.inr f))))) (hk : k < 65) {i : Int32} {j q : Nat} (hi : i = nI j) (hj : j < n) (hn : n < 2 ^ 31) (hq : f j = some q)
    (kk : W p l e R s m args below meth c H locs cells slots Q (F0 m (pc + 1) ls (.ref q :: rest))) : W p l e R s m args below meth c H locs cells slots Q (F0 m pc ls (.int i :: .ref (xad g k) :: rest)) := by
  subst hi
  have hcl : (nI j).toNatClampNeg = j := nI_clamp (by omega)
  have hcell : H[xad g k]? = some (vp_cell (xR g) (n, .inr (.inr (.inr (.inr f))))) := hP k (xad g k, .inl (xR g, n, .inr (.inr (.inr (.inr f))))) (by rw [xW_at hk, he])
  rw [vp_cell_q] at hcell
  refine W.aald (v := .ref q) (ty := .array .int) S.1 S.2.1 hcell ((hK.1.2 3 _ rfl).1 n (fun j => va_rf (f j))) rfl (fun q => by cases q) (by rw [arrV_size]; exact vp_in_nI hj hn) (by rw [hcl, arrV_read _ _ hj, hq]; rfl) rfl rfl hdg kk
theorem x_iast (S : CallFix p m c cc nL s args Ts own) (hK : xK g s) (hJ : xJ (xad g)) (hP : xP g E H) (hS : va_S (xA (xad g)) H0 H locs) (hdg : decode cc pc = .ok (.iastore, 1)) {k n : Nat} {f : Nat → Int32} (he : E k = .inl (xI g, n, .inl f)) (hk : k < 65) {i x : Int32} {j : Nat} (hi : i = nI j) (hj : j < n) (hn : n < 2 ^ 31)
    (kk : ∀ (H1 : Heap) (locs1 : List Loc) (E1 : Nat → va_E), xU E k (.inl (xI g, n, .inl (upd f j x))) E1 → xP g E1 H1 → va_S (xA (xad g)) H0 H1 locs1 → W p l e R s m args below meth c H1 locs1 cells slots Q (F0 m (pc + 1) ls rest)) : W p l e R s m args below meth c H locs cells slots Q (F0 m pc ls (.int x :: .int i :: .ref (xad g k) :: rest)) := by
  subst hi
  refine va_iast S.1 S.2.1 hK.1 hP (xW_D hJ xA_in) hS k 0 (by rw [xW_at hk, he]) rfl (vp_in_nI hj hn) hdg (fun H1 locs1 h1 _ h3 => ?_)
  rw [xW_set hk, nI_clamp (by omega)] at h1
  exact kk H1 locs1 _ (xU_up _ _ _) h1 h3
theorem x_cast (S : CallFix p m c cc nL s args Ts own) (hK : xK g s) (hJ : xJ (xad g)) (hP : xP g E H) (hS : va_S (xA (xad g)) H0 H locs) (hdg : decode cc pc = .ok (.castore, 1)) {k n : Nat} {f : Nat → Int32} (he : E k = .inl (xC g, n, .inl f)) (hk : k < 65) {i x : Int32} {j : Nat} (hi : i = nI j) (hj : j < n) (hn : n < 2 ^ 31)
    (kk : ∀ (H1 : Heap) (locs1 : List Loc) (E1 : Nat → va_E), xU E k (.inl (xC g, n, .inl (upd f j (vp_nar .char x)))) E1 → xP g E1 H1 → va_S (xA (xad g)) H0 H1 locs1 → W p l e R s m args below meth c H1 locs1 cells slots Q (F0 m (pc + 1) ls rest)) : W p l e R s m args below meth c H locs cells slots Q (F0 m pc ls (.int x :: .int i :: .ref (xad g k) :: rest)) := by
  subst hi
  refine va_cast S.1 S.2.1 hK.1 hP (xW_D hJ xA_in) hS k 1 (by rw [xW_at hk, he]) rfl (vp_in_nI hj hn) hdg (fun H1 locs1 h1 _ h3 => ?_)
  rw [xW_set hk, nI_clamp (by omega)] at h1
  exact kk H1 locs1 _ (xU_up _ _ _) h1 h3
theorem x_astp (S : CallFix p m c cc nL s args Ts own) (hK : xK g s) (hJ : xJ (xad g)) (hP : xP g E H) (hS : va_S (xA (xad g)) H0 H locs) (hdg : decode cc pc = .ok (.aastore, 1)) {k n : Nat} {f : Nat → Option Nat} (he : E k = .inl (xQ g, n, .inr (.inr (.inr (.inr f))))) (hk : k < 65) {i : Int32} {j b : Nat} {vs : List Value} (hi : i = nI j) (hj : j < n) (hn : n < 2 ^ 31) (hb : E b = .inr (2, vs)) (hb5 : b < 65)
    (kk : ∀ (H1 : Heap) (locs1 : List Loc) (E1 : Nat → va_E), xU E k (.inl (xQ g, n, .inr (.inr (.inr (.inr (va_up f j (some (xad g b)))))))) E1 → xP g E1 H1 → va_S (xA (xad g)) H0 H1 locs1 → W p l e R s m args below meth c H1 locs1 cells slots Q (F0 m (pc + 1) ls rest)) : W p l e R s m args below meth c H locs cells slots Q (F0 m pc ls (.ref (xad g b) :: .int i :: .ref (xad g k) :: rest)) := by
  subst hi
  refine va_astq (r := (RX2, TX2, 2)) S.1 S.2.1 hK.1 hP (xW_D hJ xA_in) hS k 2 b 2 (by rw [xW_at hk, he]) rfl (by rw [xW_at hb5, hb]) rfl (vp_in_nI hj hn) hdg (fun H1 locs1 h1 _ h3 => ?_)
  rw [xW_set hk, nI_clamp (by omega)] at h1
  exact kk H1 locs1 _ (xU_up _ _ _) h1 h3
/-- a call that writes nothing: its answer -/
theorem x_si {post : Int32 → Prop} {a : Array Value} {st0 : List Value} (hr : va_Run p l e R s m args below meth c H locs cells slots 0 0 (F0 m pc ls st0) rest (vp_Si post a) (fun _ => False))
    (kk : ∀ r : Int32, post r → W p l e R s m args below meth c H locs cells slots Q (F0 m (pc + 3) ls (.int r :: rest))) : W p l e R s m args below meth c H locs cells slots Q (F0 m pc ls st0) := by
  intro T hT X
  obtain ⟨v, st₀, t, T', L, h0, X', hL, e1, -, ⟨r, hv, hp, hh⟩, st⟩ := hr T hT X
  cases hv
  obtain ⟨t2, a1, b1⟩ := kk r hp T' (by rw [e1, hh, h0]) (Stand.forget X' (fun q h => (hL q h).elim))
  exact ⟨t2, st t2 a1, b1⟩
theorem x_sl {post : Int64 → Prop} {a : Array Value} {st0 : List Value} (hr : va_Run p l e R s m args below meth c H locs cells slots 0 0 (F0 m pc ls st0) rest (vp_Sl post a) (fun _ => False))
    (kk : ∀ r : Int64, post r → W p l e R s m args below meth c H locs cells slots Q (F0 m (pc + 3) ls (.long r :: rest))) : W p l e R s m args below meth c H locs cells slots Q (F0 m pc ls st0) := by
  intro T hT X
  obtain ⟨v, st₀, t, T', L, h0, X', hL, e1, -, ⟨r, hv, hp, hh⟩, st⟩ := hr T hT X
  cases hv
  obtain ⟨t2, a1, b1⟩ := kk r hp T' (by rw [e1, hh, h0]) (Stand.forget X' (fun q h => (hL q h).elim))
  exact ⟨t2, st t2 a1, b1⟩
/-- a call that changes the world -/
def xQi (g : xG) (post : Int32 → (Nat → va_E) → Prop) : Array Value → State → Outcome → State → Prop := va_Qi post (fun E' t => xP g E' t.heap) (xA (xad g))
def xQl (g : xG) (post : Int64 → (Nat → va_E) → Prop) : Array Value → State → Outcome → State → Prop := va_Ql post (fun E' t => xP g E' t.heap) (xA (xad g))
def xQv (g : xG) (post : (Nat → va_E) → Prop) : Array Value → State → Outcome → State → Prop := va_Qv post (fun E' t => xP g E' t.heap) (xA (xad g))
variable {st0 : List Value} {a : Array Value}
theorem x_qi {post : Int32 → (Nat → va_E) → Prop} (hr : va_Run p l e R s m args below meth c H locs cells slots 0 0 (F0 m pc ls st0) rest (xQi g post a) (xA (xad g))) (hS : va_S (xA (xad g)) H0 H locs)
    (kk : ∀ (r : Int32) (E1 : Nat → va_E) (H1 : Heap) (locs1 : List Loc), post r E1 → xP g E1 H1 → va_S (xA (xad g)) H0 H1 locs1 → W p l e R s m args below meth c H1 locs1 cells slots Q (F0 m (pc + 3) ls (.int r :: rest))) : W p l e R s m args below meth c H locs cells slots Q (F0 m pc ls st0) :=
  va_calli hr hS (fun _ _ h => h) (fun _ h => h) (fun r u t H1 locs1 h1 _ h3 h4 _ _ h7 => kk r u H1 locs1 h3 (by rw [← h1]; exact h4) h7)
theorem x_ql {post : Int64 → (Nat → va_E) → Prop} (hr : va_Run p l e R s m args below meth c H locs cells slots 0 0 (F0 m pc ls st0) rest (xQl g post a) (xA (xad g))) (hS : va_S (xA (xad g)) H0 H locs)
    (kk : ∀ (r : Int64) (E1 : Nat → va_E) (H1 : Heap) (locs1 : List Loc), post r E1 → xP g E1 H1 → va_S (xA (xad g)) H0 H1 locs1 → W p l e R s m args below meth c H1 locs1 cells slots Q (F0 m (pc + 3) ls (.long r :: rest))) : W p l e R s m args below meth c H locs cells slots Q (F0 m pc ls st0) :=
  va_calll hr hS (fun _ _ h => h) (fun _ h => h) (fun r u t H1 locs1 h1 _ h3 h4 _ _ h7 => kk r u H1 locs1 h3 (by rw [← h1]; exact h4) h7)
theorem x_qv {post : (Nat → va_E) → Prop} (hr : va_Run p l e R s m args below meth c H locs cells slots 0 0 (F0 m pc ls st0) rest (xQv g post a) (xA (xad g))) (hS : va_S (xA (xad g)) H0 H locs)
    (kk : ∀ (E1 : Nat → va_E) (H1 : Heap) (locs1 : List Loc), post E1 → xP g E1 H1 → va_S (xA (xad g)) H0 H1 locs1 → W p l e R s m args below meth c H1 locs1 cells slots Q (F0 m (pc + 3) ls rest)) : W p l e R s m args below meth c H locs cells slots Q (F0 m pc ls st0) :=
  va_callv hr hS (fun _ _ h => h) (fun _ h => h) (fun u t H1 locs1 h1 _ h3 h4 _ _ h7 => kk u H1 locs1 h3 (by rw [← h1]; exact h4) h7)
/-- what a call needs of the world -/
theorem x_preV (hK : xK g s) (hP : xP g E H) {k ci : Nat} {fs : List Value} {As : List Value} {ro : vw_C} (he : E k = .inr (ci, fs)) (hk : k < 65) (hc : vwCl[ci]? = some ro) : PreV s H ro.1 (xad g k) (xPc g (.ref (xad g k) :: As) E) As :=
  ⟨x_blind, va_recv hK.1 hP hc (q0 := k) (by rw [xW_at hk, he]), fun U hU hW => ⟨rfl, by rw [hU]; exact hP, hK.warm hW⟩⟩
theorem x_preS (hK : xK g s) (hP : xP g E H) {As : List Value} : PreS s H (xPc g As E) As := ⟨x_blind, fun U hU hW => ⟨rfl, by rw [hU]; exact hP, hK.warm hW⟩⟩
/-- the ends -/
theorem x_iretR {post : Int32 → Prop} {v : Int32} (S : CallFix p m c cc nL s args Ts own) (hr : meth.sig.returnType = some .int) (hlocks : meth.locks = false) (hdg : decode cc pc = .ok (.ireturn, 1)) (hpost : post v) : W p l e R s m args below meth c s.heap [] cells slots (MQ below (vp_Si post) args s cells slots (fun _ => False)) (F0 m pc ls [.int v]) :=
  W.iret S.1 S.2.1 hr (fun t ht _ => ⟨v, rfl, hpost, ht⟩) (fun q h => by cases h) hdg hlocks
theorem x_zretR {P : Prop} {v : Int32} (S : CallFix p m c cc nL s args Ts own) (hr : meth.sig.returnType = some .boolean) (hlocks : meth.locks = false) (hdg : decode cc pc = .ok (.ireturn, 1)) (hpost : xb P v) : W p l e R s m args below meth c s.heap [] cells slots (MQ below (vp_Si (xb P)) args s cells slots (fun _ => False)) (F0 m pc ls [.int v]) :=
  W.zret S.1 S.2.1 hr hpost.nar (fun t ht _ => ⟨v, rfl, hpost, ht⟩) (fun q h => by cases h) hdg hlocks
theorem x_lretR {post : Int64 → Prop} {v : Int64} (S : CallFix p m c cc nL s args Ts own) (hr : meth.sig.returnType = some .long) (hlocks : meth.locks = false) (hdg : decode cc pc = .ok (.lreturn, 1)) (hpost : post v) : W p l e R s m args below meth c s.heap [] cells slots (MQ below (vp_Sl post) args s cells slots (fun _ => False)) (F0 m pc ls [.long v]) :=
  W.lret S.1 S.2.1 hr (fun t ht _ => ⟨v, rfl, hpost, ht⟩) (fun q h => by cases h) hdg hlocks
theorem x_iret {post : Int32 → (Nat → va_E) → Prop} {v : Int32} (S : CallFix p m c cc nL s args Ts own) (hr : meth.sig.returnType = some .int) (hlocks : meth.locks = false) (hP : xP g E H) (hS : va_S (xA (xad g)) s.heap H locs) (hdg : decode cc pc = .ok (.ireturn, 1)) (hpost : post v E) : W p l e R s m args below meth c H locs cells slots (MQ below (xQi g post) args s cells slots (xA (xad g))) (F0 m pc ls [.int v]) :=
  W.iret S.1 S.2.1 hr (fun t ht _ => ⟨⟨v, E, rfl, hpost, show xP g E t.heap by rw [ht]; exact hP⟩, hS.F ht⟩) hS.2.2 hdg hlocks
theorem x_zret {post : Int32 → (Nat → va_E) → Prop} {v : Int32} (S : CallFix p m c cc nL s args Ts own) (hr : meth.sig.returnType = some .boolean) (hlocks : meth.locks = false) (hP : xP g E H) (hS : va_S (xA (xad g)) s.heap H locs) (hdg : decode cc pc = .ok (.ireturn, 1)) (hv : narrow .boolean (.int v) = .int v) (hpost : post v E) : W p l e R s m args below meth c H locs cells slots (MQ below (xQi g post) args s cells slots (xA (xad g))) (F0 m pc ls [.int v]) :=
  W.zret S.1 S.2.1 hr hv (fun t ht _ => ⟨⟨v, E, rfl, hpost, show xP g E t.heap by rw [ht]; exact hP⟩, hS.F ht⟩) hS.2.2 hdg hlocks
theorem x_lret {post : Int64 → (Nat → va_E) → Prop} {v : Int64} (S : CallFix p m c cc nL s args Ts own) (hr : meth.sig.returnType = some .long) (hlocks : meth.locks = false) (hP : xP g E H) (hS : va_S (xA (xad g)) s.heap H locs) (hdg : decode cc pc = .ok (.lreturn, 1)) (hpost : post v E) : W p l e R s m args below meth c H locs cells slots (MQ below (xQl g post) args s cells slots (xA (xad g))) (F0 m pc ls [.long v]) :=
  W.lret S.1 S.2.1 hr (fun t ht _ => ⟨⟨v, E, rfl, hpost, show xP g E t.heap by rw [ht]; exact hP⟩, hS.F ht⟩) hS.2.2 hdg hlocks
theorem x_vret {post : (Nat → va_E) → Prop} (S : CallFix p m c cc nL s args Ts own) (hr : meth.sig.returnType = none) (hlocks : meth.locks = false) (hP : xP g E H) (hS : va_S (xA (xad g)) s.heap H locs) (hdg : decode cc pc = .ok (.return_, 1)) (hpost : post E) : W p l e R s m args below meth c H locs cells slots (MQ below (xQv g post) args s cells slots (xA (xad g))) (F0 m pc ls []) :=
  W.vret S.1 S.2.1 hr (fun t ht _ => ⟨⟨E, rfl, hpost, show xP g E t.heap by rw [ht]; exact hP⟩, hS.F ht⟩) hS.2.2 hdg hlocks
/-- a Photos at the places b .. b+8: n photos, row w of them M w -/
def ePh (g : xG) (E : Nat → va_E) (b n : Nat) (M : Nat → Nat → Int32) : Prop := (b + 9 ≤ 65 ∧ n ≤ 10) ∧ E b = .inr (2, [.ref (xad g (b + 1)), .int (nI n)]) ∧ E (b + 1) = .inl (xR g, 7, .inr (.inr (.inr (.inr (fun w => if w < 7 then some (xad g (b + 2 + w)) else none))))) ∧ ∀ w, w < 7 → ∃ f : Nat → Int32, E (b + 2 + w) = .inl (xI g, 10, .inl f) ∧ ∀ k, k < n → f k = M w k
theorem ePh.keep {g : xG} {E E1 : Nat → va_E} {b n : Nat} {M : Nat → Nat → Int32} (h : ePh g E b n M) (hE : ∀ j, b ≤ j → j < b + 9 → E1 j = E j) : ePh g E1 b n M := by
  obtain ⟨h0, h1, h2, h3⟩ := h
  refine ⟨h0, by rw [hE b (by omega) (by omega)]; exact h1, by rw [hE (b + 1) (by omega) (by omega)]; exact h2, fun w hw => ?_⟩
  obtain ⟨f, hf, hk⟩ := h3 w hw
  exact ⟨f, by rw [hE (b + 2 + w) (by omega) (by omega)]; exact hf, hk⟩
theorem x_row {b n : Nat} {M : Nat → Nat → Int32} (S : CallFix p m c cc nL s args Ts own) (hK : xK g s) (hP : xP g E H) (hdg : decode cc pc = .ok (.aaload, 1)) (hp : ePh g E b n M) {i : Int32} (w : Nat) (hi : i = nI w) (hw : w < 7)
    (kk : W p l e R s m args below meth c H locs cells slots Q (F0 m (pc + 1) ls (.ref (xad g (b + 2 + w)) :: rest))) : W p l e R s m args below meth c H locs cells slots Q (F0 m pc ls (.int i :: .ref (xad g (b + 1)) :: rest)) :=
  x_aldr S hK hP hdg hp.2.2.1 (by have := hp.1; omega) hi hw (by decide) (if_pos hw) kk
theorem x_val {b n : Nat} {M : Nat → Nat → Int32} (S : CallFix p m c cc nL s args Ts own) (hK : xK g s) (hP : xP g E H) (hdg : decode cc pc = .ok (.iaload, 1)) (hp : ePh g E b n M) {i : Int32} {w : Nat} (k : Nat) (hi : i = nI k) (hw : w < 7) (hk : k < n)
    (kk : W p l e R s m args below meth c H locs cells slots Q (F0 m (pc + 1) ls (.int (M w k) :: rest))) : W p l e R s m args below meth c H locs cells slots Q (F0 m pc ls (.int i :: .ref (xad g (b + 2 + w)) :: rest)) := by
  obtain ⟨f, hf, hv⟩ := hp.2.2.2 w hw
  refine x_iald S hK hP hdg hf (by have := hp.1; omega) hi (by have := hp.1; omega) (by decide) ?_
  rw [hv k hk]
  exact kk
end XR
/-- a contract out of a walk -/
theorem x_met {l : Launch} {y : MethodName} {ws ws' : List Cond} {rm : Room} {cc : ByteArray} {nL : Nat} {ret : Option FieldType} {g : xG} {av : List Value} {E : Nat → va_E} {Qc : Array Value → State → Outcome → State → Prop} {free : Addr → Prop} (hy : plainName y.cls = true) (hw : ws = Cond.code y cc nL ret :: ws') (hn : (lg_sl av).length ≤ nL)
    (body : ∀ (p : Program) (e : Env) (s : State) (m : MethodId) (below : List Frame) (meth : Method) (c : Code) (ls : Array Slot), CallFix p m c cc nL s av.toArray ws y.cls → meth.sig.returnType = ret → meth.locks = false → xP g E s.heap → xK g s → lv_has ls nL (lv_args 0 av) →
      W p l e rm s m av.toArray below meth c s.heap [] 0 0 (MQ below Qc av.toArray s 0 0 free) (F0 m 0 ls [])) : Met l y ws rm (xPc g av E) Qc 0 0 free := by
  refine Met.ofW (cc := cc) (maxL := nL) (ret := ret) hy hw ?_
  intro p e s m args below meth c s₁ B hml hv
  obtain ⟨rfl, hP, hK⟩ := hv
  rw [lg_entry_eq]
  exact body p e s m below meth c _ ⟨B.exec, B.bytes, hml, findClass_of_methodNamed B.named, atoms_spec (ws := ws) B.pre⟩ B.returns B.notSynchronized hP hK (lv_entry av hn)
