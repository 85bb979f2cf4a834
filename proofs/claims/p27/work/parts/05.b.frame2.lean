/-! more rows of the frame: a Photos by its structure; System.arraycopy of rows -/
/-- a Photos at the places b .. b+8, whatever it holds -/
def ePs (g : xG) (E : Nat → va_E) (b : Nat) (z : Int32) : Prop := b + 9 ≤ 65 ∧ E b = .inr (2, [.ref (xad g (b + 1)), .int z]) ∧ E (b + 1) = .inl (xR g, 7, .inr (.inr (.inr (.inr (fun w => if w < 7 then some (xad g (b + 2 + w)) else none))))) ∧ ∀ w, w < 7 → ∃ f : Nat → Int32, E (b + 2 + w) = .inl (xI g, 10, .inl f)
theorem ePh.ps {g : xG} {E : Nat → va_E} {b n : Nat} {M : Nat → Nat → Int32} (h : ePh g E b n M) : ePs g E b (nI n) := ⟨h.1.1, h.2.1, h.2.2.1, fun w hw => by obtain ⟨f, hf, -⟩ := h.2.2.2 w hw; exact ⟨f, hf⟩⟩
theorem ePs.keep {g : xG} {E E1 : Nat → va_E} {b : Nat} {z : Int32} (h : ePs g E b z) (hE : ∀ j, b ≤ j → j < b + 9 → E1 j = E j) : ePs g E1 b z := by
  obtain ⟨h0, h1, h2, h3⟩ := h
  refine ⟨h0, by rw [hE b (by omega) (by omega)]; exact h1, by rw [hE (b + 1) (by omega) (by omega)]; exact h2, fun w hw => ?_⟩
  obtain ⟨f, hf⟩ := h3 w hw
  exact ⟨f, by rw [hE (b + 2 + w) (by omega) (by omega)]; exact hf⟩
/-- a row of it is written -/
theorem ePs.row {g : xG} {E E1 : Nat → va_E} {b w : Nat} {z : Int32} {f : Nat → Int32} (h : ePs g E b z) (hw : w < 7) (hu : xU E (b + 2 + w) (.inl (xI g, 10, .inl f)) E1) : ePs g E1 b z := by
  obtain ⟨h0, h1, h2, h3⟩ := h
  refine ⟨h0, by rw [hu.2 b (by omega)]; exact h1, by rw [hu.2 (b + 1) (by omega)]; exact h2, fun v hv => ?_⟩
  by_cases e : v = w
  · subst e
    exact ⟨f, hu.1⟩
  · obtain ⟨f', hf'⟩ := h3 v hv
    exact ⟨f', by rw [hu.2 (b + 2 + v) (by omega)]; exact hf'⟩
/-- its size is written -/
theorem ePs.size {g : xG} {E E1 : Nat → va_E} {b : Nat} {z z' : Int32} (h : ePs g E b z) (hu : xU E b (.inr (2, [.ref (xad g (b + 1)), .int z'])) E1) : ePs g E1 b z' := by
  obtain ⟨h0, h1, h2, h3⟩ := h
  refine ⟨h0, hu.1, by rw [hu.2 (b + 1) (by omega)]; exact h2, fun v hv => ?_⟩
  obtain ⟨f', hf'⟩ := h3 v hv
  exact ⟨f', by rw [hu.2 (b + 2 + v) (by omega)]; exact hf'⟩
/-- what the rows hold makes a Photos of it -/
theorem ePs.ph {g : xG} {E : Nat → va_E} {b n : Nat} {M : Nat → Nat → Int32} (h : ePs g E b (nI n)) (hn : n ≤ 10) (hr : ∀ w, w < 7 → ∃ f : Nat → Int32, E (b + 2 + w) = .inl (xI g, 10, .inl f) ∧ ∀ k, k < n → f k = M w k) : ePh g E b n M := ⟨⟨h.1, hn⟩, h.2.1, h.2.2.1, hr⟩
section XR2
variable {p : Program} {l : Launch} {e : Env} {R : Room} {s : State} {m : MethodId} {args : Array Value} {below : List Frame} {meth : Method} {c : Code} {H : Heap} {locs : List Loc} {cells slots : Nat} {Q : State → Prop}
variable {cc : ByteArray} {pc nL index : Nat} {ls : Array Slot} {rest : List Value} {g : xG} {A : Nat → Prop} {H0 : Heap} {E : Nat → va_E} {Ts : List Cond} {own : String}
theorem x_rowS {b : Nat} {z : Int32} (S : CallFix p m c cc nL s args Ts own) (hK : xK g s) (hP : xP g E H) (hdg : decode cc pc = .ok (.aaload, 1)) (hp : ePs g E b z) {i : Int32} (w : Nat) (hi : i = nI w) (hw : w < 7)
    (kk : W p l e R s m args below meth c H locs cells slots Q (F0 m (pc + 1) ls (.ref (xad g (b + 2 + w)) :: rest))) : W p l e R s m args below meth c H locs cells slots Q (F0 m pc ls (.int i :: .ref (xad g (b + 1)) :: rest)) :=
  x_aldr S hK hP hdg hp.2.2.1 (by have := hp.1; omega) hi hw (by decide) (if_pos hw) kk
theorem x_copy (S : CallFix p m c cc nL s args Ts own) (hl : ls.size = nL) (hK : xK g s) (hJ : xJ (xad g)) (hP : xP g E H) (hS : va_S (xA (xad g)) H0 H locs) (hdg : decode cc pc = .ok (.invokestatic index, 3)) (hlink : Cond.methodLink own index arraycopyName ∈ Ts) (hnat : Cond.native arraycopyName ∈ Ts) (hstat : Cond.static arraycopyName ∈ Ts) (hini : Cond.initialized "java/lang/System" ∈ Ts) {k0 k1 n0 n1 : Nat} {f h : Nat → Int32} (he0 : E k0 = .inl (xI g, n0, .inl f)) (hk0 : k0 < 65) (he1 : E k1 = .inl (xI g, n1, .inl h)) (hk1 : k1 < 65) {sp dp cn : Int32} {a b d : Nat} (h1 : sp = nI a) (h2 : dp = nI b) (h3 : cn = nI d) (h4 : a + d ≤ n0) (h5 : b + d ≤ n1) (hn0 : n0 < 2 ^ 31) (hn1 : n1 < 2 ^ 31) (hframes : 1 ≤ R.frames) (hlocals : (rest.map fun v => v.category).sum + (nativeFrameWords "java/lang/System" "arraycopy" 5 + 11) ≤ R.locals)
    (kk : ∀ (H1 : Heap) (locs1 : List Loc) (E1 : Nat → va_E), xU E k1 (.inl (xI g, n1, .inl (va_cpy f h a b d))) E1 → xP g E1 H1 → va_S (xA (xad g)) H0 H1 locs1 → W p l e R s m args below meth c H1 locs1 cells slots Q (F0 m (pc + 3) ls rest)) : W p l e R s m args below meth c H locs cells slots Q (F0 m pc ls (.int cn :: .int dp :: .ref (xad g k1) :: .int sp :: .ref (xad g k0) :: rest)) := by
  subst h1 h2 h3
  have ea : (nI a).toNatClampNeg = a := nI_clamp (by omega)
  have eb : (nI b).toNatClampNeg = b := nI_clamp (by omega)
  have ed : (nI d).toNatClampNeg = d := nI_clamp (by omega)
  refine va_copyi S.1 S.2.1 (by rw [S.2.2.1, hl]) S.2.2.2.1 (S.2.2.2.2 _ hlink) (S.2.2.2.2 _ hnat) (S.2.2.2.2 _ hstat) (S.2.2.2.2 _ hini) hK.1 hP (xW_D hJ xA_in) hS k0 k1 0 0 (by rw [xW_at hk0, he0]) (by rw [xW_at hk1, he1]) rfl rfl rfl (nI_pos (by omega)) (nI_pos (by omega)) (nI_pos (by omega)) (by rw [ea, ed]; exact h4) (by rw [eb, ed]; exact h5) (fun i _ => rfl) hframes hlocals hdg (fun H1 locs1 g1 _ g3 => ?_)
  rw [xW_set hk1, ea, eb, ed] at g1
  exact kk H1 locs1 _ (xU_up _ _ _) g1 g3
end XR2
section XR3
variable {p : Program} {l : Launch} {e : Env} {R : Room} {s : State} {m : MethodId} {args : Array Value} {below : List Frame} {meth : Method} {c : Code} {H : Heap} {locs : List Loc} {cells slots : Nat} {Q : State → Prop}
variable {cc : ByteArray} {pc nL index : Nat} {ls : Array Slot} {rest : List Value} {g : xG} {A : Nat → Prop} {H0 : Heap} {E : Nat → va_E} {Ts : List Cond} {own : String}
theorem x_alen (S : CallFix p m c cc nL s args Ts own) (hK : xK g s) (hP : xP g E H) (hdg : decode cc pc = .ok (.arraylength, 1)) {k n : Nat} {f : Nat → Int32} (he : E k = .inl (xI g, n, .inl f)) (hk : k < 65)
    (kk : W p l e R s m args below meth c H locs cells slots Q (F0 m (pc + 1) ls (.int (nI n) :: rest))) : W p l e R s m args below meth c H locs cells slots Q (F0 m pc ls (.ref (xad g k) :: rest)) :=
  va_alen (x := (n, .inl f)) (v := nI n) S.1 S.2.1 hK.1 hP k 0 (by rw [xW_at hk, he]) rfl rfl hdg kk
/-- a number of a Photos, written anew -/
def setM (M : Nat → Nat → Int32) (w k : Nat) (x : Int32) : Nat → Nat → Int32 := fun v j => if v = w ∧ j = k then x else M v j
theorem ePh.set {E1 : Nat → va_E} {b n w k : Nat} {M : Nat → Nat → Int32} {x : Int32} {f : Nat → Int32} (h : ePh g E b n M) (hw : w < 7) (hf : ∀ k, k < n → f k = M w k) (hu : xU E (b + 2 + w) (.inl (xI g, 10, .inl (upd f k x))) E1) : ePh g E1 b n (setM M w k x) := by
  obtain ⟨h0, h1, h2, h3⟩ := h
  refine ⟨h0, by rw [hu.2 b (by omega)]; exact h1, by rw [hu.2 (b + 1) (by omega)]; exact h2, fun v hv => ?_⟩
  by_cases e : v = w
  · subst e
    refine ⟨_, hu.1, fun j hj => ?_⟩
    by_cases e2 : j = k
    · subst e2
      simp [upd, setM]
    · simp [upd, setM, e2, hf j hj]
  · obtain ⟨f', hf', hk'⟩ := h3 v hv
    refine ⟨f', by rw [hu.2 (b + 2 + v) (by omega)]; exact hf', fun j hj => ?_⟩
    rw [hk' j hj]
    simp [setM, e]
theorem x_phset {b n : Nat} {M : Nat → Nat → Int32} (S : CallFix p m c cc nL s args Ts own) (hK : xK g s) (hJ : xJ (xad g)) (hP : xP g E H) (hS : va_S (xA (xad g)) H0 H locs) (hdg : decode cc pc = .ok (.iastore, 1)) (hp : ePh g E b n M) {i x : Int32} {w : Nat} (k : Nat) (hi : i = nI k) (hw : w < 7) (hk : k < n)
    (kk : ∀ (H1 : Heap) (locs1 : List Loc) (E1 : Nat → va_E), (∀ j, j ≠ b + 2 + w → E1 j = E j) → ePh g E1 b n (setM M w k x) → xP g E1 H1 → va_S (xA (xad g)) H0 H1 locs1 → W p l e R s m args below meth c H1 locs1 cells slots Q (F0 m (pc + 1) ls rest)) : W p l e R s m args below meth c H locs cells slots Q (F0 m pc ls (.int x :: .int i :: .ref (xad g (b + 2 + w)) :: rest)) := by
  obtain ⟨f, hf, hv⟩ := hp.2.2.2 w hw
  have h0 := hp.1
  refine x_iast S hK hJ hP hS hdg hf (by omega) hi (by omega) (by decide) (fun H1 locs1 E1 hu g1 g2 => ?_)
  exact kk H1 locs1 E1 hu.2 (hp.set hw hv hu) g1 g2
end XR3
/-- a photo put in, a photo taken out -/
def insM (M : Nat → Nat → Int32) (q : Nat) (f : Nat → Int32) : Nat → Nat → Int32 := fun w k => if k < q then M w k else if k = q then (if w < 6 then f w else 0) else M w (k - 1)
def delM (M : Nat → Nat → Int32) (q : Nat) : Nat → Nat → Int32 := fun w k => if k < q then M w k else M w (k + 1)
/-- the history: hs states; the i-th is the Photos at B i -/
def eHi (g : xG) (E : Nat → va_E) (hs : Nat) (B N : Nat → Nat) (MM : Nat → Nat → Nat → Int32) : Prop := hs ≤ 4 ∧ E 19 = .inr (1, [.ref (xad g 20), .int (nI hs)]) ∧ (∃ F : Nat → Option Nat, E 20 = .inl (xQ g, 4, .inr (.inr (.inr (.inr F)))) ∧ ∀ i, i < 4 → F i = some (xad g (B i))) ∧ (∀ i, i < 4 → 21 ≤ B i ∧ B i ≤ 48 ∧ ePh g E (B i) (N i) (MM i)) ∧ ∀ i j, i < j → j < 4 → B i + 9 ≤ B j ∨ B j + 9 ≤ B i
