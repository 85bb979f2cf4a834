/-! CONSTRUCTORS: the world is a list that grows; a contract has it whole, and says what is at which place -/
theorem va_AOA.moved {ty : FieldType} {u U : State} (hvm : u.vm.Alike U.vm) (h : va_AOA ty u) : va_AOA ty U := by
  have h1 : (Cond.arrayOver (.array ty)).before #[] (u.setVm U.vm) = true := by
    rw [Cond.arrayOver_setVmC hvm]
    exact h
  unfold va_AOA
  simp only [Cond.before, Cond.holds, Cond.value, State.vm_setVm] at h1 ⊢
  exact h1
def yK (g : xG) (U : State) : Prop := xK g U ∧ va_AO "DiscArcs$Photos" U ∧ va_AOA .int U ∧ va_Nw (.methodLinkNest RX6 9 yX2_init RX6) U ∧ va_Nw (.methodLinkNest RX1 17 yX2_init RX6) U ∧ va_Nw (.methodLinkNest RX6 28 yX4_init RX6) U
theorem yK.call {g : xG} {U : State} {f : JFrame} {mk : MethodId} {a : Array Value} (h : yK g U) : yK g (U.calling f mk a) := ⟨h.1.call, va_AO.moved (u := U) (U := U.calling f mk a) (Vm.Alike.refl U.vm) h.2.1, va_AOA.moved (u := U) (U := U.calling f mk a) (Vm.Alike.refl U.vm) h.2.2.1, va_Nw.same (u := U) rfl rfl h.2.2.2.1, va_Nw.same (u := U) rfl rfl h.2.2.2.2.1, va_Nw.same (u := U) rfl rfl h.2.2.2.2.2⟩
theorem yK.warm {g : xG} {s U : State} (hW : s.WarmedH U.vm) (h : yK g s) : yK g U := ⟨h.1.warm hW, h.2.1.moved hW.alike, h.2.2.1.moved hW.alike, va_Nw.warmM hW h.2.2.2.1, va_Nw.warmM hW h.2.2.2.2.1, va_Nw.warmM hW h.2.2.2.2.2⟩
def yP (g : xG) (wl : va_W) (H : Heap) : Prop := va_P (xD g) vwCl wl H
def yPc (g : xG) (av : List Value) (sz : Nat) (wl : va_W) : Array Value → State → Prop := va_Pc av (fun U => U.heap.size = sz ∧ yP g wl U.heap ∧ yK g U ∧ va_D (fun _ => True) wl)
def yQ (g : xG) (sz : Nat) (wl : va_W) (post : va_W → Prop) : Array Value → State → Outcome → State → Prop := va_Qv post (fun u t => yP g u t.heap ∧ va_D (va_A wl sz) u) (va_A wl sz)
theorem y_idI {g : xG} {s : State} {cA : ClassId} (hK : xK g s) (h : va_K (xD g) vwCl (xt g ++ [(cA, .int)]) s) : cA = xI g := Option.some.inj ((show s.vm.findClass ("[" ++ FieldType.int.toString) = some cA from (h.2 4 _ rfl).2).symm.trans (show s.vm.findClass ("[" ++ FieldType.int.toString) = some (xI g) from (hK.1.2 0 _ rfl).2))
theorem y_idC {g : xG} {s : State} {cA : ClassId} (hK : xK g s) (h : va_K (xD g) vwCl (xt g ++ [(cA, .char)]) s) : cA = xC g := Option.some.inj ((show s.vm.findClass ("[" ++ FieldType.char.toString) = some cA from (h.2 4 _ rfl).2).symm.trans (show s.vm.findClass ("[" ++ FieldType.char.toString) = some (xC g) from (hK.1.2 1 _ rfl).2))
theorem y_idQ {g : xG} {s : State} {cA : ClassId} (hK : xK g s) (h : va_K (xD g) vwCl (xt g ++ [(cA, .object "DiscArcs$Photos")]) s) : cA = xQ g := by
  obtain ⟨k1, c1, -, -, -, h1⟩ : va_RA s cA (.object "DiscArcs$Photos") := (h.2 4 _ rfl).2
  obtain ⟨k2, c2, -, -, -, h2⟩ : va_RA s (xQ g) (.object "DiscArcs$Photos") := (hK.1.2 2 _ rfl).2
  exact Option.some.inj (h1.symm.trans h2)
theorem y_idR {g : xG} {s : State} {cA : ClassId} (hK : xK g s) (h : va_K (xD g) vwCl (xt g ++ [(cA, .array .int)]) s) : cA = xR g := Option.some.inj ((show s.vm.findClass ("[" ++ (FieldType.array .int).toString) = some cA from (h.2 4 _ rfl).2).symm.trans (show s.vm.findClass ("[" ++ (FieldType.array .int).toString) = some (xR g) from (hK.1.2 3 _ rfl).2))
/-- what a list keeps when it grows by one -/
def yG (wl wl1 : va_W) (a : Nat) (e : va_E) : Prop := wl1.length = wl.length + 1 ∧ wl1[wl.length]? = some (a, e) ∧ ∀ i, i < wl.length → wl1[i]? = wl[i]?
theorem yG.of (wl : va_W) (a : Nat) (e : va_E) : yG wl (wl ++ [(a, e)]) a e := ⟨by simp, by simp, fun i hi => List.getElem?_append_left hi⟩
/-- .. and when a place is written -/
def yS (wl wl1 : va_W) (k a : Nat) (e : va_E) : Prop := wl1.length = wl.length ∧ wl1[k]? = some (a, e) ∧ ∀ i, i ≠ k → wl1[i]? = wl[i]?
theorem yS.of {wl : va_W} {k a : Nat} {e0 e : va_E} (h : wl[k]? = some (a, e0)) : yS wl (wl.set k (a, e)) k a e := by
  have hl := (List.getElem?_eq_some_iff.mp h).1
  refine ⟨List.length_set .., by rw [List.getElem?_set_self hl], fun i hi => by rw [List.getElem?_set_ne (Ne.symm hi)]⟩
section YR
variable {p : Program} {l : Launch} {e : Env} {R : Room} {s : State} {m : MethodId} {args : Array Value} {below : List Frame} {meth : Method} {c : Code} {H : Heap} {locs : List Loc} {cells slots : Nat} {Q : State → Prop}
variable {cc : ByteArray} {pc nL index : Nat} {ls : Array Slot} {rest : List Value} {g : xG} {A : Nat → Prop} {H0 : Heap} {Ts : List Cond} {own : String} {wl : va_W}
theorem y_get (S : CallFix p m c cc nL s args Ts own) (hK : xK g s) (hP : yP g wl H) (hdg : decode cc pc = .ok (.getfield index, 3)) (k : Nat) {a ci : Nat} {fs : List Value} (he : wl[k]? = some (a, .inr (ci, fs))) (ro : vw_C) (hc : vwCl[ci]? = some ro) (hin : ∀ w ∈ u_ws ro.1 ro.2.1 ro.2.2, w ∈ Ts) (j : Nat) (hj : j < ro.2.2) (hl : Cond.fieldLink own index (ro.2.1 j).1 (ro.2.1 j).2.1 (ro.2.1 j).2.2.1 ∈ Ts) {v : Value} (hv : fs[j]? = some v)
    (kk : W p l e R s m args below meth c H locs cells slots Q (F0 m (pc + 3) ls (v :: rest))) : W p l e R s m args below meth c H locs cells slots Q (F0 m pc ls (.ref a :: rest)) := by
  obtain ⟨C, T, N⟩ := ro
  exact va_get (C := C) (T := T) (N := N) S.1 S.2.1 S.2.2.2.2 hin S.2.2.2.1 hK.1 hP k he hc j hj (S.2.2.2.2 _ hl) (fun _ h => h) hv hdg kk
theorem y_putF (S : CallFix p m c cc nL s args Ts own) (hin2 : meth.name = "<init>") (hK : xK g s) (hP : yP g wl H) (hD : va_D A wl) (hS : va_S A H0 H locs) (hdg : decode cc pc = .ok (.putfield index, 3)) (k : Nat) {a ci : Nat} {fs : List Value} (he : wl[k]? = some (a, .inr (ci, fs))) (ro : vw_C) (hc : vwCl[ci]? = some ro) (hin : ∀ w ∈ u_ws ro.1 ro.2.1 ro.2.2, w ∈ Ts) (ty : Nat → FieldType) (hty : ∀ k, k < ro.2.2 → parseFieldDescriptor (ro.2.1 k).2.2.1 = some (ty k)) (hnm : ∀ a, a < ro.2.2 → ∀ b, b < ro.2.2 → a ≠ b → (ro.2.1 a).2.1 ≠ (ro.2.1 b).2.1) (j : Nat) (hj : j < ro.2.2) (hl : Cond.fieldLink own index (ro.2.1 j).1 (ro.2.1 j).2.1 (ro.2.1 j).2.2.1 ∈ Ts) (hfin : (ro.2.1 j).2.2.2 = true) (hdecl : (ro.2.1 j).1 = own) {v : Value} (hn : narrow (ty j) v = v) (hfit : fits (ty j) v = true) (hlen : j < fs.length)
    (kk : ∀ (H1 : Heap) (locs1 : List Loc) (wl1 : va_W), yS wl wl1 k a (.inr (ci, fs.set j v)) → yP g wl1 H1 → va_D A wl1 → va_S A H0 H1 locs1 → W p l e R s m args below meth c H1 locs1 cells slots Q (F0 m (pc + 3) ls rest)) : W p l e R s m args below meth c H locs cells slots Q (F0 m pc ls (v :: .ref a :: rest)) := by
  obtain ⟨C, T, N⟩ := ro
  exact va_putF (C := C) (T := T) (N := N) S.1 S.2.1 S.2.2.2.2 hin ty hty hnm S.2.2.2.1 hK.1 hP hD hS k he hc j hj (S.2.2.2.2 _ hl) (fun _ h => h) hfin hin2 hdecl (hty j hj) hn hfit hlen hdg (fun H1 locs1 h1 h2 h3 => kk H1 locs1 _ (yS.of he) h1 h2 h3)
theorem y_new (S : CallFix p m c cc nL s args Ts own) (hK : xK g s) (hP : yP g wl H) (hD : va_D A wl) (hS : va_S A H0 H locs) (hA : ∀ q, H0.size ≤ q → A q) (hdg : decode cc pc = .ok (.new index, 3)) (ci : Nat) (ro : vw_C) (hc : vwCl[ci]? = some ro) (hin : ∀ w ∈ u_ws ro.1 ro.2.1 ro.2.2, w ∈ Ts) (ty : Nat → FieldType) (hty : ∀ k, k < ro.2.2 → parseFieldDescriptor (ro.2.1 k).2.2.1 = some (ty k)) (h1 : Cond.classLink own index ro.1 ∈ Ts) (h2 : Cond.instantiable ro.1 ro.2.2 ∈ Ts) (h3 : Cond.initialized ro.1 ∈ Ts) {fs : List Value} (hfs : ∀ j, j < ro.2.2 → defaultValue (ty j) = vp_V fs j) (hcells : cells + 1 ≤ R.cells) (hslots : slots + ro.2.2 ≤ R.slots)
    (kk : ∀ (a : Nat) (H1 : Heap) (wl1 : va_W), yG wl wl1 a (.inr (ci, fs)) → yP g wl1 H1 → va_D A wl1 → va_S A H0 H1 locs → W p l e R s m args below meth c H1 locs (cells + 1) (slots + ro.2.2) Q (F0 m (pc + 3) ls (.ref a :: rest))) : W p l e R s m args below meth c H locs cells slots Q (F0 m pc ls rest) := by
  obtain ⟨C, T, N⟩ := ro
  exact va_new (ci := ci) (fs := fs) (C := C) (T := T) (N := N) S.1 S.2.1 S.2.2.2.2 hin ty hty S.2.2.2.1 (S.2.2.2.2 _ h1) (S.2.2.2.2 _ h2) (S.2.2.2.2 _ h3) hK.1 hP hD hS hA hc hfs hcells hslots hdg (fun q H1 g1 g2 g3 => kk q H1 _ (yG.of wl q _) g1 g2 g3)
theorem y_newi (S : CallFix p m c cc nL s args Ts own) (hK : xK g s) (hP : yP g wl H) (hD : va_D A wl) (hS : va_S A H0 H locs) (hA : ∀ q, H0.size ≤ q → A q) (hdg : decode cc pc = .ok (.newarray .int, 2)) (h1 : Cond.arrayClass .int ∈ Ts) {n : Int32} (N : Nat) (hn : n = nI N) (hN : N < 1000) (hcells : cells + 1 ≤ R.cells) (hslots : slots + N ≤ R.slots)
    (kk : ∀ (a : Nat) (H1 : Heap) (wl1 : va_W), yG wl wl1 a (.inl (xI g, N, .inl (fun _ => 0))) → yP g wl1 H1 → va_D A wl1 → va_S A H0 H1 locs → W p l e R s m args below meth c H1 locs (cells + 1) (slots + N) Q (F0 m (pc + 2) ls (.ref a :: rest))) : W p l e R s m args below meth c H locs cells slots Q (F0 m pc ls (.int n :: rest)) := by
  subst hn
  refine va_newa (atype := .int) (ty := .int) (N' := N) (a0 := (N, .inl (fun _ => 0))) S.1 S.2.1 (S.2.2.2.2 _ h1) rfl hK.1 hP hD hS hA (fun _ => rfl) (nI_pos (by omega)) (nI_clamp (by omega)) (by show N * 4 ≤ _; omega) hcells hslots hdg (fun q cA H1 k1 g1 g2 g3 => ?_)
  obtain rfl := y_idI hK k1
  exact kk q H1 _ (yG.of wl q _) g1 g2 g3
theorem y_newc (S : CallFix p m c cc nL s args Ts own) (hK : xK g s) (hP : yP g wl H) (hD : va_D A wl) (hS : va_S A H0 H locs) (hA : ∀ q, H0.size ≤ q → A q) (hdg : decode cc pc = .ok (.newarray .char, 2)) (h1 : Cond.arrayClass .char ∈ Ts) {n : Int32} (N : Nat) (hn : n = nI N) (hN : N < 1000) (hcells : cells + 1 ≤ R.cells) (hslots : slots + N ≤ R.slots)
    (kk : ∀ (a : Nat) (H1 : Heap) (wl1 : va_W), yG wl wl1 a (.inl (xC g, N, .inl (fun _ => 0))) → yP g wl1 H1 → va_D A wl1 → va_S A H0 H1 locs → W p l e R s m args below meth c H1 locs (cells + 1) (slots + N) Q (F0 m (pc + 2) ls (.ref a :: rest))) : W p l e R s m args below meth c H locs cells slots Q (F0 m pc ls (.int n :: rest)) := by
  subst hn
  refine va_newa (atype := .char) (ty := .char) (N' := N) (a0 := (N, .inl (fun _ => 0))) S.1 S.2.1 (S.2.2.2.2 _ h1) rfl hK.1 hP hD hS hA (fun _ => rfl) (nI_pos (by omega)) (nI_clamp (by omega)) (by show N * 2 ≤ _; omega) hcells hslots hdg (fun q cA H1 k1 g1 g2 g3 => ?_)
  obtain rfl := y_idC hK k1
  exact kk q H1 _ (yG.of wl q _) g1 g2 g3
theorem y_newq (S : CallFix p m c cc nL s args Ts own) (hK : yK g s) (hP : yP g wl H) (hD : va_D A wl) (hS : va_S A H0 H locs) (hA : ∀ q, H0.size ≤ q → A q) (hdg : decode cc pc = .ok (.anewarray index, 3)) (h1 : Cond.classLink own index "DiscArcs$Photos" ∈ Ts) {n : Int32} (N : Nat) (hn : n = nI N) (hN : N < 1000) (hcells : cells + 1 ≤ R.cells) (hslots : slots + N ≤ R.slots)
    (kk : ∀ (a : Nat) (H1 : Heap) (wl1 : va_W), yG wl wl1 a (.inl (xQ g, N, .inr (.inr (.inr (.inr (fun _ => none)))))) → yP g wl1 H1 → va_D A wl1 → va_S A H0 H1 locs → W p l e R s m args below meth c H1 locs (cells + 1) (slots + N) Q (F0 m (pc + 3) ls (.ref a :: rest))) : W p l e R s m args below meth c H locs cells slots Q (F0 m pc ls (.int n :: rest)) := by
  subst hn
  refine va_newq (C := "DiscArcs$Photos") (N' := N) S.1 S.2.1 S.2.2.2.1 (S.2.2.2.2 _ h1) hK.2.1 hK.1.1 hP hD hS hA (nI_pos (by omega)) (nI_clamp (by omega)) (by omega) hcells hslots hdg (fun q cA H1 k1 g1 g2 g3 => ?_)
  obtain rfl := y_idQ hK.1 k1
  exact kk q H1 _ (yG.of wl q _) g1 g2 g3
theorem y_mna (S : CallFix p m c cc nL s args Ts own) (hK : yK g s) (hP : yP g wl H) (hD : va_D A wl) (hS : va_S A H0 H locs) (hA : ∀ q, H0.size ≤ q → A q) (hdg : decode cc pc = .ok (.multianewarray index 2, 4)) (h1 : Cond.classLink own index "[[I" ∈ Ts) (h2 : Cond.arrayClass .int ∈ Ts) (hcells : cells + 8 ≤ R.cells) (hslots : slots + 77 ≤ R.slots)
    (kk : ∀ (q : Nat) (r : Nat → Nat) (H1 : Heap) (wl1 : va_W), wl1.length = wl.length + 8 → wl1[wl.length]? = some (q, .inl (xR g, 7, .inr (.inr (.inr (.inr (fun i => if i < 7 then some (r i) else none)))))) → (∀ w, w < 7 → wl1[wl.length + 1 + w]? = some (r w, .inl (xI g, 10, .inl (fun _ => 0)))) → (∀ i, i < wl.length → wl1[i]? = wl[i]?) → yP g wl1 H1 → va_D A wl1 → va_S A H0 H1 locs → W p l e R s m args below meth c H1 locs (cells + 8) (slots + 77) Q (F0 m (pc + 4) ls (.ref q :: rest))) : W p l e R s m args below meth c H locs cells slots Q (F0 m pc ls (.int 10 :: .int 7 :: rest)) := by
  have hP0 : va_P (xD g) vwCl (wl ++ va_pl [] (fun _ => .inr (0, []))) H := by
    show va_P (xD g) vwCl (wl ++ []) H
    rw [List.append_nil]
    exact hP
  have hD0 : va_D A (wl ++ va_pl [] (fun _ => .inr (0, []))) := by
    show va_D A (wl ++ [])
    rw [List.append_nil]
    exact hD
  refine va_mna (ty := .int) (cy := xI g) (N' := 7) (K' := 10) (z := (10, .inl (fun _ => 0))) S.1 S.2.1 S.2.2.2.1 (S.2.2.2.2 _ h1) hK.2.2.1 (S.2.2.2.2 _ h2) (show s.vm.findClass ("[" ++ FieldType.int.toString) = some (xI g) from (hK.1.1.2 0 _ rfl).2) hK.1.1 hP0 hD0 hS hA (by decide) (by decide) (by decide) (by decide) (by decide) (by decide) (by decide) rfl rfl (Nat.le_trans (by omega) hcells) (Nat.le_trans (by omega) hslots) (fun c => by rw [show Jvm.Free.Multi.innerC c 10 (defaultValue .int) = arrV c 10 (fun _ => defaultValue .int) from arrV_new c 10 _]; rfl) hdg (fun q r cA H1 hr hrl k1 g1 g2 g3 => ?_)
  obtain rfl := y_idR hK.1 k1
  have hpl : va_pl ([] ++ (List.range 7).map r) (vr_up (fun _ => .inr (0, [])) ((List.range 7).map r) (.inl (xI g, 10, .inl (fun _ => 0)))) = (List.range 7).map (fun w => (r w, .inl (xI g, 10, .inl (fun _ => 0)))) := by
    unfold va_pl
    rw [List.nil_append, List.map_map]
    apply List.map_congr_left
    intro w hw
    show (r w, vr_up _ _ _ (r w)) = _
    rw [vr_up_in (List.mem_map.mpr ⟨w, hw, rfl⟩)]
  rw [hpl] at g1 g2
  refine W.widen (k := cells + 1 + 7) (n := slots + 7 + 7 * 10) (by omega) (by omega) ?_
  refine kk q r H1 _ (by simp) ?_ (fun w hw => ?_) (fun i hi => ?_) g1 g2 g3
  · rw [List.getElem?_append_left (by simp), List.getElem?_append_right (Nat.le_refl _), Nat.sub_self]
    rfl
  · rw [List.getElem?_append_right (by rw [List.length_append, List.length_singleton]; omega), List.length_append, List.length_singleton, show wl.length + 1 + w - (wl.length + 1) = w by omega, List.getElem?_map, List.getElem?_range hw]
    rfl
  · rw [List.append_assoc, List.getElem?_append_left hi]
theorem y_astq (S : CallFix p m c cc nL s args Ts own) (hK : xK g s) (hP : yP g wl H) (hD : va_D A wl) (hS : va_S A H0 H locs) (hdg : decode cc pc = .ok (.aastore, 1)) (k b : Nat) {a ab n : Nat} {f : Nat → Option Nat} {vs : List Value} (he : wl[k]? = some (a, .inl (xQ g, n, .inr (.inr (.inr (.inr f)))))) (hb : wl[b]? = some (ab, .inr (2, vs))) {i : Int32} (j : Nat) (hi : i = nI j) (hj : j < n) (hn : n < 2 ^ 31)
    (kk : ∀ (H1 : Heap) (locs1 : List Loc) (wl1 : va_W), yS wl wl1 k a (.inl (xQ g, n, .inr (.inr (.inr (.inr (va_up f j (some ab))))))) → yP g wl1 H1 → va_D A wl1 → va_S A H0 H1 locs1 → W p l e R s m args below meth c H1 locs1 cells slots Q (F0 m (pc + 1) ls rest)) : W p l e R s m args below meth c H locs cells slots Q (F0 m pc ls (.ref ab :: .int i :: .ref a :: rest)) := by
  subst hi
  refine va_astq (r := (RX2, TX2, 2)) S.1 S.2.1 hK.1 hP hD hS k 2 b 2 he rfl hb rfl (vp_in_nI hj hn) hdg (fun H1 locs1 h1 h2 h3 => ?_)
  rw [nI_clamp (by omega)] at h1 h2
  exact kk H1 locs1 _ (yS.of he) h1 h2 h3
theorem y_obj (S : CallFix p m c cc nL s args Ts own) (hl : ls.size = nL) (hdg : decode cc pc = .ok (.invokespecial index, 3)) (h1 : Cond.methodLink own index objectInit ∈ Ts) (h2 : Cond.instanceMethod objectInit ∈ Ts) (h3 : Cond.code objectInit ⟨#[0xb1]⟩ 1 none ∈ Ts) {a : Nat} (hframes : 1 ≤ R.frames) (hlocals : (rest.map fun v => v.category).sum + 12 ≤ R.locals)
    (kk : W p l e R s m args below meth c H locs cells slots Q (F0 m (pc + 3) ls rest)) : W p l e R s m args below meth c H locs cells slots Q (F0 m pc ls (.ref a :: rest)) :=
  W.objInit S.1 S.2.1 S.2.2.2.1 (S.2.2.2.2 _ h1) (S.2.2.2.2 _ h2) (S.2.2.2.2 _ h3) rfl (by rw [S.2.2.1]; exact hl) rfl hdg hframes (by show 2 * 0 + _ + 12 ≤ _; omega) kk
theorem y_blind {av : List Value} {sz : Nat} : FrameBlind (yPc g av sz wl) := fun a U f mk q => ⟨q.1, q.2.1, q.2.2.1, q.2.2.2.1.call, q.2.2.2.2⟩
theorem y_pre (hK : yK g s) (hP : yP g wl H) (hD : va_D A wl) {As : List Value} : PreS s H (yPc g As H.size wl) As := ⟨y_blind, fun U hU hW => ⟨rfl, by rw [hU], by rw [hU]; exact hP, hK.warm hW, hD.weaken (fun _ _ _ _ => trivial)⟩⟩
theorem y_fr (hD : va_D A wl) (hS : va_S A H0 H locs) (hA : ∀ q, H0.size ≤ q → A q) : ∀ q, va_A wl H.size q → A q := fun q h => by
  rcases h with ⟨k, e, h⟩ | h
  · exact hD.2 k _ h
  · exact hA q (Nat.le_trans hS.1 h)
theorem y_ci {post : va_W → Prop} {st0 : List Value} {a : Array Value} {mc ms : Nat} (hr : va_Run p l e R s m args below meth c H locs cells slots mc ms (F0 m pc ls st0) rest (yQ g H.size wl post a) (va_A wl H.size)) (hD : va_D A wl) (hS : va_S A H0 H locs) (hA : ∀ q, H0.size ≤ q → A q)
    (kk : ∀ (u : va_W) (H1 : Heap) (locs1 : List Loc), post u → yP g u H1 → va_D A u → va_S A H0 H1 locs1 → W p l e R s m args below meth c H1 locs1 (cells + mc) (slots + ms) Q (F0 m (pc + 3) ls rest)) : W p l e R s m args below meth c H locs cells slots Q (F0 m pc ls st0) :=
  va_callv hr hS (fun q _ h => y_fr hD hS hA q h) (y_fr hD hS hA) (fun u t H1 locs1 h1 _ h3 h4 _ _ h7 => kk u H1 locs1 h3 (by rw [← h1]; exact h4.1) ⟨h4.2.1, fun k q hk => y_fr hD hS hA _ (h4.2.2 k q hk)⟩ h7)
theorem y_vret {post : va_W → Prop} {sz : Nat} {w0 : va_W} (S : CallFix p m c cc nL s args Ts own) (hr : meth.sig.returnType = none) (hlocks : meth.locks = false) (hP : yP g wl H) (hD : va_D (va_A w0 sz) wl) (hS : va_S (va_A w0 sz) s.heap H locs) (hdg : decode cc pc = .ok (.return_, 1)) (hpost : post wl) : W p l e R s m args below meth c H locs cells slots (MQ below (yQ g sz w0 post) args s cells slots (va_A w0 sz)) (F0 m pc ls []) :=
  W.vret S.1 S.2.1 hr (fun t ht _ => ⟨⟨wl, rfl, hpost, by rw [ht]; exact hP, hD⟩, hS.F ht⟩) hS.2.2 hdg hlocks
end YR
theorem y_met {l : Launch} {y : MethodName} {ws ws' : List Cond} {rm : Room} {cc : ByteArray} {nL : Nat} {ret : Option FieldType} {g : xG} {av : List Value} {sz : Nat} {wl : va_W} {Qc : Array Value → State → Outcome → State → Prop} {free : Addr → Prop} {mc ms : Nat} (hy : plainName y.cls = true) (hw : ws = Cond.code y cc nL ret :: ws') (hn : (lg_sl av).length ≤ nL)
    (body : ∀ (p : Program) (e : Env) (s : State) (m : MethodId) (below : List Frame) (meth : Method) (c : Code) (ls : Array Slot), CallFix p m c cc nL s av.toArray ws y.cls → meth.sig.returnType = ret → meth.locks = false → meth.name = y.name → s.heap.size = sz → yP g wl s.heap → yK g s → va_D (fun _ => True) wl → lv_has ls nL (lv_args 0 av) →
      W p l e rm s m av.toArray below meth c s.heap [] 0 0 (MQ below Qc av.toArray s mc ms free) (F0 m 0 ls [])) : Met l y ws rm (yPc g av sz wl) Qc mc ms free := by
  refine Met.ofW (cc := cc) (maxL := nL) (ret := ret) hy hw ?_
  intro p e s m args below meth c s₁ B hml hv
  obtain ⟨rfl, hsz, hP, hK, hD⟩ := hv
  rw [lg_entry_eq]
  exact body p e s m below meth c _ ⟨B.exec, B.bytes, hml, findClass_of_methodNamed B.named, atoms_spec (ws := ws) B.pre⟩ B.returns B.notSynchronized ((name_of_methodNamed B.named B.method).1) hsz hP hK hD (lv_entry av hn)
