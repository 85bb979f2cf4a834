/-! THE LAW: its script, its start, its end -/
/-- every cell from the law's entry on may be written -/
def zA (s : State) : Nat → Prop := fun q => s.heap.size ≤ q
theorem z0_Q : vQ z0 := ⟨fun k hk => absurd hk (Nat.not_lt_zero _), fun i hi => absurd hi (Nat.not_lt_zero _)⟩
theorem st_un {r : Int32} {z1 : xS} (h : sp_undo z0 r z1) : r = -5 ∧ z1 = z0 := by
  rcases h with ⟨-, h⟩ | ⟨h, -⟩
  · exact h
  · exact absurd h (Nat.lt_irrefl _)
theorem st_re {r : Int32} {z1 : xS} (h : sp_restore z0 r z1) : r = -5 ∧ z1 = z0 := by
  rcases h with ⟨-, h⟩ | ⟨h, -⟩
  · exact h
  · exact Bool.noConfusion h
theorem st_rd {r : Int32} {z1 : xS} (h : sp_readPhoto z0 r z1) : r = -100 ∧ z1 = z0 := by
  have e1 : (prs (ztf z0) (ztl z0)).1 = false := by decide +kernel
  have e2 : (prs (ztf z0) (ztl z0)).2.1 = 0 := by decide +kernel
  rcases h with ⟨-, h1, h2⟩ | ⟨h, -⟩
  · rw [e2] at h1
    exact ⟨h1.trans (by decide), h2⟩
  · rw [e1] at h
    exact Bool.noConfusion h
theorem st_R {R T : Nat → Nat} (h : trk (zM z0) (zn z0) R T) : R 0 = 0 := h.1
theorem st_c3 {r : Int32} (h : sp_count z0 3 r) : r = 0 := by
  obtain ⟨R, T, hT, rfl⟩ := v_ct3 h
  rw [st_R hT]
  rfl
theorem st_tr {r : Int32} (h : sp_track z0 0 0 r) : r = -5 := by
  rcases h with ⟨h, -⟩ | ⟨-, R, T, hT, h⟩
  · rcases h with h | h
    · exact absurd h (by decide)
    · exact absurd (by decide) h
  · rcases h with ⟨-, h⟩ | ⟨v, hv, -⟩
    · exact h
    · rw [st_R hT] at hv
      exact absurd hv (Nat.not_lt_zero _)
theorem v_an9 {z : xS} {u r : Int32} (hu : ¬ (0 ≤ u ∧ u ≤ 99)) (h : sp_angleAt z u r) : r = -2 := by
  rcases h with ⟨-, h⟩ | ⟨h, -⟩
  · exact h
  · exact absurd h hu
theorem two_nI (e : Nat) : (2 : Int32) * nI e = nI (2 * e) := by
  rw [show (2 : Int32) = nI 2 from rfl, pk_mul]
theorem acR_rec {z z1 : xS} (h : acR z z1) (hne : ¬ z1 = z) : ∃ n M, z1 = wP (wR z) n M := h.resolve_left hne
theorem rcS_l {h : Nat} (hh : h ≤ 4) (c : ¬ nI h = 4) : nI (rcS h - 1) = nI h := by
  have h4 : h ≠ 4 := fun q => c (by rw [q]; rfl)
  unfold rcS
  rw [if_pos (by omega)]
  rfl
theorem rcS_4 {h : Nat} (hh : h ≤ 4) (c : nI h = 4) : nI (rcS h - 1) = 3 := by
  have h4 : h = 4 := nI_inj (b := 4) (by omega) (by decide) c
  rw [h4]
  decide
theorem k16 {e : Nat} (he : e ≤ 16) (h : ¬ 16 ≤ nI e) : e < 16 := Nat.not_le.mp (fun q => h ((nI_leI (a := 16) (by decide) (by omega)).mpr q))
theorem n3 {n : Nat} (hn : n ≤ 10) (h : ¬ nI n ≤ 2) : 2 < n := Nat.not_le.mp (fun q => h ((nI_leI (b := 2) (by omega) (by decide)).mpr q))
/-! the script's cell: some int -/
def cPc (b L : Nat) (xs : Nat → Int32) (k : Int32) : Array Value → State → Prop := va_Pc [.ref b, .int k] (fun U => va_X b L xs U U.heap ∧ b < U.heap.size ∧ L ≤ 260)
theorem c_blind {b L : Nat} {xs : Nat → Int32} {k : Int32} : FrameBlind (cPc b L xs k) := fun a U f mk q => ⟨q.1, va_X.moved (u := U) (Vm.Alike.refl U.vm) q.2.1, q.2.2⟩
set_option maxHeartbeats 4000000 in
set_option maxRecDepth 100000 in
theorem c_L_cell (l : Launch) (b L : Nat) (xs : Nat → Int32) (k : Nat) (hk : k < 1000) : Met l yL_cell wsL_cell ({ frames := 0, cells := 0, slots := 0, locals := 0 }) (cPc b L xs (nI k)) (vp_Si (fun _ => True)) 0 0 (fun _ => False) := by
  refine Met.ofW (cc := cL_cell) (maxL := 2) (ret := some .int) (by decide) rfl ?_
  intro p e s m args below meth c s₁ B hml hv
  obtain ⟨rfl, hX, hbl, hL⟩ := hv
  rw [lg_entry_eq]
  have S : CallFix p m c cL_cell 2 s ([.ref b, .int (nI k)] : List Value).toArray wsL_cell RL := ⟨B.exec, B.bytes, hml, findClass_of_methodNamed B.named, atoms_spec (ws := wsL_cell) B.pre⟩
  have hr := B.returns
  have hlocks := B.notSynchronized
  have hl : lv_has _ 2 [(0, .ref b), (1, .int (nI k))] := lv_entry ([.ref b, .int (nI k)]) (n := 2) (Nat.le_of_ble_eq_true rfl)
  generalize (lg_sl ([.ref b, .int (nI k)]) ++ List.replicate (2 - (lg_sl ([.ref b, .int (nI k)])).length) Slot.unset).toArray = ls at hl ⊢
  have hS : va_S (fun _ => False) s.heap s.heap [] := va_S.rf
  refine lv_iload_n S.1 S.2.1 dL_cell_0 rfl (lv_at hl 1 rfl) ?_
  refine lv_aload_n S.1 S.2.1 dL_cell_1 rfl (lv_at hl 0 rfl) ?_
  refine va_slen S.1 S.2.1 hX hbl (fun h => h) hS dL_cell_2 ?_
  refine lv_icmp_ge (tgt := 12) S.1 S.2.1 dL_cell_3 (by decide) (fun c3 => ?_) (fun c3 => ?_)
  · refine lv_ldc S.1 S.2.1 S.2.2.2.1 (S.2.2.2.2 (.constant RL 7 2990021) (by decide +kernel)) dL_cell_12 ?_
    refine lv_iload_n S.1 S.2.1 dL_cell_14 rfl (lv_at hl 1 rfl) ?_
    refine lv_imul S.1 S.2.1 dL_cell_15 ?_
    refine lv_sipush (v := 1579) S.1 S.2.1 dL_cell_16 (by decide) ?_
    refine lv_iadd S.1 S.2.1 dL_cell_19 ?_
    exact x_iretR S hr hlocks dL_cell_20 trivial
  · have hkL : k < L := Nat.not_le.mp (fun h => c3 ((nI_leI (by omega) (by omega)).mpr h))
    refine lv_aload_n S.1 S.2.1 dL_cell_6 rfl (lv_at hl 0 rfl) ?_
    refine lv_iload_n S.1 S.2.1 dL_cell_7 rfl (lv_at hl 1 rfl) ?_
    refine va_sld S.1 S.2.1 hX hbl (fun h => h) hS (vp_in_nI hkL (by omega)) dL_cell_8 ?_
    refine lv_goto (tgt := 20) S.1 S.2.1 dL_cell_9 (by decide) ?_
    exact x_iretR S hr hlocks dL_cell_20 trivial
section ZL
variable {p : Program} {l : Launch} {e : Env} {s : State} {m : MethodId} {below : List Frame} {meth : Method} {c : Code} {H : Heap} {locs : List Loc} {cells slots : Nat} {Q : State → Prop} {pc : Nat} {ls : Array Slot} {rest st0 : List Value} {b L : Nat} {xs : Nat → Int32} {g : xG} {a : Array Value}
theorem z_qi {post : Int32 → (Nat → va_E) → Prop} (hr : va_Run p l e room_1 s m #[Value.ref b] below meth c H locs cells slots 0 0 (F0 m pc ls st0) rest (xQi g post a) (xA (xad g))) (hAd : ∀ k, k < 65 → zA s (xad g k)) (hS : va_S (zA s) s.heap H locs)
    (kk : ∀ (r : Int32) (E1 : Nat → va_E) (H1 : Heap) (locs1 : List Loc), post r E1 → xP g E1 H1 → va_S (zA s) s.heap H1 locs1 → W p l e room_1 s m #[Value.ref b] below meth c H1 locs1 cells slots Q (F0 m (pc + 3) ls (.int r :: rest))) : W p l e room_1 s m #[Value.ref b] below meth c H locs cells slots Q (F0 m pc ls st0) :=
  va_calli hr hS (fun q _ h => by obtain ⟨k, hk, rfl⟩ := h; exact hAd k hk) (fun q h => by obtain ⟨k, hk, rfl⟩ := h; exact hAd k hk) (fun r u t H1 locs1 h1 _ h3 h4 _ _ h7 => kk r u H1 locs1 h3 (by rw [← h1]; exact h4) h7)
theorem z_ql {post : Int64 → (Nat → va_E) → Prop} (hr : va_Run p l e room_1 s m #[Value.ref b] below meth c H locs cells slots 0 0 (F0 m pc ls st0) rest (xQl g post a) (xA (xad g))) (hAd : ∀ k, k < 65 → zA s (xad g k)) (hS : va_S (zA s) s.heap H locs)
    (kk : ∀ (r : Int64) (E1 : Nat → va_E) (H1 : Heap) (locs1 : List Loc), post r E1 → xP g E1 H1 → va_S (zA s) s.heap H1 locs1 → W p l e room_1 s m #[Value.ref b] below meth c H1 locs1 cells slots Q (F0 m (pc + 3) ls (.long r :: rest))) : W p l e room_1 s m #[Value.ref b] below meth c H locs cells slots Q (F0 m pc ls st0) :=
  va_calll hr hS (fun q _ h => by obtain ⟨k, hk, rfl⟩ := h; exact hAd k hk) (fun q h => by obtain ⟨k, hk, rfl⟩ := h; exact hAd k hk) (fun r u t H1 locs1 h1 _ h3 h4 _ _ h7 => kk r u H1 locs1 h3 (by rw [← h1]; exact h4) h7)
/-- what a call of cell needs -/
theorem c_pre (hX : va_X b L xs s s.heap) (hbl : b < s.heap.size) (hL : L ≤ 260) (hS : va_S (zA s) s.heap H locs) (k : Int32) : PreS s H (cPc b L xs k) [.ref b, .int k] :=
  ⟨c_blind, fun U hU hW => ⟨rfl, by
    have h1 : va_X b L xs s H := hX.kept (hS.2.1 b hbl (Nat.not_le.mpr hbl))
    show va_X b L xs U U.heap ∧ b < U.heap.size ∧ L ≤ 260
    rw [hU]
    exact ⟨h1.moved hW.alike, Nat.lt_of_lt_of_le hbl hS.1, hL⟩⟩⟩
end ZL
