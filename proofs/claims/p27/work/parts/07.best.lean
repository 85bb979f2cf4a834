/-! ARC: lay, layThrough, layBest: they write the place 60 alone -/
set_option maxHeartbeats 4000000 in
set_option maxRecDepth 100000 in
/-- Arc.lay -/
theorem c_X0_lay (l : Launch) (g : xG) (hJ : xJ (xad g)) (E : Nat → va_E) {x1 x2 x3 : Int32} (hA : E 60 = .inr (0, [.ref (xad g 1), .int x1, .int x2, .int x3])) (a5 b5 c5 : Int32) : Met l yX0_lay wsX0_lay ({ frames := 0, cells := 0, slots := 0, locals := 0 }) (xPc g [.ref (xad g 60), .int a5, .int b5, .int c5] E) (xQv g (fun E1 => xU E 60 (.inr (0, [.ref (xad g 1), .int a5, .int b5, .int c5])) E1)) 0 0 (xA (xad g)) := by
  refine x_met (ws' := _) (by decide) rfl (Nat.le_of_ble_eq_true rfl) ?_
  intro pz ez s m below meth cz ls S hr hlocks hP hK hl
  have hl : lv_has ls 4 [(0, .ref (xad g 60)), (1, .int a5), (2, .int b5), (3, .int c5)] := hl
  have hS : va_S (xA (xad g)) s.heap s.heap [] := va_S.rf
  have hin0 : ∀ w ∈ u_ws RX0 TX0 4, w ∈ wsX0_lay := by decide +kernel
  have fl15 : Cond.fieldLink RX0 15 "DiscArcs$Arc" "first" "I" ∈ wsX0_lay := by decide +kernel
  have fl19 : Cond.fieldLink RX0 19 "DiscArcs$Arc" "second" "I" ∈ wsX0_lay := by decide +kernel
  have fl22 : Cond.fieldLink RX0 22 "DiscArcs$Arc" "third" "I" ∈ wsX0_lay := by decide +kernel
  have hfr : ∀ j, j ≠ 60 → E j = E j := fun _ _ => rfl
  refine lv_aload_n S.1 S.2.1 dX0_lay_0 rfl (lv_at hl 0 rfl) ?_
  refine lv_iload_n S.1 S.2.1 dX0_lay_1 rfl (lv_at hl 1 rfl) ?_
  refine x_put S hK hJ hP hS dX0_lay_2 hA (by decide) (RX0, TX0, 4) rfl hin0 tyX0 tyX0_ok nmX0 1 (by decide) fl15 rfl rfl rfl (Nat.le_of_ble_eq_true rfl) (fun H locs E1 hu hP hS => ?_)
  have hA : E1 60 = .inr (0, [.ref (xad g 1), .int a5, .int x2, .int x3]) := hu.1
  have hfr : ∀ j, j ≠ 60 → E1 j = E j := fun j hj => (hu.2 j (by omega)).trans (hfr j hj)
  refine lv_aload_n S.1 S.2.1 dX0_lay_5 rfl (lv_at hl 0 rfl) ?_
  refine lv_iload_n S.1 S.2.1 dX0_lay_6 rfl (lv_at hl 2 rfl) ?_
  refine x_put S hK hJ hP hS dX0_lay_7 hA (by decide) (RX0, TX0, 4) rfl hin0 tyX0 tyX0_ok nmX0 2 (by decide) fl19 rfl rfl rfl (Nat.le_of_ble_eq_true rfl) (fun H locs E1_1 hu hP hS => ?_)
  have hA : E1_1 60 = .inr (0, [.ref (xad g 1), .int a5, .int b5, .int x3]) := hu.1
  have hfr : ∀ j, j ≠ 60 → E1_1 j = E j := fun j hj => (hu.2 j (by omega)).trans (hfr j hj)
  refine lv_aload_n S.1 S.2.1 dX0_lay_10 rfl (lv_at hl 0 rfl) ?_
  refine lv_iload_n S.1 S.2.1 dX0_lay_11 rfl (lv_at hl 3 rfl) ?_
  refine x_put S hK hJ hP hS dX0_lay_12 hA (by decide) (RX0, TX0, 4) rfl hin0 tyX0 tyX0_ok nmX0 3 (by decide) fl22 rfl rfl rfl (Nat.le_of_ble_eq_true rfl) (fun H locs E1_2 hu hP hS => ?_)
  have hA : E1_2 60 = .inr (0, [.ref (xad g 1), .int a5, .int b5, .int c5]) := hu.1
  have hfr : ∀ j, j ≠ 60 → E1_2 j = E j := fun j hj => (hu.2 j (by omega)).trans (hfr j hj)
  exact x_vret S hr hlocks hP hS dX0_lay_15 (⟨hA, hfr⟩)
set_option maxHeartbeats 4000000 in
set_option maxRecDepth 100000 in
/-- Arc.layThrough of no photos -/
theorem c_X0_layThrough_0 (l : Launch) (g : xG) (hJ : xJ (xad g)) (E : Nat → va_E) {n : Nat} {M : Nat → Nat → Int32} (hp : ePh g E 1 n M) {x1 x2 x3 : Int32} (hA : E 60 = .inr (0, [.ref (xad g 1), .int x1, .int x2, .int x3]))  : Met l yX0_layThrough wsX0_layThrough ({ frames := 1, cells := 0, slots := 0, locals := 21 }) (xPc g [.ref (xad g 60), .int 0] E) (xQv g (fun E1 => E1 = E)) 0 0 (xA (xad g)) := by
  refine x_met (ws' := _) (by decide) rfl (Nat.le_of_ble_eq_true rfl) ?_
  intro pz ez s m below meth cz ls S hr hlocks hP hK hl
  have hl : lv_has ls 4 [(0, .ref (xad g 60)), (1, .int 0)] := hl
  have hS : va_S (xA (xad g)) s.heap s.heap [] := va_S.rf
  have hin0 : ∀ w ∈ u_ws RX0 TX0 4, w ∈ wsX0_layThrough := by decide +kernel
  have hin2 : ∀ w ∈ u_ws RX2 TX2 2, w ∈ wsX0_layThrough := by decide +kernel
  have fl9 : Cond.fieldLink RX0 9 "DiscArcs$Arc" "photos" "LDiscArcs$Photos;" ∈ wsX0_layThrough := by decide +kernel
  have fl25 : Cond.fieldLink RX0 25 "DiscArcs$Photos" "size" "I" ∈ wsX0_layThrough := by decide +kernel
  have h0 := hp.1
  have heq : E = E := rfl
  refine lv_iconst (v := 0) S.1 S.2.1 dX0_layThrough_0 (by decide) ?_
  refine lv_istore_n (lv' := [(2, .int 0), (0, .ref (xad g 60)), (1, .int 0)]) S.1 S.2.1 dX0_layThrough_1 rfl hl (by decide) rfl (fun ls hl => ?_)
  refine lv_iconst (v := 0) S.1 S.2.1 dX0_layThrough_2 (by decide) ?_
  refine lv_istore_n (lv' := [(3, .int 0), (2, .int 0), (0, .ref (xad g 60)), (1, .int 0)]) S.1 S.2.1 dX0_layThrough_3 rfl hl (by decide) rfl (fun ls hl => ?_)
  have loop4 : ∀ (d : Nat) (q : Nat) (EL : Nat → va_E) (H : Heap) (locs : List Loc), (hq : q ≤ n) → (n - q) < d → (hA : EL 60 = .inr (0, [.ref (xad g 1), .int x1, .int x2, .int x3])) → (hp : ePh g EL 1 n M) → (heq : EL = E) → xP g EL H → va_S (xA (xad g)) s.heap H locs → ∀ ls : Array Slot, lv_has ls 4 [(3, .int (nI q)), (2, .int 0), (1, .int 0), (0, .ref (xad g 60))] → W pz l ez ({ frames := 1, cells := 0, slots := 0, locals := 21 }) s m ([.ref (xad g 60), .int 0] : List Value).toArray below meth cz H locs 0 0 (MQ below (xQv g (fun E1 => E1 = E)) ([.ref (xad g 60), .int 0] : List Value).toArray s 0 0 (xA (xad g))) (F0 m 4 ls []) := by
    intro d
    induction d with
    | zero => intro q EL H locs hq hd; exact absurd hd (Nat.not_lt_zero _)
    | succ d ih4 =>
      intro q EL H locs hq hd hA hp heq hP hS ls hl
      refine lv_iload_n S.1 S.2.1 dX0_layThrough_4 rfl (lv_at hl 0 rfl) ?_
      refine lv_aload_n S.1 S.2.1 dX0_layThrough_5 rfl (lv_at hl 3 rfl) ?_
      refine x_get S hK hP dX0_layThrough_6 hA (by decide) (RX0, TX0, 4) rfl hin0 0 (by decide) fl9 rfl ?_
      refine x_get S hK hP dX0_layThrough_9 hp.2.1 (by decide) (RX2, TX2, 2) rfl hin2 1 (by decide) fl25 rfl ?_
      refine lv_icmp_ge (tgt := 82) S.1 S.2.1 dX0_layThrough_12 (by decide) (fun c12 => ?_) (fun c12 => ?_)
      · skip
        exact x_vret S hr hlocks hP hS dX0_layThrough_82 heq
      · skip
        have hqn : q < n := Nat.not_le.mp (fun h => c12 ((nI_leI (by omega) (by omega)).mpr h))
        refine lv_iload_n S.1 S.2.1 dX0_layThrough_15 rfl (lv_at hl 2 rfl) ?_
        refine lv_iload_n S.1 S.2.1 dX0_layThrough_16 rfl (lv_at hl 0 rfl) ?_
        refine x_si (va_runSN (As := [.int 0, .int (nI q)]) (rest := []) S (c_X6_isIn l g EL (a := 0) (k := q) (by decide) (by omega)) ⟨va_cnB 2 S.2.2.2.2 gX0_layThrough_X6_isIn_n55 rfl rfl rfl hK.2 (S.2.2.2.2 (.initialized RX6) (by decide +kernel)) (by decide +kernel) ⟨Nat.le_of_ble_eq_true rfl, Nat.le_of_ble_eq_true rfl⟩, S.2.2.2.2 (.static yX6_isIn) (by decide +kernel), trivial⟩ (x_preS hK hP) rfl rfl hl.1 rfl (lv_room (Nat.le_of_ble_eq_true rfl)) dX0_layThrough_17 ⟨Nat.le_of_ble_eq_true rfl, Nat.le_of_ble_eq_true rfl⟩) (fun r17 hr17 => ?_)
        refine lv_if_eq (tgt := 76) S.1 S.2.1 dX0_layThrough_20 (by decide) (fun c20 => ?_) (fun c20 => ?_)
        · skip
          refine lv_iinc (v := nI (q + 1)) (lv' := [(3, .int (nI (q + 1))), (2, .int 0), (1, .int 0), (0, .ref (xad g 60))]) S.1 S.2.1 dX0_layThrough_76 hl (k := 0) rfl (show nI q + Int32.ofInt 1 = _ from nI_1 _) (by decide) rfl (fun ls hl => ?_)
          refine lv_goto (tgt := 4) S.1 S.2.1 dX0_layThrough_79 (by decide) ?_
          exact ih4 (q + 1) _ _ _ (by omega) (by omega) hA hp heq hP hS ls (lv_sub hl [0, 1, 2, 3] rfl)
        · skip
          exact absurd (hr17.t c20) (by simp)
  exact loop4 _ 0 _ _ _ (Nat.zero_le _) (Nat.lt_succ_self _) hA hp heq hP hS ls (lv_sub hl [0, 1, 3, 2] rfl)
set_option maxHeartbeats 4000000 in
set_option maxRecDepth 100000 in
/-- Arc.layThrough of three photos -/
theorem c_X0_layThrough (l : Launch) (g : xG) (hJ : xJ (xad g)) (E : Nat → va_E) {n : Nat} {M : Nat → Nat → Int32} (hp : ePh g E 1 n M) {x1 x2 x3 : Int32} (hA : E 60 = .inr (0, [.ref (xad g 1), .int x1, .int x2, .int x3])) {r s9 t : Nat} (h12 : r < s9) (h23 : s9 < t) (htn : t < n) : Met l yX0_layThrough wsX0_layThrough ({ frames := 1, cells := 0, slots := 0, locals := 21 }) (xPc g [.ref (xad g 60), .int (nI (m3 r s9 t))] E) (xQv g (fun E1 => xU E 60 (.inr (0, [.ref (xad g 1), .int (nI r), .int (nI s9), .int (nI t)])) E1)) 0 0 (xA (xad g)) := by
  refine x_met (ws' := _) (by decide) rfl (Nat.le_of_ble_eq_true rfl) ?_
  intro pz ez s m below meth cz ls S hr hlocks hP hK hl
  have hl : lv_has ls 4 [(0, .ref (xad g 60)), (1, .int (nI (m3 r s9 t)))] := hl
  have hS : va_S (xA (xad g)) s.heap s.heap [] := va_S.rf
  have hin0 : ∀ w ∈ u_ws RX0 TX0 4, w ∈ wsX0_layThrough := by decide +kernel
  have hin2 : ∀ w ∈ u_ws RX2 TX2 2, w ∈ wsX0_layThrough := by decide +kernel
  have fl9 : Cond.fieldLink RX0 9 "DiscArcs$Arc" "photos" "LDiscArcs$Photos;" ∈ wsX0_layThrough := by decide +kernel
  have fl15 : Cond.fieldLink RX0 15 "DiscArcs$Arc" "first" "I" ∈ wsX0_layThrough := by decide +kernel
  have fl19 : Cond.fieldLink RX0 19 "DiscArcs$Arc" "second" "I" ∈ wsX0_layThrough := by decide +kernel
  have fl22 : Cond.fieldLink RX0 22 "DiscArcs$Arc" "third" "I" ∈ wsX0_layThrough := by decide +kernel
  have fl25 : Cond.fieldLink RX0 25 "DiscArcs$Photos" "size" "I" ∈ wsX0_layThrough := by decide +kernel
  have h0 := hp.1
  have hfr : ∀ j, j ≠ 60 → E j = E j := fun _ _ => rfl
  have hm := m3_lt (r := r) (s := s9) (t := t) (by omega) (by omega) (by omega)
  refine lv_iconst (v := 0) S.1 S.2.1 dX0_layThrough_0 (by decide) ?_
  refine lv_istore_n (lv' := [(2, .int 0), (0, .ref (xad g 60)), (1, .int (nI (m3 r s9 t)))]) S.1 S.2.1 dX0_layThrough_1 rfl hl (by decide) rfl (fun ls hl => ?_)
  refine lv_iconst (v := 0) S.1 S.2.1 dX0_layThrough_2 (by decide) ?_
  refine lv_istore_n (lv' := [(3, .int 0), (2, .int 0), (0, .ref (xad g 60)), (1, .int (nI (m3 r s9 t)))]) S.1 S.2.1 dX0_layThrough_3 rfl hl (by decide) rfl (fun ls hl => ?_)
  have loop4 : ∀ (d : Nat) (q : Nat) (f : Nat) (y1 : Int32) (y2 : Int32) (y3 : Int32) (EL : Nat → va_E) (H : Heap) (locs : List Loc), (hq : q ≤ n) → (hf : (q ≤ r ∧ f = 0) ∨ (r < q ∧ q ≤ s9 ∧ f = 1) ∨ (s9 < q ∧ q ≤ t ∧ f = 2) ∨ (t < q ∧ f = 3)) → (h1 : (r < q → y1 = nI r)) → (h2 : (s9 < q → y2 = nI s9)) → (h3 : (t < q → y3 = nI t)) → (n - q) < d → (hA : EL 60 = .inr (0, [.ref (xad g 1), .int y1, .int y2, .int y3])) → (hp : ePh g EL 1 n M) → (hfr : ∀ j, j ≠ 60 → EL j = E j) → xP g EL H → va_S (xA (xad g)) s.heap H locs → ∀ ls : Array Slot, lv_has ls 4 [(3, .int (nI q)), (2, .int (nI f)), (1, .int (nI (m3 r s9 t))), (0, .ref (xad g 60))] → W pz l ez ({ frames := 1, cells := 0, slots := 0, locals := 21 }) s m ([.ref (xad g 60), .int (nI (m3 r s9 t))] : List Value).toArray below meth cz H locs 0 0 (MQ below (xQv g (fun E1 => xU E 60 (.inr (0, [.ref (xad g 1), .int (nI r), .int (nI s9), .int (nI t)])) E1)) ([.ref (xad g 60), .int (nI (m3 r s9 t))] : List Value).toArray s 0 0 (xA (xad g))) (F0 m 4 ls []) := by
    intro d
    induction d with
    | zero => intro q f y1 y2 y3 EL H locs hq hf h1 h2 h3 hd; exact absurd hd (Nat.not_lt_zero _)
    | succ d ih4 =>
      intro q f y1 y2 y3 EL H locs hq hf h1 h2 h3 hd hA hp hfr hP hS ls hl
      refine lv_iload_n S.1 S.2.1 dX0_layThrough_4 rfl (lv_at hl 0 rfl) ?_
      refine lv_aload_n S.1 S.2.1 dX0_layThrough_5 rfl (lv_at hl 3 rfl) ?_
      refine x_get S hK hP dX0_layThrough_6 hA (by decide) (RX0, TX0, 4) rfl hin0 0 (by decide) fl9 rfl ?_
      refine x_get S hK hP dX0_layThrough_9 hp.2.1 (by decide) (RX2, TX2, 2) rfl hin2 1 (by decide) fl25 rfl ?_
      refine lv_icmp_ge (tgt := 82) S.1 S.2.1 dX0_layThrough_12 (by decide) (fun c12 => ?_) (fun c12 => ?_)
      · skip
        have hqe : q = n := Nat.le_antisymm hq ((nI_leI (by omega) (by omega)).mp c12)
        exact x_vret S hr hlocks hP hS dX0_layThrough_82 (⟨by rw [hA, h1 (by omega), h2 (by omega), h3 (by omega)], hfr⟩)
      · skip
        have hqn : q < n := Nat.not_le.mp (fun h => c12 ((nI_leI (by omega) (by omega)).mpr h))
        refine lv_iload_n S.1 S.2.1 dX0_layThrough_15 rfl (lv_at hl 2 rfl) ?_
        refine lv_iload_n S.1 S.2.1 dX0_layThrough_16 rfl (lv_at hl 0 rfl) ?_
        refine x_si (va_runSN (As := [.int (nI (m3 r s9 t)), .int (nI q)]) (rest := []) S (c_X6_isIn l g EL hm (k := q) (by omega)) ⟨va_cnB 2 S.2.2.2.2 gX0_layThrough_X6_isIn_n55 rfl rfl rfl hK.2 (S.2.2.2.2 (.initialized RX6) (by decide +kernel)) (by decide +kernel) ⟨Nat.le_of_ble_eq_true rfl, Nat.le_of_ble_eq_true rfl⟩, S.2.2.2.2 (.static yX6_isIn) (by decide +kernel), trivial⟩ (x_preS hK hP) rfl rfl hl.1 rfl (lv_room (Nat.le_of_ble_eq_true rfl)) dX0_layThrough_17 ⟨Nat.le_of_ble_eq_true rfl, Nat.le_of_ble_eq_true rfl⟩) (fun r17 hr17 => ?_)
        refine lv_if_eq (tgt := 76) S.1 S.2.1 dX0_layThrough_20 (by decide) (fun c20 => ?_) (fun c20 => ?_)
        · skip
          have hin := fun h => hr17.f c20 ((m3_tb r s9 t q).mpr h)
          refine lv_iinc (v := nI (q + 1)) (lv' := [(3, .int (nI (q + 1))), (2, .int (nI f)), (1, .int (nI (m3 r s9 t))), (0, .ref (xad g 60))]) S.1 S.2.1 dX0_layThrough_76 hl (k := 0) rfl (show nI q + Int32.ofInt 1 = _ from nI_1 _) (by decide) rfl (fun ls hl => ?_)
          refine lv_goto (tgt := 4) S.1 S.2.1 dX0_layThrough_79 (by decide) ?_
          exact ih4 (q + 1) f y1 y2 y3 _ _ _ (by omega) (by have n1 : ¬ q = r := fun h => hin (Or.inl h); have n2 : ¬ q = s9 := fun h => hin (Or.inr (Or.inl h)); have n3 : ¬ q = t := fun h => hin (Or.inr (Or.inr h)); omega) (fun h => h1 (by have n1 : ¬ q = r := fun h => hin (Or.inl h); omega)) (fun h => h2 (by have n2 : ¬ q = s9 := fun h => hin (Or.inr (Or.inl h)); omega)) (fun h => h3 (by have n3 : ¬ q = t := fun h => hin (Or.inr (Or.inr h)); omega)) (by omega) hA hp hfr hP hS ls (lv_sub hl [0, 1, 2, 3] rfl)
        · skip
          have hin := (m3_tb r s9 t q).mp (hr17.t c20)
          have hf0 : nI f = 0 ↔ f = 0 := nI_eq (by omega) (by decide)
          have hf1 : nI f = 1 ↔ f = 1 := nI_eq (by omega) (by decide)
          have hf2 : nI f = 2 ↔ f = 2 := nI_eq (by omega) (by decide)
          refine lv_aload_n S.1 S.2.1 dX0_layThrough_23 rfl (lv_at hl 3 rfl) ?_
          refine lv_iload_n S.1 S.2.1 dX0_layThrough_24 rfl (lv_at hl 1 rfl) ?_
          refine lv_if_ne (tgt := 32) S.1 S.2.1 dX0_layThrough_25 (by decide) (fun c25 => ?_) (fun c25 => ?_)
          · skip
            refine lv_aload_n S.1 S.2.1 dX0_layThrough_32 rfl (lv_at hl 3 rfl) ?_
            refine x_get S hK hP dX0_layThrough_33 hA (by decide) (RX0, TX0, 4) rfl hin0 1 (by decide) fl15 rfl ?_
            refine x_put S hK hJ hP hS dX0_layThrough_36 hA (by decide) (RX0, TX0, 4) rfl hin0 tyX0 tyX0_ok nmX0 1 (by decide) fl15 rfl rfl rfl (Nat.le_of_ble_eq_true rfl) (fun H locs E1 hu hP hS => ?_)
            have hA : E1 60 = .inr (0, [.ref (xad g 1), .int y1, .int y2, .int y3]) := hu.1
            have hp : ePh g E1 1 n M := hp.keep (fun j h1 h2 => hu.2 j (by omega))
            have hfr : ∀ j, j ≠ 60 → E1 j = E j := fun j hj => (hu.2 j (by omega)).trans (hfr j hj)
            refine lv_aload_n S.1 S.2.1 dX0_layThrough_39 rfl (lv_at hl 3 rfl) ?_
            refine lv_iload_n S.1 S.2.1 dX0_layThrough_40 rfl (lv_at hl 1 rfl) ?_
            refine lv_iconst (v := 1) S.1 S.2.1 dX0_layThrough_41 (by decide) ?_
            refine lv_icmp_ne (tgt := 49) S.1 S.2.1 dX0_layThrough_42 (by decide) (fun c42 => ?_) (fun c42 => ?_)
            · skip
              refine lv_aload_n S.1 S.2.1 dX0_layThrough_49 rfl (lv_at hl 3 rfl) ?_
              refine x_get S hK hP dX0_layThrough_50 hA (by decide) (RX0, TX0, 4) rfl hin0 2 (by decide) fl19 rfl ?_
              refine x_put S hK hJ hP hS dX0_layThrough_53 hA (by decide) (RX0, TX0, 4) rfl hin0 tyX0 tyX0_ok nmX0 2 (by decide) fl19 rfl rfl rfl (Nat.le_of_ble_eq_true rfl) (fun H locs E1_1 hu hP hS => ?_)
              have hA : E1_1 60 = .inr (0, [.ref (xad g 1), .int y1, .int y2, .int y3]) := hu.1
              have hp : ePh g E1_1 1 n M := hp.keep (fun j h1 h2 => hu.2 j (by omega))
              have hfr : ∀ j, j ≠ 60 → E1_1 j = E j := fun j hj => (hu.2 j (by omega)).trans (hfr j hj)
              refine lv_aload_n S.1 S.2.1 dX0_layThrough_56 rfl (lv_at hl 3 rfl) ?_
              refine lv_iload_n S.1 S.2.1 dX0_layThrough_57 rfl (lv_at hl 1 rfl) ?_
              refine lv_iconst (v := 2) S.1 S.2.1 dX0_layThrough_58 (by decide) ?_
              refine lv_icmp_ne (tgt := 66) S.1 S.2.1 dX0_layThrough_59 (by decide) (fun c59 => ?_) (fun c59 => ?_)
              · skip
                refine lv_aload_n S.1 S.2.1 dX0_layThrough_66 rfl (lv_at hl 3 rfl) ?_
                refine x_get S hK hP dX0_layThrough_67 hA (by decide) (RX0, TX0, 4) rfl hin0 3 (by decide) fl22 rfl ?_
                refine x_put S hK hJ hP hS dX0_layThrough_70 hA (by decide) (RX0, TX0, 4) rfl hin0 tyX0 tyX0_ok nmX0 3 (by decide) fl22 rfl rfl rfl (Nat.le_of_ble_eq_true rfl) (fun H locs E1_2 hu hP hS => ?_)
                have hA : E1_2 60 = .inr (0, [.ref (xad g 1), .int y1, .int y2, .int y3]) := hu.1
                have hp : ePh g E1_2 1 n M := hp.keep (fun j h1 h2 => hu.2 j (by omega))
                have hfr : ∀ j, j ≠ 60 → E1_2 j = E j := fun j hj => (hu.2 j (by omega)).trans (hfr j hj)
                refine lv_iinc (v := nI (f + 1)) (lv' := [(2, .int (nI (f + 1))), (3, .int (nI q)), (1, .int (nI (m3 r s9 t))), (0, .ref (xad g 60))]) S.1 S.2.1 dX0_layThrough_73 hl (k := 1) rfl (show nI f + Int32.ofInt 1 = _ from nI_1 _) (by decide) rfl (fun ls hl => ?_)
                refine lv_iinc (v := nI (q + 1)) (lv' := [(3, .int (nI (q + 1))), (2, .int (nI (f + 1))), (1, .int (nI (m3 r s9 t))), (0, .ref (xad g 60))]) S.1 S.2.1 dX0_layThrough_76 hl (k := 1) rfl (show nI q + Int32.ofInt 1 = _ from nI_1 _) (by decide) rfl (fun ls hl => ?_)
                refine lv_goto (tgt := 4) S.1 S.2.1 dX0_layThrough_79 (by decide) ?_
                exact ih4 (q + 1) (f + 1) y1 y2 y3 _ _ _ (by omega) (by omega) (fun h => h1 (by have z : ¬ f = 0 := fun h9 => c25 (hf0.mpr h9); omega)) (fun h => h2 (by have z : ¬ f = 1 := fun h9 => c42 (hf1.mpr h9); omega)) (fun h => h3 (by have z : ¬ f = 2 := fun h9 => c59 (hf2.mpr h9); omega)) (by omega) hA hp hfr hP hS ls (lv_sub hl [0, 1, 2, 3] rfl)
              · skip
                refine lv_iload_n S.1 S.2.1 dX0_layThrough_62 rfl (lv_at hl 0 rfl) ?_
                refine lv_goto (tgt := 70) S.1 S.2.1 dX0_layThrough_63 (by decide) ?_
                refine x_put S hK hJ hP hS dX0_layThrough_70 hA (by decide) (RX0, TX0, 4) rfl hin0 tyX0 tyX0_ok nmX0 3 (by decide) fl22 rfl rfl rfl (Nat.le_of_ble_eq_true rfl) (fun H locs E1_3 hu hP hS => ?_)
                have hA : E1_3 60 = .inr (0, [.ref (xad g 1), .int y1, .int y2, .int (nI q)]) := hu.1
                have hp : ePh g E1_3 1 n M := hp.keep (fun j h1 h2 => hu.2 j (by omega))
                have hfr : ∀ j, j ≠ 60 → E1_3 j = E j := fun j hj => (hu.2 j (by omega)).trans (hfr j hj)
                refine lv_iinc (v := nI (f + 1)) (lv' := [(2, .int (nI (f + 1))), (3, .int (nI q)), (1, .int (nI (m3 r s9 t))), (0, .ref (xad g 60))]) S.1 S.2.1 dX0_layThrough_73 hl (k := 1) rfl (show nI f + Int32.ofInt 1 = _ from nI_1 _) (by decide) rfl (fun ls hl => ?_)
                refine lv_iinc (v := nI (q + 1)) (lv' := [(3, .int (nI (q + 1))), (2, .int (nI (f + 1))), (1, .int (nI (m3 r s9 t))), (0, .ref (xad g 60))]) S.1 S.2.1 dX0_layThrough_76 hl (k := 1) rfl (show nI q + Int32.ofInt 1 = _ from nI_1 _) (by decide) rfl (fun ls hl => ?_)
                refine lv_goto (tgt := 4) S.1 S.2.1 dX0_layThrough_79 (by decide) ?_
                exact ih4 (q + 1) (f + 1) y1 y2 (nI q) _ _ _ (by omega) (by omega) (fun h => h1 (by have z : ¬ f = 0 := fun h9 => c25 (hf0.mpr h9); omega)) (fun h => h2 (by have z : ¬ f = 1 := fun h9 => c42 (hf1.mpr h9); omega)) (fun h => by have z := hf2.mp c59; rw [show q = t by omega]) (by omega) hA hp hfr hP hS ls (lv_sub hl [0, 1, 2, 3] rfl)
            · skip
              refine lv_iload_n S.1 S.2.1 dX0_layThrough_45 rfl (lv_at hl 0 rfl) ?_
              refine lv_goto (tgt := 53) S.1 S.2.1 dX0_layThrough_46 (by decide) ?_
              refine x_put S hK hJ hP hS dX0_layThrough_53 hA (by decide) (RX0, TX0, 4) rfl hin0 tyX0 tyX0_ok nmX0 2 (by decide) fl19 rfl rfl rfl (Nat.le_of_ble_eq_true rfl) (fun H locs E1_4 hu hP hS => ?_)
              have hA : E1_4 60 = .inr (0, [.ref (xad g 1), .int y1, .int (nI q), .int y3]) := hu.1
              have hp : ePh g E1_4 1 n M := hp.keep (fun j h1 h2 => hu.2 j (by omega))
              have hfr : ∀ j, j ≠ 60 → E1_4 j = E j := fun j hj => (hu.2 j (by omega)).trans (hfr j hj)
              refine lv_aload_n S.1 S.2.1 dX0_layThrough_56 rfl (lv_at hl 3 rfl) ?_
              refine lv_iload_n S.1 S.2.1 dX0_layThrough_57 rfl (lv_at hl 1 rfl) ?_
              refine lv_iconst (v := 2) S.1 S.2.1 dX0_layThrough_58 (by decide) ?_
              refine lv_icmp_ne (tgt := 66) S.1 S.2.1 dX0_layThrough_59 (by decide) (fun c59 => ?_) (fun c59 => ?_)
              · skip
                refine lv_aload_n S.1 S.2.1 dX0_layThrough_66 rfl (lv_at hl 3 rfl) ?_
                refine x_get S hK hP dX0_layThrough_67 hA (by decide) (RX0, TX0, 4) rfl hin0 3 (by decide) fl22 rfl ?_
                refine x_put S hK hJ hP hS dX0_layThrough_70 hA (by decide) (RX0, TX0, 4) rfl hin0 tyX0 tyX0_ok nmX0 3 (by decide) fl22 rfl rfl rfl (Nat.le_of_ble_eq_true rfl) (fun H locs E1_5 hu hP hS => ?_)
                have hA : E1_5 60 = .inr (0, [.ref (xad g 1), .int y1, .int (nI q), .int y3]) := hu.1
                have hp : ePh g E1_5 1 n M := hp.keep (fun j h1 h2 => hu.2 j (by omega))
                have hfr : ∀ j, j ≠ 60 → E1_5 j = E j := fun j hj => (hu.2 j (by omega)).trans (hfr j hj)
                refine lv_iinc (v := nI (f + 1)) (lv' := [(2, .int (nI (f + 1))), (3, .int (nI q)), (1, .int (nI (m3 r s9 t))), (0, .ref (xad g 60))]) S.1 S.2.1 dX0_layThrough_73 hl (k := 1) rfl (show nI f + Int32.ofInt 1 = _ from nI_1 _) (by decide) rfl (fun ls hl => ?_)
                refine lv_iinc (v := nI (q + 1)) (lv' := [(3, .int (nI (q + 1))), (2, .int (nI (f + 1))), (1, .int (nI (m3 r s9 t))), (0, .ref (xad g 60))]) S.1 S.2.1 dX0_layThrough_76 hl (k := 1) rfl (show nI q + Int32.ofInt 1 = _ from nI_1 _) (by decide) rfl (fun ls hl => ?_)
                refine lv_goto (tgt := 4) S.1 S.2.1 dX0_layThrough_79 (by decide) ?_
                exact ih4 (q + 1) (f + 1) y1 (nI q) y3 _ _ _ (by omega) (by omega) (fun h => h1 (by have z : ¬ f = 0 := fun h9 => c25 (hf0.mpr h9); omega)) (fun h => by have z := hf1.mp c42; rw [show q = s9 by omega]) (fun h => h3 (by have z : ¬ f = 2 := fun h9 => c59 (hf2.mpr h9); omega)) (by omega) hA hp hfr hP hS ls (lv_sub hl [0, 1, 2, 3] rfl)
              · skip
                refine lv_iload_n S.1 S.2.1 dX0_layThrough_62 rfl (lv_at hl 0 rfl) ?_
                refine lv_goto (tgt := 70) S.1 S.2.1 dX0_layThrough_63 (by decide) ?_
                refine x_put S hK hJ hP hS dX0_layThrough_70 hA (by decide) (RX0, TX0, 4) rfl hin0 tyX0 tyX0_ok nmX0 3 (by decide) fl22 rfl rfl rfl (Nat.le_of_ble_eq_true rfl) (fun H locs E1_6 hu hP hS => ?_)
                have hA : E1_6 60 = .inr (0, [.ref (xad g 1), .int y1, .int (nI q), .int (nI q)]) := hu.1
                have hp : ePh g E1_6 1 n M := hp.keep (fun j h1 h2 => hu.2 j (by omega))
                have hfr : ∀ j, j ≠ 60 → E1_6 j = E j := fun j hj => (hu.2 j (by omega)).trans (hfr j hj)
                refine lv_iinc (v := nI (f + 1)) (lv' := [(2, .int (nI (f + 1))), (3, .int (nI q)), (1, .int (nI (m3 r s9 t))), (0, .ref (xad g 60))]) S.1 S.2.1 dX0_layThrough_73 hl (k := 1) rfl (show nI f + Int32.ofInt 1 = _ from nI_1 _) (by decide) rfl (fun ls hl => ?_)
                refine lv_iinc (v := nI (q + 1)) (lv' := [(3, .int (nI (q + 1))), (2, .int (nI (f + 1))), (1, .int (nI (m3 r s9 t))), (0, .ref (xad g 60))]) S.1 S.2.1 dX0_layThrough_76 hl (k := 1) rfl (show nI q + Int32.ofInt 1 = _ from nI_1 _) (by decide) rfl (fun ls hl => ?_)
                refine lv_goto (tgt := 4) S.1 S.2.1 dX0_layThrough_79 (by decide) ?_
                exact ih4 (q + 1) (f + 1) y1 (nI q) (nI q) _ _ _ (by omega) (by omega) (fun h => h1 (by have z : ¬ f = 0 := fun h9 => c25 (hf0.mpr h9); omega)) (fun h => by have z := hf1.mp c42; rw [show q = s9 by omega]) (fun h => by have z := hf2.mp c59; rw [show q = t by omega]) (by omega) hA hp hfr hP hS ls (lv_sub hl [0, 1, 2, 3] rfl)
          · skip
            refine lv_iload_n S.1 S.2.1 dX0_layThrough_28 rfl (lv_at hl 0 rfl) ?_
            refine lv_goto (tgt := 36) S.1 S.2.1 dX0_layThrough_29 (by decide) ?_
            refine x_put S hK hJ hP hS dX0_layThrough_36 hA (by decide) (RX0, TX0, 4) rfl hin0 tyX0 tyX0_ok nmX0 1 (by decide) fl15 rfl rfl rfl (Nat.le_of_ble_eq_true rfl) (fun H locs E1_7 hu hP hS => ?_)
            have hA : E1_7 60 = .inr (0, [.ref (xad g 1), .int (nI q), .int y2, .int y3]) := hu.1
            have hp : ePh g E1_7 1 n M := hp.keep (fun j h1 h2 => hu.2 j (by omega))
            have hfr : ∀ j, j ≠ 60 → E1_7 j = E j := fun j hj => (hu.2 j (by omega)).trans (hfr j hj)
            refine lv_aload_n S.1 S.2.1 dX0_layThrough_39 rfl (lv_at hl 3 rfl) ?_
            refine lv_iload_n S.1 S.2.1 dX0_layThrough_40 rfl (lv_at hl 1 rfl) ?_
            refine lv_iconst (v := 1) S.1 S.2.1 dX0_layThrough_41 (by decide) ?_
            refine lv_icmp_ne (tgt := 49) S.1 S.2.1 dX0_layThrough_42 (by decide) (fun c42 => ?_) (fun c42 => ?_)
            · skip
              refine lv_aload_n S.1 S.2.1 dX0_layThrough_49 rfl (lv_at hl 3 rfl) ?_
              refine x_get S hK hP dX0_layThrough_50 hA (by decide) (RX0, TX0, 4) rfl hin0 2 (by decide) fl19 rfl ?_
              refine x_put S hK hJ hP hS dX0_layThrough_53 hA (by decide) (RX0, TX0, 4) rfl hin0 tyX0 tyX0_ok nmX0 2 (by decide) fl19 rfl rfl rfl (Nat.le_of_ble_eq_true rfl) (fun H locs E1_8 hu hP hS => ?_)
              have hA : E1_8 60 = .inr (0, [.ref (xad g 1), .int (nI q), .int y2, .int y3]) := hu.1
              have hp : ePh g E1_8 1 n M := hp.keep (fun j h1 h2 => hu.2 j (by omega))
              have hfr : ∀ j, j ≠ 60 → E1_8 j = E j := fun j hj => (hu.2 j (by omega)).trans (hfr j hj)
              refine lv_aload_n S.1 S.2.1 dX0_layThrough_56 rfl (lv_at hl 3 rfl) ?_
              refine lv_iload_n S.1 S.2.1 dX0_layThrough_57 rfl (lv_at hl 1 rfl) ?_
              refine lv_iconst (v := 2) S.1 S.2.1 dX0_layThrough_58 (by decide) ?_
              refine lv_icmp_ne (tgt := 66) S.1 S.2.1 dX0_layThrough_59 (by decide) (fun c59 => ?_) (fun c59 => ?_)
              · skip
                refine lv_aload_n S.1 S.2.1 dX0_layThrough_66 rfl (lv_at hl 3 rfl) ?_
                refine x_get S hK hP dX0_layThrough_67 hA (by decide) (RX0, TX0, 4) rfl hin0 3 (by decide) fl22 rfl ?_
                refine x_put S hK hJ hP hS dX0_layThrough_70 hA (by decide) (RX0, TX0, 4) rfl hin0 tyX0 tyX0_ok nmX0 3 (by decide) fl22 rfl rfl rfl (Nat.le_of_ble_eq_true rfl) (fun H locs E1_9 hu hP hS => ?_)
                have hA : E1_9 60 = .inr (0, [.ref (xad g 1), .int (nI q), .int y2, .int y3]) := hu.1
                have hp : ePh g E1_9 1 n M := hp.keep (fun j h1 h2 => hu.2 j (by omega))
                have hfr : ∀ j, j ≠ 60 → E1_9 j = E j := fun j hj => (hu.2 j (by omega)).trans (hfr j hj)
                refine lv_iinc (v := nI (f + 1)) (lv' := [(2, .int (nI (f + 1))), (3, .int (nI q)), (1, .int (nI (m3 r s9 t))), (0, .ref (xad g 60))]) S.1 S.2.1 dX0_layThrough_73 hl (k := 1) rfl (show nI f + Int32.ofInt 1 = _ from nI_1 _) (by decide) rfl (fun ls hl => ?_)
                refine lv_iinc (v := nI (q + 1)) (lv' := [(3, .int (nI (q + 1))), (2, .int (nI (f + 1))), (1, .int (nI (m3 r s9 t))), (0, .ref (xad g 60))]) S.1 S.2.1 dX0_layThrough_76 hl (k := 1) rfl (show nI q + Int32.ofInt 1 = _ from nI_1 _) (by decide) rfl (fun ls hl => ?_)
                refine lv_goto (tgt := 4) S.1 S.2.1 dX0_layThrough_79 (by decide) ?_
                exact ih4 (q + 1) (f + 1) (nI q) y2 y3 _ _ _ (by omega) (by omega) (fun h => by have z := hf0.mp c25; rw [show q = r by omega]) (fun h => h2 (by have z : ¬ f = 1 := fun h9 => c42 (hf1.mpr h9); omega)) (fun h => h3 (by have z : ¬ f = 2 := fun h9 => c59 (hf2.mpr h9); omega)) (by omega) hA hp hfr hP hS ls (lv_sub hl [0, 1, 2, 3] rfl)
              · skip
                refine lv_iload_n S.1 S.2.1 dX0_layThrough_62 rfl (lv_at hl 0 rfl) ?_
                refine lv_goto (tgt := 70) S.1 S.2.1 dX0_layThrough_63 (by decide) ?_
                refine x_put S hK hJ hP hS dX0_layThrough_70 hA (by decide) (RX0, TX0, 4) rfl hin0 tyX0 tyX0_ok nmX0 3 (by decide) fl22 rfl rfl rfl (Nat.le_of_ble_eq_true rfl) (fun H locs E1_10 hu hP hS => ?_)
                have hA : E1_10 60 = .inr (0, [.ref (xad g 1), .int (nI q), .int y2, .int (nI q)]) := hu.1
                have hp : ePh g E1_10 1 n M := hp.keep (fun j h1 h2 => hu.2 j (by omega))
                have hfr : ∀ j, j ≠ 60 → E1_10 j = E j := fun j hj => (hu.2 j (by omega)).trans (hfr j hj)
                refine lv_iinc (v := nI (f + 1)) (lv' := [(2, .int (nI (f + 1))), (3, .int (nI q)), (1, .int (nI (m3 r s9 t))), (0, .ref (xad g 60))]) S.1 S.2.1 dX0_layThrough_73 hl (k := 1) rfl (show nI f + Int32.ofInt 1 = _ from nI_1 _) (by decide) rfl (fun ls hl => ?_)
                refine lv_iinc (v := nI (q + 1)) (lv' := [(3, .int (nI (q + 1))), (2, .int (nI (f + 1))), (1, .int (nI (m3 r s9 t))), (0, .ref (xad g 60))]) S.1 S.2.1 dX0_layThrough_76 hl (k := 1) rfl (show nI q + Int32.ofInt 1 = _ from nI_1 _) (by decide) rfl (fun ls hl => ?_)
                refine lv_goto (tgt := 4) S.1 S.2.1 dX0_layThrough_79 (by decide) ?_
                exact ih4 (q + 1) (f + 1) (nI q) y2 (nI q) _ _ _ (by omega) (by omega) (fun h => by have z := hf0.mp c25; rw [show q = r by omega]) (fun h => h2 (by have z : ¬ f = 1 := fun h9 => c42 (hf1.mpr h9); omega)) (fun h => by have z := hf2.mp c59; rw [show q = t by omega]) (by omega) hA hp hfr hP hS ls (lv_sub hl [0, 1, 2, 3] rfl)
            · skip
              refine lv_iload_n S.1 S.2.1 dX0_layThrough_45 rfl (lv_at hl 0 rfl) ?_
              refine lv_goto (tgt := 53) S.1 S.2.1 dX0_layThrough_46 (by decide) ?_
              refine x_put S hK hJ hP hS dX0_layThrough_53 hA (by decide) (RX0, TX0, 4) rfl hin0 tyX0 tyX0_ok nmX0 2 (by decide) fl19 rfl rfl rfl (Nat.le_of_ble_eq_true rfl) (fun H locs E1_11 hu hP hS => ?_)
              have hA : E1_11 60 = .inr (0, [.ref (xad g 1), .int (nI q), .int (nI q), .int y3]) := hu.1
              have hp : ePh g E1_11 1 n M := hp.keep (fun j h1 h2 => hu.2 j (by omega))
              have hfr : ∀ j, j ≠ 60 → E1_11 j = E j := fun j hj => (hu.2 j (by omega)).trans (hfr j hj)
              refine lv_aload_n S.1 S.2.1 dX0_layThrough_56 rfl (lv_at hl 3 rfl) ?_
              refine lv_iload_n S.1 S.2.1 dX0_layThrough_57 rfl (lv_at hl 1 rfl) ?_
              refine lv_iconst (v := 2) S.1 S.2.1 dX0_layThrough_58 (by decide) ?_
              refine lv_icmp_ne (tgt := 66) S.1 S.2.1 dX0_layThrough_59 (by decide) (fun c59 => ?_) (fun c59 => ?_)
              · skip
                refine lv_aload_n S.1 S.2.1 dX0_layThrough_66 rfl (lv_at hl 3 rfl) ?_
                refine x_get S hK hP dX0_layThrough_67 hA (by decide) (RX0, TX0, 4) rfl hin0 3 (by decide) fl22 rfl ?_
                refine x_put S hK hJ hP hS dX0_layThrough_70 hA (by decide) (RX0, TX0, 4) rfl hin0 tyX0 tyX0_ok nmX0 3 (by decide) fl22 rfl rfl rfl (Nat.le_of_ble_eq_true rfl) (fun H locs E1_12 hu hP hS => ?_)
                have hA : E1_12 60 = .inr (0, [.ref (xad g 1), .int (nI q), .int (nI q), .int y3]) := hu.1
                have hp : ePh g E1_12 1 n M := hp.keep (fun j h1 h2 => hu.2 j (by omega))
                have hfr : ∀ j, j ≠ 60 → E1_12 j = E j := fun j hj => (hu.2 j (by omega)).trans (hfr j hj)
                refine lv_iinc (v := nI (f + 1)) (lv' := [(2, .int (nI (f + 1))), (3, .int (nI q)), (1, .int (nI (m3 r s9 t))), (0, .ref (xad g 60))]) S.1 S.2.1 dX0_layThrough_73 hl (k := 1) rfl (show nI f + Int32.ofInt 1 = _ from nI_1 _) (by decide) rfl (fun ls hl => ?_)
                refine lv_iinc (v := nI (q + 1)) (lv' := [(3, .int (nI (q + 1))), (2, .int (nI (f + 1))), (1, .int (nI (m3 r s9 t))), (0, .ref (xad g 60))]) S.1 S.2.1 dX0_layThrough_76 hl (k := 1) rfl (show nI q + Int32.ofInt 1 = _ from nI_1 _) (by decide) rfl (fun ls hl => ?_)
                refine lv_goto (tgt := 4) S.1 S.2.1 dX0_layThrough_79 (by decide) ?_
                exact ih4 (q + 1) (f + 1) (nI q) (nI q) y3 _ _ _ (by omega) (by omega) (fun h => by have z := hf0.mp c25; rw [show q = r by omega]) (fun h => by have z := hf1.mp c42; rw [show q = s9 by omega]) (fun h => h3 (by have z : ¬ f = 2 := fun h9 => c59 (hf2.mpr h9); omega)) (by omega) hA hp hfr hP hS ls (lv_sub hl [0, 1, 2, 3] rfl)
              · skip
                refine lv_iload_n S.1 S.2.1 dX0_layThrough_62 rfl (lv_at hl 0 rfl) ?_
                refine lv_goto (tgt := 70) S.1 S.2.1 dX0_layThrough_63 (by decide) ?_
                refine x_put S hK hJ hP hS dX0_layThrough_70 hA (by decide) (RX0, TX0, 4) rfl hin0 tyX0 tyX0_ok nmX0 3 (by decide) fl22 rfl rfl rfl (Nat.le_of_ble_eq_true rfl) (fun H locs E1_13 hu hP hS => ?_)
                have hA : E1_13 60 = .inr (0, [.ref (xad g 1), .int (nI q), .int (nI q), .int (nI q)]) := hu.1
                have hp : ePh g E1_13 1 n M := hp.keep (fun j h1 h2 => hu.2 j (by omega))
                have hfr : ∀ j, j ≠ 60 → E1_13 j = E j := fun j hj => (hu.2 j (by omega)).trans (hfr j hj)
                refine lv_iinc (v := nI (f + 1)) (lv' := [(2, .int (nI (f + 1))), (3, .int (nI q)), (1, .int (nI (m3 r s9 t))), (0, .ref (xad g 60))]) S.1 S.2.1 dX0_layThrough_73 hl (k := 1) rfl (show nI f + Int32.ofInt 1 = _ from nI_1 _) (by decide) rfl (fun ls hl => ?_)
                refine lv_iinc (v := nI (q + 1)) (lv' := [(3, .int (nI (q + 1))), (2, .int (nI (f + 1))), (1, .int (nI (m3 r s9 t))), (0, .ref (xad g 60))]) S.1 S.2.1 dX0_layThrough_76 hl (k := 1) rfl (show nI q + Int32.ofInt 1 = _ from nI_1 _) (by decide) rfl (fun ls hl => ?_)
                refine lv_goto (tgt := 4) S.1 S.2.1 dX0_layThrough_79 (by decide) ?_
                exact ih4 (q + 1) (f + 1) (nI q) (nI q) (nI q) _ _ _ (by omega) (by omega) (fun h => by have z := hf0.mp c25; rw [show q = r by omega]) (fun h => by have z := hf1.mp c42; rw [show q = s9 by omega]) (fun h => by have z := hf2.mp c59; rw [show q = t by omega]) (by omega) hA hp hfr hP hS ls (lv_sub hl [0, 1, 2, 3] rfl)
  exact loop4 _ 0 0 x1 x2 x3 _ _ _ (Nat.zero_le _) (by omega) (fun h => absurd h (Nat.not_lt_zero _)) (fun h => absurd h (Nat.not_lt_zero _)) (fun h => absurd h (Nat.not_lt_zero _)) (Nat.lt_succ_self _) hA hp hfr hP hS ls (lv_sub hl [0, 1, 3, 2] rfl)
set_option maxHeartbeats 4000000 in
set_option maxRecDepth 100000 in
theorem c_X0_layBest (l : Launch) (g : xG) (hJ : xJ (xad g)) (E : Nat → va_E) {n : Nat} {M : Nat → Nat → Int32} (hp : ePh g E 1 n M) {x1 x2 x3 : Int32} (hA : E 60 = .inr (0, [.ref (xad g 1), .int x1, .int x2, .int x3])) (hv : vld n M) (P : Nat → Bool) : Met l yX0_layBest wsX0_layBest ({ frames := 2, cells := 0, slots := 0, locals := 73 }) (xPc g [.ref (xad g 60), .int (nI (mk P n))] E) (xQi g (fun r E1 => (∀ j, j ≠ 60 → E1 j = E j) ∧ ((r = 1 ∧ ∃ i j k, isBest M P n i j k ∧ E1 60 = .inr (0, [.ref (xad g 1), .int (nI i), .int (nI j), .int (nI k)])) ∨ (r = 0 ∧ (∀ i j k, ¬ trio P n i j k) ∧ ∃ a b c, E1 60 = .inr (0, [.ref (xad g 1), .int a, .int b, .int c]))))) 0 0 (xA (xad g)) := by
  refine x_met (ws' := _) (by decide) rfl (Nat.le_of_ble_eq_true rfl) ?_
  intro pz ez s m below meth cz ls S hr hlocks hP hK hl
  have hl : lv_has ls 9 [(0, .ref (xad g 60)), (1, .int (nI (mk P n)))] := hl
  have hS : va_S (xA (xad g)) s.heap s.heap [] := va_S.rf
  have hin0 : ∀ w ∈ u_ws RX0 TX0 4, w ∈ wsX0_layBest := by decide +kernel
  have hin2 : ∀ w ∈ u_ws RX2 TX2 2, w ∈ wsX0_layBest := by decide +kernel
  have fl9 : Cond.fieldLink RX0 9 "DiscArcs$Arc" "photos" "LDiscArcs$Photos;" ∈ wsX0_layBest := by decide +kernel
  have fl25 : Cond.fieldLink RX0 25 "DiscArcs$Photos" "size" "I" ∈ wsX0_layBest := by decide +kernel
  have h0 := hp.1
  have hfr : ∀ j, j ≠ 60 → E j = E j := fun _ _ => rfl
  refine lv_bipush (v := 10) S.1 S.2.1 dX0_layBest_0 (by decide) ?_
  refine lv_istore_n (lv' := [(2, .int 10), (0, .ref (xad g 60)), (1, .int (nI (mk P n)))]) S.1 S.2.1 dX0_layBest_2 rfl hl (by decide) rfl (fun ls hl => ?_)
  refine lv_iconst (v := 0) S.1 S.2.1 dX0_layBest_3 (by decide) ?_
  refine lv_istore_n (lv' := [(3, .int 0), (2, .int 10), (0, .ref (xad g 60)), (1, .int (nI (mk P n)))]) S.1 S.2.1 dX0_layBest_4 rfl hl (by decide) rfl (fun ls hl => ?_)
  refine lv_iconst (v := 0) S.1 S.2.1 dX0_layBest_5 (by decide) ?_
  refine lv_istore (lv' := [(4, .int 0), (3, .int 0), (2, .int 10), (0, .ref (xad g 60)), (1, .int (nI (mk P n)))]) S.1 S.2.1 dX0_layBest_6 hl (by decide) rfl (fun ls hl => ?_)
  have loop8 : ∀ (d : Nat) (i : Nat) (f : Int32) (b : Int32) (y1 : Int32) (y2 : Int32) (y3 : Int32) (EL : Nat → va_E) (H : Heap) (locs : List Loc), (hi : i ≤ n) → (hb : bsf M P n (cod i 0 0) f b) → (n - i) < d → (hA : EL 60 = .inr (0, [.ref (xad g 1), .int y1, .int y2, .int y3])) → (hp : ePh g EL 1 n M) → (hfr : ∀ j, j ≠ 60 → EL j = E j) → xP g EL H → va_S (xA (xad g)) s.heap H locs → ∀ ls : Array Slot, lv_has ls 9 [(4, .int (nI i)), (3, .int b), (2, .int f), (1, .int (nI (mk P n))), (0, .ref (xad g 60))] → W pz l ez ({ frames := 2, cells := 0, slots := 0, locals := 73 }) s m ([.ref (xad g 60), .int (nI (mk P n))] : List Value).toArray below meth cz H locs 0 0 (MQ below (xQi g (fun r E1 => (∀ j, j ≠ 60 → E1 j = E j) ∧ ((r = 1 ∧ ∃ i j k, isBest M P n i j k ∧ E1 60 = .inr (0, [.ref (xad g 1), .int (nI i), .int (nI j), .int (nI k)])) ∨ (r = 0 ∧ (∀ i j k, ¬ trio P n i j k) ∧ ∃ a b c, E1 60 = .inr (0, [.ref (xad g 1), .int a, .int b, .int c]))))) ([.ref (xad g 60), .int (nI (mk P n))] : List Value).toArray s 0 0 (xA (xad g))) (F0 m 8 ls []) := by
    intro d
    induction d with
    | zero => intro i f b y1 y2 y3 EL H locs hi hb hd; exact absurd hd (Nat.not_lt_zero _)
    | succ d ih8 =>
      intro i f b y1 y2 y3 EL H locs hi hb hd hA hp hfr hP hS ls hl
      refine lv_iload S.1 S.2.1 dX0_layBest_8 (lv_at hl 0 rfl) ?_
      refine lv_aload_n S.1 S.2.1 dX0_layBest_10 rfl (lv_at hl 4 rfl) ?_
      refine x_get S hK hP dX0_layBest_11 hA (by decide) (RX0, TX0, 4) rfl hin0 0 (by decide) fl9 rfl ?_
      refine x_get S hK hP dX0_layBest_14 hp.2.1 (by decide) (RX2, TX2, 2) rfl hin2 1 (by decide) fl25 rfl ?_
      refine lv_icmp_ge (tgt := 131) S.1 S.2.1 dX0_layBest_17 (by decide) (fun c17 => ?_) (fun c17 => ?_)
      · skip
        have hbe : bsf M P n 1000 f b := hb.mono (by unfold cod; omega) (fun r9 s9 t9 h _ => by obtain ⟨a1, a2, a3, -⟩ := h; have := (nI_leI (a := n) (b := i) (by omega) (by omega)).mp c17; unfold cod at *; omega)
        rcases hbe with ⟨hf0, hb0, hno⟩ | ⟨r9, s9, t9, hbt, hb0, hf0⟩
        · subst hb0
          refine lv_aload_n S.1 S.2.1 dX0_layBest_131 rfl (lv_at hl 4 rfl) ?_
          refine lv_iload_n S.1 S.2.1 dX0_layBest_132 rfl (lv_at hl 1 rfl) ?_
          refine x_qv (va_runV (As := [.int 0]) (rest := []) S (c_X0_layThrough_0 l g hJ EL hp hA) (cwV 1 S.2.2.2.2 gX0_layBest_X0_layThrough rfl rfl rfl (by decide +kernel) ⟨Nat.le_of_ble_eq_true rfl, Nat.le_of_ble_eq_true rfl⟩) (x_preV hK hP hA (by decide) rfl) rfl rfl hl.1 rfl (lv_room (Nat.le_of_ble_eq_true rfl)) dX0_layBest_133 ⟨Nat.le_of_ble_eq_true rfl, Nat.le_of_ble_eq_true rfl⟩) hS (fun E1 H locs hq133 hP hS => ?_)
          rw [hq133] at hP
          refine lv_iload_n S.1 S.2.1 dX0_layBest_136 rfl (lv_at hl 1 rfl) ?_
          refine lv_if_eq (tgt := 144) S.1 S.2.1 dX0_layBest_137 (by decide) (fun c137 => ?_) (fun c137 => ?_)
          · skip
            refine lv_iconst (v := 0) S.1 S.2.1 dX0_layBest_144 (by decide) ?_
            exact x_zret S hr hlocks hP hS dX0_layBest_145 rfl (⟨hfr, Or.inr ⟨rfl, fun i j k h => Nat.not_le.mpr (cod_lt h0.2 h) (hno i j k h), _, _, _, hA⟩⟩)
          · skip
            exact absurd rfl c137
        · subst hb0
          obtain ⟨g1, g2, g3, -⟩ := id hbt.1
          refine lv_aload_n S.1 S.2.1 dX0_layBest_131 rfl (lv_at hl 4 rfl) ?_
          refine lv_iload_n S.1 S.2.1 dX0_layBest_132 rfl (lv_at hl 1 rfl) ?_
          refine x_qv (va_runV (As := [.int (nI (m3 r9 s9 t9))]) (rest := []) S (c_X0_layThrough l g hJ EL hp hA g1 g2 g3) (cwV 1 S.2.2.2.2 gX0_layBest_X0_layThrough rfl rfl rfl (by decide +kernel) ⟨Nat.le_of_ble_eq_true rfl, Nat.le_of_ble_eq_true rfl⟩) (x_preV hK hP hA (by decide) rfl) rfl rfl hl.1 rfl (lv_room (Nat.le_of_ble_eq_true rfl)) dX0_layBest_133 ⟨Nat.le_of_ble_eq_true rfl, Nat.le_of_ble_eq_true rfl⟩) hS (fun E1_1 H locs hq133 hP hS => ?_)
          have hA2 := hq133.1
          have hfr : ∀ j, j ≠ 60 → E1_1 j = E j := fun j hj => (hq133.2 j hj).trans (hfr j hj)
          refine lv_iload_n S.1 S.2.1 dX0_layBest_136 rfl (lv_at hl 1 rfl) ?_
          refine lv_if_eq (tgt := 144) S.1 S.2.1 dX0_layBest_137 (by decide) (fun c137 => ?_) (fun c137 => ?_)
          · skip
            exact absurd ((nI_eq (b := 0) (by have := m3_lt (r := r9) (s := s9) (t := t9) (by omega) (by omega) (by omega); omega) (by decide)).mp c137) m3_ne
          · skip
            refine lv_iconst (v := 1) S.1 S.2.1 dX0_layBest_140 (by decide) ?_
            refine lv_goto (tgt := 145) S.1 S.2.1 dX0_layBest_141 (by decide) ?_
            exact x_zret S hr hlocks hP hS dX0_layBest_145 rfl (⟨hfr, Or.inl ⟨rfl, r9, s9, t9, hbt, hA2⟩⟩)
      · skip
        have hin : i < n := (Nat.not_le.mp (fun h => c17 ((nI_leI (by omega) (by omega)).mpr h)))
        refine lv_iload S.1 S.2.1 dX0_layBest_20 (lv_at hl 0 rfl) ?_
        refine lv_iconst (v := 1) S.1 S.2.1 dX0_layBest_22 (by decide) ?_
        refine lv_iadd S.1 S.2.1 dX0_layBest_23 ?_
        refine W.eq (g2 := F0 m 24 ls [.int (nI (i + 1))]) (by rw [nI_1 i]) ?_
        refine lv_istore (lv' := [(5, .int (nI (i + 1))), (4, .int (nI i)), (3, .int b), (2, .int f), (1, .int (nI (mk P n))), (0, .ref (xad g 60))]) S.1 S.2.1 dX0_layBest_24 hl (by decide) rfl (fun ls hl => ?_)
        have loop26 : ∀ (d : Nat) (j : Nat) (f : Int32) (b : Int32) (y1 : Int32) (y2 : Int32) (y3 : Int32) (EL : Nat → va_E) (H : Heap) (locs : List Loc), (hij : i < j) → (hj : j ≤ n) → (hb : bsf M P n (cod i j 0) f b) → (n - j) < d → (hA : EL 60 = .inr (0, [.ref (xad g 1), .int y1, .int y2, .int y3])) → (hp : ePh g EL 1 n M) → (hfr : ∀ j, j ≠ 60 → EL j = E j) → xP g EL H → va_S (xA (xad g)) s.heap H locs → ∀ ls : Array Slot, lv_has ls 9 [(5, .int (nI j)), (4, .int (nI i)), (3, .int b), (2, .int f), (1, .int (nI (mk P n))), (0, .ref (xad g 60))] → W pz l ez ({ frames := 2, cells := 0, slots := 0, locals := 73 }) s m ([.ref (xad g 60), .int (nI (mk P n))] : List Value).toArray below meth cz H locs 0 0 (MQ below (xQi g (fun r E1 => (∀ j, j ≠ 60 → E1 j = E j) ∧ ((r = 1 ∧ ∃ i j k, isBest M P n i j k ∧ E1 60 = .inr (0, [.ref (xad g 1), .int (nI i), .int (nI j), .int (nI k)])) ∨ (r = 0 ∧ (∀ i j k, ¬ trio P n i j k) ∧ ∃ a b c, E1 60 = .inr (0, [.ref (xad g 1), .int a, .int b, .int c]))))) ([.ref (xad g 60), .int (nI (mk P n))] : List Value).toArray s 0 0 (xA (xad g))) (F0 m 26 ls []) := by
          intro d
          induction d with
          | zero => intro j f b y1 y2 y3 EL H locs hij hj hb hd; exact absurd hd (Nat.not_lt_zero _)
          | succ d ih26 =>
            intro j f b y1 y2 y3 EL H locs hij hj hb hd hA hp hfr hP hS ls hl
            refine lv_iload S.1 S.2.1 dX0_layBest_26 (lv_at hl 0 rfl) ?_
            refine lv_aload_n S.1 S.2.1 dX0_layBest_28 rfl (lv_at hl 5 rfl) ?_
            refine x_get S hK hP dX0_layBest_29 hA (by decide) (RX0, TX0, 4) rfl hin0 0 (by decide) fl9 rfl ?_
            refine x_get S hK hP dX0_layBest_32 hp.2.1 (by decide) (RX2, TX2, 2) rfl hin2 1 (by decide) fl25 rfl ?_
            refine lv_icmp_ge (tgt := 125) S.1 S.2.1 dX0_layBest_35 (by decide) (fun c35 => ?_) (fun c35 => ?_)
            · skip
              refine lv_iinc (v := nI (i + 1)) (lv' := [(4, .int (nI (i + 1))), (5, .int (nI j)), (3, .int b), (2, .int f), (1, .int (nI (mk P n))), (0, .ref (xad g 60))]) S.1 S.2.1 dX0_layBest_125 hl (k := 1) rfl (show nI i + Int32.ofInt 1 = _ from nI_1 _) (by decide) rfl (fun ls hl => ?_)
              refine lv_goto (tgt := 8) S.1 S.2.1 dX0_layBest_128 (by decide) ?_
              exact ih8 (i + 1) f b y1 y2 y3 _ _ _ (by omega) (hb.mono (by unfold cod; omega) (fun r9 s9 t9 h h9 => by have hjn := (nI_leI (a := n) (b := j) (by omega) (by omega)).mp c35; obtain ⟨a1, a2, a3, -⟩ := h; unfold cod at *; rcases Nat.lt_trichotomy r9 i with z | z | z <;> omega)) (by omega) hA hp hfr hP hS ls (lv_sub hl [0, 2, 3, 4, 5] rfl)
            · skip
              have hjn : j < n := (Nat.not_le.mp (fun h => c35 ((nI_leI (by omega) (by omega)).mpr h)))
              refine lv_iload S.1 S.2.1 dX0_layBest_38 (lv_at hl 0 rfl) ?_
              refine lv_iconst (v := 1) S.1 S.2.1 dX0_layBest_40 (by decide) ?_
              refine lv_iadd S.1 S.2.1 dX0_layBest_41 ?_
              refine W.eq (g2 := F0 m 42 ls [.int (nI (j + 1))]) (by rw [nI_1 j]) ?_
              refine lv_istore (lv' := [(6, .int (nI (j + 1))), (5, .int (nI j)), (4, .int (nI i)), (3, .int b), (2, .int f), (1, .int (nI (mk P n))), (0, .ref (xad g 60))]) S.1 S.2.1 dX0_layBest_42 hl (by decide) rfl (fun ls hl => ?_)
              have loop44 : ∀ (d : Nat) (k : Nat) (f : Int32) (b : Int32) (y1 : Int32) (y2 : Int32) (y3 : Int32) (EL : Nat → va_E) (H : Heap) (locs : List Loc), (hjk : j < k) → (hk : k ≤ n) → (hb : bsf M P n (cod i j k) f b) → (n - k) < d → (hA : EL 60 = .inr (0, [.ref (xad g 1), .int y1, .int y2, .int y3])) → (hp : ePh g EL 1 n M) → (hfr : ∀ j, j ≠ 60 → EL j = E j) → xP g EL H → va_S (xA (xad g)) s.heap H locs → ∀ ls : Array Slot, lv_has ls 9 [(6, .int (nI k)), (5, .int (nI j)), (4, .int (nI i)), (3, .int b), (2, .int f), (1, .int (nI (mk P n))), (0, .ref (xad g 60))] → W pz l ez ({ frames := 2, cells := 0, slots := 0, locals := 73 }) s m ([.ref (xad g 60), .int (nI (mk P n))] : List Value).toArray below meth cz H locs 0 0 (MQ below (xQi g (fun r E1 => (∀ j, j ≠ 60 → E1 j = E j) ∧ ((r = 1 ∧ ∃ i j k, isBest M P n i j k ∧ E1 60 = .inr (0, [.ref (xad g 1), .int (nI i), .int (nI j), .int (nI k)])) ∨ (r = 0 ∧ (∀ i j k, ¬ trio P n i j k) ∧ ∃ a b c, E1 60 = .inr (0, [.ref (xad g 1), .int a, .int b, .int c]))))) ([.ref (xad g 60), .int (nI (mk P n))] : List Value).toArray s 0 0 (xA (xad g))) (F0 m 44 ls []) := by
                intro d
                induction d with
                | zero => intro k f b y1 y2 y3 EL H locs hjk hk hb hd; exact absurd hd (Nat.not_lt_zero _)
                | succ d ih44 =>
                  intro k f b y1 y2 y3 EL H locs hjk hk hb hd hA hp hfr hP hS ls hl
                  refine lv_iload S.1 S.2.1 dX0_layBest_44 (lv_at hl 0 rfl) ?_
                  refine lv_aload_n S.1 S.2.1 dX0_layBest_46 rfl (lv_at hl 6 rfl) ?_
                  refine x_get S hK hP dX0_layBest_47 hA (by decide) (RX0, TX0, 4) rfl hin0 0 (by decide) fl9 rfl ?_
                  refine x_get S hK hP dX0_layBest_50 hp.2.1 (by decide) (RX2, TX2, 2) rfl hin2 1 (by decide) fl25 rfl ?_
                  refine lv_icmp_ge (tgt := 119) S.1 S.2.1 dX0_layBest_53 (by decide) (fun c53 => ?_) (fun c53 => ?_)
                  · skip
                    refine lv_iinc (v := nI (j + 1)) (lv' := [(5, .int (nI (j + 1))), (6, .int (nI k)), (4, .int (nI i)), (3, .int b), (2, .int f), (1, .int (nI (mk P n))), (0, .ref (xad g 60))]) S.1 S.2.1 dX0_layBest_119 hl (k := 1) rfl (show nI j + Int32.ofInt 1 = _ from nI_1 _) (by decide) rfl (fun ls hl => ?_)
                    refine lv_goto (tgt := 26) S.1 S.2.1 dX0_layBest_122 (by decide) ?_
                    exact ih26 (j + 1) f b y1 y2 y3 _ _ _ (by omega) (by omega) (hb.mono (by unfold cod; omega) (fun r9 s9 t9 h h9 => by have hkn := (nI_leI (a := n) (b := k) (by omega) (by omega)).mp c53; obtain ⟨a1, a2, a3, -⟩ := h; unfold cod at *; omega)) (by omega) hA hp hfr hP hS ls (lv_sub hl [0, 2, 3, 4, 5, 6] rfl)
                  · skip
                    have hkn : k < n := (Nat.not_le.mp (fun h => c53 ((nI_leI (by omega) (by omega)).mpr h)))
                    refine lv_iconst (v := 1) S.1 S.2.1 dX0_layBest_56 (by decide) ?_
                    refine lv_iload S.1 S.2.1 dX0_layBest_57 (lv_at hl 2 rfl) ?_
                    refine lv_ishl S.1 S.2.1 dX0_layBest_59 ?_
                    refine lv_iconst (v := 1) S.1 S.2.1 dX0_layBest_60 (by decide) ?_
                    refine lv_iload S.1 S.2.1 dX0_layBest_61 (lv_at hl 1 rfl) ?_
                    refine lv_ishl S.1 S.2.1 dX0_layBest_63 ?_
                    refine lv_ior S.1 S.2.1 dX0_layBest_64 ?_
                    refine lv_iconst (v := 1) S.1 S.2.1 dX0_layBest_65 (by decide) ?_
                    refine lv_iload S.1 S.2.1 dX0_layBest_66 (lv_at hl 0 rfl) ?_
                    refine lv_ishl S.1 S.2.1 dX0_layBest_68 ?_
                    refine lv_ior S.1 S.2.1 dX0_layBest_69 ?_
                    refine W.eq (g2 := F0 m 70 ls [.int (nI (m3 i j k))]) (by rw [m3_nI (by omega) (by omega) (by omega)]) ?_
                    refine lv_istore (lv' := [(7, .int (nI (m3 i j k))), (6, .int (nI k)), (5, .int (nI j)), (4, .int (nI i)), (3, .int b), (2, .int f), (1, .int (nI (mk P n))), (0, .ref (xad g 60))]) S.1 S.2.1 dX0_layBest_70 hl (by decide) rfl (fun ls hl => ?_)
                    refine lv_iload_n S.1 S.2.1 dX0_layBest_72 rfl (lv_at hl 6 rfl) ?_
                    refine lv_iload S.1 S.2.1 dX0_layBest_73 (lv_at hl 0 rfl) ?_
                    refine lv_iand S.1 S.2.1 dX0_layBest_75 ?_
                    refine lv_iload S.1 S.2.1 dX0_layBest_76 (lv_at hl 0 rfl) ?_
                    refine lv_icmp_ne (tgt := 113) S.1 S.2.1 dX0_layBest_78 (by decide) (fun c78 => ?_) (fun c78 => ?_)
                    · skip
                      refine lv_iinc (v := nI (k + 1)) (lv' := [(6, .int (nI (k + 1))), (7, .int (nI (m3 i j k))), (5, .int (nI j)), (4, .int (nI i)), (3, .int b), (2, .int f), (1, .int (nI (mk P n))), (0, .ref (xad g 60))]) S.1 S.2.1 dX0_layBest_113 hl (k := 1) rfl (show nI k + Int32.ofInt 1 = _ from nI_1 _) (by decide) rfl (fun ls hl => ?_)
                      refine lv_goto (tgt := 44) S.1 S.2.1 dX0_layBest_116 (by decide) ?_
                      exact ih44 (k + 1) f b y1 y2 y3 _ _ _ (by omega) (by omega) (hb.skip h0.2 hij hjk hkn (fun h => c78 ((m3_sub h0.2 (by omega) (by omega) hkn).mpr h.2.2.2))) (by omega) hA hp hfr hP hS ls (lv_sub hl [0, 2, 3, 4, 5, 6, 7] rfl)
                    · skip
                      have htr : trio P n i j k := ⟨hij, hjk, hkn, (m3_sub h0.2 (by omega) (by omega) hkn).mp c78⟩
                      refine lv_aload_n S.1 S.2.1 dX0_layBest_81 rfl (lv_at hl 7 rfl) ?_
                      refine lv_iload S.1 S.2.1 dX0_layBest_82 (lv_at hl 3 rfl) ?_
                      refine lv_iload S.1 S.2.1 dX0_layBest_84 (lv_at hl 2 rfl) ?_
                      refine lv_iload S.1 S.2.1 dX0_layBest_86 (lv_at hl 1 rfl) ?_
                      refine x_qv (va_runV (As := [.int (nI i), .int (nI j), .int (nI k)]) (rest := []) S (c_X0_lay l g hJ EL hA (nI i) (nI j) (nI k)) (cwV 3 S.2.2.2.2 gX0_layBest_X0_lay rfl rfl rfl (by decide +kernel) ⟨Nat.le_of_ble_eq_true rfl, Nat.le_of_ble_eq_true rfl⟩) (x_preV hK hP hA (by decide) rfl) rfl rfl hl.1 rfl (lv_room (Nat.le_of_ble_eq_true rfl)) dX0_layBest_88 ⟨Nat.le_of_ble_eq_true rfl, Nat.le_of_ble_eq_true rfl⟩) hS (fun E1_2 H locs hq88 hP hS => ?_)
                      have hA := hq88.1
                      have hp : ePh g E1_2 1 n M := hp.keep (fun j h1 h2 => hq88.2 j (by omega))
                      have hfr : ∀ j, j ≠ 60 → E1_2 j = E j := fun j hj => (hq88.2 j hj).trans (hfr j hj)
                      refine lv_aload_n S.1 S.2.1 dX0_layBest_91 rfl (lv_at hl 7 rfl) ?_
                      refine lv_iload_n S.1 S.2.1 dX0_layBest_92 rfl (lv_at hl 6 rfl) ?_
                      refine x_si (va_runV (As := [.int (nI (mk P n))]) (rest := []) S (c_X0_missedOf l g E1_2 hp hA (i := i) (j := j) (k := k) (by omega) (by omega) hkn (P := P) (lo_pos hv hij hjk hkn)) (cwV 1 S.2.2.2.2 gX0_layBest_X0_missedOf rfl rfl rfl (by decide +kernel) ⟨Nat.le_of_ble_eq_true rfl, Nat.le_of_ble_eq_true rfl⟩) (x_preV hK hP hA (by decide) rfl) rfl rfl hl.1 rfl (lv_room (Nat.le_of_ble_eq_true rfl)) dX0_layBest_93 ⟨Nat.le_of_ble_eq_true rfl, Nat.le_of_ble_eq_true rfl⟩) (fun r93 hr93 => ?_)
                      refine x_si (va_runS (As := [.int r93]) (rest := []) S (c_J6_bitCount_0f7a4 l g E1_2 r93) (va_cwS 1 S.2.2.2.2 gX0_layBest_J6_bitCount_0f7a4 rfl rfl rfl (by decide +kernel) ⟨Nat.le_of_ble_eq_true rfl, Nat.le_of_ble_eq_true rfl⟩) (x_preS hK hP) rfl rfl hl.1 rfl (lv_room (Nat.le_of_ble_eq_true rfl)) dX0_layBest_96 ⟨Nat.le_of_ble_eq_true rfl, Nat.le_of_ble_eq_true rfl⟩) (fun r96 hr96 => ?_)
                      have hx96 : r96 = nI (cnt (pM M P i j k) n) := by rw [hr96, hr93, bc_mk h0.2]
                      refine lv_istore (lv' := [(8, .int r96), (7, .int (nI (m3 i j k))), (6, .int (nI k)), (5, .int (nI j)), (4, .int (nI i)), (3, .int b), (2, .int f), (1, .int (nI (mk P n))), (0, .ref (xad g 60))]) S.1 S.2.1 dX0_layBest_99 hl (by decide) rfl (fun ls hl => ?_)
                      refine lv_iload S.1 S.2.1 dX0_layBest_101 (lv_at hl 0 rfl) ?_
                      refine lv_iload_n S.1 S.2.1 dX0_layBest_103 rfl (lv_at hl 6 rfl) ?_
                      refine lv_icmp_ge (tgt := 113) S.1 S.2.1 dX0_layBest_104 (by decide) (fun c104 => ?_) (fun c104 => ?_)
                      · skip
                        refine lv_iinc (v := nI (k + 1)) (lv' := [(6, .int (nI (k + 1))), (8, .int r96), (7, .int (nI (m3 i j k))), (5, .int (nI j)), (4, .int (nI i)), (3, .int b), (2, .int f), (1, .int (nI (mk P n))), (0, .ref (xad g 60))]) S.1 S.2.1 dX0_layBest_113 hl (k := 2) rfl (show nI k + Int32.ofInt 1 = _ from nI_1 _) (by decide) rfl (fun ls hl => ?_)
                        refine lv_goto (tgt := 44) S.1 S.2.1 dX0_layBest_116 (by decide) ?_
                        exact ih44 (k + 1) f b (nI i) (nI j) (nI k) _ _ _ (by omega) (by omega) (hb.keep h0.2 hv htr hx96 c104) (by omega) hA hp hfr hP hS ls (lv_sub hl [0, 3, 4, 5, 6, 7, 8] rfl)
                      · skip
                        refine lv_iload S.1 S.2.1 dX0_layBest_107 (lv_at hl 0 rfl) ?_
                        refine lv_istore_n (lv' := [(2, .int r96), (8, .int r96), (7, .int (nI (m3 i j k))), (6, .int (nI k)), (5, .int (nI j)), (4, .int (nI i)), (3, .int b), (1, .int (nI (mk P n))), (0, .ref (xad g 60))]) S.1 S.2.1 dX0_layBest_109 rfl hl (by decide) rfl (fun ls hl => ?_)
                        refine lv_iload S.1 S.2.1 dX0_layBest_110 (lv_at hl 2 rfl) ?_
                        refine lv_istore_n (lv' := [(3, .int (nI (m3 i j k))), (2, .int r96), (8, .int r96), (7, .int (nI (m3 i j k))), (6, .int (nI k)), (5, .int (nI j)), (4, .int (nI i)), (1, .int (nI (mk P n))), (0, .ref (xad g 60))]) S.1 S.2.1 dX0_layBest_112 rfl hl (by decide) rfl (fun ls hl => ?_)
                        refine lv_iinc (v := nI (k + 1)) (lv' := [(6, .int (nI (k + 1))), (3, .int (nI (m3 i j k))), (2, .int r96), (8, .int r96), (7, .int (nI (m3 i j k))), (5, .int (nI j)), (4, .int (nI i)), (1, .int (nI (mk P n))), (0, .ref (xad g 60))]) S.1 S.2.1 dX0_layBest_113 hl (k := 4) rfl (show nI k + Int32.ofInt 1 = _ from nI_1 _) (by decide) rfl (fun ls hl => ?_)
                        refine lv_goto (tgt := 44) S.1 S.2.1 dX0_layBest_116 (by decide) ?_
                        exact ih44 (k + 1) r96 (nI (m3 i j k)) (nI i) (nI j) (nI k) _ _ _ (by omega) (by omega) (hb.take h0.2 hv htr hx96 c104) (by omega) hA hp hfr hP hS ls (lv_sub hl [0, 5, 6, 1, 2, 7, 8] rfl)
              exact loop44 _ (j + 1) f b y1 y2 y3 _ _ _ (Nat.lt_succ_self _) (by omega) (hb.mono (by unfold cod; omega) (fun r9 s9 t9 h h9 => by obtain ⟨a1, a2, a3, -⟩ := h; unfold cod at *; omega)) (Nat.lt_succ_self _) hA hp hfr hP hS ls (lv_sub hl [0, 1, 2, 3, 4, 5, 6] rfl)
        exact loop26 _ (i + 1) f b y1 y2 y3 _ _ _ (Nat.lt_succ_self _) (by omega) (hb.mono (by unfold cod; omega) (fun r9 s9 t9 h h9 => by obtain ⟨a1, a2, a3, -⟩ := h; unfold cod at *; omega)) (Nat.lt_succ_self _) hA hp hfr hP hS ls (lv_sub hl [0, 1, 2, 3, 4, 5] rfl)
  exact loop8 _ 0 10 0 x1 x2 x3 _ _ _ (Nat.zero_le _) (Or.inl ⟨rfl, rfl, fun r9 s9 t9 h => Nat.zero_le _⟩) (Nat.lt_succ_self _) hA hp hfr hP hS ls (lv_sub hl [0, 1, 2, 4, 3] rfl)
