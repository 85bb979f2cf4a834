/-! HISTORY -/
/-- the oldest state is dropped: what the i-th is then -/
def rot {α : Type} (B : Nat → α) : Nat → α := fun i => if i < 3 then B (i + 1) else B 0
theorem eHi.keep {g : xG} {E E1 : Nat → va_E} {hs : Nat} {B N : Nat → Nat} {MM : Nat → Nat → Nat → Int32} (h : eHi g E hs B N MM) (hE : ∀ j, 19 ≤ j → j < 57 → E1 j = E j) : eHi g E1 hs B N MM := by
  obtain ⟨h0, h1, ⟨F, h2, h3⟩, h4, h5⟩ := h
  refine ⟨h0, by rw [hE 19 (by omega) (by omega)]; exact h1, ⟨F, by rw [hE 20 (by omega) (by omega)]; exact h2, h3⟩, fun i hi => ?_, h5⟩
  obtain ⟨a1, a2, a3⟩ := h4 i hi
  exact ⟨a1, a2, a3.keep (fun j g1 g2 => hE j (by omega) (by omega))⟩
/-- one of the states is written -/
theorem eHi.put {g : xG} {E E1 : Nat → va_E} {hs q n : Nat} {B N : Nat → Nat} {MM : Nat → Nat → Nat → Int32} {M : Nat → Nat → Int32} (h : eHi g E hs B N MM) (hq : q < 4) (hp : ePh g E1 (B q) n M) (hE : ∀ j, j < B q ∨ B q + 9 ≤ j → E1 j = E j) : eHi g E1 hs B (va_up N q n) (va_up MM q M) := by
  obtain ⟨h0, h1, ⟨F, h2, h3⟩, h4, h5⟩ := h
  obtain ⟨b1, b2, -⟩ := h4 q hq
  refine ⟨h0, by rw [hE 19 (by omega)]; exact h1, ⟨F, by rw [hE 20 (by omega)]; exact h2, h3⟩, fun i hi => ?_, h5⟩
  obtain ⟨a1, a2, a3⟩ := h4 i hi
  refine ⟨a1, a2, ?_⟩
  by_cases e : i = q
  · subst e
    rw [va_up_self, va_up_self]
    exact hp
  · rw [va_up_ne _ _ e, va_up_ne _ _ e]
    have : B i + 9 ≤ B q ∨ B q + 9 ≤ B i := by
      rcases Nat.lt_or_gt_of_ne e with g | g
      · exact h5 i q g hq
      · exact (h5 q i g hi).symm
    exact a3.keep (fun j g1 g2 => hE j (by omega))
/-- its size is written -/
theorem eHi.size {g : xG} {E E1 : Nat → va_E} {hs hs' : Nat} {B N : Nat → Nat} {MM : Nat → Nat → Nat → Int32} (h : eHi g E hs B N MM) (h' : hs' ≤ 4) (hu : xU E 19 (.inr (1, [.ref (xad g 20), .int (nI hs')])) E1) : eHi g E1 hs' B N MM := by
  obtain ⟨h0, h1, ⟨F, h2, h3⟩, h4, h5⟩ := h
  refine ⟨h', hu.1, ⟨F, by rw [hu.2 20 (by omega)]; exact h2, h3⟩, fun i hi => ?_, h5⟩
  obtain ⟨a1, a2, a3⟩ := h4 i hi
  exact ⟨a1, a2, a3.keep (fun j g1 g2 => hu.2 j (by omega))⟩
theorem rot_of {α : Type} (B : Nat → α) {i : Nat} (hi : i < 4) : ∃ j, j < 4 ∧ (i < 3 → j = i + 1) ∧ (¬ i < 3 → j = 0) ∧ rot B i = B j := by
  by_cases h : i < 3
  · exact ⟨i + 1, by omega, fun _ => rfl, fun g => absurd h g, if_pos h⟩
  · exact ⟨0, by omega, fun g => absurd g h, fun _ => rfl, if_neg h⟩
theorem rot_ap {B : Nat → Nat} (h : ∀ i j, i < j → j < 4 → B i + 9 ≤ B j ∨ B j + 9 ≤ B i) : ∀ i j, i < j → j < 4 → rot B i + 9 ≤ rot B j ∨ rot B j + 9 ≤ rot B i := by
  intro i j hij hj
  obtain ⟨a, a1, a2, a3, a4⟩ := rot_of B (show i < 4 by omega)
  obtain ⟨b, b1, b2, b3, b4⟩ := rot_of B hj
  rw [a4, b4]
  rcases Nat.lt_trichotomy a b with c | c | c
  · exact h a b c b1
  · omega
  · exact (h b a c a1).symm
theorem rot_ph {g : xG} {E : Nat → va_E} {B N : Nat → Nat} {MM : Nat → Nat → Nat → Int32} (h : ∀ i, i < 4 → 21 ≤ B i ∧ B i ≤ 48 ∧ ePh g E (B i) (N i) (MM i)) : ∀ i, i < 4 → 21 ≤ rot B i ∧ rot B i ≤ 48 ∧ ePh g E (rot B i) (rot N i) (rot MM i) := by
  intro i hi
  unfold rot
  by_cases c : i < 3
  · rw [if_pos c, if_pos c, if_pos c]
    exact h _ (by omega)
  · rw [if_neg c, if_neg c, if_neg c]
    exact h 0 (by omega)
set_option maxHeartbeats 4000000 in
set_option maxRecDepth 100000 in
/-- History.dropOldest -/
theorem c_X1_dropOldest (l : Launch) (g : xG) (hJ : xJ (xad g)) (E : Nat → va_E) {B N : Nat → Nat} {MM : Nat → Nat → Nat → Int32} (hH : eHi g E 4 B N MM) : Met l yX1_dropOldest wsX1_dropOldest ({ frames := 0, cells := 0, slots := 0, locals := 0 }) (xPc g [.ref (xad g 19)] E) (xQv g (fun E1 => eHi g E1 3 (rot B) (rot N) (rot MM) ∧ ∀ j, j < 19 ∨ 57 ≤ j → E1 j = E j)) 0 0 (xA (xad g)) := by
  refine x_met (ws' := _) (by decide) rfl (Nat.le_of_ble_eq_true rfl) ?_
  intro p e s m below meth c ls S hr hlocks hP hK hl
  have hl : lv_has ls 3 [(0, .ref (xad g 19))] := hl
  have hS : va_S (xA (xad g)) s.heap s.heap [] := va_S.rf
  have hin1 : ∀ w ∈ u_ws RX1 TX1 2, w ∈ wsX1_dropOldest := by decide +kernel
  have fl11 : Cond.fieldLink RX1 11 "DiscArcs$History" "states" "[LDiscArcs$Photos;" ∈ wsX1_dropOldest := by decide +kernel
  have fl18 : Cond.fieldLink RX1 18 "DiscArcs$History" "size" "I" ∈ wsX1_dropOldest := by decide +kernel
  obtain ⟨-, h19, ⟨F, h20, hF0⟩, hB, hap⟩ := hH
  have h19 : E 19 = .inr (1, [.ref (xad g 20), .int 4]) := h19
  have hfr : ∀ j, j < 19 ∨ 57 ≤ j → E j = E j := fun _ _ => rfl
  obtain ⟨b01, b02, -⟩ := hB 0 (by decide)
  have hF : ∀ j, j < 4 → F j = if j + 1 < 1 then some (xad g (B (j + 1))) else some (xad g (B j)) := fun j hj => by rw [if_neg (by omega)]; exact hF0 j hj
  refine lv_aload_n S.1 S.2.1 dX1_dropOldest_0 rfl (lv_at hl 0 rfl) ?_
  refine x_get S hK hP dX1_dropOldest_1 h19 (by decide) (RX1, TX1, 2) rfl hin1 0 (by decide) fl11 rfl ?_
  refine lv_iconst (v := 0) S.1 S.2.1 dX1_dropOldest_4 (by decide) ?_
  refine x_aldp S hK hP dX1_dropOldest_5 h20 (by decide) (j := 0) rfl (by omega) (by decide) (hF0 0 (by decide)) ?_
  refine lv_astore_n (lv' := [(1, .ref (xad g (B 0))), (0, .ref (xad g 19))]) S.1 S.2.1 dX1_dropOldest_6 rfl hl (by decide) rfl (fun ls hl => ?_)
  refine lv_iconst (v := 1) S.1 S.2.1 dX1_dropOldest_7 (by decide) ?_
  refine lv_istore_n (lv' := [(2, .int 1), (1, .ref (xad g (B 0))), (0, .ref (xad g 19))]) S.1 S.2.1 dX1_dropOldest_8 rfl hl (by decide) rfl (fun ls hl => ?_)
  have loop9 : ∀ (d : Nat) (i : Nat) (F : Nat → Option Nat) (EL : Nat → va_E) (H : Heap) (locs : List Loc), (h1i : 1 ≤ i) → (hi : i ≤ 4) → (4 - i) < d → (h19 : EL 19 = .inr (1, [.ref (xad g 20), .int 4])) → (h20 : EL 20 = .inl (xQ g, 4, .inr (.inr (.inr (.inr F))))) → (hB : ∀ i, i < 4 → 21 ≤ B i ∧ B i ≤ 48 ∧ ePh g EL (B i) (N i) (MM i)) → (hfr : ∀ j, j < 19 ∨ 57 ≤ j → EL j = E j) → (hF : ∀ j, j < 4 → F j = if j + 1 < i then some (xad g (B (j + 1))) else some (xad g (B j))) → xP g EL H → va_S (xA (xad g)) s.heap H locs → ∀ ls : Array Slot, lv_has ls 3 [(2, .int (nI i)), (1, .ref (xad g (B 0))), (0, .ref (xad g 19))] → W p l e ({ frames := 0, cells := 0, slots := 0, locals := 0 }) s m ([.ref (xad g 19)] : List Value).toArray below meth c H locs 0 0 (MQ below (xQv g (fun E1 => eHi g E1 3 (rot B) (rot N) (rot MM) ∧ ∀ j, j < 19 ∨ 57 ≤ j → E1 j = E j)) ([.ref (xad g 19)] : List Value).toArray s 0 0 (xA (xad g))) (F0 m 9 ls []) := by
    intro d
    induction d with
    | zero => intro i F EL H locs h1i hi hd; exact absurd hd (Nat.not_lt_zero _)
    | succ d ih9 =>
      intro i F EL H locs h1i hi hd h19 h20 hB hfr hF hP hS ls hl
      refine lv_iload_n S.1 S.2.1 dX1_dropOldest_9 rfl (lv_at hl 0 rfl) ?_
      refine lv_iconst (v := 4) S.1 S.2.1 dX1_dropOldest_10 (by decide) ?_
      refine lv_icmp_ge (tgt := 34) S.1 S.2.1 dX1_dropOldest_11 (by decide) (fun c11 => ?_) (fun c11 => ?_)
      · skip
        have hi4 : i = 4 := Nat.le_antisymm hi ((nI_leI (a := 4) (by omega) (by omega)).mp c11)
        subst hi4
        obtain ⟨b1, b2, b3⟩ := hB 0 (by decide)
        refine lv_aload_n S.1 S.2.1 dX1_dropOldest_34 rfl (lv_at hl 2 rfl) ?_
        refine x_get S hK hP dX1_dropOldest_35 h19 (by decide) (RX1, TX1, 2) rfl hin1 0 (by decide) fl11 rfl ?_
        refine lv_iconst (v := 3) S.1 S.2.1 dX1_dropOldest_38 (by decide) ?_
        refine lv_aload_n S.1 S.2.1 dX1_dropOldest_39 rfl (lv_at hl 1 rfl) ?_
        refine x_astp S hK hJ hP hS dX1_dropOldest_40 h20 (by decide) (j := 3) rfl (by omega) (by decide) b3.2.1 (by omega) (fun H locs E1 hu hP hS => ?_)
        have h19 : E1 19 = .inr (1, [.ref (xad g 20), .int 4]) := (hu.2 _ (by omega)).trans h19
        have h20 : E1 20 = .inl (xQ g, 4, .inr (.inr (.inr (.inr (va_up F 3 (some (xad g (B 0)))))))) := hu.1
        have hB : ∀ i, i < 4 → 21 ≤ B i ∧ B i ≤ 48 ∧ ePh g E1 (B i) (N i) (MM i) := fun i9 hi9 => by obtain ⟨a1, a2, a3⟩ := hB i9 hi9; exact ⟨a1, a2, a3.keep (fun j g1 g2 => hu.2 j (by omega))⟩
        have hfr : ∀ j, j < 19 ∨ 57 ≤ j → E1 j = E j := fun j hj => (hu.2 j (by omega)).trans (hfr j hj)
        have hF : ∀ j, j < 4 → va_up F 3 (some (xad g (B 0))) j = some (xad g (rot B j)) := fun j hj => by
          by_cases e : j = 3
          · subst e; rw [va_up_self]; rfl
          · rw [va_up_ne _ _ e, hF j hj, if_pos (by omega)]; unfold rot; rw [if_pos (by omega)]
        refine lv_aload_n S.1 S.2.1 dX1_dropOldest_41 rfl (lv_at hl 2 rfl) ?_
        refine lv_iconst (v := 3) S.1 S.2.1 dX1_dropOldest_42 (by decide) ?_
        refine x_put S hK hJ hP hS dX1_dropOldest_43 h19 (by decide) (RX1, TX1, 2) rfl hin1 tyX1 tyX1_ok nmX1 1 (by decide) fl18 rfl rfl rfl (by decide) (fun H locs E1_1 hu hP hS => ?_)
        have h19 : E1_1 19 = .inr (1, [.ref (xad g 20), .int 3]) := hu.1
        have h20 : E1_1 20 = .inl (xQ g, 4, .inr (.inr (.inr (.inr (va_up F 3 (some (xad g (B 0)))))))) := (hu.2 _ (by omega)).trans h20
        have hB : ∀ i, i < 4 → 21 ≤ B i ∧ B i ≤ 48 ∧ ePh g E1_1 (B i) (N i) (MM i) := fun i9 hi9 => by obtain ⟨a1, a2, a3⟩ := hB i9 hi9; exact ⟨a1, a2, a3.keep (fun j g1 g2 => hu.2 j (by omega))⟩
        have hfr : ∀ j, j < 19 ∨ 57 ≤ j → E1_1 j = E j := fun j hj => (hu.2 j (by omega)).trans (hfr j hj)
        exact x_vret S hr hlocks hP hS dX1_dropOldest_46 (⟨⟨by decide, h19, ⟨_, h20, hF⟩, rot_ph hB, rot_ap hap⟩, hfr⟩)
      · skip
        have hi4 : i < 4 := (Nat.not_le.mp (fun h => c11 ((nI_leI (by omega) (by omega)).mpr h)))
        obtain ⟨bi1, bi2, bi3⟩ := hB i hi4
        refine lv_aload_n S.1 S.2.1 dX1_dropOldest_14 rfl (lv_at hl 2 rfl) ?_
        refine x_get S hK hP dX1_dropOldest_15 h19 (by decide) (RX1, TX1, 2) rfl hin1 0 (by decide) fl11 rfl ?_
        refine lv_iload_n S.1 S.2.1 dX1_dropOldest_18 rfl (lv_at hl 0 rfl) ?_
        refine lv_iconst (v := 1) S.1 S.2.1 dX1_dropOldest_19 (by decide) ?_
        refine lv_isub S.1 S.2.1 dX1_dropOldest_20 ?_
        refine lv_aload_n S.1 S.2.1 dX1_dropOldest_21 rfl (lv_at hl 2 rfl) ?_
        refine x_get S hK hP dX1_dropOldest_22 h19 (by decide) (RX1, TX1, 2) rfl hin1 0 (by decide) fl11 rfl ?_
        refine lv_iload_n S.1 S.2.1 dX1_dropOldest_25 rfl (lv_at hl 0 rfl) ?_
        refine x_aldp S hK hP dX1_dropOldest_26 h20 (by decide) (j := i) rfl (by omega) (by decide) (by rw [hF i hi4, if_neg (by omega)]) ?_
        refine x_astp S hK hJ hP hS dX1_dropOldest_27 h20 (by decide) (j := (i - 1)) (pk_sub (a := i) (b := 1) (by omega)) (by omega) (by decide) bi3.2.1 (by omega) (fun H locs E1_2 hu hP hS => ?_)
        have h19 : E1_2 19 = .inr (1, [.ref (xad g 20), .int 4]) := (hu.2 _ (by omega)).trans h19
        have h20 : E1_2 20 = .inl (xQ g, 4, .inr (.inr (.inr (.inr (va_up F ((i - 1)) (some (xad g (B i)))))))) := hu.1
        have hB : ∀ i, i < 4 → 21 ≤ B i ∧ B i ≤ 48 ∧ ePh g E1_2 (B i) (N i) (MM i) := fun i9 hi9 => by obtain ⟨a1, a2, a3⟩ := hB i9 hi9; exact ⟨a1, a2, a3.keep (fun j g1 g2 => hu.2 j (by omega))⟩
        have hfr : ∀ j, j < 19 ∨ 57 ≤ j → E1_2 j = E j := fun j hj => (hu.2 j (by omega)).trans (hfr j hj)
        have hF : ∀ j, j < 4 → va_up F (i - 1) (some (xad g (B i))) j = if j + 1 < i + 1 then some (xad g (B (j + 1))) else some (xad g (B j)) := fun j hj => by
          by_cases e : j = i - 1
          · subst e; rw [va_up_self, if_pos (by omega), show i - 1 + 1 = i by omega]
          · rw [va_up_ne _ _ e, hF j hj]; by_cases h : j + 1 < i
            · rw [if_pos h, if_pos (by omega)]
            · rw [if_neg h, if_neg (by omega)]
        refine lv_iinc (v := nI (i + 1)) (lv' := [(2, .int (nI (i + 1))), (1, .ref (xad g (B 0))), (0, .ref (xad g 19))]) S.1 S.2.1 dX1_dropOldest_28 hl (k := 0) rfl (show nI i + Int32.ofInt 1 = _ from nI_1 _) (by decide) rfl (fun ls hl => ?_)
        refine lv_goto (tgt := 9) S.1 S.2.1 dX1_dropOldest_31 (by decide) ?_
        exact ih9 (i + 1) _ _ _ _ (by omega) (by omega) (by omega) h19 h20 hB hfr hF hP hS ls (lv_sub hl [0, 1, 2] rfl)
  exact loop9 _ 1 F _ _ _ (Nat.le_refl _) (by decide) (Nat.lt_succ_self _) h19 h20 hB hfr hF hP hS ls (lv_sub hl [0, 1, 2] rfl)
/-- a state more: how many there are then; the i-th of them -/
def rcS (hs : Nat) : Nat := if hs < 4 then hs + 1 else 4
def rcV {α : Type} (hs : Nat) (N : Nat → α) (x : α) : Nat → α := fun i => if hs < 4 then (if i < hs then N i else x) else (if i < 3 then N (i + 1) else x)
theorem rec_big {N : Nat → Nat} {MM : Nat → Nat → Nat → Int32} {n i : Nat} {M : Nat → Nat → Int32} (hi : i < rcS 4) : va_up (rot N) 3 n i = (if i < 3 then N (i + 1) else n) ∧ va_up (rot MM) 3 M i = (if i < 3 then MM (i + 1) else M) := by
  have hi : i < 4 := hi
  by_cases h : i < 3
  · rw [if_pos h, if_pos h, va_up_ne _ _ (by omega), va_up_ne _ _ (by omega)]
    exact ⟨if_pos h, if_pos h⟩
  · rw [if_neg h, if_neg h, show i = 3 by omega, va_up_self, va_up_self]
    exact ⟨rfl, rfl⟩
theorem rec_small {N : Nat → Nat} {MM : Nat → Nat → Nat → Int32} {n i hs : Nat} {M : Nat → Nat → Int32} (hi : i < hs + 1) : va_up N hs n i = (if i < hs then N i else n) ∧ va_up MM hs M i = (if i < hs then MM i else M) := by
  by_cases h : i < hs
  · rw [if_pos h, if_pos h, va_up_ne _ _ (by omega), va_up_ne _ _ (by omega)]
    exact ⟨rfl, rfl⟩
  · rw [if_neg h, if_neg h, show i = hs by omega, va_up_self, va_up_self]
    exact ⟨rfl, rfl⟩
set_option maxHeartbeats 4000000 in
set_option maxRecDepth 100000 in
/-- History.record -/
theorem c_X1_record (l : Launch) (g : xG) (hJ : xJ (xad g)) (E : Nat → va_E) {hs : Nat} {B N : Nat → Nat} {MM : Nat → Nat → Nat → Int32} (hH : eHi g E hs B N MM) {n : Nat} {M : Nat → Nat → Int32} (hp : ePh g E 1 n M) : Met l yX1_record wsX1_record ({ frames := 2, cells := 0, slots := 0, locals := 82 }) (xPc g [.ref (xad g 19), .ref (xad g 1)] E) (xQv g (fun E1 => (∃ B2 N2 MM2, eHi g E1 (rcS hs) B2 N2 MM2 ∧ ∀ i, i < rcS hs → N2 i = rcV hs N n i ∧ MM2 i = rcV hs MM M i) ∧ ∀ j, j < 19 ∨ 57 ≤ j → E1 j = E j)) 0 0 (xA (xad g)) := by
  refine x_met (ws' := _) (by decide) rfl (Nat.le_of_ble_eq_true rfl) ?_
  intro p e s m below meth c ls S hr hlocks hP hK hl
  have hl : lv_has ls 2 [(0, .ref (xad g 19)), (1, .ref (xad g 1))] := hl
  have hS : va_S (xA (xad g)) s.heap s.heap [] := va_S.rf
  have hin1 : ∀ w ∈ u_ws RX1 TX1 2, w ∈ wsX1_record := by decide +kernel
  have fl11 : Cond.fieldLink RX1 11 "DiscArcs$History" "states" "[LDiscArcs$Photos;" ∈ wsX1_record := by decide +kernel
  have fl18 : Cond.fieldLink RX1 18 "DiscArcs$History" "size" "I" ∈ wsX1_record := by decide +kernel
  have h19 := hH.2.1
  have h0 := hp.1
  have hfr : ∀ j, j < 19 ∨ 57 ≤ j → E j = E j := fun _ _ => rfl
  refine lv_aload_n S.1 S.2.1 dX1_record_0 rfl (lv_at hl 0 rfl) ?_
  refine x_get S hK hP dX1_record_1 h19 (by decide) (RX1, TX1, 2) rfl hin1 1 (by decide) fl18 rfl ?_
  refine lv_iconst (v := 4) S.1 S.2.1 dX1_record_4 (by decide) ?_
  refine lv_icmp_lt (tgt := 12) S.1 S.2.1 dX1_record_5 (by decide) (fun c5 => ?_) (fun c5 => ?_)
  · skip
    have hs4 : hs < 4 := (nI_ltI (b := 4) (by have := hH.1; omega) (by decide)).mp c5
    obtain ⟨-, h19, ⟨F, h20, hF0⟩, hB, -⟩ := id hH
    obtain ⟨b1, b2, hb3⟩ := hB hs hs4
    refine lv_aload_n S.1 S.2.1 dX1_record_12 rfl (lv_at hl 0 rfl) ?_
    refine x_get S hK hP dX1_record_13 h19 (by decide) (RX1, TX1, 2) rfl hin1 0 (by decide) fl11 rfl ?_
    refine lv_aload_n S.1 S.2.1 dX1_record_16 rfl (lv_at hl 0 rfl) ?_
    refine x_get S hK hP dX1_record_17 h19 (by decide) (RX1, TX1, 2) rfl hin1 1 (by decide) fl18 rfl ?_
    refine x_aldp S hK hP dX1_record_20 h20 (by decide) (j := hs) rfl (by omega) (by decide) (hF0 hs hs4) ?_
    refine lv_aload_n S.1 S.2.1 dX1_record_21 rfl (lv_at hl 1 rfl) ?_
    refine x_qv (va_runV (As := [.ref (xad g 1)]) (rest := []) S (c_X2_copyFrom l g hJ E hb3.ps hp (by omega)) (cwV 1 S.2.2.2.2 gX1_record_X2_copyFrom rfl rfl rfl (by decide +kernel) ⟨Nat.le_of_ble_eq_true rfl, Nat.le_of_ble_eq_true rfl⟩) (x_preV hK hP hb3.2.1 (by have := hb3.1; omega) rfl) rfl rfl hl.1 rfl (lv_room (Nat.le_of_ble_eq_true rfl)) dX1_record_22 ⟨Nat.le_of_ble_eq_true rfl, Nat.le_of_ble_eq_true rfl⟩) hS (fun E1 H locs hq22 hP hS => ?_)
    have hH := hH.put (q := hs) hs4 hq22.1 hq22.2
    have hfr : ∀ j, j < 19 ∨ 57 ≤ j → E1 j = E j := fun j hj => (hq22.2 j (by omega)).trans (hfr j hj)
    have h19 := hH.2.1
    refine lv_aload_n S.1 S.2.1 dX1_record_25 rfl (lv_at hl 0 rfl) ?_
    refine lv_dup S.1 S.2.1 dX1_record_26 rfl ?_
    refine x_get S hK hP dX1_record_27 h19 (by decide) (RX1, TX1, 2) rfl hin1 1 (by decide) fl18 rfl ?_
    refine lv_iconst (v := 1) S.1 S.2.1 dX1_record_30 (by decide) ?_
    refine lv_iadd S.1 S.2.1 dX1_record_31 ?_
    refine x_put S hK hJ hP hS dX1_record_32 h19 (by decide) (RX1, TX1, 2) rfl hin1 tyX1 tyX1_ok nmX1 1 (by decide) fl18 rfl rfl rfl (by decide) (fun H locs E1_1 hu hP hS => ?_)
    have h19 : E1_1 19 = .inr (1, [.ref (xad g 20), .int (((nI hs)) + 1)]) := hu.1
    have hfr : ∀ j, j < 19 ∨ 57 ≤ j → E1_1 j = E j := fun j hj => (hu.2 j (by omega)).trans (hfr j hj)
    exact x_vret S hr hlocks hP hS dX1_record_35 (⟨⟨_, _, _, by unfold rcS; rw [if_pos hs4]; exact hH.size (by omega) (by rw [← nI_1]; exact hu), fun i hi => by unfold rcV; rw [if_pos hs4, if_pos hs4]; unfold rcS at hi; rw [if_pos hs4] at hi; exact rec_small hi⟩, hfr⟩)
  · skip
    have hs5 : hs = 4 := by have := hH.1; have := Nat.not_lt.mp (fun h => c5 ((nI_ltI (b := 4) (by omega) (by omega)).mpr h)); omega
    subst hs5
    refine lv_aload_n S.1 S.2.1 dX1_record_8 rfl (lv_at hl 0 rfl) ?_
    refine x_qv (va_runV (As := []) (rest := []) S (c_X1_dropOldest l g hJ E hH) (cwV 0 S.2.2.2.2 gX1_record_X1_dropOldest rfl rfl rfl (by decide +kernel) ⟨Nat.le_of_ble_eq_true rfl, Nat.le_of_ble_eq_true rfl⟩) (x_preV hK hP h19 (by decide) rfl) rfl rfl hl.1 rfl (lv_room (Nat.le_of_ble_eq_true rfl)) dX1_record_9 ⟨Nat.le_of_ble_eq_true rfl, Nat.le_of_ble_eq_true rfl⟩) hS (fun E1_2 H locs hq9 hP hS => ?_)
    have hH := hq9.1
    have hfr := hq9.2
    have hp : ePh g E1_2 1 n M := hp.keep (fun j h1 h2 => hq9.2 j (by omega))
    have h19 := hH.2.1
    obtain ⟨-, h19, ⟨F, h20, hF0⟩, hB, -⟩ := id hH
    obtain ⟨b1, b2, hb3⟩ := hB 3 (by decide)
    refine lv_aload_n S.1 S.2.1 dX1_record_12 rfl (lv_at hl 0 rfl) ?_
    refine x_get S hK hP dX1_record_13 h19 (by decide) (RX1, TX1, 2) rfl hin1 0 (by decide) fl11 rfl ?_
    refine lv_aload_n S.1 S.2.1 dX1_record_16 rfl (lv_at hl 0 rfl) ?_
    refine x_get S hK hP dX1_record_17 h19 (by decide) (RX1, TX1, 2) rfl hin1 1 (by decide) fl18 rfl ?_
    refine x_aldp S hK hP dX1_record_20 h20 (by decide) (j := 3) rfl (by omega) (by decide) (hF0 3 (by decide)) ?_
    refine lv_aload_n S.1 S.2.1 dX1_record_21 rfl (lv_at hl 1 rfl) ?_
    refine x_qv (va_runV (As := [.ref (xad g 1)]) (rest := []) S (c_X2_copyFrom l g hJ E1_2 hb3.ps hp (by omega)) (cwV 1 S.2.2.2.2 gX1_record_X2_copyFrom rfl rfl rfl (by decide +kernel) ⟨Nat.le_of_ble_eq_true rfl, Nat.le_of_ble_eq_true rfl⟩) (x_preV hK hP hb3.2.1 (by have := hb3.1; omega) rfl) rfl rfl hl.1 rfl (lv_room (Nat.le_of_ble_eq_true rfl)) dX1_record_22 ⟨Nat.le_of_ble_eq_true rfl, Nat.le_of_ble_eq_true rfl⟩) hS (fun E1_3 H locs hq22 hP hS => ?_)
    have hH := hH.put (q := 3) (by decide) hq22.1 hq22.2
    have hfr : ∀ j, j < 19 ∨ 57 ≤ j → E1_3 j = E j := fun j hj => (hq22.2 j (by omega)).trans (hfr j hj)
    have h19 := hH.2.1
    refine lv_aload_n S.1 S.2.1 dX1_record_25 rfl (lv_at hl 0 rfl) ?_
    refine lv_dup S.1 S.2.1 dX1_record_26 rfl ?_
    refine x_get S hK hP dX1_record_27 h19 (by decide) (RX1, TX1, 2) rfl hin1 1 (by decide) fl18 rfl ?_
    refine lv_iconst (v := 1) S.1 S.2.1 dX1_record_30 (by decide) ?_
    refine lv_iadd S.1 S.2.1 dX1_record_31 ?_
    refine x_put S hK hJ hP hS dX1_record_32 h19 (by decide) (RX1, TX1, 2) rfl hin1 tyX1 tyX1_ok nmX1 1 (by decide) fl18 rfl rfl rfl (by decide) (fun H locs E1_4 hu hP hS => ?_)
    have h19 : E1_4 19 = .inr (1, [.ref (xad g 20), .int (((nI 3)) + 1)]) := hu.1
    have hfr : ∀ j, j < 19 ∨ 57 ≤ j → E1_4 j = E j := fun j hj => (hu.2 j (by omega)).trans (hfr j hj)
    exact x_vret S hr hlocks hP hS dX1_record_35 (⟨⟨_, _, _, hH.size (hs' := 4) (by decide) hu, fun i hi => by unfold rcV; rw [if_neg (by decide), if_neg (by decide)]; exact rec_big hi⟩, hfr⟩)
set_option maxHeartbeats 4000000 in
set_option maxRecDepth 100000 in
/-- History.takeBack -/
theorem c_X1_takeBack (l : Launch) (g : xG) (hJ : xJ (xad g)) (E : Nat → va_E) {hs : Nat} {B N : Nat → Nat} {MM : Nat → Nat → Nat → Int32} (hH : eHi g E hs B N MM) {z : Int32} (hp : ePs g E 1 z) : Met l yX1_takeBack wsX1_takeBack ({ frames := 2, cells := 0, slots := 0, locals := 82 }) (xPc g [.ref (xad g 19), .ref (xad g 1)] E) (xQi g (fun r E1 => (∀ j, (j < 1 ∨ 10 ≤ j) → (j < 19 ∨ 57 ≤ j) → E1 j = E j) ∧ ((r = 0 ∧ hs = 0 ∧ E1 = E) ∨ (r = 1 ∧ 0 < hs ∧ ePh g E1 1 (N (hs - 1)) (MM (hs - 1)) ∧ eHi g E1 (hs - 1) B N MM)))) 0 0 (xA (xad g)) := by
  refine x_met (ws' := _) (by decide) rfl (Nat.le_of_ble_eq_true rfl) ?_
  intro p e s m below meth c ls S hr hlocks hP hK hl
  have hl : lv_has ls 2 [(0, .ref (xad g 19)), (1, .ref (xad g 1))] := hl
  have hS : va_S (xA (xad g)) s.heap s.heap [] := va_S.rf
  have hin1 : ∀ w ∈ u_ws RX1 TX1 2, w ∈ wsX1_takeBack := by decide +kernel
  have fl11 : Cond.fieldLink RX1 11 "DiscArcs$History" "states" "[LDiscArcs$Photos;" ∈ wsX1_takeBack := by decide +kernel
  have fl18 : Cond.fieldLink RX1 18 "DiscArcs$History" "size" "I" ∈ wsX1_takeBack := by decide +kernel
  obtain ⟨hs4, h19, ⟨F, h20, hF0⟩, hB, -⟩ := id hH
  refine lv_aload_n S.1 S.2.1 dX1_takeBack_0 rfl (lv_at hl 0 rfl) ?_
  refine x_get S hK hP dX1_takeBack_1 h19 (by decide) (RX1, TX1, 2) rfl hin1 1 (by decide) fl18 rfl ?_
  refine lv_if_gt (tgt := 9) S.1 S.2.1 dX1_takeBack_4 (by decide) (fun c4 => ?_) (fun c4 => ?_)
  · skip
    have hs0 : 0 < hs := by rcases Nat.eq_zero_or_pos hs with h | h
      · subst h; exact absurd c4 (by decide)
      · exact h
    refine lv_aload_n S.1 S.2.1 dX1_takeBack_9 rfl (lv_at hl 0 rfl) ?_
    refine lv_dup S.1 S.2.1 dX1_takeBack_10 rfl ?_
    refine x_get S hK hP dX1_takeBack_11 h19 (by decide) (RX1, TX1, 2) rfl hin1 1 (by decide) fl18 rfl ?_
    refine lv_iconst (v := 1) S.1 S.2.1 dX1_takeBack_14 (by decide) ?_
    refine lv_isub S.1 S.2.1 dX1_takeBack_15 ?_
    refine x_put S hK hJ hP hS dX1_takeBack_16 h19 (by decide) (RX1, TX1, 2) rfl hin1 tyX1 tyX1_ok nmX1 1 (by decide) fl18 rfl rfl rfl (by decide) (fun H locs E1 hu hP hS => ?_)
    have h19 : E1 19 = .inr (1, [.ref (xad g 20), .int (((nI hs)) - 1)]) := hu.1
    have h20 : E1 20 = .inl (xQ g, 4, .inr (.inr (.inr (.inr F)))) := (hu.2 _ (by omega)).trans h20
    have hp : ePs g E1 1 z := hp.keep (fun j h1 h2 => hu.2 j (by omega))
    have hB : ∀ i, i < 4 → 21 ≤ B i ∧ B i ≤ 48 ∧ ePh g E1 (B i) (N i) (MM i) := fun i9 hi9 => by obtain ⟨a1, a2, a3⟩ := hB i9 hi9; exact ⟨a1, a2, a3.keep (fun j g1 g2 => hu.2 j (by omega))⟩
    refine lv_aload_n S.1 S.2.1 dX1_takeBack_19 rfl (lv_at hl 1 rfl) ?_
    refine lv_aload_n S.1 S.2.1 dX1_takeBack_20 rfl (lv_at hl 0 rfl) ?_
    refine x_get S hK hP dX1_takeBack_21 h19 (by decide) (RX1, TX1, 2) rfl hin1 0 (by decide) fl11 rfl ?_
    refine lv_aload_n S.1 S.2.1 dX1_takeBack_24 rfl (lv_at hl 0 rfl) ?_
    refine x_get S hK hP dX1_takeBack_25 h19 (by decide) (RX1, TX1, 2) rfl hin1 1 (by decide) fl18 rfl ?_
    obtain ⟨b1, b2, hb3⟩ := hB (hs - 1) (by omega)
    refine x_aldp S hK hP dX1_takeBack_28 h20 (by decide) (j := (hs - 1)) (pk_sub (a := hs) (b := 1) (by omega)) (by omega) (by decide) (hF0 (hs - 1) (by omega)) ?_
    refine x_qv (va_runV (As := [.ref (xad g (B (hs - 1)))]) (rest := []) S (c_X2_copyFrom l g hJ E1 hp hb3 (by omega)) (cwV 1 S.2.2.2.2 gX1_takeBack_X2_copyFrom rfl rfl rfl (by decide +kernel) ⟨Nat.le_of_ble_eq_true rfl, Nat.le_of_ble_eq_true rfl⟩) (x_preV hK hP hp.2.1 (by decide) rfl) rfl rfl hl.1 rfl (lv_room (Nat.le_of_ble_eq_true rfl)) dX1_takeBack_29 ⟨Nat.le_of_ble_eq_true rfl, Nat.le_of_ble_eq_true rfl⟩) hS (fun E1_1 H locs hq29 hP hS => ?_)
    have hH2 := (hH.size (hs' := hs - 1) (by have := hH.1; omega) (by rw [← pk_sub (show 1 ≤ hs by omega)]; exact hu)).keep (E1 := E1_1) (fun j h1 h2 => hq29.2 j (by omega))
    have hfr2 : ∀ j, (j < 1 ∨ 10 ≤ j) → (j < 19 ∨ 57 ≤ j) → E1_1 j = E j := fun j h1 h2 => (hq29.2 j (by omega)).trans (hu.2 j (by omega))
    refine lv_iconst (v := 1) S.1 S.2.1 dX1_takeBack_32 (by decide) ?_
    exact x_zret S hr hlocks hP hS dX1_takeBack_33 rfl (⟨hfr2, Or.inr ⟨rfl, hs0, hq29.1, hH2⟩⟩)
  · skip
    refine lv_iconst (v := 0) S.1 S.2.1 dX1_takeBack_7 (by decide) ?_
    exact x_zret S hr hlocks hP hS dX1_takeBack_8 rfl (⟨fun _ _ _ => rfl, Or.inl ⟨rfl, by rcases Nat.eq_zero_or_pos hs with h | h; exact h; exact absurd ((nI_ltI (a := 0) (by decide) (by omega)).mpr h) c4, rfl⟩⟩)
