/-! HISTORY -/
/-- the oldest state is dropped: what the i-th is then -/
def rot {α : Type} (B : Nat → α) : Nat → α := fun i => if i < 3 then B (i + 1) else B 0
theorem eHi.keep {g : xG} {E E1 : Nat → va_E} {hs : Nat} {B N : Nat → Nat} {MM : Nat → Nat → Nat → Int32} (h : eHi g E hs B N MM) (hE : ∀ j, 19 ≤ j → j < 57 → E1 j = E j) : eHi g E1 hs B N MM := by
  obtain ⟨h0, h1, ⟨F, h2, h3⟩, h4, h5⟩ := h
  refine ⟨h0, by rw [hE 19 (by omega) (by omega)]; exact h1, ⟨F, by rw [hE 20 (by omega) (by omega)]; exact h2, h3⟩, fun i hi => ?_, h5⟩
  obtain ⟨a1, a2, a3⟩ := h4 i hi
  exact ⟨a1, a2, a3.keep (fun j g1 g2 => hE j (by omega) (by omega))⟩
/-- one of the states is written -/
theorem eHi.put {g : xG} {E E1 : Nat → va_E} {hs q n : Nat} {B N : Nat → Nat} {MM : Nat → Nat → Nat → Int32} {M : Nat → Nat → Int32} (h : eHi g E hs B N MM) (hq : q < 4) (hp : ePh g E1 (B q) n M) (hE : ∀ j, j < B q ∨ B q + 9 ≤ j → E1 j = E j) : eHi g E1 hs B (va_up N q n) (va_up MM q M) := by
  obtain ⟨h0, h1, ⟨F, h2, h3⟩, h4, h5⟩ := h
  obtain ⟨b1, b2, -⟩ := h4 q hq
  refine ⟨h0, by rw [hE 19 (by omega)]; exact h1, ⟨F, by rw [hE 20 (by omega)]; exact h2, h3⟩, fun i hi => ?_, h5⟩
  obtain ⟨a1, a2, a3⟩ := h4 i hi
  refine ⟨a1, a2, ?_⟩
  by_cases e : i = q
  · subst e
    rw [va_up_self, va_up_self]
    exact hp
  · rw [va_up_ne _ _ e, va_up_ne _ _ e]
    have : B i + 9 ≤ B q ∨ B q + 9 ≤ B i := by
      rcases Nat.lt_or_gt_of_ne e with g | g
      · exact h5 i q g hq
      · exact (h5 q i g hi).symm
    exact a3.keep (fun j g1 g2 => hE j (by omega))
/-- its size is written -/
theorem eHi.size {g : xG} {E E1 : Nat → va_E} {hs hs' : Nat} {B N : Nat → Nat} {MM : Nat → Nat → Nat → Int32} (h : eHi g E hs B N MM) (h' : hs' ≤ 4) (hu : xU E 19 (.inr (1, [.ref (xad g 20), .int (nI hs')])) E1) : eHi g E1 hs' B N MM := by
  obtain ⟨h0, h1, ⟨F, h2, h3⟩, h4, h5⟩ := h
  refine ⟨h', hu.1, ⟨F, by rw [hu.2 20 (by omega)]; exact h2, h3⟩, fun i hi => ?_, h5⟩
  obtain ⟨a1, a2, a3⟩ := h4 i hi
  exact ⟨a1, a2, a3.keep (fun j g1 g2 => hu.2 j (by omega))⟩
theorem rot_of {α : Type} (B : Nat → α) {i : Nat} (hi : i < 4) : ∃ j, j < 4 ∧ (i < 3 → j = i + 1) ∧ (¬ i < 3 → j = 0) ∧ rot B i = B j := by
  by_cases h : i < 3
  · exact ⟨i + 1, by omega, fun _ => rfl, fun g => absurd h g, if_pos h⟩
  · exact ⟨0, by omega, fun g => absurd g h, fun _ => rfl, if_neg h⟩
theorem rot_ap {B : Nat → Nat} (h : ∀ i j, i < j → j < 4 → B i + 9 ≤ B j ∨ B j + 9 ≤ B i) : ∀ i j, i < j → j < 4 → rot B i + 9 ≤ rot B j ∨ rot B j + 9 ≤ rot B i := by
  intro i j hij hj
  obtain ⟨a, a1, a2, a3, a4⟩ := rot_of B (show i < 4 by omega)
  obtain ⟨b, b1, b2, b3, b4⟩ := rot_of B hj
  rw [a4, b4]
  rcases Nat.lt_trichotomy a b with c | c | c
  · exact h a b c b1
  · omega
  · exact (h b a c a1).symm
theorem rot_ph {g : xG} {E : Nat → va_E} {B N : Nat → Nat} {MM : Nat → Nat → Nat → Int32} (h : ∀ i, i < 4 → 21 ≤ B i ∧ B i ≤ 48 ∧ ePh g E (B i) (N i) (MM i)) : ∀ i, i < 4 → 21 ≤ rot B i ∧ rot B i ≤ 48 ∧ ePh g E (rot B i) (rot N i) (rot MM i) := by
  intro i hi
  unfold rot
  by_cases c : i < 3
  · rw [if_pos c, if_pos c, if_pos c]
    exact h _ (by omega)
  · rw [if_neg c, if_neg c, if_neg c]
    exact h 0 (by omega)
set_option maxHeartbeats 4000000 in
set_option maxRecDepth 100000 in
/-- History.dropOldest -/
theorem c_X1_dropOldest (l : Launch) (g : xG) (hJ : xJ (xad g)) (E : Nat → va_E) {B N : Nat → Nat} {MM : Nat → Nat → Nat → Int32} (hH : eHi g E 4 B N MM) : Met l yX1_dropOldest wsX1_dropOldest ({ frames := 0, cells := 0, slots := 0, locals := 0 }) (xPc g [.ref (xad g 19)] E) (xQv g (fun E1 => eHi g E1 3 (rot B) (rot N) (rot MM) ∧ ∀ j, j < 19 ∨ 57 ≤ j → E1 j = E j)) 0 0 (xA (xad g)) := by
  refine x_met (ws' := _) (by decide) rfl (Nat.le_of_ble_eq_true rfl) ?_
  intro pz ez s m below meth cz ls S hr hlocks hP hK hl
  have hl : lv_has ls 3 [(0, .ref (xad g 19))] := hl
  have hS : va_S (xA (xad g)) s.heap s.heap [] := va_S.rf
  have hin1 : ∀ w ∈ u_ws RX1 TX1 2, w ∈ wsX1_dropOldest := by decide +kernel
  have fl11 : Cond.fieldLink RX1 11 "DiscArcs$History" "states" "[LDiscArcs$Photos;" ∈ wsX1_dropOldest := by decide +kernel
  have fl18 : Cond.fieldLink RX1 18 "DiscArcs$History" "size" "I" ∈ wsX1_dropOldest := by decide +kernel
  obtain ⟨-, h19, ⟨F, h20, hF0⟩, hB, hap⟩ := hH
  have h19 : E 19 = .inr (1, [.ref (xad g 20), .int 4]) := h19
  have hfr : ∀ j, j < 19 ∨ 57 ≤ j → E j = E j := fun _ _ => rfl
  obtain ⟨b01, b02, -⟩ := hB 0 (by decide)
  have hF : ∀ j, j < 4 → F j = if j + 1 < 1 then some (xad g (B (j + 1))) else some (xad g (B j)) := fun j hj => by rw [if_neg (by omega)]; exact hF0 j hj
  refine lv_aload_n S.1 S.2.1 dX1_dropOldest_0 rfl (lv_at hl 0 rfl) ?_
  refine x_get S hK hP dX1_dropOldest_1 h19 (by decide) (RX1, TX1, 2) rfl hin1 0 (by decide) fl11 rfl ?_
  refine lv_iconst (v := 0) S.1 S.2.1 dX1_dropOldest_4 (by decide) ?_
  refine x_aldp S hK hP dX1_dropOldest_5 h20 (by decide) (j := 0) rfl (by omega) (by decide) (hF0 0 (by decide)) ?_
  refine lv_astore_n (lv' := [(1, .ref (xad g (B 0))), (0, .ref (xad g 19))]) S.1 S.2.1 dX1_dropOldest_6 rfl hl (by decide) rfl (fun ls hl => ?_)
  refine lv_iconst (v := 1) S.1 S.2.1 dX1_dropOldest_7 (by decide) ?_
  refine lv_istore_n (lv' := [(2, .int 1), (1, .ref (xad g (B 0))), (0, .ref (xad g 19))]) S.1 S.2.1 dX1_dropOldest_8 rfl hl (by decide) rfl (fun ls hl => ?_)
  have loop9 : ∀ (d : Nat) (i : Nat) (F : Nat → Option Nat) (EL : Nat → va_E) (H : Heap) (locs : List Loc), (h1i : 1 ≤ i) → (hi : i ≤ 4) → (4 - i) < d → (h19 : EL 19 = .inr (1, [.ref (xad g 20), .int 4])) → (h20 : EL 20 = .inl (xQ g, 4, .inr (.inr (.inr (.inr F))))) → (hB : ∀ i, i < 4 → 21 ≤ B i ∧ B i ≤ 48 ∧ ePh g EL (B i) (N i) (MM i)) → (hfr : ∀ j, j < 19 ∨ 57 ≤ j → EL j = E j) → (hF : ∀ j, j < 4 → F j = if j + 1 < i then some (xad g (B (j + 1))) else some (xad g (B j))) → xP g EL H → va_S (xA (xad g)) s.heap H locs → ∀ ls : Array Slot, lv_has ls 3 [(2, .int (nI i)), (1, .ref (xad g (B 0))), (0, .ref (xad g 19))] → W pz l ez ({ frames := 0, cells := 0, slots := 0, locals := 0 }) s m ([.ref (xad g 19)] : List Value).toArray below meth cz H locs 0 0 (MQ below (xQv g (fun E1 => eHi g E1 3 (rot B) (rot N) (rot MM) ∧ ∀ j, j < 19 ∨ 57 ≤ j → E1 j = E j)) ([.ref (xad g 19)] : List Value).toArray s 0 0 (xA (xad g))) (F0 m 9 ls []) := by
    intro d
    induction d with
    | zero => intro i F EL H locs h1i hi hd; exact absurd hd (Nat.not_lt_zero _)
    | succ d ih9 =>
      intro i F EL H locs h1i hi hd h19 h20 hB hfr hF hP hS ls hl
      refine lv_iload_n S.1 S.2.1 dX1_dropOldest_9 rfl (lv_at hl 0 rfl) ?_
      refine lv_iconst (v := 4) S.1 S.2.1 dX1_dropOldest_10 (by decide) ?_
      refine lv_icmp_ge (tgt := 34) S.1 S.2.1 dX1_dropOldest_11 (by decide) (fun c11 => ?_) (fun c11 => ?_)
      · skip
        have hi4 : i = 4 := Nat.le_antisymm hi ((nI_leI (a := 4) (by omega) (by omega)).mp c11)
        subst hi4
        obtain ⟨b1, b2, b3⟩ := hB 0 (by decide)
        refine lv_aload_n S.1 S.2.1 dX1_dropOldest_34 rfl (lv_at hl 2 rfl) ?_
        refine x_get S hK hP dX1_dropOldest_35 h19 (by decide) (RX1, TX1, 2) rfl hin1 0 (by decide) fl11 rfl ?_
        refine lv_iconst (v := 3) S.1 S.2.1 dX1_dropOldest_38 (by decide) ?_
        refine lv_aload_n S.1 S.2.1 dX1_dropOldest_39 rfl (lv_at hl 1 rfl) ?_
        refine x_astp S hK hJ hP hS dX1_dropOldest_40 h20 (by decide) (j := 3) rfl (by omega) (by decide) b3.2.1 (by omega) (fun H locs E1 hu hP hS => ?_)
        have h19 : E1 19 = .inr (1, [.ref (xad g 20), .int 4]) := (hu.2 _ (by omega)).trans h19
        have h20 : E1 20 = .inl (xQ g, 4, .inr (.inr (.inr (.inr (va_up F 3 (some (xad g (B 0)))))))) := hu.1
        have hB : ∀ i, i < 4 → 21 ≤ B i ∧ B i ≤ 48 ∧ ePh g E1 (B i) (N i) (MM i) := fun i9 hi9 => by obtain ⟨a1, a2, a3⟩ := hB i9 hi9; exact ⟨a1, a2, a3.keep (fun j g1 g2 => hu.2 j (by omega))⟩
        have hfr : ∀ j, j < 19 ∨ 57 ≤ j → E1 j = E j := fun j hj => (hu.2 j (by omega)).trans (hfr j hj)
        have hF : ∀ j, j < 4 → va_up F 3 (some (xad g (B 0))) j = some (xad g (rot B j)) := fun j hj => by
          by_cases e : j = 3
          · subst e; rw [va_up_self]; rfl
          · rw [va_up_ne _ _ e, hF j hj, if_pos (by omega)]; unfold rot; rw [if_pos (by omega)]
        refine lv_aload_n S.1 S.2.1 dX1_dropOldest_41 rfl (lv_at hl 2 rfl) ?_
        refine lv_iconst (v := 3) S.1 S.2.1 dX1_dropOldest_42 (by decide) ?_
        refine x_put S hK hJ hP hS dX1_dropOldest_43 h19 (by decide) (RX1, TX1, 2) rfl hin1 tyX1 tyX1_ok nmX1 1 (by decide) fl18 rfl rfl rfl (Nat.le_of_ble_eq_true rfl) (fun H locs E1_1 hu hP hS => ?_)
        have h19 : E1_1 19 = .inr (1, [.ref (xad g 20), .int 3]) := hu.1
        have h20 : E1_1 20 = .inl (xQ g, 4, .inr (.inr (.inr (.inr (va_up F 3 (some (xad g (B 0)))))))) := (hu.2 _ (by omega)).trans h20
        have hB : ∀ i, i < 4 → 21 ≤ B i ∧ B i ≤ 48 ∧ ePh g E1_1 (B i) (N i) (MM i) := fun i9 hi9 => by obtain ⟨a1, a2, a3⟩ := hB i9 hi9; exact ⟨a1, a2, a3.keep (fun j g1 g2 => hu.2 j (by omega))⟩
        have hfr : ∀ j, j < 19 ∨ 57 ≤ j → E1_1 j = E j := fun j hj => (hu.2 j (by omega)).trans (hfr j hj)
        exact x_vret S hr hlocks hP hS dX1_dropOldest_46 (⟨⟨by decide, h19, ⟨_, h20, hF⟩, rot_ph hB, rot_ap hap⟩, hfr⟩)
      · skip
        have hi4 : i < 4 := (Nat.not_le.mp (fun h => c11 ((nI_leI (a := 4) (by omega) (by omega)).mpr h)))
        obtain ⟨bi1, bi2, bi3⟩ := hB i hi4
        refine lv_aload_n S.1 S.2.1 dX1_dropOldest_14 rfl (lv_at hl 2 rfl) ?_
        refine x_get S hK hP dX1_dropOldest_15 h19 (by decide) (RX1, TX1, 2) rfl hin1 0 (by decide) fl11 rfl ?_
        refine lv_iload_n S.1 S.2.1 dX1_dropOldest_18 rfl (lv_at hl 0 rfl) ?_
        refine lv_iconst (v := 1) S.1 S.2.1 dX1_dropOldest_19 (by decide) ?_
        refine lv_isub S.1 S.2.1 dX1_dropOldest_20 ?_
        refine lv_aload_n S.1 S.2.1 dX1_dropOldest_21 rfl (lv_at hl 2 rfl) ?_
        refine x_get S hK hP dX1_dropOldest_22 h19 (by decide) (RX1, TX1, 2) rfl hin1 0 (by decide) fl11 rfl ?_
        refine lv_iload_n S.1 S.2.1 dX1_dropOldest_25 rfl (lv_at hl 0 rfl) ?_
        refine x_aldp S hK hP dX1_dropOldest_26 h20 (by decide) (j := i) rfl (by omega) (by decide) (by rw [hF i hi4, if_neg (by omega)]) ?_
        refine x_astp S hK hJ hP hS dX1_dropOldest_27 h20 (by decide) (j := (i - 1)) (pk_sub (a := i) (b := 1) (by omega)) (by omega) (by decide) bi3.2.1 (by omega) (fun H locs E1_2 hu hP hS => ?_)
        have h19 : E1_2 19 = .inr (1, [.ref (xad g 20), .int 4]) := (hu.2 _ (by omega)).trans h19
        have h20 : E1_2 20 = .inl (xQ g, 4, .inr (.inr (.inr (.inr (va_up F (i - 1) (some (xad g (B i)))))))) := hu.1
        have hB : ∀ i, i < 4 → 21 ≤ B i ∧ B i ≤ 48 ∧ ePh g E1_2 (B i) (N i) (MM i) := fun i9 hi9 => by obtain ⟨a1, a2, a3⟩ := hB i9 hi9; exact ⟨a1, a2, a3.keep (fun j g1 g2 => hu.2 j (by omega))⟩
        have hfr : ∀ j, j < 19 ∨ 57 ≤ j → E1_2 j = E j := fun j hj => (hu.2 j (by omega)).trans (hfr j hj)
        have hF : ∀ j, j < 4 → va_up F (i - 1) (some (xad g (B i))) j = if j + 1 < i + 1 then some (xad g (B (j + 1))) else some (xad g (B j)) := fun j hj => by
          by_cases e : j = i - 1
          · subst e; rw [va_up_self, if_pos (by omega), show i - 1 + 1 = i by omega]
          · rw [va_up_ne _ _ e, hF j hj]; by_cases h : j + 1 < i
            · rw [if_pos h, if_pos (by omega)]
            · rw [if_neg h, if_neg (by omega)]
        refine lv_iinc (v := nI (i + 1)) (lv' := [(2, .int (nI (i + 1))), (1, .ref (xad g (B 0))), (0, .ref (xad g 19))]) S.1 S.2.1 dX1_dropOldest_28 hl (k := 0) rfl (show nI i + Int32.ofInt 1 = _ from nI_1 _) (by decide) rfl (fun ls hl => ?_)
        refine lv_goto (tgt := 9) S.1 S.2.1 dX1_dropOldest_31 (by decide) ?_
        exact ih9 (i + 1) _ _ _ _ (by omega) (by omega) (by omega) h19 h20 hB hfr hF hP hS ls (lv_sub hl [0, 1, 2] rfl)
  exact loop9 _ 1 F _ _ _ (Nat.le_refl _) (by decide) (Nat.lt_succ_self _) h19 h20 hB hfr hF hP hS ls (lv_sub hl [0, 1, 2] rfl)
/-- a state more: how many there are then; the i-th of them -/
def rcS (hs : Nat) : Nat := if hs < 4 then hs + 1 else 4
def rcV {α : Type} (hs : Nat) (N : Nat → α) (x : α) : Nat → α := fun i => if hs < 4 then (if i < hs then N i else x) else (if i < 3 then N (i + 1) else x)
theorem rec_big {N : Nat → Nat} {MM : Nat → Nat → Nat → Int32} {n i : Nat} {M : Nat → Nat → Int32} (hi : i < rcS 4) : va_up (rot N) 3 n i = (if i < 3 then N (i + 1) else n) ∧ va_up (rot MM) 3 M i = (if i < 3 then MM (i + 1) else M) := by
  have hi : i < 4 := hi
  by_cases h : i < 3
  · rw [if_pos h, if_pos h, va_up_ne _ _ (by omega), va_up_ne _ _ (by omega)]
    exact ⟨if_pos h, if_pos h⟩
  · rw [if_neg h, if_neg h, show i = 3 by omega, va_up_self, va_up_self]
    exact ⟨rfl, rfl⟩
theorem rec_small {N : Nat → Nat} {MM : Nat → Nat → Nat → Int32} {n i hs : Nat} {M : Nat → Nat → Int32} (hi : i < hs + 1) : va_up N hs n i = (if i < hs then N i else n) ∧ va_up MM hs M i = (if i < hs then MM i else M) := by
  by_cases h : i < hs
  · rw [if_pos h, if_pos h, va_up_ne _ _ (by omega), va_up_ne _ _ (by omega)]
    exact ⟨rfl, rfl⟩
  · rw [if_neg h, if_neg h, show i = hs by omega, va_up_self, va_up_self]
    exact ⟨rfl, rfl⟩
set_option maxHeartbeats 4000000 in
set_option maxRecDepth 100000 in
/-- History.record -/
theorem c_X1_record (l : Launch) (g : xG) (hJ : xJ (xad g)) (E : Nat → va_E) {hs : Nat} {B N : Nat → Nat} {MM : Nat → Nat → Nat → Int32} (hH : eHi g E hs B N MM) {n : Nat} {M : Nat → Nat → Int32} (hp : ePh g E 1 n M) : Met l yX1_record wsX1_record ({ frames := 2, cells := 0, slots := 0, locals := 82 }) (xPc g [.ref (xad g 19), .ref (xad g 1)] E) (xQv g (fun E1 => (∃ B2 N2 MM2, eHi g E1 (rcS hs) B2 N2 MM2 ∧ ∀ i, i < rcS hs → N2 i = rcV hs N n i ∧ MM2 i = rcV hs MM M i) ∧ ∀ j, j < 19 ∨ 57 ≤ j → E1 j = E j)) 0 0 (xA (xad g)) := by
  refine x_met (ws' := _) (by decide) rfl (Nat.le_of_ble_eq_true rfl) ?_
  intro pz ez s m below meth cz ls S hr hlocks hP hK hl
  have hl : lv_has ls 2 [(0, .ref (xad g 19)), (1, .ref (xad g 1))] := hl
  have hS : va_S (xA (xad g)) s.heap s.heap [] := va_S.rf
  have hin1 : ∀ w ∈ u_ws RX1 TX1 2, w ∈ wsX1_record := by decide +kernel
  have fl11 : Cond.fieldLink RX1 11 "DiscArcs$History" "states" "[LDiscArcs$Photos;" ∈ wsX1_record := by decide +kernel
  have fl18 : Cond.fieldLink RX1 18 "DiscArcs$History" "size" "I" ∈ wsX1_record := by decide +kernel
  have h19 := hH.2.1
  have h0 := hp.1
  have hfr : ∀ j, j < 19 ∨ 57 ≤ j → E j = E j := fun _ _ => rfl
  refine lv_aload_n S.1 S.2.1 dX1_record_0 rfl (lv_at hl 0 rfl) ?_
  refine x_get S hK hP dX1_record_1 h19 (by decide) (RX1, TX1, 2) rfl hin1 1 (by decide) fl18 rfl ?_
  refine lv_iconst (v := 4) S.1 S.2.1 dX1_record_4 (by decide) ?_
  refine lv_icmp_lt (tgt := 12) S.1 S.2.1 dX1_record_5 (by decide) (fun c5 => ?_) (fun c5 => ?_)
  · skip
    have hs4 : hs < 4 := (nI_ltI (b := 4) (by have := hH.1; omega) (by decide)).mp c5
    obtain ⟨-, h19, ⟨F, h20, hF0⟩, hB, -⟩ := id hH
    obtain ⟨b1, b2, hb3⟩ := hB hs hs4
    refine lv_aload_n S.1 S.2.1 dX1_record_12 rfl (lv_at hl 0 rfl) ?_
    refine x_get S hK hP dX1_record_13 h19 (by decide) (RX1, TX1, 2) rfl hin1 0 (by decide) fl11 rfl ?_
    refine lv_aload_n S.1 S.2.1 dX1_record_16 rfl (lv_at hl 0 rfl) ?_
    refine x_get S hK hP dX1_record_17 h19 (by decide) (RX1, TX1, 2) rfl hin1 1 (by decide) fl18 rfl ?_
    refine x_aldp S hK hP dX1_record_20 h20 (by decide) (j := hs) rfl (by omega) (by decide) (hF0 hs hs4) ?_
    refine lv_aload_n S.1 S.2.1 dX1_record_21 rfl (lv_at hl 1 rfl) ?_
    refine x_qv (va_runV (As := [.ref (xad g 1)]) (rest := []) S (c_X2_copyFrom l g hJ E hb3.ps hp (by omega)) (cwV 1 S.2.2.2.2 gX1_record_X2_copyFrom rfl rfl rfl (by decide +kernel) ⟨Nat.le_of_ble_eq_true rfl, Nat.le_of_ble_eq_true rfl⟩) (x_preV hK hP hb3.2.1 (by have := hb3.1; omega) rfl) rfl rfl hl.1 rfl (lv_room (Nat.le_of_ble_eq_true rfl)) dX1_record_22 ⟨Nat.le_of_ble_eq_true rfl, Nat.le_of_ble_eq_true rfl⟩) hS (fun E1 H locs hq22 hP hS => ?_)
    have hH := hH.put (q := hs) hs4 hq22.1 hq22.2
    have hfr : ∀ j, j < 19 ∨ 57 ≤ j → E1 j = E j := fun j hj => (hq22.2 j (by omega)).trans (hfr j hj)
    have h19 := hH.2.1
    refine lv_aload_n S.1 S.2.1 dX1_record_25 rfl (lv_at hl 0 rfl) ?_
    refine lv_dup S.1 S.2.1 dX1_record_26 rfl ?_
    refine x_get S hK hP dX1_record_27 h19 (by decide) (RX1, TX1, 2) rfl hin1 1 (by decide) fl18 rfl ?_
    refine lv_iconst (v := 1) S.1 S.2.1 dX1_record_30 (by decide) ?_
    refine lv_iadd S.1 S.2.1 dX1_record_31 ?_
    refine x_put S hK hJ hP hS dX1_record_32 h19 (by decide) (RX1, TX1, 2) rfl hin1 tyX1 tyX1_ok nmX1 1 (by decide) fl18 rfl rfl rfl (Nat.le_of_ble_eq_true rfl) (fun H locs E1_1 hu hP hS => ?_)
    have h19 : E1_1 19 = .inr (1, [.ref (xad g 20), .int ((nI hs) + 1)]) := hu.1
    have hfr : ∀ j, j < 19 ∨ 57 ≤ j → E1_1 j = E j := fun j hj => (hu.2 j (by omega)).trans (hfr j hj)
    exact x_vret S hr hlocks hP hS dX1_record_35 (⟨⟨_, _, _, by unfold rcS; rw [if_pos hs4]; exact hH.size (by omega) (by rw [← nI_1]; exact hu), fun i hi => by unfold rcV; rw [if_pos hs4, if_pos hs4]; unfold rcS at hi; rw [if_pos hs4] at hi; exact rec_small hi⟩, hfr⟩)
  · skip
    have hs5 : hs = 4 := by have := hH.1; have := Nat.not_lt.mp (fun h => c5 ((nI_ltI (b := 4) (by omega) (by omega)).mpr h)); omega
    subst hs5
    refine lv_aload_n S.1 S.2.1 dX1_record_8 rfl (lv_at hl 0 rfl) ?_
    refine x_qv (va_runV (As := []) (rest := []) S (c_X1_dropOldest l g hJ E hH) (cwV 0 S.2.2.2.2 gX1_record_X1_dropOldest rfl rfl rfl (by decide +kernel) ⟨Nat.le_of_ble_eq_true rfl, Nat.le_of_ble_eq_true rfl⟩) (x_preV hK hP h19 (by decide) rfl) rfl rfl hl.1 rfl (lv_room (Nat.le_of_ble_eq_true rfl)) dX1_record_9 ⟨Nat.le_of_ble_eq_true rfl, Nat.le_of_ble_eq_true rfl⟩) hS (fun E1_2 H locs hq9 hP hS => ?_)
    have hH := hq9.1
    have hfr := hq9.2
    have hp : ePh g E1_2 1 n M := hp.keep (fun j h1 h2 => hq9.2 j (by omega))
    have h19 := hH.2.1
    obtain ⟨-, h19, ⟨F, h20, hF0⟩, hB, -⟩ := id hH
    obtain ⟨b1, b2, hb3⟩ := hB 3 (by decide)
    refine lv_aload_n S.1 S.2.1 dX1_record_12 rfl (lv_at hl 0 rfl) ?_
    refine x_get S hK hP dX1_record_13 h19 (by decide) (RX1, TX1, 2) rfl hin1 0 (by decide) fl11 rfl ?_
    refine lv_aload_n S.1 S.2.1 dX1_record_16 rfl (lv_at hl 0 rfl) ?_
    refine x_get S hK hP dX1_record_17 h19 (by decide) (RX1, TX1, 2) rfl hin1 1 (by decide) fl18 rfl ?_
    refine x_aldp S hK hP dX1_record_20 h20 (by decide) (j := 3) rfl (by omega) (by decide) (hF0 3 (by decide)) ?_
    refine lv_aload_n S.1 S.2.1 dX1_record_21 rfl (lv_at hl 1 rfl) ?_
    refine x_qv (va_runV (As := [.ref (xad g 1)]) (rest := []) S (c_X2_copyFrom l g hJ E1_2 hb3.ps hp (by omega)) (cwV 1 S.2.2.2.2 gX1_record_X2_copyFrom rfl rfl rfl (by decide +kernel) ⟨Nat.le_of_ble_eq_true rfl, Nat.le_of_ble_eq_true rfl⟩) (x_preV hK hP hb3.2.1 (by have := hb3.1; omega) rfl) rfl rfl hl.1 rfl (lv_room (Nat.le_of_ble_eq_true rfl)) dX1_record_22 ⟨Nat.le_of_ble_eq_true rfl, Nat.le_of_ble_eq_true rfl⟩) hS (fun E1_3 H locs hq22 hP hS => ?_)
    have hH := hH.put (q := 3) (by decide) hq22.1 hq22.2
    have hfr : ∀ j, j < 19 ∨ 57 ≤ j → E1_3 j = E j := fun j hj => (hq22.2 j (by omega)).trans (hfr j hj)
    have h19 := hH.2.1
    refine lv_aload_n S.1 S.2.1 dX1_record_25 rfl (lv_at hl 0 rfl) ?_
    refine lv_dup S.1 S.2.1 dX1_record_26 rfl ?_
    refine x_get S hK hP dX1_record_27 h19 (by decide) (RX1, TX1, 2) rfl hin1 1 (by decide) fl18 rfl ?_
    refine lv_iconst (v := 1) S.1 S.2.1 dX1_record_30 (by decide) ?_
    refine lv_iadd S.1 S.2.1 dX1_record_31 ?_
    refine x_put S hK hJ hP hS dX1_record_32 h19 (by decide) (RX1, TX1, 2) rfl hin1 tyX1 tyX1_ok nmX1 1 (by decide) fl18 rfl rfl rfl (Nat.le_of_ble_eq_true rfl) (fun H locs E1_4 hu hP hS => ?_)
    have h19 : E1_4 19 = .inr (1, [.ref (xad g 20), .int ((nI 3) + 1)]) := hu.1
    have hfr : ∀ j, j < 19 ∨ 57 ≤ j → E1_4 j = E j := fun j hj => (hu.2 j (by omega)).trans (hfr j hj)
    exact x_vret S hr hlocks hP hS dX1_record_35 (⟨⟨_, _, _, hH.size (hs' := 4) (by decide) hu, fun i hi => by unfold rcV; rw [if_neg (show ¬ 4 < 4 by decide), if_neg (show ¬ 4 < 4 by decide)]; exact rec_big hi⟩, hfr⟩)
set_option maxHeartbeats 4000000 in
set_option maxRecDepth 100000 in
/-- History.takeBack -/
theorem c_X1_takeBack (l : Launch) (g : xG) (hJ : xJ (xad g)) (E : Nat → va_E) {hs : Nat} {B N : Nat → Nat} {MM : Nat → Nat → Nat → Int32} (hH : eHi g E hs B N MM) {z : Int32} (hp : ePs g E 1 z) : Met l yX1_takeBack wsX1_takeBack ({ frames := 2, cells := 0, slots := 0, locals := 82 }) (xPc g [.ref (xad g 19), .ref (xad g 1)] E) (xQi g (fun r E1 => (∀ j, (j < 1 ∨ 10 ≤ j) → (j < 19 ∨ 57 ≤ j) → E1 j = E j) ∧ ((r = 0 ∧ hs = 0 ∧ E1 = E) ∨ (r = 1 ∧ 0 < hs ∧ ePh g E1 1 (N (hs - 1)) (MM (hs - 1)) ∧ eHi g E1 (hs - 1) B N MM)))) 0 0 (xA (xad g)) := by
  refine x_met (ws' := _) (by decide) rfl (Nat.le_of_ble_eq_true rfl) ?_
  intro pz ez s m below meth cz ls S hr hlocks hP hK hl
  have hl : lv_has ls 2 [(0, .ref (xad g 19)), (1, .ref (xad g 1))] := hl
  have hS : va_S (xA (xad g)) s.heap s.heap [] := va_S.rf
  have hin1 : ∀ w ∈ u_ws RX1 TX1 2, w ∈ wsX1_takeBack := by decide +kernel
  have fl11 : Cond.fieldLink RX1 11 "DiscArcs$History" "states" "[LDiscArcs$Photos;" ∈ wsX1_takeBack := by decide +kernel
  have fl18 : Cond.fieldLink RX1 18 "DiscArcs$History" "size" "I" ∈ wsX1_takeBack := by decide +kernel
  obtain ⟨hs4, h19, ⟨F, h20, hF0⟩, hB, -⟩ := id hH
  refine lv_aload_n S.1 S.2.1 dX1_takeBack_0 rfl (lv_at hl 0 rfl) ?_
  refine x_get S hK hP dX1_takeBack_1 h19 (by decide) (RX1, TX1, 2) rfl hin1 1 (by decide) fl18 rfl ?_
  refine lv_if_gt (tgt := 9) S.1 S.2.1 dX1_takeBack_4 (by decide) (fun c4 => ?_) (fun c4 => ?_)
  · skip
    have hs0 : 0 < hs := Nat.pos_of_ne_zero (fun h => by subst h; exact absurd c4 (by decide))
    refine lv_aload_n S.1 S.2.1 dX1_takeBack_9 rfl (lv_at hl 0 rfl) ?_
    refine lv_dup S.1 S.2.1 dX1_takeBack_10 rfl ?_
    refine x_get S hK hP dX1_takeBack_11 h19 (by decide) (RX1, TX1, 2) rfl hin1 1 (by decide) fl18 rfl ?_
    refine lv_iconst (v := 1) S.1 S.2.1 dX1_takeBack_14 (by decide) ?_
    refine lv_isub S.1 S.2.1 dX1_takeBack_15 ?_
    refine x_put S hK hJ hP hS dX1_takeBack_16 h19 (by decide) (RX1, TX1, 2) rfl hin1 tyX1 tyX1_ok nmX1 1 (by decide) fl18 rfl rfl rfl (Nat.le_of_ble_eq_true rfl) (fun H locs E1 hu hP hS => ?_)
    have h19 : E1 19 = .inr (1, [.ref (xad g 20), .int ((nI hs) - 1)]) := hu.1
    have h20 : E1 20 = .inl (xQ g, 4, .inr (.inr (.inr (.inr F)))) := (hu.2 _ (by omega)).trans h20
    have hp : ePs g E1 1 z := hp.keep (fun j h1 h2 => hu.2 j (by omega))
    have hB : ∀ i, i < 4 → 21 ≤ B i ∧ B i ≤ 48 ∧ ePh g E1 (B i) (N i) (MM i) := fun i9 hi9 => by obtain ⟨a1, a2, a3⟩ := hB i9 hi9; exact ⟨a1, a2, a3.keep (fun j g1 g2 => hu.2 j (by omega))⟩
    refine lv_aload_n S.1 S.2.1 dX1_takeBack_19 rfl (lv_at hl 1 rfl) ?_
    refine lv_aload_n S.1 S.2.1 dX1_takeBack_20 rfl (lv_at hl 0 rfl) ?_
    refine x_get S hK hP dX1_takeBack_21 h19 (by decide) (RX1, TX1, 2) rfl hin1 0 (by decide) fl11 rfl ?_
    refine lv_aload_n S.1 S.2.1 dX1_takeBack_24 rfl (lv_at hl 0 rfl) ?_
    refine x_get S hK hP dX1_takeBack_25 h19 (by decide) (RX1, TX1, 2) rfl hin1 1 (by decide) fl18 rfl ?_
    obtain ⟨b1, b2, hb3⟩ := hB (hs - 1) (by omega)
    refine x_aldp S hK hP dX1_takeBack_28 h20 (by decide) (j := (hs - 1)) (pk_sub (a := hs) (b := 1) (by omega)) (by omega) (by decide) (hF0 (hs - 1) (by omega)) ?_
    refine x_qv (va_runV (As := [.ref (xad g (B (hs - 1)))]) (rest := []) S (c_X2_copyFrom l g hJ E1 hp hb3 (by omega)) (cwV 1 S.2.2.2.2 gX1_takeBack_X2_copyFrom rfl rfl rfl (by decide +kernel) ⟨Nat.le_of_ble_eq_true rfl, Nat.le_of_ble_eq_true rfl⟩) (x_preV hK hP hp.2.1 (by decide) rfl) rfl rfl hl.1 rfl (lv_room (Nat.le_of_ble_eq_true rfl)) dX1_takeBack_29 ⟨Nat.le_of_ble_eq_true rfl, Nat.le_of_ble_eq_true rfl⟩) hS (fun E1_1 H locs hq29 hP hS => ?_)
    have hH2 := (hH.size (hs' := hs - 1) (by have := hH.1; omega) (by rw [← pk_sub (show 1 ≤ hs by omega)]; exact hu)).keep (E1 := E1_1) (fun j h1 h2 => hq29.2 j (by omega))
    have hfr2 : ∀ j, (j < 1 ∨ 10 ≤ j) → (j < 19 ∨ 57 ≤ j) → E1_1 j = E j := fun j h1 h2 => (hq29.2 j (by omega)).trans (hu.2 j (by omega))
    refine lv_iconst (v := 1) S.1 S.2.1 dX1_takeBack_32 (by decide) ?_
    exact x_zret S hr hlocks hP hS dX1_takeBack_33 rfl (⟨hfr2, Or.inr ⟨rfl, hs0, hq29.1, hH2⟩⟩)
  · skip
    refine lv_iconst (v := 0) S.1 S.2.1 dX1_takeBack_7 (by decide) ?_
    exact x_zret S hr hlocks hP hS dX1_takeBack_8 rfl (⟨fun _ _ _ => rfl, Or.inl ⟨rfl, by rcases Nat.eq_zero_or_pos hs with h | h; exact h; exact absurd ((nI_ltI (a := 0) (by decide) (by omega)).mpr h) c4, rfl⟩⟩)
/-! DISCARCS: its static helpers and the tests of three photos -/
set_option maxHeartbeats 4000000 in
set_option maxRecDepth 100000 in
theorem c_X6_isWithin (l : Launch) (g : xG) (E : Nat → va_E) (x lo hi : Int32) : Met l yX6_isWithin wsX6_isWithin ({ frames := 0, cells := 0, slots := 0, locals := 0 }) (xPc g [.int x, .int lo, .int hi] E) (vp_Si (xb (lo ≤ x ∧ x ≤ hi))) 0 0 (fun _ => False) := by
  refine x_met (ws' := _) (by decide) rfl (Nat.le_of_ble_eq_true rfl) ?_
  intro pz ez s m below meth cz ls S hr hlocks hP hK hl
  have hl : lv_has ls 3 [(0, .int x), (1, .int lo), (2, .int hi)] := hl
  refine lv_iload_n S.1 S.2.1 dX6_isWithin_0 rfl (lv_at hl 0 rfl) ?_
  refine lv_iload_n S.1 S.2.1 dX6_isWithin_1 rfl (lv_at hl 1 rfl) ?_
  refine lv_icmp_lt (tgt := 14) S.1 S.2.1 dX6_isWithin_2 (by decide) (fun c2 => ?_) (fun c2 => ?_)
  · skip
    refine lv_iconst (v := 0) S.1 S.2.1 dX6_isWithin_14 (by decide) ?_
    exact x_zretR S hr hlocks dX6_isWithin_15 (xb.zero (by first | exact fun h => absurd c7 (Int32.not_lt.mpr h.2) | exact fun h => absurd c2 (Int32.not_lt.mpr h.1)))
  · skip
    refine lv_iload_n S.1 S.2.1 dX6_isWithin_5 rfl (lv_at hl 0 rfl) ?_
    refine lv_iload_n S.1 S.2.1 dX6_isWithin_6 rfl (lv_at hl 2 rfl) ?_
    refine lv_icmp_gt (tgt := 14) S.1 S.2.1 dX6_isWithin_7 (by decide) (fun c7 => ?_) (fun c7 => ?_)
    · skip
      refine lv_iconst (v := 0) S.1 S.2.1 dX6_isWithin_14 (by decide) ?_
      exact x_zretR S hr hlocks dX6_isWithin_15 (xb.zero (by first | exact fun h => absurd c7 (Int32.not_lt.mpr h.2) | exact fun h => absurd c2 (Int32.not_lt.mpr h.1)))
    · skip
      refine lv_iconst (v := 1) S.1 S.2.1 dX6_isWithin_10 (by decide) ?_
      refine lv_goto (tgt := 15) S.1 S.2.1 dX6_isWithin_11 (by decide) ?_
      exact x_zretR S hr hlocks dX6_isWithin_15 (xb.one ⟨Int32.not_lt.mp c2, Int32.not_lt.mp c7⟩)
set_option maxHeartbeats 4000000 in
set_option maxRecDepth 100000 in
theorem c_X6_areAnySame (l : Launch) (g : xG) (E : Nat → va_E) (a b c9 : Int32) : Met l yX6_areAnySame wsX6_areAnySame ({ frames := 0, cells := 0, slots := 0, locals := 0 }) (xPc g [.int a, .int b, .int c9] E) (vp_Si (xb (a = b ∨ a = c9 ∨ b = c9))) 0 0 (fun _ => False) := by
  refine x_met (ws' := _) (by decide) rfl (Nat.le_of_ble_eq_true rfl) ?_
  intro pz ez s m below meth cz ls S hr hlocks hP hK hl
  have hl : lv_has ls 3 [(0, .int a), (1, .int b), (2, .int c9)] := hl
  refine lv_iload_n S.1 S.2.1 dX6_areAnySame_0 rfl (lv_at hl 0 rfl) ?_
  refine lv_iload_n S.1 S.2.1 dX6_areAnySame_1 rfl (lv_at hl 1 rfl) ?_
  refine lv_icmp_eq (tgt := 15) S.1 S.2.1 dX6_areAnySame_2 (by decide) (fun c2 => ?_) (fun c2 => ?_)
  · skip
    refine lv_iconst (v := 1) S.1 S.2.1 dX6_areAnySame_15 (by decide) ?_
    refine lv_goto (tgt := 20) S.1 S.2.1 dX6_areAnySame_16 (by decide) ?_
    exact x_zretR S hr hlocks dX6_areAnySame_20 (xb.one (by first | exact Or.inr (Or.inr c12) | exact Or.inr (Or.inl c7) | exact Or.inl c2))
  · skip
    refine lv_iload_n S.1 S.2.1 dX6_areAnySame_5 rfl (lv_at hl 0 rfl) ?_
    refine lv_iload_n S.1 S.2.1 dX6_areAnySame_6 rfl (lv_at hl 2 rfl) ?_
    refine lv_icmp_eq (tgt := 15) S.1 S.2.1 dX6_areAnySame_7 (by decide) (fun c7 => ?_) (fun c7 => ?_)
    · skip
      refine lv_iconst (v := 1) S.1 S.2.1 dX6_areAnySame_15 (by decide) ?_
      refine lv_goto (tgt := 20) S.1 S.2.1 dX6_areAnySame_16 (by decide) ?_
      exact x_zretR S hr hlocks dX6_areAnySame_20 (xb.one (by first | exact Or.inr (Or.inr c12) | exact Or.inr (Or.inl c7) | exact Or.inl c2))
    · skip
      refine lv_iload_n S.1 S.2.1 dX6_areAnySame_10 rfl (lv_at hl 1 rfl) ?_
      refine lv_iload_n S.1 S.2.1 dX6_areAnySame_11 rfl (lv_at hl 2 rfl) ?_
      refine lv_icmp_ne (tgt := 19) S.1 S.2.1 dX6_areAnySame_12 (by decide) (fun c12 => ?_) (fun c12 => ?_)
      · skip
        refine lv_iconst (v := 0) S.1 S.2.1 dX6_areAnySame_19 (by decide) ?_
        exact x_zretR S hr hlocks dX6_areAnySame_20 (xb.zero (fun h => by rcases h with h | h | h; exact c2 h; exact c7 h; exact c12 h))
      · skip
        refine lv_iconst (v := 1) S.1 S.2.1 dX6_areAnySame_15 (by decide) ?_
        refine lv_goto (tgt := 20) S.1 S.2.1 dX6_areAnySame_16 (by decide) ?_
        exact x_zretR S hr hlocks dX6_areAnySame_20 (xb.one (by first | exact Or.inr (Or.inr c12) | exact Or.inr (Or.inl c7) | exact Or.inl c2))
def isAsk (t w q : Int32) : Prop := (0 ≤ t ∧ t ≤ 99) ∧ (0 ≤ w ∧ w ≤ 1) ∧ 0 ≤ q ∧ q ≤ 1
set_option maxHeartbeats 4000000 in
set_option maxRecDepth 100000 in
theorem c_X6_isAskForFraction (l : Launch) (g : xG) (E : Nat → va_E) (t w q : Int32) : Met l yX6_isAskForFraction wsX6_isAskForFraction ({ frames := 1, cells := 0, slots := 0, locals := 22 }) (xPc g [.int t, .int w, .int q] E) (vp_Si (xb (isAsk t w q))) 0 0 (fun _ => False) := by
  refine x_met (ws' := _) (by decide) rfl (Nat.le_of_ble_eq_true rfl) ?_
  intro pz ez s m below meth cz ls S hr hlocks hP hK hl
  have hl : lv_has ls 3 [(0, .int t), (1, .int w), (2, .int q)] := hl
  refine lv_iload_n S.1 S.2.1 dX6_isAskForFraction_0 rfl (lv_at hl 0 rfl) ?_
  refine lv_iconst (v := 0) S.1 S.2.1 dX6_isAskForFraction_1 (by decide) ?_
  refine lv_bipush (v := 99) S.1 S.2.1 dX6_isAskForFraction_2 (by decide) ?_
  refine x_si (va_runS (As := [.int t, .int 0, .int 99]) (rest := []) S (c_X6_isWithin l g E t 0 99) (va_cwS 3 S.2.2.2.2 gX6_isAskForFraction_X6_isWithin rfl rfl rfl (by decide +kernel) ⟨Nat.le_of_ble_eq_true rfl, Nat.le_of_ble_eq_true rfl⟩) (x_preS hK hP) rfl rfl hl.1 rfl (lv_room (Nat.le_of_ble_eq_true rfl)) dX6_isAskForFraction_4 ⟨Nat.le_of_ble_eq_true rfl, Nat.le_of_ble_eq_true rfl⟩) (fun r4 hr4 => ?_)
  refine lv_if_eq (tgt := 32) S.1 S.2.1 dX6_isAskForFraction_7 (by decide) (fun c7 => ?_) (fun c7 => ?_)
  · skip
    refine lv_iconst (v := 0) S.1 S.2.1 dX6_isAskForFraction_32 (by decide) ?_
    exact x_zretR S hr hlocks dX6_isAskForFraction_33 (xb.zero (by first | exact fun h => hr22.f c25 h.2.2 | exact fun h => hr13.f c16 h.2.1 | exact fun h => hr4.f c7 h.1))
  · skip
    refine lv_iload_n S.1 S.2.1 dX6_isAskForFraction_10 rfl (lv_at hl 1 rfl) ?_
    refine lv_iconst (v := 0) S.1 S.2.1 dX6_isAskForFraction_11 (by decide) ?_
    refine lv_iconst (v := 1) S.1 S.2.1 dX6_isAskForFraction_12 (by decide) ?_
    refine x_si (va_runS (As := [.int w, .int 0, .int 1]) (rest := []) S (c_X6_isWithin l g E w 0 1) (va_cwS 3 S.2.2.2.2 gX6_isAskForFraction_X6_isWithin rfl rfl rfl (by decide +kernel) ⟨Nat.le_of_ble_eq_true rfl, Nat.le_of_ble_eq_true rfl⟩) (x_preS hK hP) rfl rfl hl.1 rfl (lv_room (Nat.le_of_ble_eq_true rfl)) dX6_isAskForFraction_13 ⟨Nat.le_of_ble_eq_true rfl, Nat.le_of_ble_eq_true rfl⟩) (fun r13 hr13 => ?_)
    refine lv_if_eq (tgt := 32) S.1 S.2.1 dX6_isAskForFraction_16 (by decide) (fun c16 => ?_) (fun c16 => ?_)
    · skip
      refine lv_iconst (v := 0) S.1 S.2.1 dX6_isAskForFraction_32 (by decide) ?_
      exact x_zretR S hr hlocks dX6_isAskForFraction_33 (xb.zero (by first | exact fun h => hr22.f c25 h.2.2 | exact fun h => hr13.f c16 h.2.1 | exact fun h => hr4.f c7 h.1))
    · skip
      refine lv_iload_n S.1 S.2.1 dX6_isAskForFraction_19 rfl (lv_at hl 2 rfl) ?_
      refine lv_iconst (v := 0) S.1 S.2.1 dX6_isAskForFraction_20 (by decide) ?_
      refine lv_iconst (v := 1) S.1 S.2.1 dX6_isAskForFraction_21 (by decide) ?_
      refine x_si (va_runS (As := [.int q, .int 0, .int 1]) (rest := []) S (c_X6_isWithin l g E q 0 1) (va_cwS 3 S.2.2.2.2 gX6_isAskForFraction_X6_isWithin rfl rfl rfl (by decide +kernel) ⟨Nat.le_of_ble_eq_true rfl, Nat.le_of_ble_eq_true rfl⟩) (x_preS hK hP) rfl rfl hl.1 rfl (lv_room (Nat.le_of_ble_eq_true rfl)) dX6_isAskForFraction_22 ⟨Nat.le_of_ble_eq_true rfl, Nat.le_of_ble_eq_true rfl⟩) (fun r22 hr22 => ?_)
      refine lv_if_eq (tgt := 32) S.1 S.2.1 dX6_isAskForFraction_25 (by decide) (fun c25 => ?_) (fun c25 => ?_)
      · skip
        refine lv_iconst (v := 0) S.1 S.2.1 dX6_isAskForFraction_32 (by decide) ?_
        exact x_zretR S hr hlocks dX6_isAskForFraction_33 (xb.zero (by first | exact fun h => hr22.f c25 h.2.2 | exact fun h => hr13.f c16 h.2.1 | exact fun h => hr4.f c7 h.1))
      · skip
        refine lv_iconst (v := 1) S.1 S.2.1 dX6_isAskForFraction_28 (by decide) ?_
        refine lv_goto (tgt := 33) S.1 S.2.1 dX6_isAskForFraction_29 (by decide) ?_
        exact x_zretR S hr hlocks dX6_isAskForFraction_33 (xb.one ⟨hr4.t c7, hr13.t c16, hr22.t c25⟩)
/-- an int tells one of n photos -/
def held (n : Nat) (x : Int32) : Prop := ∃ k : Nat, k < n ∧ x = nI k
set_option maxHeartbeats 4000000 in
set_option maxRecDepth 100000 in
theorem c_X6_areHeld (l : Launch) (g : xG) (E : Nat → va_E) {hf : Int32} (hX : E 0 = .inr (6, [.ref (xad g 1), .ref (xad g 10), .int hf, .ref (xad g 19), .ref (xad g 57), .ref (xad g 59), .ref (xad g 60), .ref (xad g 61), .ref (xad g 64)])) {n : Nat} {M : Nat → Nat → Int32} (hp : ePh g E 1 n M) (a b c9 : Int32) : Met l yX6_areHeld wsX6_areHeld ({ frames := 1, cells := 0, slots := 0, locals := 21 }) (xPc g [.ref (xad g 0), .int a, .int b, .int c9] E) (vp_Si (xb (held n a ∧ held n b ∧ held n c9))) 0 0 (fun _ => False) := by
  refine x_met (ws' := _) (by decide) rfl (Nat.le_of_ble_eq_true rfl) ?_
  intro pz ez s m below meth cz ls S hr hlocks hP hK hl
  have hl : lv_has ls 4 [(0, .ref (xad g 0)), (1, .int a), (2, .int b), (3, .int c9)] := hl
  have hin6 : ∀ w ∈ u_ws RX6 TX6 9, w ∈ wsX6_areHeld := by decide +kernel
  have fl10 : Cond.fieldLink RX6 10 "DiscArcs" "photos" "LDiscArcs$Photos;" ∈ wsX6_areHeld := by decide +kernel
  refine lv_aload_n S.1 S.2.1 dX6_areHeld_0 rfl (lv_at hl 0 rfl) ?_
  refine x_get S hK hP dX6_areHeld_1 hX (by decide) (RX6, TX6, 9) rfl hin6 0 (by decide) fl10 rfl ?_
  refine lv_iload_n S.1 S.2.1 dX6_areHeld_4 rfl (lv_at hl 1 rfl) ?_
  refine x_si (va_runV (As := [.int a]) (rest := []) S (c_X2_holds l g E hp a) (cwV 1 S.2.2.2.2 gX6_areHeld_X2_holds rfl rfl rfl (by decide +kernel) ⟨Nat.le_of_ble_eq_true rfl, Nat.le_of_ble_eq_true rfl⟩) (x_preV hK hP hp.2.1 (by decide) rfl) rfl rfl hl.1 rfl (lv_room (Nat.le_of_ble_eq_true rfl)) dX6_areHeld_5 ⟨Nat.le_of_ble_eq_true rfl, Nat.le_of_ble_eq_true rfl⟩) (fun r5 hr5 => ?_)
  refine lv_if_eq (tgt := 37) S.1 S.2.1 dX6_areHeld_8 (by decide) (fun c8 => ?_) (fun c8 => ?_)
  · skip
    refine lv_iconst (v := 0) S.1 S.2.1 dX6_areHeld_37 (by decide) ?_
    exact x_zretR S hr hlocks dX6_areHeld_38 (xb.zero (by first | exact fun h => hr27.f c30 h.2.2 | exact fun h => hr16.f c19 h.2.1 | exact fun h => hr5.f c8 h.1))
  · skip
    refine lv_aload_n S.1 S.2.1 dX6_areHeld_11 rfl (lv_at hl 0 rfl) ?_
    refine x_get S hK hP dX6_areHeld_12 hX (by decide) (RX6, TX6, 9) rfl hin6 0 (by decide) fl10 rfl ?_
    refine lv_iload_n S.1 S.2.1 dX6_areHeld_15 rfl (lv_at hl 2 rfl) ?_
    refine x_si (va_runV (As := [.int b]) (rest := []) S (c_X2_holds l g E hp b) (cwV 1 S.2.2.2.2 gX6_areHeld_X2_holds rfl rfl rfl (by decide +kernel) ⟨Nat.le_of_ble_eq_true rfl, Nat.le_of_ble_eq_true rfl⟩) (x_preV hK hP hp.2.1 (by decide) rfl) rfl rfl hl.1 rfl (lv_room (Nat.le_of_ble_eq_true rfl)) dX6_areHeld_16 ⟨Nat.le_of_ble_eq_true rfl, Nat.le_of_ble_eq_true rfl⟩) (fun r16 hr16 => ?_)
    refine lv_if_eq (tgt := 37) S.1 S.2.1 dX6_areHeld_19 (by decide) (fun c19 => ?_) (fun c19 => ?_)
    · skip
      refine lv_iconst (v := 0) S.1 S.2.1 dX6_areHeld_37 (by decide) ?_
      exact x_zretR S hr hlocks dX6_areHeld_38 (xb.zero (by first | exact fun h => hr27.f c30 h.2.2 | exact fun h => hr16.f c19 h.2.1 | exact fun h => hr5.f c8 h.1))
    · skip
      refine lv_aload_n S.1 S.2.1 dX6_areHeld_22 rfl (lv_at hl 0 rfl) ?_
      refine x_get S hK hP dX6_areHeld_23 hX (by decide) (RX6, TX6, 9) rfl hin6 0 (by decide) fl10 rfl ?_
      refine lv_iload_n S.1 S.2.1 dX6_areHeld_26 rfl (lv_at hl 3 rfl) ?_
      refine x_si (va_runV (As := [.int c9]) (rest := []) S (c_X2_holds l g E hp c9) (cwV 1 S.2.2.2.2 gX6_areHeld_X2_holds rfl rfl rfl (by decide +kernel) ⟨Nat.le_of_ble_eq_true rfl, Nat.le_of_ble_eq_true rfl⟩) (x_preV hK hP hp.2.1 (by decide) rfl) rfl rfl hl.1 rfl (lv_room (Nat.le_of_ble_eq_true rfl)) dX6_areHeld_27 ⟨Nat.le_of_ble_eq_true rfl, Nat.le_of_ble_eq_true rfl⟩) (fun r27 hr27 => ?_)
      refine lv_if_eq (tgt := 37) S.1 S.2.1 dX6_areHeld_30 (by decide) (fun c30 => ?_) (fun c30 => ?_)
      · skip
        refine lv_iconst (v := 0) S.1 S.2.1 dX6_areHeld_37 (by decide) ?_
        exact x_zretR S hr hlocks dX6_areHeld_38 (xb.zero (by first | exact fun h => hr27.f c30 h.2.2 | exact fun h => hr16.f c19 h.2.1 | exact fun h => hr5.f c8 h.1))
      · skip
        refine lv_iconst (v := 1) S.1 S.2.1 dX6_areHeld_33 (by decide) ?_
        refine lv_goto (tgt := 38) S.1 S.2.1 dX6_areHeld_34 (by decide) ?_
        exact x_zretR S hr hlocks dX6_areHeld_38 (xb.one ⟨hr5.t c8, hr16.t c19, hr27.t c30⟩)
set_option maxHeartbeats 4000000 in
set_option maxRecDepth 100000 in
theorem c_X6_areUsable (l : Launch) (g : xG) (E : Nat → va_E) {hf : Int32} (hX : E 0 = .inr (6, [.ref (xad g 1), .ref (xad g 10), .int hf, .ref (xad g 19), .ref (xad g 57), .ref (xad g 59), .ref (xad g 60), .ref (xad g 61), .ref (xad g 64)])) {n : Nat} {M : Nat → Nat → Int32} (hp : ePh g E 1 n M) {i j k : Nat} (hi : i < n) (hj : j < n) (hk : k < n) : Met l yX6_areUsable wsX6_areUsable ({ frames := 1, cells := 0, slots := 0, locals := 21 }) (xPc g [.ref (xad g 0), .int (nI i), .int (nI j), .int (nI k)] E) (vp_Si (xb (pU M i = true ∧ pU M j = true ∧ pU M k = true))) 0 0 (fun _ => False) := by
  refine x_met (ws' := _) (by decide) rfl (Nat.le_of_ble_eq_true rfl) ?_
  intro pz ez s m below meth cz ls S hr hlocks hP hK hl
  have hl : lv_has ls 4 [(0, .ref (xad g 0)), (1, .int (nI i)), (2, .int (nI j)), (3, .int (nI k))] := hl
  have hin6 : ∀ w ∈ u_ws RX6 TX6 9, w ∈ wsX6_areUsable := by decide +kernel
  have fl10 : Cond.fieldLink RX6 10 "DiscArcs" "photos" "LDiscArcs$Photos;" ∈ wsX6_areUsable := by decide +kernel
  refine lv_aload_n S.1 S.2.1 dX6_areUsable_0 rfl (lv_at hl 0 rfl) ?_
  refine x_get S hK hP dX6_areUsable_1 hX (by decide) (RX6, TX6, 9) rfl hin6 0 (by decide) fl10 rfl ?_
  refine lv_iload_n S.1 S.2.1 dX6_areUsable_4 rfl (lv_at hl 1 rfl) ?_
  refine x_si (va_runV (As := [.int (nI i)]) (rest := []) S (c_X2_isUsable l g E hp hi) (cwV 1 S.2.2.2.2 gX6_areUsable_X2_isUsable rfl rfl rfl (by decide +kernel) ⟨Nat.le_of_ble_eq_true rfl, Nat.le_of_ble_eq_true rfl⟩) (x_preV hK hP hp.2.1 (by decide) rfl) rfl rfl hl.1 rfl (lv_room (Nat.le_of_ble_eq_true rfl)) dX6_areUsable_5 ⟨Nat.le_of_ble_eq_true rfl, Nat.le_of_ble_eq_true rfl⟩) (fun r5 hr5 => ?_)
  refine lv_if_eq (tgt := 37) S.1 S.2.1 dX6_areUsable_8 (by decide) (fun c8 => ?_) (fun c8 => ?_)
  · skip
    refine lv_iconst (v := 0) S.1 S.2.1 dX6_areUsable_37 (by decide) ?_
    exact x_zretR S hr hlocks dX6_areUsable_38 (xb.zero (by first | exact fun h => hr27.f c30 h.2.2 | exact fun h => hr16.f c19 h.2.1 | exact fun h => hr5.f c8 h.1))
  · skip
    refine lv_aload_n S.1 S.2.1 dX6_areUsable_11 rfl (lv_at hl 0 rfl) ?_
    refine x_get S hK hP dX6_areUsable_12 hX (by decide) (RX6, TX6, 9) rfl hin6 0 (by decide) fl10 rfl ?_
    refine lv_iload_n S.1 S.2.1 dX6_areUsable_15 rfl (lv_at hl 2 rfl) ?_
    refine x_si (va_runV (As := [.int (nI j)]) (rest := []) S (c_X2_isUsable l g E hp hj) (cwV 1 S.2.2.2.2 gX6_areUsable_X2_isUsable rfl rfl rfl (by decide +kernel) ⟨Nat.le_of_ble_eq_true rfl, Nat.le_of_ble_eq_true rfl⟩) (x_preV hK hP hp.2.1 (by decide) rfl) rfl rfl hl.1 rfl (lv_room (Nat.le_of_ble_eq_true rfl)) dX6_areUsable_16 ⟨Nat.le_of_ble_eq_true rfl, Nat.le_of_ble_eq_true rfl⟩) (fun r16 hr16 => ?_)
    refine lv_if_eq (tgt := 37) S.1 S.2.1 dX6_areUsable_19 (by decide) (fun c19 => ?_) (fun c19 => ?_)
    · skip
      refine lv_iconst (v := 0) S.1 S.2.1 dX6_areUsable_37 (by decide) ?_
      exact x_zretR S hr hlocks dX6_areUsable_38 (xb.zero (by first | exact fun h => hr27.f c30 h.2.2 | exact fun h => hr16.f c19 h.2.1 | exact fun h => hr5.f c8 h.1))
    · skip
      refine lv_aload_n S.1 S.2.1 dX6_areUsable_22 rfl (lv_at hl 0 rfl) ?_
      refine x_get S hK hP dX6_areUsable_23 hX (by decide) (RX6, TX6, 9) rfl hin6 0 (by decide) fl10 rfl ?_
      refine lv_iload_n S.1 S.2.1 dX6_areUsable_26 rfl (lv_at hl 3 rfl) ?_
      refine x_si (va_runV (As := [.int (nI k)]) (rest := []) S (c_X2_isUsable l g E hp hk) (cwV 1 S.2.2.2.2 gX6_areUsable_X2_isUsable rfl rfl rfl (by decide +kernel) ⟨Nat.le_of_ble_eq_true rfl, Nat.le_of_ble_eq_true rfl⟩) (x_preV hK hP hp.2.1 (by decide) rfl) rfl rfl hl.1 rfl (lv_room (Nat.le_of_ble_eq_true rfl)) dX6_areUsable_27 ⟨Nat.le_of_ble_eq_true rfl, Nat.le_of_ble_eq_true rfl⟩) (fun r27 hr27 => ?_)
      refine lv_if_eq (tgt := 37) S.1 S.2.1 dX6_areUsable_30 (by decide) (fun c30 => ?_) (fun c30 => ?_)
      · skip
        refine lv_iconst (v := 0) S.1 S.2.1 dX6_areUsable_37 (by decide) ?_
        exact x_zretR S hr hlocks dX6_areUsable_38 (xb.zero (by first | exact fun h => hr27.f c30 h.2.2 | exact fun h => hr16.f c19 h.2.1 | exact fun h => hr5.f c8 h.1))
      · skip
        refine lv_iconst (v := 1) S.1 S.2.1 dX6_areUsable_33 (by decide) ?_
        refine lv_goto (tgt := 38) S.1 S.2.1 dX6_areUsable_34 (by decide) ?_
        exact x_zretR S hr hlocks dX6_areUsable_38 (xb.one ⟨hr5.t c8, hr16.t c19, hr27.t c30⟩)
/-- three numbers in order -/
def srt (i j k a b c : Nat) : Prop := a < b ∧ b < c ∧ ((i = a ∧ j = b ∧ k = c) ∨ (i = a ∧ j = c ∧ k = b) ∨ (i = b ∧ j = a ∧ k = c) ∨ (i = b ∧ j = c ∧ k = a) ∨ (i = c ∧ j = a ∧ k = b) ∨ (i = c ∧ j = b ∧ k = a))
theorem nI_min {a b : Nat} (ha : a < 2 ^ 31) (hb : b < 2 ^ 31) : (if nI b < nI a then nI b else nI a) = nI (min a b) := by
  by_cases h : b < a
  · rw [if_pos ((nI_ltI hb ha).mpr h), Nat.min_eq_right (by omega)]
  · rw [if_neg (fun g => h ((nI_ltI hb ha).mp g)), Nat.min_eq_left (by omega)]
theorem nI_max {a b : Nat} (ha : a < 2 ^ 31) (hb : b < 2 ^ 31) : (if nI a < nI b then nI b else nI a) = nI (max a b) := by
  by_cases h : a < b
  · rw [if_pos ((nI_ltI ha hb).mpr h), Nat.max_eq_right (by omega)]
  · rw [if_neg (fun g => h ((nI_ltI ha hb).mp g)), Nat.max_eq_left (by omega)]
theorem srt_of {i j k : Nat} (h1 : ¬ i = j) (h2 : ¬ i = k) (h3 : ¬ j = k) : srt i j k (min i (min j k)) (i + j + k - min i (min j k) - max i (max j k)) (max i (max j k)) := by
  unfold srt
  omega
theorem nI_mid {i j k a c : Nat} (h1 : a ≤ i + j + k) (h2 : c ≤ i + j + k - a) : nI i + nI j + nI k - nI a - nI c = nI (i + j + k - a - c) := by
  rw [nI_add, nI_add, pk_sub h1, pk_sub h2]
set_option maxHeartbeats 4000000 in
set_option maxRecDepth 100000 in
theorem c_X6_layInOrder (l : Launch) (g : xG) (hJ : xJ (xad g)) (E : Nat → va_E) {hf : Int32} (hX : E 0 = .inr (6, [.ref (xad g 1), .ref (xad g 10), .int hf, .ref (xad g 19), .ref (xad g 57), .ref (xad g 59), .ref (xad g 60), .ref (xad g 61), .ref (xad g 64)])) {x1 x2 x3 : Int32} (hA : E 60 = .inr (0, [.ref (xad g 1), .int x1, .int x2, .int x3])) {i j k : Nat} (hi : i < 10) (hj : j < 10) (hk : k < 10) (h1 : ¬ i = j) (h2 : ¬ i = k) (h3 : ¬ j = k) : Met l yX6_layInOrder wsX6_layInOrder ({ frames := 1, cells := 0, slots := 0, locals := 40 }) (xPc g [.ref (xad g 0), .int (nI i), .int (nI j), .int (nI k)] E) (xQv g (fun E1 => ∃ a b c, srt i j k a b c ∧ xU E 60 (.inr (0, [.ref (xad g 1), .int (nI a), .int (nI b), .int (nI c)])) E1)) 0 0 (xA (xad g)) := by
  refine x_met (ws' := _) (by decide) rfl (Nat.le_of_ble_eq_true rfl) ?_
  intro pz ez s m below meth cz ls S hr hlocks hP hK hl
  have hl : lv_has ls 6 [(0, .ref (xad g 0)), (1, .int (nI i)), (2, .int (nI j)), (3, .int (nI k))] := hl
  have hS : va_S (xA (xad g)) s.heap s.heap [] := va_S.rf
  have hin6 : ∀ w ∈ u_ws RX6 TX6 9, w ∈ wsX6_layInOrder := by decide +kernel
  have fl42 : Cond.fieldLink RX6 42 "DiscArcs" "curve" "LDiscArcs$Arc;" ∈ wsX6_layInOrder := by decide +kernel
  refine lv_iload_n S.1 S.2.1 dX6_layInOrder_0 rfl (lv_at hl 1 rfl) ?_
  refine lv_iload_n S.1 S.2.1 dX6_layInOrder_1 rfl (lv_at hl 2 rfl) ?_
  refine lv_iload_n S.1 S.2.1 dX6_layInOrder_2 rfl (lv_at hl 3 rfl) ?_
  refine va_mmin S.1 S.2.1 (by rw [S.2.2.1]; exact hl.1.symm) S.2.2.2.1 (S.2.2.2.2 (.methodLink RX6 241 Lib.Math.min.name) (by decide +kernel)) (S.2.2.2.2 (.static Lib.Math.min.name) (by decide +kernel)) (S.2.2.2.2 (.initialized "java/lang/Math") (by decide +kernel)) (S.2.2.2.2 (.code Lib.Math.min.name Lib.Math.min.code 2 (some .int)) (by decide +kernel)) (Nat.le_of_ble_eq_true rfl) (Nat.le_of_ble_eq_true rfl) (Nat.le_of_ble_eq_true rfl) (Nat.le_of_ble_eq_true rfl) dX6_layInOrder_3 ?_
  refine va_mmin S.1 S.2.1 (by rw [S.2.2.1]; exact hl.1.symm) S.2.2.2.1 (S.2.2.2.2 (.methodLink RX6 241 Lib.Math.min.name) (by decide +kernel)) (S.2.2.2.2 (.static Lib.Math.min.name) (by decide +kernel)) (S.2.2.2.2 (.initialized "java/lang/Math") (by decide +kernel)) (S.2.2.2.2 (.code Lib.Math.min.name Lib.Math.min.code 2 (some .int)) (by decide +kernel)) (Nat.le_of_ble_eq_true rfl) (Nat.le_of_ble_eq_true rfl) (Nat.le_of_ble_eq_true rfl) (Nat.le_of_ble_eq_true rfl) dX6_layInOrder_6 ?_
  refine W.eq (g2 := F0 m 9 ls [.int (nI (min i (min j k)))]) (by rw [nI_min (a := j) (b := k) (by omega) (by omega), nI_min (a := i) (b := min j k) (by omega) (by omega)]) ?_
  refine lv_istore (lv' := [(4, .int (nI (min i (min j k)))), (0, .ref (xad g 0)), (1, .int (nI i)), (2, .int (nI j)), (3, .int (nI k))]) S.1 S.2.1 dX6_layInOrder_9 hl (by decide) rfl (fun ls hl => ?_)
  refine lv_iload_n S.1 S.2.1 dX6_layInOrder_11 rfl (lv_at hl 2 rfl) ?_
  refine lv_iload_n S.1 S.2.1 dX6_layInOrder_12 rfl (lv_at hl 3 rfl) ?_
  refine lv_iload_n S.1 S.2.1 dX6_layInOrder_13 rfl (lv_at hl 4 rfl) ?_
  refine va_mmax S.1 S.2.1 (by rw [S.2.2.1]; exact hl.1.symm) S.2.2.2.1 (S.2.2.2.2 (.methodLink RX6 246 Lib.Math.max.name) (by decide +kernel)) (S.2.2.2.2 (.static Lib.Math.max.name) (by decide +kernel)) (S.2.2.2.2 (.initialized "java/lang/Math") (by decide +kernel)) (S.2.2.2.2 (.code Lib.Math.max.name Lib.Math.max.code 2 (some .int)) (by decide +kernel)) (Nat.le_of_ble_eq_true rfl) (Nat.le_of_ble_eq_true rfl) (Nat.le_of_ble_eq_true rfl) (Nat.le_of_ble_eq_true rfl) dX6_layInOrder_14 ?_
  refine va_mmax S.1 S.2.1 (by rw [S.2.2.1]; exact hl.1.symm) S.2.2.2.1 (S.2.2.2.2 (.methodLink RX6 246 Lib.Math.max.name) (by decide +kernel)) (S.2.2.2.2 (.static Lib.Math.max.name) (by decide +kernel)) (S.2.2.2.2 (.initialized "java/lang/Math") (by decide +kernel)) (S.2.2.2.2 (.code Lib.Math.max.name Lib.Math.max.code 2 (some .int)) (by decide +kernel)) (Nat.le_of_ble_eq_true rfl) (Nat.le_of_ble_eq_true rfl) (Nat.le_of_ble_eq_true rfl) (Nat.le_of_ble_eq_true rfl) dX6_layInOrder_17 ?_
  refine W.eq (g2 := F0 m 20 ls [.int (nI (max i (max j k)))]) (by rw [nI_max (a := j) (b := k) (by omega) (by omega), nI_max (a := i) (b := max j k) (by omega) (by omega)]) ?_
  refine lv_istore (lv' := [(5, .int (nI (max i (max j k)))), (4, .int (nI (min i (min j k)))), (0, .ref (xad g 0)), (1, .int (nI i)), (2, .int (nI j)), (3, .int (nI k))]) S.1 S.2.1 dX6_layInOrder_20 hl (by decide) rfl (fun ls hl => ?_)
  refine lv_aload_n S.1 S.2.1 dX6_layInOrder_22 rfl (lv_at hl 2 rfl) ?_
  refine x_get S hK hP dX6_layInOrder_23 hX (by decide) (RX6, TX6, 9) rfl hin6 6 (by decide) fl42 rfl ?_
  refine lv_iload S.1 S.2.1 dX6_layInOrder_26 (lv_at hl 1 rfl) ?_
  refine lv_iload_n S.1 S.2.1 dX6_layInOrder_28 rfl (lv_at hl 3 rfl) ?_
  refine lv_iload_n S.1 S.2.1 dX6_layInOrder_29 rfl (lv_at hl 4 rfl) ?_
  refine lv_iadd S.1 S.2.1 dX6_layInOrder_30 ?_
  refine lv_iload_n S.1 S.2.1 dX6_layInOrder_31 rfl (lv_at hl 5 rfl) ?_
  refine lv_iadd S.1 S.2.1 dX6_layInOrder_32 ?_
  refine lv_iload S.1 S.2.1 dX6_layInOrder_33 (lv_at hl 1 rfl) ?_
  refine lv_isub S.1 S.2.1 dX6_layInOrder_35 ?_
  refine lv_iload S.1 S.2.1 dX6_layInOrder_36 (lv_at hl 0 rfl) ?_
  refine lv_isub S.1 S.2.1 dX6_layInOrder_38 ?_
  refine lv_iload S.1 S.2.1 dX6_layInOrder_39 (lv_at hl 0 rfl) ?_
  refine x_qv (va_runV (As := [.int (nI (min i (min j k))), .int (((((nI i) + (nI j)) + (nI k)) - (nI (min i (min j k)))) - (nI (max i (max j k)))), .int (nI (max i (max j k)))]) (rest := []) S (c_X0_lay l g hJ E hA _ _ _) (cwV 3 S.2.2.2.2 gX6_layInOrder_X0_lay rfl rfl rfl (by decide +kernel) ⟨Nat.le_of_ble_eq_true rfl, Nat.le_of_ble_eq_true rfl⟩) (x_preV hK hP hA (by decide) rfl) rfl rfl hl.1 rfl (lv_room (Nat.le_of_ble_eq_true rfl)) dX6_layInOrder_41 ⟨Nat.le_of_ble_eq_true rfl, Nat.le_of_ble_eq_true rfl⟩) hS (fun E1 H locs hq41 hP hS => ?_)
  rw [nI_mid (i := i) (j := j) (k := k) (a := min i (min j k)) (c := max i (max j k)) (by omega) (by omega)] at hq41
  exact x_vret S hr hlocks hP hS dX6_layInOrder_44 (⟨_, _, _, srt_of h1 h2 h3, hq41⟩)
theorem gcd_step {g s j P : Nat} (hs : 0 < s) (hg : j = 0 ∨ s < g) (hP : g * s * 2 ^ (j - 1) ≤ P) : s * (g % s) * 2 ^ (j + 1 - 1) ≤ P := by
  rcases Nat.eq_zero_or_pos j with h | h
  · subst h
    refine Nat.le_trans ?_ hP
    show s * (g % s) * 2 ^ 0 ≤ g * s * 2 ^ 0
    rw [Nat.mul_comm g s]
    exact Nat.mul_le_mul_right _ (Nat.mul_le_mul_left _ (Nat.mod_le _ _))
  · have hlt : s < g := by omega
    have h2 : 2 * (g % s) ≤ g := by
      have e := Nat.div_add_mod g s
      have h3 : g % s < s := Nat.mod_lt _ hs
      have h4 : 1 ≤ g / s := Nat.div_pos (by omega) hs
      have h5 : s * 1 ≤ s * (g / s) := Nat.mul_le_mul_left _ h4
      omega
    refine Nat.le_trans ?_ hP
    have e2 : j + 1 - 1 = (j - 1) + 1 := by omega
    rw [e2, Nat.pow_succ, Nat.mul_comm (2 ^ (j - 1)) 2, ← Nat.mul_assoc]
    refine Nat.mul_le_mul_right _ ?_
    rw [Nat.mul_assoc, Nat.mul_comm (g % s) 2, Nat.mul_comm g s]
    exact Nat.mul_le_mul_left _ h2
theorem gcd_end {g s P e : Nat} (hs : 0 < s) (hg : s < g) (hP : g * s * 2 ^ e ≤ P) (he : 126 ≤ e) (hb : P < 2 ^ 126) : False := by
  have h1 : 1 * 2 ^ e ≤ g * s * 2 ^ e := Nat.mul_le_mul_right _ (Nat.mul_pos (by omega) hs)
  have h2 : (2 : Nat) ^ 126 ≤ 2 ^ e := Nat.pow_le_pow_right (by decide) he
  omega
theorem lN_0 : lN 0 = 0 := rfl
set_option maxHeartbeats 4000000 in
set_option maxRecDepth 100000 in
/-- commonDivisor -/
theorem c_X6_commonDivisor (l : Launch) (g : xG) (E : Nat → va_E) {a b : Nat} (ha : a < 2 ^ 63) (hb : b < 2 ^ 63) : Met l yX6_commonDivisor wsX6_commonDivisor ({ frames := 0, cells := 0, slots := 0, locals := 0 }) (xPc g [.long (lN a), .long (lN b)] E) (vp_Sl (fun r => r = lN (Nat.gcd a b))) 0 0 (fun _ => False) := by
  refine x_met (ws' := _) (by decide) rfl (Nat.le_of_ble_eq_true rfl) ?_
  intro pz ez s m below meth cz ls S hr hlocks hP hK hl
  have hl : lv_has ls 11 [(0, .long (lN a)), (2, .long (lN b))] := hl
  have hP0 : a * b < 2 ^ 126 := Nat.lt_of_lt_of_le (Nat.mul_lt_mul'' ha hb) (by decide)
  refine lv_lload_n S.1 S.2.1 dX6_commonDivisor_0 rfl (lv_at hl 0 rfl) ?_
  refine lv_lstore (lv' := [(4, .long (lN a)), (0, .long (lN a)), (2, .long (lN b))]) S.1 S.2.1 dX6_commonDivisor_1 hl (by decide) rfl (fun ls hl => ?_)
  refine lv_lload_n S.1 S.2.1 dX6_commonDivisor_3 rfl (lv_at hl 2 rfl) ?_
  refine lv_lstore (lv' := [(6, .long (lN b)), (4, .long (lN a)), (0, .long (lN a)), (2, .long (lN b))]) S.1 S.2.1 dX6_commonDivisor_4 hl (by decide) rfl (fun ls hl => ?_)
  refine lv_iconst (v := 0) S.1 S.2.1 dX6_commonDivisor_6 (by decide) ?_
  refine lv_istore (lv' := [(8, .int 0), (6, .long (lN b)), (4, .long (lN a)), (0, .long (lN a)), (2, .long (lN b))]) S.1 S.2.1 dX6_commonDivisor_7 hl (by decide) rfl (fun ls hl => ?_)
  have loop9 : ∀ (d : Nat) (g9 : Nat) (s9 : Nat) (j : Nat), (hg9 : g9 < 2 ^ 63) → (hs9 : s9 < 2 ^ 63) → (hgcd : Nat.gcd g9 s9 = Nat.gcd a b) → (hj : j ≤ 1000) → (hg : j = 0 ∨ s9 < g9) → (hP : g9 * s9 * 2 ^ (j - 1) ≤ a * b) → (1001 - j) < d → ∀ ls : Array Slot, lv_has ls 11 [(8, .int (nI j)), (6, .long (lN s9)), (4, .long (lN g9))] → W pz l ez ({ frames := 0, cells := 0, slots := 0, locals := 0 }) s m ([.long (lN a), .long (lN b)] : List Value).toArray below meth cz s.heap [] 0 0 (MQ below (vp_Sl (fun r => r = lN (Nat.gcd a b))) ([.long (lN a), .long (lN b)] : List Value).toArray s 0 0 (fun _ => False)) (F0 m 9 ls []) := by
    intro d
    induction d with
    | zero => intro g9 s9 j hg9 hs9 hgcd hj hg hP hd; exact absurd hd (Nat.not_lt_zero _)
    | succ d ih9 =>
      intro g9 s9 j hg9 hs9 hgcd hj hg hP hd ls hl
      refine lv_lload S.1 S.2.1 dX6_commonDivisor_9 (lv_at hl 1 rfl) ?_
      refine lv_lconst (v := 0) S.1 S.2.1 dX6_commonDivisor_11 rfl ?_
      refine W.lcmp S.1 S.2.1 dX6_commonDivisor_12 ?_
      refine lv_if_eq (tgt := 45) S.1 S.2.1 dX6_commonDivisor_13 (by decide) (fun c13 => ?_) (fun c13 => ?_)
      · skip
        refine lv_lload S.1 S.2.1 dX6_commonDivisor_45 (lv_at hl 2 rfl) ?_
        exact x_lretR S hr hlocks dX6_commonDivisor_47 (by first | (exact (gcd_end (e := j - 1) hs0 (by have := (nI_leI (a := 1000) (b := j) (by omega) (by omega)).mp c21; omega) hP (by have := (nI_leI (a := 1000) (b := j) (by omega) (by omega)).mp c21; omega) hP0).elim) | (have h0 := (lg_cmp_eq _ _).mp c13; rw [← lN_0, pk_lEQ (by omega) (by decide)] at h0; rw [← hgcd, h0, Nat.gcd_zero_right]))
      · skip
        have hs0 : 0 < s9 := Nat.pos_of_ne_zero (fun h => by subst h; exact c13 ((lg_cmp_eq _ _).mpr rfl))
        refine lv_iload S.1 S.2.1 dX6_commonDivisor_16 (lv_at hl 0 rfl) ?_
        refine lv_sipush (v := 1000) S.1 S.2.1 dX6_commonDivisor_18 (by decide) ?_
        refine lv_icmp_ge (tgt := 45) S.1 S.2.1 dX6_commonDivisor_21 (by decide) (fun c21 => ?_) (fun c21 => ?_)
        · skip
          refine lv_lload S.1 S.2.1 dX6_commonDivisor_45 (lv_at hl 2 rfl) ?_
          exact x_lretR S hr hlocks dX6_commonDivisor_47 (by first | (exact (gcd_end (e := j - 1) hs0 (by have := (nI_leI (a := 1000) (b := j) (by omega) (by omega)).mp c21; omega) hP (by have := (nI_leI (a := 1000) (b := j) (by omega) (by omega)).mp c21; omega) hP0).elim) | (have h0 := (lg_cmp_eq _ _).mp c13; rw [← lN_0, pk_lEQ (by omega) (by decide)] at h0; rw [← hgcd, h0, Nat.gcd_zero_right]))
        · skip
          have hj : j < 1000 := Nat.not_le.mp (fun h => c21 ((nI_leI (a := 1000) (by omega) (by omega)).mpr h))
          refine lv_lload S.1 S.2.1 dX6_commonDivisor_24 (lv_at hl 2 rfl) ?_
          refine lv_lload S.1 S.2.1 dX6_commonDivisor_26 (lv_at hl 1 rfl) ?_
          refine lv_lrem S.1 S.2.1 dX6_commonDivisor_28 (fun h => by rw [← lN_0, pk_lEQ (by omega) (by decide)] at h; omega) ?_
          refine W.eq (g2 := F0 m 29 ls [.long (lN (g9 % s9))]) (by rw [pk_lRem (by omega) hs0 (by omega)]) ?_
          refine lv_lstore (lv' := [(9, .long (lN (g9 % s9))), (8, .int (nI j)), (6, .long (lN s9)), (4, .long (lN g9))]) S.1 S.2.1 dX6_commonDivisor_29 hl (by decide) rfl (fun ls hl => ?_)
          refine lv_lload S.1 S.2.1 dX6_commonDivisor_31 (lv_at hl 2 rfl) ?_
          refine lv_lstore (lv' := [(4, .long (lN s9)), (9, .long (lN (g9 % s9))), (8, .int (nI j)), (6, .long (lN s9))]) S.1 S.2.1 dX6_commonDivisor_33 hl (by decide) rfl (fun ls hl => ?_)
          refine lv_lload S.1 S.2.1 dX6_commonDivisor_35 (lv_at hl 1 rfl) ?_
          refine lv_lstore (lv' := [(6, .long (lN (g9 % s9))), (4, .long (lN s9)), (9, .long (lN (g9 % s9))), (8, .int (nI j))]) S.1 S.2.1 dX6_commonDivisor_37 hl (by decide) rfl (fun ls hl => ?_)
          refine lv_iinc (v := nI (j + 1)) (lv' := [(8, .int (nI (j + 1))), (6, .long (lN (g9 % s9))), (4, .long (lN s9)), (9, .long (lN (g9 % s9)))]) S.1 S.2.1 dX6_commonDivisor_39 hl (k := 3) rfl (show nI j + Int32.ofInt 1 = _ from nI_1 _) (by decide) rfl (fun ls hl => ?_)
          refine lv_goto (tgt := 9) S.1 S.2.1 dX6_commonDivisor_42 (by decide) ?_
          exact ih9 s9 (g9 % s9) (j + 1) (by omega) (by have := Nat.mod_lt g9 hs0; omega) (by rw [← hgcd, Nat.gcd_comm g9 s9, Nat.gcd_rec s9 g9, Nat.gcd_comm]) (by omega) (Or.inr (Nat.mod_lt _ hs0)) (gcd_step hs0 hg hP) (by omega) ls (lv_sub hl [0, 1, 2] rfl)
  exact loop9 _ a b 0 ha hb rfl (Nat.zero_le _) (Or.inl rfl) (by rw [show (0 : Nat) - 1 = 0 from rfl, Nat.pow_zero, Nat.mul_one]; exact Nat.le_refl _) (Nat.lt_succ_self _) ls (lv_sub hl [0, 1, 2] rfl)
/-- a part of a fraction, in lowest terms; the lower number is above 0 -/
def prt (u : Int64) (b : Nat) (q : Int32) : Int64 := if q = 0 then u / lN (Nat.gcd u.toInt.natAbs b) + 10000000000 else lN b / lN (Nat.gcd u.toInt.natAbs b)
theorem abL_lN {u : Int64} (h : -9223372036854775808 < u.toInt) : (if 0 < u then u else -u) = lN u.toInt.natAbs := by
  apply Int64.toInt_inj.mp
  have hlt := Int64.toInt_lt u
  have h2 : (u.toInt.natAbs : Int) < 9223372036854775808 := by omega
  rw [pk_lT (by omega)]
  by_cases c : 0 < u
  · rw [if_pos c]
    have := L_pos.mp c
    omega
  · rw [if_neg c, Int64.toInt_neg, Int.bmod_eq_of_le (by omega) (by omega)]
    have : ¬ 0 < u.toInt := fun h => c (L_pos.mpr h)
    omega
theorem natAbs_lt {u : Int64} (h : -9223372036854775808 < u.toInt) : u.toInt.natAbs < 2 ^ 63 := by
  have hlt := Int64.toInt_lt u
  omega
set_option maxHeartbeats 4000000 in
set_option maxRecDepth 100000 in
theorem c_X6_partOf (l : Launch) (g : xG) (E : Nat → va_E) {u : Int64} {b : Nat} (q : Int32) (hu9 : -9223372036854775808 < u.toInt) (hb0 : 0 < b) (hb : b < 2 ^ 63) : Met l yX6_partOf wsX6_partOf ({ frames := 1, cells := 0, slots := 0, locals := 40 }) (xPc g [.long u, .long (lN b), .int q] E) (vp_Sl (fun r => r = prt u b q)) 0 0 (fun _ => False) := by
  refine x_met (ws' := _) (by decide) rfl (Nat.le_of_ble_eq_true rfl) ?_
  intro pz ez s m below meth cz ls S hr hlocks hP hK hl
  have hl : lv_has ls 7 [(0, .long u), (2, .long (lN b)), (4, .int q)] := hl
  refine lv_lconst (v := 1) S.1 S.2.1 dX6_partOf_0 rfl ?_
  refine lv_lload_n S.1 S.2.1 dX6_partOf_1 rfl (lv_at hl 0 rfl) ?_
  refine va_mabs_long S.1 S.2.1 (by rw [S.2.2.1]; exact hl.1.symm) S.2.2.2.1 (S.2.2.2.2 (.methodLink RX6 252 Lib.MathLoose.abs_long.x) (by decide +kernel)) (S.2.2.2.2 (.static Lib.MathLoose.abs_long.x) (by decide +kernel)) (S.2.2.2.2 (.initialized "java/lang/Math") (by decide +kernel)) (S.2.2.2.2 (.code Lib.MathLoose.abs_long.x Lib.MathLoose.abs_long.code 2 (some .long)) (by decide +kernel)) (Nat.le_of_ble_eq_true rfl) (Nat.le_of_ble_eq_true rfl) (Nat.le_of_ble_eq_true rfl) (Nat.le_of_ble_eq_true rfl) dX6_partOf_2 ?_
  refine lv_lload_n S.1 S.2.1 dX6_partOf_5 rfl (lv_at hl 1 rfl) ?_
  refine W.eq (g2 := F0 m 6 ls [.long (lN b), .long (lN u.toInt.natAbs), .long 1]) (by rw [abL_lN hu9]) ?_
  refine x_sl (va_runS (As := [.long (lN u.toInt.natAbs), .long (lN b)]) (rest := [.long 1]) S (c_X6_commonDivisor l g E (natAbs_lt hu9) hb) (va_cwS 2 S.2.2.2.2 gX6_partOf_X6_commonDivisor rfl rfl rfl (by decide +kernel) ⟨Nat.le_of_ble_eq_true rfl, Nat.le_of_ble_eq_true rfl⟩) (x_preS hK hP) rfl rfl hl.1 rfl (lv_room (Nat.le_of_ble_eq_true rfl)) dX6_partOf_6 ⟨Nat.le_of_ble_eq_true rfl, Nat.le_of_ble_eq_true rfl⟩) (fun r6 hr6 => ?_)
  have hd0 : 0 < Nat.gcd u.toInt.natAbs b := Nat.gcd_pos_of_pos_right _ hb0
  have hd1 : Nat.gcd u.toInt.natAbs b ≤ b := Nat.gcd_le_right _ hb0
  subst hr6
  refine va_mmax_long S.1 S.2.1 (by rw [S.2.2.1]; exact hl.1.symm) S.2.2.2.1 (S.2.2.2.2 (.methodLink RX6 260 Lib.MathLoose.max_long.x) (by decide +kernel)) (S.2.2.2.2 (.static Lib.MathLoose.max_long.x) (by decide +kernel)) (S.2.2.2.2 (.initialized "java/lang/Math") (by decide +kernel)) (S.2.2.2.2 (.code Lib.MathLoose.max_long.x Lib.MathLoose.max_long.code 4 (some .long)) (by decide +kernel)) (Nat.le_of_ble_eq_true rfl) (Nat.le_of_ble_eq_true rfl) (Nat.le_of_ble_eq_true rfl) (Nat.le_of_ble_eq_true rfl) dX6_partOf_9 ?_
  refine W.eq (g2 := F0 m 12 ls [.long (lN (Nat.gcd u.toInt.natAbs b))]) (by rw [if_neg (fun h => by rw [show (1 : Int64) = lN 1 from rfl, pk_lLT (by omega) (by omega)] at h; omega)]) ?_
  refine lv_lstore (lv' := [(5, .long (lN (Nat.gcd u.toInt.natAbs b))), (0, .long u), (2, .long (lN b)), (4, .int q)]) S.1 S.2.1 dX6_partOf_12 hl (by decide) rfl (fun ls hl => ?_)
  refine lv_iload S.1 S.2.1 dX6_partOf_14 (lv_at hl 3 rfl) ?_
  refine lv_if_ne (tgt := 30) S.1 S.2.1 dX6_partOf_16 (by decide) (fun c16 => ?_) (fun c16 => ?_)
  · skip
    refine lv_lload_n S.1 S.2.1 dX6_partOf_30 rfl (lv_at hl 2 rfl) ?_
    refine lv_lload S.1 S.2.1 dX6_partOf_31 (lv_at hl 0 rfl) ?_
    refine lv_ldiv S.1 S.2.1 dX6_partOf_33 (fun h => by rw [← lN_0, pk_lEQ (by omega) (by decide)] at h; omega) ?_
    exact x_lretR S hr hlocks dX6_partOf_34 (by unfold prt; first | rw [if_pos c16] | rw [if_neg c16])
  · skip
    refine lv_lload_n S.1 S.2.1 dX6_partOf_19 rfl (lv_at hl 1 rfl) ?_
    refine lv_lload S.1 S.2.1 dX6_partOf_20 (lv_at hl 0 rfl) ?_
    refine lv_ldiv S.1 S.2.1 dX6_partOf_22 (fun h => by rw [← lN_0, pk_lEQ (by omega) (by decide)] at h; omega) ?_
    refine lv_ldc2 S.1 S.2.1 S.2.2.2.1 (S.2.2.2.2 (.constantLong RX6 262 10000000000) (by decide +kernel)) dX6_partOf_23 ?_
    refine lv_ladd S.1 S.2.1 dX6_partOf_26 ?_
    refine lv_goto (tgt := 34) S.1 S.2.1 dX6_partOf_27 (by decide) ?_
    exact x_lretR S hr hlocks dX6_partOf_34 (by unfold prt; first | rw [if_pos c16] | rw [if_neg c16])
