/-! TEXTS: the reading of a photo out of characters f 0 .. f (tl - 1) -/
def pas (f : Nat → Int32) (tl : Nat) (c : Int32) (p : Nat) : Bool × Nat := if p < tl ∧ f p = c then (true, p + 1) else (false, p)
def dig (f : Nat → Int32) (tl p : Nat) : Prop := p < tl ∧ 48 ≤ f p ∧ f p ≤ 57
def digB (f : Nat → Int32) (tl p : Nat) : Bool := decide (p < tl ∧ 48 ≤ f p ∧ f p ≤ 57)
theorem digB_iff {f : Nat → Int32} {tl p : Nat} : digB f tl p = true ↔ dig f tl p := by
  unfold digB dig
  rw [decide_eq_true_eq]
def dgs (f : Nat → Int32) (tl : Nat) : Nat → Nat → Int32 → Nat × Int32
  | 0, p, v => (p, v)
  | d + 1, p, v => if v = 0 then (p, v) else if digB f tl p then dgs f tl d (p + 1) (10 * v + (f p - 48)) else (p, v)
theorem dgs_step {f : Nat → Int32} {tl d p : Nat} {v : Int32} : dgs f tl (d + 1) p v = if v = 0 then (p, v) else if digB f tl p then dgs f tl d (p + 1) (10 * v + (f p - 48)) else (p, v) := rfl
/-- behind a sign: neg tells that there was one -/
def numB (f : Nat → Int32) (tl : Nat) (neg : Bool) (p : Nat) : Bool × Nat × Int32 := if digB f tl p then (if neg && decide (f p = 48) then (false, p, 0) else (true, (dgs f tl 2 (p + 1) (f p - 48)).1, if neg then -(dgs f tl 2 (p + 1) (f p - 48)).2 else (dgs f tl 2 (p + 1) (f p - 48)).2)) else (false, p, 0)
def num (f : Nat → Int32) (tl : Nat) (sg : Bool) (p : Nat) : Bool × Nat × Int32 := if sg then numB f tl (pas f tl 45 p).1 (pas f tl 45 p).2 else numB f tl false p
theorem pas_le {f : Nat → Int32} {tl : Nat} {c : Int32} {p : Nat} (h : p ≤ tl) : (pas f tl c p).2 ≤ tl := by
  unfold pas
  split <;> simp <;> omega
theorem dgs_le {f : Nat → Int32} {tl : Nat} : ∀ (d p : Nat) (v : Int32), p ≤ tl → (dgs f tl d p v).1 ≤ tl
  | 0, p, v, h => h
  | d + 1, p, v, h => by
    rw [dgs_step]
    split
    · exact h
    · split
      · rename_i h2
        have := (digB_iff.mp h2).1
        exact dgs_le d (p + 1) _ (by omega)
      · exact h
theorem numB_le {f : Nat → Int32} {tl : Nat} {neg : Bool} {p : Nat} (h : p ≤ tl) : (numB f tl neg p).2.1 ≤ tl := by
  unfold numB
  split
  · rename_i h2
    have := (digB_iff.mp h2).1
    split
    · exact h
    · exact dgs_le 2 (p + 1) _ (by omega)
  · exact h
theorem num_le {f : Nat → Int32} {tl : Nat} {sg : Bool} {p : Nat} (h : p ≤ tl) : (num f tl sg p).2.1 ≤ tl := by
  unfold num
  split
  · exact numB_le (pas_le h)
  · exact numB_le h
/-- a place: time, x, y, error -/
def plB (f : Nat → Int32) (tl : Nat) : Bool × Nat × Int32 × Int32 × Int32 × Int32 :=
  let a := num f tl false 0
  if !a.1 then (false, a.2.1, 0, 0, 0, 0) else
  let b := pas f tl 58 a.2.1
  if !b.1 then (false, b.2, 0, 0, 0, 0) else
  let c := num f tl true b.2
  if !c.1 then (false, c.2.1, 0, 0, 0, 0) else
  let d := pas f tl 44 c.2.1
  if !d.1 then (false, d.2, 0, 0, 0, 0) else
  let e := num f tl true d.2
  if !e.1 then (false, e.2.1, 0, 0, 0, 0) else
  let g := pas f tl 44 e.2.1
  if !g.1 then (false, g.2, 0, 0, 0, 0) else
  let h := num f tl false g.2
  if !h.1 then (false, h.2.1, 0, 0, 0, 0) else (true, h.2.1, a.2.2, c.2.2, e.2.2, h.2.2)
/-- the whole: whether it is right; where the fault is; whether it tells an angle; the angle and its error -/
def prs (f : Nat → Int32) (tl : Nat) : Bool × Nat × Bool × Int32 × Int32 :=
  let a := plB f tl
  if !a.1 then (false, a.2.1, false, 360, 0) else
  if a.2.1 = tl then (true, a.2.1, false, 360, 0) else
  let b := pas f tl 64 a.2.1
  if !b.1 then (false, b.2, false, 360, 0) else
  let c := num f tl false b.2
  if !c.1 then (false, c.2.1, true, 360, 0) else
  let d := pas f tl 44 c.2.1
  if !d.1 then (false, d.2, true, c.2.2, 0) else
  let e := num f tl false d.2
  if !e.1 then (false, e.2.1, true, c.2.2, 0) else
  if e.2.1 = tl then (true, e.2.1, true, c.2.2, e.2.2) else (false, e.2.1, true, c.2.2, e.2.2)
/-! TEXT: the class's reading at the places 57, 58, 59 -/
set_option maxHeartbeats 4000000 in
set_option maxRecDepth 100000 in
theorem c_X4_isDigit (l : Launch) (g : xG) (E : Nat → va_E) {tl p : Nat} {ta : Int32} {f : Nat → Int32} (h57 : E 57 = .inr (4, [.ref (xad g 58), .int (nI tl), .int (nI p), .int ta])) (h58 : E 58 = .inl (xC g, 60, .inl f)) (htl : tl ≤ 60) (hp : p ≤ tl) : Met l yX4_isDigit wsX4_isDigit ({ frames := 0, cells := 0, slots := 0, locals := 0 }) (xPc g [.ref (xad g 57)] E) (vp_Si (xb (dig f tl p))) 0 0 (fun _ => False) := by
  refine x_met (ws' := _) (by decide) rfl (Nat.le_of_ble_eq_true rfl) ?_
  intro pz ez s m below meth cz ls S hr hlocks hP hK hl
  have hl : lv_has ls 1 [(0, .ref (xad g 57))] := hl
  have hin4 : ∀ w ∈ u_ws RX4 TX4 4, w ∈ wsX4_isDigit := by decide +kernel
  have fl9 : Cond.fieldLink RX4 9 "DiscArcs$Text" "characters" "[C" ∈ wsX4_isDigit := by decide +kernel
  have fl15 : Cond.fieldLink RX4 15 "DiscArcs$Text" "length" "I" ∈ wsX4_isDigit := by decide +kernel
  have fl19 : Cond.fieldLink RX4 19 "DiscArcs$Text" "position" "I" ∈ wsX4_isDigit := by decide +kernel
  refine lv_aload_n S.1 S.2.1 dX4_isDigit_0 rfl (lv_at hl 0 rfl) ?_
  refine x_get S hK hP dX4_isDigit_1 h57 (by decide) (RX4, TX4, 4) rfl hin4 2 (by decide) fl19 rfl ?_
  refine lv_aload_n S.1 S.2.1 dX4_isDigit_4 rfl (lv_at hl 0 rfl) ?_
  refine x_get S hK hP dX4_isDigit_5 h57 (by decide) (RX4, TX4, 4) rfl hin4 1 (by decide) fl15 rfl ?_
  refine lv_icmp_ge (tgt := 43) S.1 S.2.1 dX4_isDigit_8 (by decide) (fun c8 => ?_) (fun c8 => ?_)
  · skip
    refine lv_iconst (v := 0) S.1 S.2.1 dX4_isDigit_43 (by decide) ?_
    exact x_zretR S hr hlocks dX4_isDigit_44 (xb.zero (fun h => by first | exact absurd c36 (Int32.not_lt.mpr h.2.2) | exact absurd c22 (Int32.not_lt.mpr h.2.1) | exact absurd ((nI_leI (by omega) (by omega)).mp c8) (by have := h.1; omega)))
  · skip
    have hpt : p < tl := Nat.not_le.mp (fun h => c8 ((nI_leI (by omega) (by omega)).mpr h))
    refine lv_aload_n S.1 S.2.1 dX4_isDigit_11 rfl (lv_at hl 0 rfl) ?_
    refine x_get S hK hP dX4_isDigit_12 h57 (by decide) (RX4, TX4, 4) rfl hin4 0 (by decide) fl9 rfl ?_
    refine lv_aload_n S.1 S.2.1 dX4_isDigit_15 rfl (lv_at hl 0 rfl) ?_
    refine x_get S hK hP dX4_isDigit_16 h57 (by decide) (RX4, TX4, 4) rfl hin4 2 (by decide) fl19 rfl ?_
    refine x_cald S hK hP dX4_isDigit_19 h58 (by decide) (j := p) rfl (by omega) (by decide) ?_
    refine lv_bipush (v := 48) S.1 S.2.1 dX4_isDigit_20 (by decide) ?_
    refine lv_icmp_lt (tgt := 43) S.1 S.2.1 dX4_isDigit_22 (by decide) (fun c22 => ?_) (fun c22 => ?_)
    · skip
      refine lv_iconst (v := 0) S.1 S.2.1 dX4_isDigit_43 (by decide) ?_
      exact x_zretR S hr hlocks dX4_isDigit_44 (xb.zero (fun h => by first | exact absurd c36 (Int32.not_lt.mpr h.2.2) | exact absurd c22 (Int32.not_lt.mpr h.2.1) | exact absurd ((nI_leI (by omega) (by omega)).mp c8) (by have := h.1; omega)))
    · skip
      refine lv_aload_n S.1 S.2.1 dX4_isDigit_25 rfl (lv_at hl 0 rfl) ?_
      refine x_get S hK hP dX4_isDigit_26 h57 (by decide) (RX4, TX4, 4) rfl hin4 0 (by decide) fl9 rfl ?_
      refine lv_aload_n S.1 S.2.1 dX4_isDigit_29 rfl (lv_at hl 0 rfl) ?_
      refine x_get S hK hP dX4_isDigit_30 h57 (by decide) (RX4, TX4, 4) rfl hin4 2 (by decide) fl19 rfl ?_
      refine x_cald S hK hP dX4_isDigit_33 h58 (by decide) (j := p) rfl (by omega) (by decide) ?_
      refine lv_bipush (v := 57) S.1 S.2.1 dX4_isDigit_34 (by decide) ?_
      refine lv_icmp_gt (tgt := 43) S.1 S.2.1 dX4_isDigit_36 (by decide) (fun c36 => ?_) (fun c36 => ?_)
      · skip
        refine lv_iconst (v := 0) S.1 S.2.1 dX4_isDigit_43 (by decide) ?_
        exact x_zretR S hr hlocks dX4_isDigit_44 (xb.zero (fun h => by first | exact absurd c36 (Int32.not_lt.mpr h.2.2) | exact absurd c22 (Int32.not_lt.mpr h.2.1) | exact absurd ((nI_leI (by omega) (by omega)).mp c8) (by have := h.1; omega)))
      · skip
        refine lv_iconst (v := 1) S.1 S.2.1 dX4_isDigit_39 (by decide) ?_
        refine lv_goto (tgt := 44) S.1 S.2.1 dX4_isDigit_40 (by decide) ?_
        exact x_zretR S hr hlocks dX4_isDigit_44 (xb.one ⟨hpt, Int32.not_lt.mp c22, Int32.not_lt.mp c36⟩)
set_option maxHeartbeats 4000000 in
set_option maxRecDepth 100000 in
theorem c_X4_pass (l : Launch) (g : xG) (hJ : xJ (xad g)) (E : Nat → va_E) {tl p : Nat} {ta : Int32} {f : Nat → Int32} (h57 : E 57 = .inr (4, [.ref (xad g 58), .int (nI tl), .int (nI p), .int ta])) (h58 : E 58 = .inl (xC g, 60, .inl f)) (htl : tl ≤ 60) (hp : p ≤ tl) (c9 : Int32) : Met l yX4_pass wsX4_pass ({ frames := 0, cells := 0, slots := 0, locals := 0 }) (xPc g [.ref (xad g 57), .int c9] E) (xQi g (fun r E1 => xb ((pas f tl c9 p).1 = true) r ∧ xU E 57 (.inr (4, [.ref (xad g 58), .int (nI tl), .int (nI (pas f tl c9 p).2), .int ta])) E1)) 0 0 (xA (xad g)) := by
  refine x_met (ws' := _) (by decide) rfl (Nat.le_of_ble_eq_true rfl) ?_
  intro pz ez s m below meth cz ls S hr hlocks hP hK hl
  have hl : lv_has ls 2 [(0, .ref (xad g 57)), (1, .int c9)] := hl
  have hS : va_S (xA (xad g)) s.heap s.heap [] := va_S.rf
  have hin4 : ∀ w ∈ u_ws RX4 TX4 4, w ∈ wsX4_pass := by decide +kernel
  have fl9 : Cond.fieldLink RX4 9 "DiscArcs$Text" "characters" "[C" ∈ wsX4_pass := by decide +kernel
  have fl15 : Cond.fieldLink RX4 15 "DiscArcs$Text" "length" "I" ∈ wsX4_pass := by decide +kernel
  have fl19 : Cond.fieldLink RX4 19 "DiscArcs$Text" "position" "I" ∈ wsX4_pass := by decide +kernel
  have hfr : ∀ j, j ≠ 57 → E j = E j := fun _ _ => rfl
  refine lv_aload_n S.1 S.2.1 dX4_pass_0 rfl (lv_at hl 0 rfl) ?_
  refine x_get S hK hP dX4_pass_1 h57 (by decide) (RX4, TX4, 4) rfl hin4 2 (by decide) fl19 rfl ?_
  refine lv_aload_n S.1 S.2.1 dX4_pass_4 rfl (lv_at hl 0 rfl) ?_
  refine x_get S hK hP dX4_pass_5 h57 (by decide) (RX4, TX4, 4) rfl hin4 1 (by decide) fl15 rfl ?_
  refine lv_icmp_ge (tgt := 24) S.1 S.2.1 dX4_pass_8 (by decide) (fun c8 => ?_) (fun c8 => ?_)
  · skip
    refine lv_iconst (v := 0) S.1 S.2.1 dX4_pass_24 (by decide) ?_
    exact x_zret S hr hlocks hP hS dX4_pass_25 rfl (by have hn : pas f tl c9 p = (false, p) := if_neg (fun h => by first | exact c21 h.2 | exact absurd ((nI_leI (by omega) (by omega)).mp c8) (by have := h.1; omega)); rw [hn]; exact ⟨xb.zero (by simp), h57, hfr⟩)
  · skip
    have hpt : p < tl := Nat.not_le.mp (fun h => c8 ((nI_leI (by omega) (by omega)).mpr h))
    refine lv_aload_n S.1 S.2.1 dX4_pass_11 rfl (lv_at hl 0 rfl) ?_
    refine x_get S hK hP dX4_pass_12 h57 (by decide) (RX4, TX4, 4) rfl hin4 0 (by decide) fl9 rfl ?_
    refine lv_aload_n S.1 S.2.1 dX4_pass_15 rfl (lv_at hl 0 rfl) ?_
    refine x_get S hK hP dX4_pass_16 h57 (by decide) (RX4, TX4, 4) rfl hin4 2 (by decide) fl19 rfl ?_
    refine x_cald S hK hP dX4_pass_19 h58 (by decide) (j := p) rfl (by omega) (by decide) ?_
    refine lv_iload_n S.1 S.2.1 dX4_pass_20 rfl (lv_at hl 1 rfl) ?_
    refine lv_icmp_eq (tgt := 26) S.1 S.2.1 dX4_pass_21 (by decide) (fun c21 => ?_) (fun c21 => ?_)
    · skip
      refine lv_aload_n S.1 S.2.1 dX4_pass_26 rfl (lv_at hl 0 rfl) ?_
      refine lv_dup S.1 S.2.1 dX4_pass_27 rfl ?_
      refine x_get S hK hP dX4_pass_28 h57 (by decide) (RX4, TX4, 4) rfl hin4 2 (by decide) fl19 rfl ?_
      refine lv_iconst (v := 1) S.1 S.2.1 dX4_pass_31 (by decide) ?_
      refine lv_iadd S.1 S.2.1 dX4_pass_32 ?_
      refine x_put S hK hJ hP hS dX4_pass_33 h57 (by decide) (RX4, TX4, 4) rfl hin4 tyX4 tyX4_ok nmX4 2 (by decide) fl19 rfl rfl rfl (Nat.le_of_ble_eq_true rfl) (fun H locs E1 hu hP hS => ?_)
      have h57 : E1 57 = .inr (4, [.ref (xad g 58), .int (nI tl), .int ((nI p) + 1), .int ta]) := hu.1
      have h58 : E1 58 = .inl (xC g, 60, .inl f) := (hu.2 _ (by omega)).trans h58
      have hfr : ∀ j, j ≠ 57 → E1 j = E j := fun j hj => (hu.2 j (by omega)).trans (hfr j hj)
      refine lv_iconst (v := 1) S.1 S.2.1 dX4_pass_36 (by decide) ?_
      exact x_zret S hr hlocks hP hS dX4_pass_37 rfl (by have hn : pas f tl c9 p = (true, p + 1) := if_pos ⟨hpt, c21⟩; rw [hn]; exact ⟨xb.one rfl, h57.trans (by rw [← nI_1]), hfr⟩)
    · skip
      refine lv_iconst (v := 0) S.1 S.2.1 dX4_pass_24 (by decide) ?_
      exact x_zret S hr hlocks hP hS dX4_pass_25 rfl (by have hn : pas f tl c9 p = (false, p) := if_neg (fun h => by first | exact c21 h.2 | exact absurd ((nI_leI (by omega) (by omega)).mp c8) (by have := h.1; omega)); rw [hn]; exact ⟨xb.zero (by simp), h57, hfr⟩)
set_option maxHeartbeats 4000000 in
set_option maxRecDepth 100000 in
theorem c_X4_readDigit (l : Launch) (g : xG) (hJ : xJ (xad g)) (E : Nat → va_E) {tl p : Nat} {ta : Int32} {f : Nat → Int32} (h57 : E 57 = .inr (4, [.ref (xad g 58), .int (nI tl), .int (nI p), .int ta])) (h58 : E 58 = .inl (xC g, 60, .inl f)) (htl : tl ≤ 60) (hp : p < tl) : Met l yX4_readDigit wsX4_readDigit ({ frames := 0, cells := 0, slots := 0, locals := 0 }) (xPc g [.ref (xad g 57)] E) (xQi g (fun r E1 => r = f p - 48 ∧ xU E 57 (.inr (4, [.ref (xad g 58), .int (nI tl), .int (nI (p + 1)), .int ta])) E1)) 0 0 (xA (xad g)) := by
  refine x_met (ws' := _) (by decide) rfl (Nat.le_of_ble_eq_true rfl) ?_
  intro pz ez s m below meth cz ls S hr hlocks hP hK hl
  have hl : lv_has ls 2 [(0, .ref (xad g 57))] := hl
  have hS : va_S (xA (xad g)) s.heap s.heap [] := va_S.rf
  have hin4 : ∀ w ∈ u_ws RX4 TX4 4, w ∈ wsX4_readDigit := by decide +kernel
  have fl9 : Cond.fieldLink RX4 9 "DiscArcs$Text" "characters" "[C" ∈ wsX4_readDigit := by decide +kernel
  have fl19 : Cond.fieldLink RX4 19 "DiscArcs$Text" "position" "I" ∈ wsX4_readDigit := by decide +kernel
  have hfr : ∀ j, j ≠ 57 → E j = E j := fun _ _ => rfl
  refine lv_aload_n S.1 S.2.1 dX4_readDigit_0 rfl (lv_at hl 0 rfl) ?_
  refine x_get S hK hP dX4_readDigit_1 h57 (by decide) (RX4, TX4, 4) rfl hin4 0 (by decide) fl9 rfl ?_
  refine lv_aload_n S.1 S.2.1 dX4_readDigit_4 rfl (lv_at hl 0 rfl) ?_
  refine x_get S hK hP dX4_readDigit_5 h57 (by decide) (RX4, TX4, 4) rfl hin4 2 (by decide) fl19 rfl ?_
  refine x_cald S hK hP dX4_readDigit_8 h58 (by decide) (j := p) rfl (by omega) (by decide) ?_
  refine lv_bipush (v := 48) S.1 S.2.1 dX4_readDigit_9 (by decide) ?_
  refine lv_isub S.1 S.2.1 dX4_readDigit_11 ?_
  refine lv_topi (fun x12 ex12 => ?_)
  refine lv_istore_n (lv' := [(1, .int x12), (0, .ref (xad g 57))]) S.1 S.2.1 dX4_readDigit_12 rfl hl (by decide) rfl (fun ls hl => ?_)
  refine lv_aload_n S.1 S.2.1 dX4_readDigit_13 rfl (lv_at hl 1 rfl) ?_
  refine lv_dup S.1 S.2.1 dX4_readDigit_14 rfl ?_
  refine x_get S hK hP dX4_readDigit_15 h57 (by decide) (RX4, TX4, 4) rfl hin4 2 (by decide) fl19 rfl ?_
  refine lv_iconst (v := 1) S.1 S.2.1 dX4_readDigit_18 (by decide) ?_
  refine lv_iadd S.1 S.2.1 dX4_readDigit_19 ?_
  refine x_put S hK hJ hP hS dX4_readDigit_20 h57 (by decide) (RX4, TX4, 4) rfl hin4 tyX4 tyX4_ok nmX4 2 (by decide) fl19 rfl rfl rfl (Nat.le_of_ble_eq_true rfl) (fun H locs E1 hu hP hS => ?_)
  have h57 : E1 57 = .inr (4, [.ref (xad g 58), .int (nI tl), .int ((nI p) + 1), .int ta]) := hu.1
  have h58 : E1 58 = .inl (xC g, 60, .inl f) := (hu.2 _ (by omega)).trans h58
  have hfr : ∀ j, j ≠ 57 → E1 j = E j := fun j hj => (hu.2 j (by omega)).trans (hfr j hj)
  refine lv_iload_n S.1 S.2.1 dX4_readDigit_23 rfl (lv_at hl 0 rfl) ?_
  exact x_iret S hr hlocks hP hS dX4_readDigit_24 (⟨ex12, h57.trans (by rw [← nI_1]), hfr⟩)
set_option maxHeartbeats 4000000 in
set_option maxRecDepth 100000 in
theorem c_X4_readNumber_u (l : Launch) (g : xG) (hJ : xJ (xad g)) (E : Nat → va_E) {tl p : Nat} {ta : Int32} {f : Nat → Int32} (h57 : E 57 = .inr (4, [.ref (xad g 58), .int (nI tl), .int (nI p), .int ta])) (h58 : E 58 = .inl (xC g, 60, .inl f)) (htl : tl ≤ 60) (hp : p ≤ tl) {f6 : Nat → Int32} (h59 : E 59 = .inl (xI g, 6, .inl f6)) {w : Nat} (hw : w < 6) : Met l yX4_readNumber wsX4_readNumber ({ frames := 1, cells := 0, slots := 0, locals := 21 }) (xPc g [.ref (xad g 57), .ref (xad g 59), .int (nI w), .int 0] E) (xQi g (fun r E1 => xb ((num f tl false p).1 = true) r ∧ E1 57 = .inr (4, [.ref (xad g 58), .int (nI tl), .int (nI (num f tl false p).2.1), .int ta]) ∧ (∀ j, j ≠ 57 → j ≠ 59 → E1 j = E j) ∧ ((num f tl false p).1 = true → E1 59 = .inl (xI g, 6, .inl (upd f6 w (num f tl false p).2.2))) ∧ ∃ f7 : Nat → Int32, E1 59 = .inl (xI g, 6, .inl f7))) 0 0 (xA (xad g)) := by
  refine x_met (ws' := _) (by decide) rfl (Nat.le_of_ble_eq_true rfl) ?_
  intro pz ez s m below meth cz ls S hr hlocks hP hK hl
  have hl : lv_has ls 7 [(0, .ref (xad g 57)), (1, .ref (xad g 59)), (2, .int (nI w)), (3, .int 0)] := hl
  have hS : va_S (xA (xad g)) s.heap s.heap [] := va_S.rf
  have hfr : ∀ j, j ≠ 57 ∧ j ≠ 59 → E j = E j := fun _ _ => rfl
  refine lv_iload_n S.1 S.2.1 dX4_readNumber_0 rfl (lv_at hl 3 rfl) ?_
  refine lv_if_eq (tgt := 17) S.1 S.2.1 dX4_readNumber_1 (by decide) (fun c1 => ?_) (fun c1 => ?_)
  · skip
    refine lv_iconst (v := 0) S.1 S.2.1 dX4_readNumber_17 (by decide) ?_
    refine lv_istore (lv' := [(4, .int 0), (0, .ref (xad g 57)), (1, .ref (xad g 59)), (2, .int (nI w)), (3, .int 0)]) S.1 S.2.1 dX4_readNumber_18 hl (by decide) rfl (fun ls hl => ?_)
    have hnum : num f tl false p = numB f tl false p := rfl
    refine lv_aload_n S.1 S.2.1 dX4_readNumber_20 rfl (lv_at hl 1 rfl) ?_
    refine x_si (va_runV (As := []) (rest := []) S (c_X4_isDigit l g E h57 h58 htl hp) (cwV 0 S.2.2.2.2 gX4_readNumber_X4_isDigit rfl rfl rfl (by decide +kernel) ⟨Nat.le_of_ble_eq_true rfl, Nat.le_of_ble_eq_true rfl⟩) (x_preV hK hP h57 (by decide) rfl) rfl rfl hl.1 rfl (lv_room (Nat.le_of_ble_eq_true rfl)) dX4_readNumber_21 ⟨Nat.le_of_ble_eq_true rfl, Nat.le_of_ble_eq_true rfl⟩) (fun r21 hr21 => ?_)
    refine lv_if_eq (tgt := 46) S.1 S.2.1 dX4_readNumber_24 (by decide) (fun c24 => ?_) (fun c24 => ?_)
    · skip
      refine lv_iconst (v := 0) S.1 S.2.1 dX4_readNumber_46 (by decide) ?_
      exact x_zret S hr hlocks hP hS dX4_readNumber_47 rfl (by rw [hnum]; have hn : numB f tl false p = (false, p, 0) := by { unfold numB; first | (rw [if_neg (fun h => hr21.f c24 (digB_iff.mp h))]; done) | (rw [if_pos (digB_iff.mpr hd21), if_pos (by simp [c43])]; done) }; rw [hn]; exact ⟨xb.zero (by simp), h57, fun j h1 h2 => hfr j ⟨h1, h2⟩, fun h => by simp at h, _, h59⟩)
    · skip
      have hd21 := hr21.t c24
      refine lv_iload S.1 S.2.1 dX4_readNumber_27 (lv_at hl 0 rfl) ?_
      refine lv_if_eq (tgt := 48) S.1 S.2.1 dX4_readNumber_29 (by decide) (fun c29 => ?_) (fun c29 => ?_)
      · skip
        refine lv_aload_n S.1 S.2.1 dX4_readNumber_48 rfl (lv_at hl 1 rfl) ?_
        refine x_qi (va_runV (As := []) (rest := []) S (c_X4_readDigit l g hJ E h57 h58 htl hd21.1) (cwV 0 S.2.2.2.2 gX4_readNumber_X4_readDigit rfl rfl rfl (by decide +kernel) ⟨Nat.le_of_ble_eq_true rfl, Nat.le_of_ble_eq_true rfl⟩) (x_preV hK hP h57 (by decide) rfl) rfl rfl hl.1 rfl (lv_room (Nat.le_of_ble_eq_true rfl)) dX4_readNumber_49 ⟨Nat.le_of_ble_eq_true rfl, Nat.le_of_ble_eq_true rfl⟩) hS (fun r49 E1 H locs hq49 hP hS => ?_)
        obtain ⟨hr49, h57, hfr49⟩ := hq49
        have h58 : E1 58 = .inl (xC g, 60, .inl f) := (hfr49 _ (by decide)).trans h58
        have h59 : E1 59 = .inl (xI g, 6, .inl f6) := (hfr49 _ (by decide)).trans h59
        have hfr : ∀ j, j ≠ 57 ∧ j ≠ 59 → E1 j = E j := fun j hj => (hfr49 j hj.1).trans (hfr j hj)
        refine lv_istore (lv' := [(5, .int r49), (4, .int 0), (0, .ref (xad g 57)), (1, .ref (xad g 59)), (2, .int (nI w)), (3, .int 0)]) S.1 S.2.1 dX4_readNumber_52 hl (by decide) rfl (fun ls hl => ?_)
        refine lv_iconst (v := 1) S.1 S.2.1 dX4_readNumber_54 (by decide) ?_
        refine lv_istore (lv' := [(6, .int 1), (5, .int r49), (4, .int 0), (0, .ref (xad g 57)), (1, .ref (xad g 59)), (2, .int (nI w)), (3, .int 0)]) S.1 S.2.1 dX4_readNumber_55 hl (by decide) rfl (fun ls hl => ?_)
        have loop57 : ∀ (d : Nat) (q : Nat) (v : Int32) (i : Nat) (EL : Nat → va_E) (H : Heap) (locs : List Loc), (h1i : 1 ≤ i) → (hi : i ≤ 3) → (hq9 : q ≤ tl) → (hinv : dgs f tl 2 (p + 1) (f p - 48) = dgs f tl (3 - i) q v) → (3 - i) < d → (h57 : EL 57 = .inr (4, [.ref (xad g 58), .int (nI tl), .int (nI q), .int ta])) → (h58 : EL 58 = .inl (xC g, 60, .inl f)) → (h59 : EL 59 = .inl (xI g, 6, .inl f6)) → (hfr : ∀ j, j ≠ 57 ∧ j ≠ 59 → EL j = E j) → xP g EL H → va_S (xA (xad g)) s.heap H locs → ∀ ls : Array Slot, lv_has ls 7 [(6, .int (nI i)), (5, .int v), (4, .int 0), (2, .int (nI w)), (1, .ref (xad g 59)), (0, .ref (xad g 57))] → W pz l ez ({ frames := 1, cells := 0, slots := 0, locals := 21 }) s m ([.ref (xad g 57), .ref (xad g 59), .int (nI w), .int 0] : List Value).toArray below meth cz H locs 0 0 (MQ below (xQi g (fun r E1 => xb ((num f tl false p).1 = true) r ∧ E1 57 = .inr (4, [.ref (xad g 58), .int (nI tl), .int (nI (num f tl false p).2.1), .int ta]) ∧ (∀ j, j ≠ 57 → j ≠ 59 → E1 j = E j) ∧ ((num f tl false p).1 = true → E1 59 = .inl (xI g, 6, .inl (upd f6 w (num f tl false p).2.2))) ∧ ∃ f7 : Nat → Int32, E1 59 = .inl (xI g, 6, .inl f7))) ([.ref (xad g 57), .ref (xad g 59), .int (nI w), .int 0] : List Value).toArray s 0 0 (xA (xad g))) (F0 m 57 ls []) := by
          intro d
          induction d with
          | zero => intro q v i EL H locs h1i hi hq9 hinv hd; exact absurd hd (Nat.not_lt_zero _)
          | succ d ih57 =>
            intro q v i EL H locs h1i hi hq9 hinv hd h57 h58 h59 hfr hP hS ls hl
            refine lv_iload S.1 S.2.1 dX4_readNumber_57 (lv_at hl 0 rfl) ?_
            refine lv_iconst (v := 3) S.1 S.2.1 dX4_readNumber_59 (by decide) ?_
            refine lv_icmp_ge (tgt := 93) S.1 S.2.1 dX4_readNumber_60 (by decide) (fun c60 => ?_) (fun c60 => ?_)
            · skip
              have hdg : dgs f tl 2 (p + 1) (f p - 48) = (q, v) := by
                rw [hinv]
                first
                  | (rw [show 3 - i = 0 by have := (nI_leI (a := 3) (b := i) (by omega) (by omega)).mp c60; omega]; rfl)
                  | (rw [show 3 - i = (3 - i - 1) + 1 by have := Nat.not_le.mp (fun h => c60 ((nI_leI (a := 3) (b := i) (by omega) (by omega)).mpr h)); omega]; rw [dgs_step]; first | (rw [if_pos c65]; done) | (rw [if_neg c65, if_neg (fun h => hr69.f c72 (digB_iff.mp h))]; done))
              refine lv_aload_n S.1 S.2.1 dX4_readNumber_93 rfl (lv_at hl 4 rfl) ?_
              refine lv_iload_n S.1 S.2.1 dX4_readNumber_94 rfl (lv_at hl 3 rfl) ?_
              refine lv_iload S.1 S.2.1 dX4_readNumber_95 (lv_at hl 2 rfl) ?_
              refine lv_if_eq (tgt := 106) S.1 S.2.1 dX4_readNumber_97 (by decide) (fun c97 => ?_) (fun c97 => ?_)
              · skip
                refine lv_iload S.1 S.2.1 dX4_readNumber_106 (lv_at hl 1 rfl) ?_
                refine x_iast S hK hJ hP hS dX4_readNumber_108 h59 (by decide) (j := w) rfl (by omega) (by decide) (fun H locs E1_1 hu hP hS => ?_)
                have h57 : E1_1 57 = .inr (4, [.ref (xad g 58), .int (nI tl), .int (nI q), .int ta]) := (hu.2 _ (by omega)).trans h57
                have h58 : E1_1 58 = .inl (xC g, 60, .inl f) := (hu.2 _ (by omega)).trans h58
                have h59 : E1_1 59 = .inl (xI g, 6, .inl (upd f6 w v)) := hu.1
                have hfr : ∀ j, j ≠ 57 ∧ j ≠ 59 → E1_1 j = E j := fun j hj => (hu.2 j (by omega)).trans (hfr j hj)
                refine lv_iconst (v := 1) S.1 S.2.1 dX4_readNumber_109 (by decide) ?_
                exact x_zret S hr hlocks hP hS dX4_readNumber_110 rfl (by rw [hnum]; have hn : numB f tl false p = (true, q, v) := by { unfold numB; rw [if_pos (digB_iff.mpr hd21), if_neg (by simp), hdg]; rfl }; rw [hn]; exact ⟨xb.one rfl, h57, fun j h1 h2 => hfr j ⟨h1, h2⟩, fun _ => h59, _, h59⟩)
              · skip
                exact absurd rfl c97
            · skip
              have hi3 : i < 3 := Nat.not_le.mp (fun h => c60 ((nI_leI (a := 3) (b := i) (by omega) (by omega)).mpr h))
              refine lv_iload S.1 S.2.1 dX4_readNumber_63 (lv_at hl 1 rfl) ?_
              refine lv_if_eq (tgt := 93) S.1 S.2.1 dX4_readNumber_65 (by decide) (fun c65 => ?_) (fun c65 => ?_)
              · skip
                have hdg : dgs f tl 2 (p + 1) (f p - 48) = (q, v) := by
                  rw [hinv]
                  first
                    | (rw [show 3 - i = 0 by have := (nI_leI (a := 3) (b := i) (by omega) (by omega)).mp c60; omega]; rfl)
                    | (rw [show 3 - i = (3 - i - 1) + 1 by have := Nat.not_le.mp (fun h => c60 ((nI_leI (a := 3) (b := i) (by omega) (by omega)).mpr h)); omega]; rw [dgs_step]; first | (rw [if_pos c65]; done) | (rw [if_neg c65, if_neg (fun h => hr69.f c72 (digB_iff.mp h))]; done))
                refine lv_aload_n S.1 S.2.1 dX4_readNumber_93 rfl (lv_at hl 4 rfl) ?_
                refine lv_iload_n S.1 S.2.1 dX4_readNumber_94 rfl (lv_at hl 3 rfl) ?_
                refine lv_iload S.1 S.2.1 dX4_readNumber_95 (lv_at hl 2 rfl) ?_
                refine lv_if_eq (tgt := 106) S.1 S.2.1 dX4_readNumber_97 (by decide) (fun c97 => ?_) (fun c97 => ?_)
                · skip
                  refine lv_iload S.1 S.2.1 dX4_readNumber_106 (lv_at hl 1 rfl) ?_
                  refine x_iast S hK hJ hP hS dX4_readNumber_108 h59 (by decide) (j := w) rfl (by omega) (by decide) (fun H locs E1_2 hu hP hS => ?_)
                  have h57 : E1_2 57 = .inr (4, [.ref (xad g 58), .int (nI tl), .int (nI q), .int ta]) := (hu.2 _ (by omega)).trans h57
                  have h58 : E1_2 58 = .inl (xC g, 60, .inl f) := (hu.2 _ (by omega)).trans h58
                  have h59 : E1_2 59 = .inl (xI g, 6, .inl (upd f6 w v)) := hu.1
                  have hfr : ∀ j, j ≠ 57 ∧ j ≠ 59 → E1_2 j = E j := fun j hj => (hu.2 j (by omega)).trans (hfr j hj)
                  refine lv_iconst (v := 1) S.1 S.2.1 dX4_readNumber_109 (by decide) ?_
                  exact x_zret S hr hlocks hP hS dX4_readNumber_110 rfl (by rw [hnum]; have hn : numB f tl false p = (true, q, v) := by { unfold numB; rw [if_pos (digB_iff.mpr hd21), if_neg (by simp), hdg]; rfl }; rw [hn]; exact ⟨xb.one rfl, h57, fun j h1 h2 => hfr j ⟨h1, h2⟩, fun _ => h59, _, h59⟩)
                · skip
                  exact absurd rfl c97
              · skip
                refine lv_aload_n S.1 S.2.1 dX4_readNumber_68 rfl (lv_at hl 5 rfl) ?_
                refine x_si (va_runV (As := []) (rest := []) S (c_X4_isDigit l g EL h57 h58 htl hq9) (cwV 0 S.2.2.2.2 gX4_readNumber_X4_isDigit rfl rfl rfl (by decide +kernel) ⟨Nat.le_of_ble_eq_true rfl, Nat.le_of_ble_eq_true rfl⟩) (x_preV hK hP h57 (by decide) rfl) rfl rfl hl.1 rfl (lv_room (Nat.le_of_ble_eq_true rfl)) dX4_readNumber_69 ⟨Nat.le_of_ble_eq_true rfl, Nat.le_of_ble_eq_true rfl⟩) (fun r69 hr69 => ?_)
                refine lv_if_eq (tgt := 93) S.1 S.2.1 dX4_readNumber_72 (by decide) (fun c72 => ?_) (fun c72 => ?_)
                · skip
                  have hdg : dgs f tl 2 (p + 1) (f p - 48) = (q, v) := by
                    rw [hinv]
                    first
                      | (rw [show 3 - i = 0 by have := (nI_leI (a := 3) (b := i) (by omega) (by omega)).mp c60; omega]; rfl)
                      | (rw [show 3 - i = (3 - i - 1) + 1 by have := Nat.not_le.mp (fun h => c60 ((nI_leI (a := 3) (b := i) (by omega) (by omega)).mpr h)); omega]; rw [dgs_step]; first | (rw [if_pos c65]; done) | (rw [if_neg c65, if_neg (fun h => hr69.f c72 (digB_iff.mp h))]; done))
                  refine lv_aload_n S.1 S.2.1 dX4_readNumber_93 rfl (lv_at hl 4 rfl) ?_
                  refine lv_iload_n S.1 S.2.1 dX4_readNumber_94 rfl (lv_at hl 3 rfl) ?_
                  refine lv_iload S.1 S.2.1 dX4_readNumber_95 (lv_at hl 2 rfl) ?_
                  refine lv_if_eq (tgt := 106) S.1 S.2.1 dX4_readNumber_97 (by decide) (fun c97 => ?_) (fun c97 => ?_)
                  · skip
                    refine lv_iload S.1 S.2.1 dX4_readNumber_106 (lv_at hl 1 rfl) ?_
                    refine x_iast S hK hJ hP hS dX4_readNumber_108 h59 (by decide) (j := w) rfl (by omega) (by decide) (fun H locs E1_3 hu hP hS => ?_)
                    have h57 : E1_3 57 = .inr (4, [.ref (xad g 58), .int (nI tl), .int (nI q), .int ta]) := (hu.2 _ (by omega)).trans h57
                    have h58 : E1_3 58 = .inl (xC g, 60, .inl f) := (hu.2 _ (by omega)).trans h58
                    have h59 : E1_3 59 = .inl (xI g, 6, .inl (upd f6 w v)) := hu.1
                    have hfr : ∀ j, j ≠ 57 ∧ j ≠ 59 → E1_3 j = E j := fun j hj => (hu.2 j (by omega)).trans (hfr j hj)
                    refine lv_iconst (v := 1) S.1 S.2.1 dX4_readNumber_109 (by decide) ?_
                    exact x_zret S hr hlocks hP hS dX4_readNumber_110 rfl (by rw [hnum]; have hn : numB f tl false p = (true, q, v) := by { unfold numB; rw [if_pos (digB_iff.mpr hd21), if_neg (by simp), hdg]; rfl }; rw [hn]; exact ⟨xb.one rfl, h57, fun j h1 h2 => hfr j ⟨h1, h2⟩, fun _ => h59, _, h59⟩)
                  · skip
                    exact absurd rfl c97
                · skip
                  have hd69 := hr69.t c72
                  refine lv_bipush (v := 10) S.1 S.2.1 dX4_readNumber_75 (by decide) ?_
                  refine lv_iload S.1 S.2.1 dX4_readNumber_77 (lv_at hl 1 rfl) ?_
                  refine lv_imul S.1 S.2.1 dX4_readNumber_79 ?_
                  refine lv_aload_n S.1 S.2.1 dX4_readNumber_80 rfl (lv_at hl 5 rfl) ?_
                  refine x_qi (va_runV (As := []) (rest := [.int (10 * v)]) S (c_X4_readDigit l g hJ EL h57 h58 htl hd69.1) (cwV 0 S.2.2.2.2 gX4_readNumber_X4_readDigit rfl rfl rfl (by decide +kernel) ⟨Nat.le_of_ble_eq_true rfl, Nat.le_of_ble_eq_true rfl⟩) (x_preV hK hP h57 (by decide) rfl) rfl rfl hl.1 rfl (lv_room (Nat.le_of_ble_eq_true rfl)) dX4_readNumber_81 ⟨Nat.le_of_ble_eq_true rfl, Nat.le_of_ble_eq_true rfl⟩) hS (fun r81 E1_4 H locs hq81 hP hS => ?_)
                  obtain ⟨hr81, h57, hfr81⟩ := hq81
                  have h58 : E1_4 58 = .inl (xC g, 60, .inl f) := (hfr81 _ (by decide)).trans h58
                  have h59 : E1_4 59 = .inl (xI g, 6, .inl f6) := (hfr81 _ (by decide)).trans h59
                  have hfr : ∀ j, j ≠ 57 ∧ j ≠ 59 → E1_4 j = E j := fun j hj => (hfr81 j hj.1).trans (hfr j hj)
                  refine lv_iadd S.1 S.2.1 dX4_readNumber_84 ?_
                  refine lv_topi (fun x85 ex85 => ?_)
                  refine lv_istore (lv' := [(5, .int x85), (6, .int (nI i)), (4, .int 0), (2, .int (nI w)), (1, .ref (xad g 59)), (0, .ref (xad g 57))]) S.1 S.2.1 dX4_readNumber_85 hl (by decide) rfl (fun ls hl => ?_)
                  refine lv_iinc (v := nI (i + 1)) (lv' := [(6, .int (nI (i + 1))), (5, .int x85), (4, .int 0), (2, .int (nI w)), (1, .ref (xad g 59)), (0, .ref (xad g 57))]) S.1 S.2.1 dX4_readNumber_87 hl (k := 1) rfl (show nI i + Int32.ofInt 1 = _ from nI_1 _) (by decide) rfl (fun ls hl => ?_)
                  refine lv_goto (tgt := 57) S.1 S.2.1 dX4_readNumber_90 (by decide) ?_
                  exact ih57 (q + 1) x85 (i + 1) _ _ _ (by omega) (by omega) (by have := hd69.1; omega) (by rw [hinv, show 3 - i = (3 - (i + 1)) + 1 by have := Nat.not_le.mp (fun h => c60 ((nI_leI (a := 3) (b := i) (by omega) (by omega)).mpr h)); omega]; rw [dgs_step, if_neg c65, if_pos (digB_iff.mpr hd69), ex85, hr81]) (by omega) h57 h58 h59 hfr hP hS ls (lv_sub hl [0, 1, 2, 3, 4, 5] rfl)
        exact loop57 _ (p + 1) r49 1 _ _ _ (Nat.le_refl _) (by decide) (by have := hd21.1; omega) (by rw [hr49]) (Nat.lt_succ_self _) h57 h58 h59 hfr hP hS ls (lv_sub hl [0, 1, 2, 5, 4, 3] rfl)
      · skip
        exact absurd rfl c29
  · skip
    exact absurd rfl c1
set_option maxHeartbeats 4000000 in
set_option maxRecDepth 100000 in
theorem c_X4_readNumber_s (l : Launch) (g : xG) (hJ : xJ (xad g)) (E : Nat → va_E) {tl p : Nat} {ta : Int32} {f : Nat → Int32} (h57 : E 57 = .inr (4, [.ref (xad g 58), .int (nI tl), .int (nI p), .int ta])) (h58 : E 58 = .inl (xC g, 60, .inl f)) (htl : tl ≤ 60) (hp : p ≤ tl) {f6 : Nat → Int32} (h59 : E 59 = .inl (xI g, 6, .inl f6)) {w : Nat} (hw : w < 6) : Met l yX4_readNumber wsX4_readNumber ({ frames := 1, cells := 0, slots := 0, locals := 21 }) (xPc g [.ref (xad g 57), .ref (xad g 59), .int (nI w), .int 1] E) (xQi g (fun r E1 => xb ((num f tl true p).1 = true) r ∧ E1 57 = .inr (4, [.ref (xad g 58), .int (nI tl), .int (nI (num f tl true p).2.1), .int ta]) ∧ (∀ j, j ≠ 57 → j ≠ 59 → E1 j = E j) ∧ ((num f tl true p).1 = true → E1 59 = .inl (xI g, 6, .inl (upd f6 w (num f tl true p).2.2))) ∧ ∃ f7 : Nat → Int32, E1 59 = .inl (xI g, 6, .inl f7))) 0 0 (xA (xad g)) := by
  refine x_met (ws' := _) (by decide) rfl (Nat.le_of_ble_eq_true rfl) ?_
  intro pz ez s m below meth cz ls S hr hlocks hP hK hl
  have hl : lv_has ls 7 [(0, .ref (xad g 57)), (1, .ref (xad g 59)), (2, .int (nI w)), (3, .int 1)] := hl
  have hS : va_S (xA (xad g)) s.heap s.heap [] := va_S.rf
  have hin4 : ∀ w ∈ u_ws RX4 TX4 4, w ∈ wsX4_readNumber := by decide +kernel
  have fl9 : Cond.fieldLink RX4 9 "DiscArcs$Text" "characters" "[C" ∈ wsX4_readNumber := by decide +kernel
  have fl19 : Cond.fieldLink RX4 19 "DiscArcs$Text" "position" "I" ∈ wsX4_readNumber := by decide +kernel
  have hfr : ∀ j, j ≠ 57 ∧ j ≠ 59 → E j = E j := fun _ _ => rfl
  refine lv_iload_n S.1 S.2.1 dX4_readNumber_0 rfl (lv_at hl 3 rfl) ?_
  refine lv_if_eq (tgt := 17) S.1 S.2.1 dX4_readNumber_1 (by decide) (fun c1 => ?_) (fun c1 => ?_)
  · skip
    exact absurd c1 (by decide)
  · skip
    refine lv_aload_n S.1 S.2.1 dX4_readNumber_4 rfl (lv_at hl 0 rfl) ?_
    refine lv_bipush (v := 45) S.1 S.2.1 dX4_readNumber_5 (by decide) ?_
    refine x_qi (va_runV (As := [.int 45]) (rest := []) S (c_X4_pass l g hJ E h57 h58 htl hp 45) (cwV 1 S.2.2.2.2 gX4_readNumber_X4_pass rfl rfl rfl (by decide +kernel) ⟨Nat.le_of_ble_eq_true rfl, Nat.le_of_ble_eq_true rfl⟩) (x_preV hK hP h57 (by decide) rfl) rfl rfl hl.1 rfl (lv_room (Nat.le_of_ble_eq_true rfl)) dX4_readNumber_7 ⟨Nat.le_of_ble_eq_true rfl, Nat.le_of_ble_eq_true rfl⟩) hS (fun r7 E1 H locs hq7 hP hS => ?_)
    obtain ⟨hr7, h57, hfr7⟩ := hq7
    have h58 : E1 58 = .inl (xC g, 60, .inl f) := (hfr7 _ (by decide)).trans h58
    have h59 : E1 59 = .inl (xI g, 6, .inl f6) := (hfr7 _ (by decide)).trans h59
    have hfr : ∀ j, j ≠ 57 ∧ j ≠ 59 → E1 j = E j := fun j hj => hfr7 j hj.1
    have hp9 := pas_le (f := f) (c := 45) hp
    have hnum : num f tl true p = numB f tl (pas f tl 45 p).1 (pas f tl 45 p).2 := rfl
    generalize (pas f tl 45 p).1 = b9 at *
    generalize (pas f tl 45 p).2 = p9 at *
    refine lv_if_eq (tgt := 17) S.1 S.2.1 dX4_readNumber_10 (by decide) (fun c10 => ?_) (fun c10 => ?_)
    · skip
      refine lv_iconst (v := 0) S.1 S.2.1 dX4_readNumber_17 (by decide) ?_
      refine lv_istore (lv' := [(4, .int 0), (0, .ref (xad g 57)), (1, .ref (xad g 59)), (2, .int (nI w)), (3, .int 1)]) S.1 S.2.1 dX4_readNumber_18 hl (by decide) rfl (fun ls hl => ?_)
      have hb9 : b9 = false := by
        exact Bool.eq_false_iff.mpr (hr7.f c10)
      subst hb9
      refine lv_aload_n S.1 S.2.1 dX4_readNumber_20 rfl (lv_at hl 1 rfl) ?_
      refine x_si (va_runV (As := []) (rest := []) S (c_X4_isDigit l g E1 h57 h58 htl hp9) (cwV 0 S.2.2.2.2 gX4_readNumber_X4_isDigit rfl rfl rfl (by decide +kernel) ⟨Nat.le_of_ble_eq_true rfl, Nat.le_of_ble_eq_true rfl⟩) (x_preV hK hP h57 (by decide) rfl) rfl rfl hl.1 rfl (lv_room (Nat.le_of_ble_eq_true rfl)) dX4_readNumber_21 ⟨Nat.le_of_ble_eq_true rfl, Nat.le_of_ble_eq_true rfl⟩) (fun r21 hr21 => ?_)
      refine lv_if_eq (tgt := 46) S.1 S.2.1 dX4_readNumber_24 (by decide) (fun c24 => ?_) (fun c24 => ?_)
      · skip
        refine lv_iconst (v := 0) S.1 S.2.1 dX4_readNumber_46 (by decide) ?_
        exact x_zret S hr hlocks hP hS dX4_readNumber_47 rfl (by rw [hnum]; have hn : numB f tl false p9 = (false, p9, 0) := by { unfold numB; first | (rw [if_neg (fun h => hr21.f c24 (digB_iff.mp h))]; done) | (rw [if_pos (digB_iff.mpr hd21), if_pos (by simp [c43])]; done) }; rw [hn]; exact ⟨xb.zero (by simp), h57, fun j h1 h2 => hfr j ⟨h1, h2⟩, fun h => by simp at h, _, h59⟩)
      · skip
        have hd21 := hr21.t c24
        refine lv_iload S.1 S.2.1 dX4_readNumber_27 (lv_at hl 0 rfl) ?_
        refine lv_if_eq (tgt := 48) S.1 S.2.1 dX4_readNumber_29 (by decide) (fun c29 => ?_) (fun c29 => ?_)
        · skip
          refine lv_aload_n S.1 S.2.1 dX4_readNumber_48 rfl (lv_at hl 1 rfl) ?_
          refine x_qi (va_runV (As := []) (rest := []) S (c_X4_readDigit l g hJ E1 h57 h58 htl hd21.1) (cwV 0 S.2.2.2.2 gX4_readNumber_X4_readDigit rfl rfl rfl (by decide +kernel) ⟨Nat.le_of_ble_eq_true rfl, Nat.le_of_ble_eq_true rfl⟩) (x_preV hK hP h57 (by decide) rfl) rfl rfl hl.1 rfl (lv_room (Nat.le_of_ble_eq_true rfl)) dX4_readNumber_49 ⟨Nat.le_of_ble_eq_true rfl, Nat.le_of_ble_eq_true rfl⟩) hS (fun r49 E1_1 H locs hq49 hP hS => ?_)
          obtain ⟨hr49, h57, hfr49⟩ := hq49
          have h58 : E1_1 58 = .inl (xC g, 60, .inl f) := (hfr49 _ (by decide)).trans h58
          have h59 : E1_1 59 = .inl (xI g, 6, .inl f6) := (hfr49 _ (by decide)).trans h59
          have hfr : ∀ j, j ≠ 57 ∧ j ≠ 59 → E1_1 j = E j := fun j hj => (hfr49 j hj.1).trans (hfr j hj)
          refine lv_istore (lv' := [(5, .int r49), (4, .int 0), (0, .ref (xad g 57)), (1, .ref (xad g 59)), (2, .int (nI w)), (3, .int 1)]) S.1 S.2.1 dX4_readNumber_52 hl (by decide) rfl (fun ls hl => ?_)
          refine lv_iconst (v := 1) S.1 S.2.1 dX4_readNumber_54 (by decide) ?_
          refine lv_istore (lv' := [(6, .int 1), (5, .int r49), (4, .int 0), (0, .ref (xad g 57)), (1, .ref (xad g 59)), (2, .int (nI w)), (3, .int 1)]) S.1 S.2.1 dX4_readNumber_55 hl (by decide) rfl (fun ls hl => ?_)
          have loop57 : ∀ (d : Nat) (q : Nat) (v : Int32) (i : Nat) (EL : Nat → va_E) (H : Heap) (locs : List Loc), (h1i : 1 ≤ i) → (hi : i ≤ 3) → (hq9 : q ≤ tl) → (hinv : dgs f tl 2 (p9 + 1) (f p9 - 48) = dgs f tl (3 - i) q v) → (3 - i) < d → (h57 : EL 57 = .inr (4, [.ref (xad g 58), .int (nI tl), .int (nI q), .int ta])) → (h58 : EL 58 = .inl (xC g, 60, .inl f)) → (h59 : EL 59 = .inl (xI g, 6, .inl f6)) → (hfr : ∀ j, j ≠ 57 ∧ j ≠ 59 → EL j = E j) → xP g EL H → va_S (xA (xad g)) s.heap H locs → ∀ ls : Array Slot, lv_has ls 7 [(6, .int (nI i)), (5, .int v), (4, .int 0), (2, .int (nI w)), (1, .ref (xad g 59)), (0, .ref (xad g 57))] → W pz l ez ({ frames := 1, cells := 0, slots := 0, locals := 21 }) s m ([.ref (xad g 57), .ref (xad g 59), .int (nI w), .int 1] : List Value).toArray below meth cz H locs 0 0 (MQ below (xQi g (fun r E1 => xb ((num f tl true p).1 = true) r ∧ E1 57 = .inr (4, [.ref (xad g 58), .int (nI tl), .int (nI (num f tl true p).2.1), .int ta]) ∧ (∀ j, j ≠ 57 → j ≠ 59 → E1 j = E j) ∧ ((num f tl true p).1 = true → E1 59 = .inl (xI g, 6, .inl (upd f6 w (num f tl true p).2.2))) ∧ ∃ f7 : Nat → Int32, E1 59 = .inl (xI g, 6, .inl f7))) ([.ref (xad g 57), .ref (xad g 59), .int (nI w), .int 1] : List Value).toArray s 0 0 (xA (xad g))) (F0 m 57 ls []) := by
            intro d
            induction d with
            | zero => intro q v i EL H locs h1i hi hq9 hinv hd; exact absurd hd (Nat.not_lt_zero _)
            | succ d ih57 =>
              intro q v i EL H locs h1i hi hq9 hinv hd h57 h58 h59 hfr hP hS ls hl
              refine lv_iload S.1 S.2.1 dX4_readNumber_57 (lv_at hl 0 rfl) ?_
              refine lv_iconst (v := 3) S.1 S.2.1 dX4_readNumber_59 (by decide) ?_
              refine lv_icmp_ge (tgt := 93) S.1 S.2.1 dX4_readNumber_60 (by decide) (fun c60 => ?_) (fun c60 => ?_)
              · skip
                have hdg : dgs f tl 2 (p9 + 1) (f p9 - 48) = (q, v) := by
                  rw [hinv]
                  first
                    | (rw [show 3 - i = 0 by have := (nI_leI (a := 3) (b := i) (by omega) (by omega)).mp c60; omega]; rfl)
                    | (rw [show 3 - i = (3 - i - 1) + 1 by have := Nat.not_le.mp (fun h => c60 ((nI_leI (a := 3) (b := i) (by omega) (by omega)).mpr h)); omega]; rw [dgs_step]; first | (rw [if_pos c65]; done) | (rw [if_neg c65, if_neg (fun h => hr69.f c72 (digB_iff.mp h))]; done))
                refine lv_aload_n S.1 S.2.1 dX4_readNumber_93 rfl (lv_at hl 4 rfl) ?_
                refine lv_iload_n S.1 S.2.1 dX4_readNumber_94 rfl (lv_at hl 3 rfl) ?_
                refine lv_iload S.1 S.2.1 dX4_readNumber_95 (lv_at hl 2 rfl) ?_
                refine lv_if_eq (tgt := 106) S.1 S.2.1 dX4_readNumber_97 (by decide) (fun c97 => ?_) (fun c97 => ?_)
                · skip
                  refine lv_iload S.1 S.2.1 dX4_readNumber_106 (lv_at hl 1 rfl) ?_
                  refine x_iast S hK hJ hP hS dX4_readNumber_108 h59 (by decide) (j := w) rfl (by omega) (by decide) (fun H locs E1_2 hu hP hS => ?_)
                  have h57 : E1_2 57 = .inr (4, [.ref (xad g 58), .int (nI tl), .int (nI q), .int ta]) := (hu.2 _ (by omega)).trans h57
                  have h58 : E1_2 58 = .inl (xC g, 60, .inl f) := (hu.2 _ (by omega)).trans h58
                  have h59 : E1_2 59 = .inl (xI g, 6, .inl (upd f6 w v)) := hu.1
                  have hfr : ∀ j, j ≠ 57 ∧ j ≠ 59 → E1_2 j = E j := fun j hj => (hu.2 j (by omega)).trans (hfr j hj)
                  refine lv_iconst (v := 1) S.1 S.2.1 dX4_readNumber_109 (by decide) ?_
                  exact x_zret S hr hlocks hP hS dX4_readNumber_110 rfl (by rw [hnum]; have hn : numB f tl false p9 = (true, q, v) := by { unfold numB; rw [if_pos (digB_iff.mpr hd21), if_neg (by simp), hdg]; rfl }; rw [hn]; exact ⟨xb.one rfl, h57, fun j h1 h2 => hfr j ⟨h1, h2⟩, fun _ => h59, _, h59⟩)
                · skip
                  exact absurd rfl c97
              · skip
                have hi3 : i < 3 := Nat.not_le.mp (fun h => c60 ((nI_leI (a := 3) (b := i) (by omega) (by omega)).mpr h))
                refine lv_iload S.1 S.2.1 dX4_readNumber_63 (lv_at hl 1 rfl) ?_
                refine lv_if_eq (tgt := 93) S.1 S.2.1 dX4_readNumber_65 (by decide) (fun c65 => ?_) (fun c65 => ?_)
                · skip
                  have hdg : dgs f tl 2 (p9 + 1) (f p9 - 48) = (q, v) := by
                    rw [hinv]
                    first
                      | (rw [show 3 - i = 0 by have := (nI_leI (a := 3) (b := i) (by omega) (by omega)).mp c60; omega]; rfl)
                      | (rw [show 3 - i = (3 - i - 1) + 1 by have := Nat.not_le.mp (fun h => c60 ((nI_leI (a := 3) (b := i) (by omega) (by omega)).mpr h)); omega]; rw [dgs_step]; first | (rw [if_pos c65]; done) | (rw [if_neg c65, if_neg (fun h => hr69.f c72 (digB_iff.mp h))]; done))
                  refine lv_aload_n S.1 S.2.1 dX4_readNumber_93 rfl (lv_at hl 4 rfl) ?_
                  refine lv_iload_n S.1 S.2.1 dX4_readNumber_94 rfl (lv_at hl 3 rfl) ?_
                  refine lv_iload S.1 S.2.1 dX4_readNumber_95 (lv_at hl 2 rfl) ?_
                  refine lv_if_eq (tgt := 106) S.1 S.2.1 dX4_readNumber_97 (by decide) (fun c97 => ?_) (fun c97 => ?_)
                  · skip
                    refine lv_iload S.1 S.2.1 dX4_readNumber_106 (lv_at hl 1 rfl) ?_
                    refine x_iast S hK hJ hP hS dX4_readNumber_108 h59 (by decide) (j := w) rfl (by omega) (by decide) (fun H locs E1_3 hu hP hS => ?_)
                    have h57 : E1_3 57 = .inr (4, [.ref (xad g 58), .int (nI tl), .int (nI q), .int ta]) := (hu.2 _ (by omega)).trans h57
                    have h58 : E1_3 58 = .inl (xC g, 60, .inl f) := (hu.2 _ (by omega)).trans h58
                    have h59 : E1_3 59 = .inl (xI g, 6, .inl (upd f6 w v)) := hu.1
                    have hfr : ∀ j, j ≠ 57 ∧ j ≠ 59 → E1_3 j = E j := fun j hj => (hu.2 j (by omega)).trans (hfr j hj)
                    refine lv_iconst (v := 1) S.1 S.2.1 dX4_readNumber_109 (by decide) ?_
                    exact x_zret S hr hlocks hP hS dX4_readNumber_110 rfl (by rw [hnum]; have hn : numB f tl false p9 = (true, q, v) := by { unfold numB; rw [if_pos (digB_iff.mpr hd21), if_neg (by simp), hdg]; rfl }; rw [hn]; exact ⟨xb.one rfl, h57, fun j h1 h2 => hfr j ⟨h1, h2⟩, fun _ => h59, _, h59⟩)
                  · skip
                    exact absurd rfl c97
                · skip
                  refine lv_aload_n S.1 S.2.1 dX4_readNumber_68 rfl (lv_at hl 5 rfl) ?_
                  refine x_si (va_runV (As := []) (rest := []) S (c_X4_isDigit l g EL h57 h58 htl hq9) (cwV 0 S.2.2.2.2 gX4_readNumber_X4_isDigit rfl rfl rfl (by decide +kernel) ⟨Nat.le_of_ble_eq_true rfl, Nat.le_of_ble_eq_true rfl⟩) (x_preV hK hP h57 (by decide) rfl) rfl rfl hl.1 rfl (lv_room (Nat.le_of_ble_eq_true rfl)) dX4_readNumber_69 ⟨Nat.le_of_ble_eq_true rfl, Nat.le_of_ble_eq_true rfl⟩) (fun r69 hr69 => ?_)
                  refine lv_if_eq (tgt := 93) S.1 S.2.1 dX4_readNumber_72 (by decide) (fun c72 => ?_) (fun c72 => ?_)
                  · skip
                    have hdg : dgs f tl 2 (p9 + 1) (f p9 - 48) = (q, v) := by
                      rw [hinv]
                      first
                        | (rw [show 3 - i = 0 by have := (nI_leI (a := 3) (b := i) (by omega) (by omega)).mp c60; omega]; rfl)
                        | (rw [show 3 - i = (3 - i - 1) + 1 by have := Nat.not_le.mp (fun h => c60 ((nI_leI (a := 3) (b := i) (by omega) (by omega)).mpr h)); omega]; rw [dgs_step]; first | (rw [if_pos c65]; done) | (rw [if_neg c65, if_neg (fun h => hr69.f c72 (digB_iff.mp h))]; done))
                    refine lv_aload_n S.1 S.2.1 dX4_readNumber_93 rfl (lv_at hl 4 rfl) ?_
                    refine lv_iload_n S.1 S.2.1 dX4_readNumber_94 rfl (lv_at hl 3 rfl) ?_
                    refine lv_iload S.1 S.2.1 dX4_readNumber_95 (lv_at hl 2 rfl) ?_
                    refine lv_if_eq (tgt := 106) S.1 S.2.1 dX4_readNumber_97 (by decide) (fun c97 => ?_) (fun c97 => ?_)
                    · skip
                      refine lv_iload S.1 S.2.1 dX4_readNumber_106 (lv_at hl 1 rfl) ?_
                      refine x_iast S hK hJ hP hS dX4_readNumber_108 h59 (by decide) (j := w) rfl (by omega) (by decide) (fun H locs E1_4 hu hP hS => ?_)
                      have h57 : E1_4 57 = .inr (4, [.ref (xad g 58), .int (nI tl), .int (nI q), .int ta]) := (hu.2 _ (by omega)).trans h57
                      have h58 : E1_4 58 = .inl (xC g, 60, .inl f) := (hu.2 _ (by omega)).trans h58
                      have h59 : E1_4 59 = .inl (xI g, 6, .inl (upd f6 w v)) := hu.1
                      have hfr : ∀ j, j ≠ 57 ∧ j ≠ 59 → E1_4 j = E j := fun j hj => (hu.2 j (by omega)).trans (hfr j hj)
                      refine lv_iconst (v := 1) S.1 S.2.1 dX4_readNumber_109 (by decide) ?_
                      exact x_zret S hr hlocks hP hS dX4_readNumber_110 rfl (by rw [hnum]; have hn : numB f tl false p9 = (true, q, v) := by { unfold numB; rw [if_pos (digB_iff.mpr hd21), if_neg (by simp), hdg]; rfl }; rw [hn]; exact ⟨xb.one rfl, h57, fun j h1 h2 => hfr j ⟨h1, h2⟩, fun _ => h59, _, h59⟩)
                    · skip
                      exact absurd rfl c97
                  · skip
                    have hd69 := hr69.t c72
                    refine lv_bipush (v := 10) S.1 S.2.1 dX4_readNumber_75 (by decide) ?_
                    refine lv_iload S.1 S.2.1 dX4_readNumber_77 (lv_at hl 1 rfl) ?_
                    refine lv_imul S.1 S.2.1 dX4_readNumber_79 ?_
                    refine lv_aload_n S.1 S.2.1 dX4_readNumber_80 rfl (lv_at hl 5 rfl) ?_
                    refine x_qi (va_runV (As := []) (rest := [.int (10 * v)]) S (c_X4_readDigit l g hJ EL h57 h58 htl hd69.1) (cwV 0 S.2.2.2.2 gX4_readNumber_X4_readDigit rfl rfl rfl (by decide +kernel) ⟨Nat.le_of_ble_eq_true rfl, Nat.le_of_ble_eq_true rfl⟩) (x_preV hK hP h57 (by decide) rfl) rfl rfl hl.1 rfl (lv_room (Nat.le_of_ble_eq_true rfl)) dX4_readNumber_81 ⟨Nat.le_of_ble_eq_true rfl, Nat.le_of_ble_eq_true rfl⟩) hS (fun r81 E1_5 H locs hq81 hP hS => ?_)
                    obtain ⟨hr81, h57, hfr81⟩ := hq81
                    have h58 : E1_5 58 = .inl (xC g, 60, .inl f) := (hfr81 _ (by decide)).trans h58
                    have h59 : E1_5 59 = .inl (xI g, 6, .inl f6) := (hfr81 _ (by decide)).trans h59
                    have hfr : ∀ j, j ≠ 57 ∧ j ≠ 59 → E1_5 j = E j := fun j hj => (hfr81 j hj.1).trans (hfr j hj)
                    refine lv_iadd S.1 S.2.1 dX4_readNumber_84 ?_
                    refine lv_topi (fun x85 ex85 => ?_)
                    refine lv_istore (lv' := [(5, .int x85), (6, .int (nI i)), (4, .int 0), (2, .int (nI w)), (1, .ref (xad g 59)), (0, .ref (xad g 57))]) S.1 S.2.1 dX4_readNumber_85 hl (by decide) rfl (fun ls hl => ?_)
                    refine lv_iinc (v := nI (i + 1)) (lv' := [(6, .int (nI (i + 1))), (5, .int x85), (4, .int 0), (2, .int (nI w)), (1, .ref (xad g 59)), (0, .ref (xad g 57))]) S.1 S.2.1 dX4_readNumber_87 hl (k := 1) rfl (show nI i + Int32.ofInt 1 = _ from nI_1 _) (by decide) rfl (fun ls hl => ?_)
                    refine lv_goto (tgt := 57) S.1 S.2.1 dX4_readNumber_90 (by decide) ?_
                    exact ih57 (q + 1) x85 (i + 1) _ _ _ (by omega) (by omega) (by have := hd69.1; omega) (by rw [hinv, show 3 - i = (3 - (i + 1)) + 1 by have := Nat.not_le.mp (fun h => c60 ((nI_leI (a := 3) (b := i) (by omega) (by omega)).mpr h)); omega]; rw [dgs_step, if_neg c65, if_pos (digB_iff.mpr hd69), ex85, hr81]) (by omega) h57 h58 h59 hfr hP hS ls (lv_sub hl [0, 1, 2, 3, 4, 5] rfl)
          exact loop57 _ (p9 + 1) r49 1 _ _ _ (Nat.le_refl _) (by decide) (by have := hd21.1; omega) (by rw [hr49]) (Nat.lt_succ_self _) h57 h58 h59 hfr hP hS ls (lv_sub hl [0, 1, 2, 5, 4, 3] rfl)
        · skip
          exact absurd rfl c29
    · skip
      refine lv_iconst (v := 1) S.1 S.2.1 dX4_readNumber_13 (by decide) ?_
      refine lv_goto (tgt := 18) S.1 S.2.1 dX4_readNumber_14 (by decide) ?_
      refine lv_istore (lv' := [(4, .int 1), (0, .ref (xad g 57)), (1, .ref (xad g 59)), (2, .int (nI w)), (3, .int 1)]) S.1 S.2.1 dX4_readNumber_18 hl (by decide) rfl (fun ls hl => ?_)
      have hb9 : b9 = true := by
        exact hr7.t c10
      subst hb9
      refine lv_aload_n S.1 S.2.1 dX4_readNumber_20 rfl (lv_at hl 1 rfl) ?_
      refine x_si (va_runV (As := []) (rest := []) S (c_X4_isDigit l g E1 h57 h58 htl hp9) (cwV 0 S.2.2.2.2 gX4_readNumber_X4_isDigit rfl rfl rfl (by decide +kernel) ⟨Nat.le_of_ble_eq_true rfl, Nat.le_of_ble_eq_true rfl⟩) (x_preV hK hP h57 (by decide) rfl) rfl rfl hl.1 rfl (lv_room (Nat.le_of_ble_eq_true rfl)) dX4_readNumber_21 ⟨Nat.le_of_ble_eq_true rfl, Nat.le_of_ble_eq_true rfl⟩) (fun r21 hr21 => ?_)
      refine lv_if_eq (tgt := 46) S.1 S.2.1 dX4_readNumber_24 (by decide) (fun c24 => ?_) (fun c24 => ?_)
      · skip
        refine lv_iconst (v := 0) S.1 S.2.1 dX4_readNumber_46 (by decide) ?_
        exact x_zret S hr hlocks hP hS dX4_readNumber_47 rfl (by rw [hnum]; have hn : numB f tl true p9 = (false, p9, 0) := by { unfold numB; first | (rw [if_neg (fun h => hr21.f c24 (digB_iff.mp h))]; done) | (rw [if_pos (digB_iff.mpr hd21), if_pos (by simp [c43])]; done) }; rw [hn]; exact ⟨xb.zero (by simp), h57, fun j h1 h2 => hfr j ⟨h1, h2⟩, fun h => by simp at h, _, h59⟩)
      · skip
        have hd21 := hr21.t c24
        refine lv_iload S.1 S.2.1 dX4_readNumber_27 (lv_at hl 0 rfl) ?_
        refine lv_if_eq (tgt := 48) S.1 S.2.1 dX4_readNumber_29 (by decide) (fun c29 => ?_) (fun c29 => ?_)
        · skip
          exact absurd c29 (by decide)
        · skip
          refine lv_aload_n S.1 S.2.1 dX4_readNumber_32 rfl (lv_at hl 1 rfl) ?_
          refine x_get S hK hP dX4_readNumber_33 h57 (by decide) (RX4, TX4, 4) rfl hin4 0 (by decide) fl9 rfl ?_
          refine lv_aload_n S.1 S.2.1 dX4_readNumber_36 rfl (lv_at hl 1 rfl) ?_
          refine x_get S hK hP dX4_readNumber_37 h57 (by decide) (RX4, TX4, 4) rfl hin4 2 (by decide) fl19 rfl ?_
          refine x_cald S hK hP dX4_readNumber_40 h58 (by decide) (j := p9) rfl (by have := hd21.1; omega) (by decide) ?_
          refine lv_bipush (v := 48) S.1 S.2.1 dX4_readNumber_41 (by decide) ?_
          refine lv_icmp_ne (tgt := 48) S.1 S.2.1 dX4_readNumber_43 (by decide) (fun c43 => ?_) (fun c43 => ?_)
          · skip
            refine lv_aload_n S.1 S.2.1 dX4_readNumber_48 rfl (lv_at hl 1 rfl) ?_
            refine x_qi (va_runV (As := []) (rest := []) S (c_X4_readDigit l g hJ E1 h57 h58 htl hd21.1) (cwV 0 S.2.2.2.2 gX4_readNumber_X4_readDigit rfl rfl rfl (by decide +kernel) ⟨Nat.le_of_ble_eq_true rfl, Nat.le_of_ble_eq_true rfl⟩) (x_preV hK hP h57 (by decide) rfl) rfl rfl hl.1 rfl (lv_room (Nat.le_of_ble_eq_true rfl)) dX4_readNumber_49 ⟨Nat.le_of_ble_eq_true rfl, Nat.le_of_ble_eq_true rfl⟩) hS (fun r49 E1_6 H locs hq49 hP hS => ?_)
            obtain ⟨hr49, h57, hfr49⟩ := hq49
            have h58 : E1_6 58 = .inl (xC g, 60, .inl f) := (hfr49 _ (by decide)).trans h58
            have h59 : E1_6 59 = .inl (xI g, 6, .inl f6) := (hfr49 _ (by decide)).trans h59
            have hfr : ∀ j, j ≠ 57 ∧ j ≠ 59 → E1_6 j = E j := fun j hj => (hfr49 j hj.1).trans (hfr j hj)
            refine lv_istore (lv' := [(5, .int r49), (4, .int 1), (0, .ref (xad g 57)), (1, .ref (xad g 59)), (2, .int (nI w)), (3, .int 1)]) S.1 S.2.1 dX4_readNumber_52 hl (by decide) rfl (fun ls hl => ?_)
            refine lv_iconst (v := 1) S.1 S.2.1 dX4_readNumber_54 (by decide) ?_
            refine lv_istore (lv' := [(6, .int 1), (5, .int r49), (4, .int 1), (0, .ref (xad g 57)), (1, .ref (xad g 59)), (2, .int (nI w)), (3, .int 1)]) S.1 S.2.1 dX4_readNumber_55 hl (by decide) rfl (fun ls hl => ?_)
            have loop57 : ∀ (d : Nat) (q : Nat) (v : Int32) (i : Nat) (EL : Nat → va_E) (H : Heap) (locs : List Loc), (h1i : 1 ≤ i) → (hi : i ≤ 3) → (hq9 : q ≤ tl) → (hinv : dgs f tl 2 (p9 + 1) (f p9 - 48) = dgs f tl (3 - i) q v) → (3 - i) < d → (h57 : EL 57 = .inr (4, [.ref (xad g 58), .int (nI tl), .int (nI q), .int ta])) → (h58 : EL 58 = .inl (xC g, 60, .inl f)) → (h59 : EL 59 = .inl (xI g, 6, .inl f6)) → (hfr : ∀ j, j ≠ 57 ∧ j ≠ 59 → EL j = E j) → xP g EL H → va_S (xA (xad g)) s.heap H locs → ∀ ls : Array Slot, lv_has ls 7 [(6, .int (nI i)), (5, .int v), (4, .int 1), (2, .int (nI w)), (1, .ref (xad g 59)), (0, .ref (xad g 57))] → W pz l ez ({ frames := 1, cells := 0, slots := 0, locals := 21 }) s m ([.ref (xad g 57), .ref (xad g 59), .int (nI w), .int 1] : List Value).toArray below meth cz H locs 0 0 (MQ below (xQi g (fun r E1 => xb ((num f tl true p).1 = true) r ∧ E1 57 = .inr (4, [.ref (xad g 58), .int (nI tl), .int (nI (num f tl true p).2.1), .int ta]) ∧ (∀ j, j ≠ 57 → j ≠ 59 → E1 j = E j) ∧ ((num f tl true p).1 = true → E1 59 = .inl (xI g, 6, .inl (upd f6 w (num f tl true p).2.2))) ∧ ∃ f7 : Nat → Int32, E1 59 = .inl (xI g, 6, .inl f7))) ([.ref (xad g 57), .ref (xad g 59), .int (nI w), .int 1] : List Value).toArray s 0 0 (xA (xad g))) (F0 m 57 ls []) := by
              intro d
              induction d with
              | zero => intro q v i EL H locs h1i hi hq9 hinv hd; exact absurd hd (Nat.not_lt_zero _)
              | succ d ih57 =>
                intro q v i EL H locs h1i hi hq9 hinv hd h57 h58 h59 hfr hP hS ls hl
                refine lv_iload S.1 S.2.1 dX4_readNumber_57 (lv_at hl 0 rfl) ?_
                refine lv_iconst (v := 3) S.1 S.2.1 dX4_readNumber_59 (by decide) ?_
                refine lv_icmp_ge (tgt := 93) S.1 S.2.1 dX4_readNumber_60 (by decide) (fun c60 => ?_) (fun c60 => ?_)
                · skip
                  have hdg : dgs f tl 2 (p9 + 1) (f p9 - 48) = (q, v) := by
                    rw [hinv]
                    first
                      | (rw [show 3 - i = 0 by have := (nI_leI (a := 3) (b := i) (by omega) (by omega)).mp c60; omega]; rfl)
                      | (rw [show 3 - i = (3 - i - 1) + 1 by have := Nat.not_le.mp (fun h => c60 ((nI_leI (a := 3) (b := i) (by omega) (by omega)).mpr h)); omega]; rw [dgs_step]; first | (rw [if_pos c65]; done) | (rw [if_neg c65, if_neg (fun h => hr69.f c72 (digB_iff.mp h))]; done))
                  refine lv_aload_n S.1 S.2.1 dX4_readNumber_93 rfl (lv_at hl 4 rfl) ?_
                  refine lv_iload_n S.1 S.2.1 dX4_readNumber_94 rfl (lv_at hl 3 rfl) ?_
                  refine lv_iload S.1 S.2.1 dX4_readNumber_95 (lv_at hl 2 rfl) ?_
                  refine lv_if_eq (tgt := 106) S.1 S.2.1 dX4_readNumber_97 (by decide) (fun c97 => ?_) (fun c97 => ?_)
                  · skip
                    exact absurd c97 (by decide)
                  · skip
                    refine lv_iload S.1 S.2.1 dX4_readNumber_100 (lv_at hl 1 rfl) ?_
                    refine lv_ineg S.1 S.2.1 dX4_readNumber_102 ?_
                    refine lv_goto (tgt := 108) S.1 S.2.1 dX4_readNumber_103 (by decide) ?_
                    refine x_iast S hK hJ hP hS dX4_readNumber_108 h59 (by decide) (j := w) rfl (by omega) (by decide) (fun H locs E1_7 hu hP hS => ?_)
                    have h57 : E1_7 57 = .inr (4, [.ref (xad g 58), .int (nI tl), .int (nI q), .int ta]) := (hu.2 _ (by omega)).trans h57
                    have h58 : E1_7 58 = .inl (xC g, 60, .inl f) := (hu.2 _ (by omega)).trans h58
                    have h59 : E1_7 59 = .inl (xI g, 6, .inl (upd f6 w (-v))) := hu.1
                    have hfr : ∀ j, j ≠ 57 ∧ j ≠ 59 → E1_7 j = E j := fun j hj => (hu.2 j (by omega)).trans (hfr j hj)
                    refine lv_iconst (v := 1) S.1 S.2.1 dX4_readNumber_109 (by decide) ?_
                    exact x_zret S hr hlocks hP hS dX4_readNumber_110 rfl (by rw [hnum]; have hn : numB f tl true p9 = (true, q, -v) := by { unfold numB; rw [if_pos (digB_iff.mpr hd21), if_neg (by simp [c43]), hdg]; rfl }; rw [hn]; exact ⟨xb.one rfl, h57, fun j h1 h2 => hfr j ⟨h1, h2⟩, fun _ => h59, _, h59⟩)
                · skip
                  have hi3 : i < 3 := Nat.not_le.mp (fun h => c60 ((nI_leI (a := 3) (b := i) (by omega) (by omega)).mpr h))
                  refine lv_iload S.1 S.2.1 dX4_readNumber_63 (lv_at hl 1 rfl) ?_
                  refine lv_if_eq (tgt := 93) S.1 S.2.1 dX4_readNumber_65 (by decide) (fun c65 => ?_) (fun c65 => ?_)
                  · skip
                    have hdg : dgs f tl 2 (p9 + 1) (f p9 - 48) = (q, v) := by
                      rw [hinv]
                      first
                        | (rw [show 3 - i = 0 by have := (nI_leI (a := 3) (b := i) (by omega) (by omega)).mp c60; omega]; rfl)
                        | (rw [show 3 - i = (3 - i - 1) + 1 by have := Nat.not_le.mp (fun h => c60 ((nI_leI (a := 3) (b := i) (by omega) (by omega)).mpr h)); omega]; rw [dgs_step]; first | (rw [if_pos c65]; done) | (rw [if_neg c65, if_neg (fun h => hr69.f c72 (digB_iff.mp h))]; done))
                    refine lv_aload_n S.1 S.2.1 dX4_readNumber_93 rfl (lv_at hl 4 rfl) ?_
                    refine lv_iload_n S.1 S.2.1 dX4_readNumber_94 rfl (lv_at hl 3 rfl) ?_
                    refine lv_iload S.1 S.2.1 dX4_readNumber_95 (lv_at hl 2 rfl) ?_
                    refine lv_if_eq (tgt := 106) S.1 S.2.1 dX4_readNumber_97 (by decide) (fun c97 => ?_) (fun c97 => ?_)
                    · skip
                      exact absurd c97 (by decide)
                    · skip
                      refine lv_iload S.1 S.2.1 dX4_readNumber_100 (lv_at hl 1 rfl) ?_
                      refine lv_ineg S.1 S.2.1 dX4_readNumber_102 ?_
                      refine lv_goto (tgt := 108) S.1 S.2.1 dX4_readNumber_103 (by decide) ?_
                      refine x_iast S hK hJ hP hS dX4_readNumber_108 h59 (by decide) (j := w) rfl (by omega) (by decide) (fun H locs E1_8 hu hP hS => ?_)
                      have h57 : E1_8 57 = .inr (4, [.ref (xad g 58), .int (nI tl), .int (nI q), .int ta]) := (hu.2 _ (by omega)).trans h57
                      have h58 : E1_8 58 = .inl (xC g, 60, .inl f) := (hu.2 _ (by omega)).trans h58
                      have h59 : E1_8 59 = .inl (xI g, 6, .inl (upd f6 w (-v))) := hu.1
                      have hfr : ∀ j, j ≠ 57 ∧ j ≠ 59 → E1_8 j = E j := fun j hj => (hu.2 j (by omega)).trans (hfr j hj)
                      refine lv_iconst (v := 1) S.1 S.2.1 dX4_readNumber_109 (by decide) ?_
                      exact x_zret S hr hlocks hP hS dX4_readNumber_110 rfl (by rw [hnum]; have hn : numB f tl true p9 = (true, q, -v) := by { unfold numB; rw [if_pos (digB_iff.mpr hd21), if_neg (by simp [c43]), hdg]; rfl }; rw [hn]; exact ⟨xb.one rfl, h57, fun j h1 h2 => hfr j ⟨h1, h2⟩, fun _ => h59, _, h59⟩)
                  · skip
                    refine lv_aload_n S.1 S.2.1 dX4_readNumber_68 rfl (lv_at hl 5 rfl) ?_
                    refine x_si (va_runV (As := []) (rest := []) S (c_X4_isDigit l g EL h57 h58 htl hq9) (cwV 0 S.2.2.2.2 gX4_readNumber_X4_isDigit rfl rfl rfl (by decide +kernel) ⟨Nat.le_of_ble_eq_true rfl, Nat.le_of_ble_eq_true rfl⟩) (x_preV hK hP h57 (by decide) rfl) rfl rfl hl.1 rfl (lv_room (Nat.le_of_ble_eq_true rfl)) dX4_readNumber_69 ⟨Nat.le_of_ble_eq_true rfl, Nat.le_of_ble_eq_true rfl⟩) (fun r69 hr69 => ?_)
                    refine lv_if_eq (tgt := 93) S.1 S.2.1 dX4_readNumber_72 (by decide) (fun c72 => ?_) (fun c72 => ?_)
                    · skip
                      have hdg : dgs f tl 2 (p9 + 1) (f p9 - 48) = (q, v) := by
                        rw [hinv]
                        first
                          | (rw [show 3 - i = 0 by have := (nI_leI (a := 3) (b := i) (by omega) (by omega)).mp c60; omega]; rfl)
                          | (rw [show 3 - i = (3 - i - 1) + 1 by have := Nat.not_le.mp (fun h => c60 ((nI_leI (a := 3) (b := i) (by omega) (by omega)).mpr h)); omega]; rw [dgs_step]; first | (rw [if_pos c65]; done) | (rw [if_neg c65, if_neg (fun h => hr69.f c72 (digB_iff.mp h))]; done))
                      refine lv_aload_n S.1 S.2.1 dX4_readNumber_93 rfl (lv_at hl 4 rfl) ?_
                      refine lv_iload_n S.1 S.2.1 dX4_readNumber_94 rfl (lv_at hl 3 rfl) ?_
                      refine lv_iload S.1 S.2.1 dX4_readNumber_95 (lv_at hl 2 rfl) ?_
                      refine lv_if_eq (tgt := 106) S.1 S.2.1 dX4_readNumber_97 (by decide) (fun c97 => ?_) (fun c97 => ?_)
                      · skip
                        exact absurd c97 (by decide)
                      · skip
                        refine lv_iload S.1 S.2.1 dX4_readNumber_100 (lv_at hl 1 rfl) ?_
                        refine lv_ineg S.1 S.2.1 dX4_readNumber_102 ?_
                        refine lv_goto (tgt := 108) S.1 S.2.1 dX4_readNumber_103 (by decide) ?_
                        refine x_iast S hK hJ hP hS dX4_readNumber_108 h59 (by decide) (j := w) rfl (by omega) (by decide) (fun H locs E1_9 hu hP hS => ?_)
                        have h57 : E1_9 57 = .inr (4, [.ref (xad g 58), .int (nI tl), .int (nI q), .int ta]) := (hu.2 _ (by omega)).trans h57
                        have h58 : E1_9 58 = .inl (xC g, 60, .inl f) := (hu.2 _ (by omega)).trans h58
                        have h59 : E1_9 59 = .inl (xI g, 6, .inl (upd f6 w (-v))) := hu.1
                        have hfr : ∀ j, j ≠ 57 ∧ j ≠ 59 → E1_9 j = E j := fun j hj => (hu.2 j (by omega)).trans (hfr j hj)
                        refine lv_iconst (v := 1) S.1 S.2.1 dX4_readNumber_109 (by decide) ?_
                        exact x_zret S hr hlocks hP hS dX4_readNumber_110 rfl (by rw [hnum]; have hn : numB f tl true p9 = (true, q, -v) := by { unfold numB; rw [if_pos (digB_iff.mpr hd21), if_neg (by simp [c43]), hdg]; rfl }; rw [hn]; exact ⟨xb.one rfl, h57, fun j h1 h2 => hfr j ⟨h1, h2⟩, fun _ => h59, _, h59⟩)
                    · skip
                      have hd69 := hr69.t c72
                      refine lv_bipush (v := 10) S.1 S.2.1 dX4_readNumber_75 (by decide) ?_
                      refine lv_iload S.1 S.2.1 dX4_readNumber_77 (lv_at hl 1 rfl) ?_
                      refine lv_imul S.1 S.2.1 dX4_readNumber_79 ?_
                      refine lv_aload_n S.1 S.2.1 dX4_readNumber_80 rfl (lv_at hl 5 rfl) ?_
                      refine x_qi (va_runV (As := []) (rest := [.int (10 * v)]) S (c_X4_readDigit l g hJ EL h57 h58 htl hd69.1) (cwV 0 S.2.2.2.2 gX4_readNumber_X4_readDigit rfl rfl rfl (by decide +kernel) ⟨Nat.le_of_ble_eq_true rfl, Nat.le_of_ble_eq_true rfl⟩) (x_preV hK hP h57 (by decide) rfl) rfl rfl hl.1 rfl (lv_room (Nat.le_of_ble_eq_true rfl)) dX4_readNumber_81 ⟨Nat.le_of_ble_eq_true rfl, Nat.le_of_ble_eq_true rfl⟩) hS (fun r81 E1_10 H locs hq81 hP hS => ?_)
                      obtain ⟨hr81, h57, hfr81⟩ := hq81
                      have h58 : E1_10 58 = .inl (xC g, 60, .inl f) := (hfr81 _ (by decide)).trans h58
                      have h59 : E1_10 59 = .inl (xI g, 6, .inl f6) := (hfr81 _ (by decide)).trans h59
                      have hfr : ∀ j, j ≠ 57 ∧ j ≠ 59 → E1_10 j = E j := fun j hj => (hfr81 j hj.1).trans (hfr j hj)
                      refine lv_iadd S.1 S.2.1 dX4_readNumber_84 ?_
                      refine lv_topi (fun x85 ex85 => ?_)
                      refine lv_istore (lv' := [(5, .int x85), (6, .int (nI i)), (4, .int 1), (2, .int (nI w)), (1, .ref (xad g 59)), (0, .ref (xad g 57))]) S.1 S.2.1 dX4_readNumber_85 hl (by decide) rfl (fun ls hl => ?_)
                      refine lv_iinc (v := nI (i + 1)) (lv' := [(6, .int (nI (i + 1))), (5, .int x85), (4, .int 1), (2, .int (nI w)), (1, .ref (xad g 59)), (0, .ref (xad g 57))]) S.1 S.2.1 dX4_readNumber_87 hl (k := 1) rfl (show nI i + Int32.ofInt 1 = _ from nI_1 _) (by decide) rfl (fun ls hl => ?_)
                      refine lv_goto (tgt := 57) S.1 S.2.1 dX4_readNumber_90 (by decide) ?_
                      exact ih57 (q + 1) x85 (i + 1) _ _ _ (by omega) (by omega) (by have := hd69.1; omega) (by rw [hinv, show 3 - i = (3 - (i + 1)) + 1 by have := Nat.not_le.mp (fun h => c60 ((nI_leI (a := 3) (b := i) (by omega) (by omega)).mpr h)); omega]; rw [dgs_step, if_neg c65, if_pos (digB_iff.mpr hd69), ex85, hr81]) (by omega) h57 h58 h59 hfr hP hS ls (lv_sub hl [0, 1, 2, 3, 4, 5] rfl)
            exact loop57 _ (p9 + 1) r49 1 _ _ _ (Nat.le_refl _) (by decide) (by have := hd21.1; omega) (by rw [hr49]) (Nat.lt_succ_self _) h57 h58 h59 hfr hP hS ls (lv_sub hl [0, 1, 2, 5, 4, 3] rfl)
          · skip
            refine lv_iconst (v := 0) S.1 S.2.1 dX4_readNumber_46 (by decide) ?_
            exact x_zret S hr hlocks hP hS dX4_readNumber_47 rfl (by rw [hnum]; have hn : numB f tl true p9 = (false, p9, 0) := by { unfold numB; first | (rw [if_neg (fun h => hr21.f c24 (digB_iff.mp h))]; done) | (rw [if_pos (digB_iff.mpr hd21), if_pos (by simp [c43])]; done) }; rw [hn]; exact ⟨xb.zero (by simp), h57, fun j h1 h2 => hfr j ⟨h1, h2⟩, fun h => by simp at h, _, h59⟩)
/-! TEXT: readPlace, readInto -/
set_option maxHeartbeats 4000000 in
set_option maxRecDepth 100000 in
theorem c_X4_readPlace (l : Launch) (g : xG) (hJ : xJ (xad g)) (E : Nat → va_E) {tl : Nat} {ta : Int32} {f : Nat → Int32} (h57 : E 57 = .inr (4, [.ref (xad g 58), .int (nI tl), .int (nI 0), .int ta])) (h58 : E 58 = .inl (xC g, 60, .inl f)) (htl : tl ≤ 60) {f6 : Nat → Int32} (h59 : E 59 = .inl (xI g, 6, .inl f6)) : Met l yX4_readPlace wsX4_readPlace ({ frames := 2, cells := 0, slots := 0, locals := 47 }) (xPc g [.ref (xad g 57), .ref (xad g 59)] E) (xQi g (fun r E1 => xb ((plB f tl).1 = true) r ∧ E1 57 = .inr (4, [.ref (xad g 58), .int (nI tl), .int (nI (plB f tl).2.1), .int ta]) ∧ (∀ j, j ≠ 57 → j ≠ 59 → E1 j = E j) ∧ ((plB f tl).1 = true → ∃ f7 : Nat → Int32, E1 59 = .inl (xI g, 6, .inl f7) ∧ f7 0 = (plB f tl).2.2.1 ∧ f7 1 = (plB f tl).2.2.2.1 ∧ f7 2 = (plB f tl).2.2.2.2.1 ∧ f7 3 = (plB f tl).2.2.2.2.2 ∧ f7 4 = f6 4 ∧ f7 5 = f6 5) ∧ ∃ f7 : Nat → Int32, E1 59 = .inl (xI g, 6, .inl f7))) 0 0 (xA (xad g)) := by
  refine x_met (ws' := _) (by decide) rfl (Nat.le_of_ble_eq_true rfl) ?_
  intro pz ez s m below meth cz ls S hr hlocks hP hK hl
  have hl : lv_has ls 2 [(0, .ref (xad g 57)), (1, .ref (xad g 59))] := hl
  have hS : va_S (xA (xad g)) s.heap s.heap [] := va_S.rf
  have hfr : ∀ j, j ≠ 57 ∧ j ≠ 59 → E j = E j := fun _ _ => rfl
  have hp0 : 0 ≤ tl := Nat.zero_le _
  refine lv_aload_n S.1 S.2.1 dX4_readPlace_0 rfl (lv_at hl 0 rfl) ?_
  refine lv_aload_n S.1 S.2.1 dX4_readPlace_1 rfl (lv_at hl 1 rfl) ?_
  refine lv_iconst (v := 0) S.1 S.2.1 dX4_readPlace_2 (by decide) ?_
  refine lv_iconst (v := 0) S.1 S.2.1 dX4_readPlace_3 (by decide) ?_
  refine x_qi (va_runV (As := [.ref (xad g 59), .int 0, .int 0]) (rest := []) S (c_X4_readNumber_u l g hJ E h57 h58 htl hp0 h59 (w := 0) (by decide)) (cwV 3 S.2.2.2.2 gX4_readPlace_X4_readNumber rfl rfl rfl (by decide +kernel) ⟨Nat.le_of_ble_eq_true rfl, Nat.le_of_ble_eq_true rfl⟩) (x_preV hK hP h57 (by decide) rfl) rfl rfl hl.1 rfl (lv_room (Nat.le_of_ble_eq_true rfl)) dX4_readPlace_4 ⟨Nat.le_of_ble_eq_true rfl, Nat.le_of_ble_eq_true rfl⟩) hS (fun r1 E1 H locs hq1 hP hS => ?_)
  obtain ⟨hr1, h57, hfr1, hi1, hx1⟩ := hq1
  have h58 : E1 58 = .inl (xC g, 60, .inl f) := (hfr1 _ (by decide) (by decide)).trans h58
  have hfr : ∀ j, j ≠ 57 ∧ j ≠ 59 → E1 j = E j := fun j hj => (hfr1 j hj.1 hj.2).trans (hfr j hj)
  obtain ⟨b1, p1, v1, e1⟩ : ∃ b p v, num f tl false 0 = (b, p, v) := ⟨_, _, _, rfl⟩
  have hp1 : p1 ≤ tl := by have := num_le (f := f) (sg := false) hp0; rw [e1] at this; exact this
  rw [e1] at hr1 hi1 h57
  dsimp only at h57
  refine lv_if_eq (tgt := 71) S.1 S.2.1 dX4_readPlace_7 (by decide) (fun c7 => ?_) (fun c7 => ?_)
  · skip
    refine lv_iconst (v := 0) S.1 S.2.1 dX4_readPlace_71 (by decide) ?_
    exact x_zret S hr hlocks hP hS dX4_readPlace_72 rfl (by have hb : b1 = false := Bool.eq_false_iff.mpr (hr1.f c7); subst hb; have hn : plB f tl = (false, p1, 0, 0, 0, 0) := by { simp [plB, e1] }; rw [hn]; exact ⟨xb.zero (by simp), h57, fun j h1 h2 => hfr j ⟨h1, h2⟩, fun h => by simp at h, hx1⟩)
  · skip
    have hb1 : b1 = true := hr1.t c7
    subst hb1
    have h59 : E1 59 = .inl (xI g, 6, .inl (upd f6 0 v1)) := hi1 rfl
    refine lv_aload_n S.1 S.2.1 dX4_readPlace_10 rfl (lv_at hl 0 rfl) ?_
    refine lv_bipush (v := 58) S.1 S.2.1 dX4_readPlace_11 (by decide) ?_
    refine x_qi (va_runV (As := [.int 58]) (rest := []) S (c_X4_pass l g hJ E1 h57 h58 htl hp1 58) (cwV 1 S.2.2.2.2 gX4_readPlace_X4_pass rfl rfl rfl (by decide +kernel) ⟨Nat.le_of_ble_eq_true rfl, Nat.le_of_ble_eq_true rfl⟩) (x_preV hK hP h57 (by decide) rfl) rfl rfl hl.1 rfl (lv_room (Nat.le_of_ble_eq_true rfl)) dX4_readPlace_13 ⟨Nat.le_of_ble_eq_true rfl, Nat.le_of_ble_eq_true rfl⟩) hS (fun r2 E1_1 H locs hq2 hP hS => ?_)
    obtain ⟨hr2, h57, hfr2⟩ := hq2
    have h58 : E1_1 58 = .inl (xC g, 60, .inl f) := (hfr2 _ (by decide)).trans h58
    have h59 : E1_1 59 = .inl (xI g, 6, .inl (upd f6 0 v1)) := (hfr2 _ (by decide)).trans h59
    have hfr : ∀ j, j ≠ 57 ∧ j ≠ 59 → E1_1 j = E j := fun j hj => (hfr2 j hj.1).trans (hfr j hj)
    obtain ⟨b2, p2, e2⟩ : ∃ b p, pas f tl 58 p1 = (b, p) := ⟨_, _, rfl⟩
    have hp2 : p2 ≤ tl := by have := pas_le (f := f) (c := 58) hp1; rw [e2] at this; exact this
    rw [e2] at hr2 h57
    dsimp only at h57
    refine lv_if_eq (tgt := 71) S.1 S.2.1 dX4_readPlace_16 (by decide) (fun c16 => ?_) (fun c16 => ?_)
    · skip
      refine lv_iconst (v := 0) S.1 S.2.1 dX4_readPlace_71 (by decide) ?_
      exact x_zret S hr hlocks hP hS dX4_readPlace_72 rfl (by have hb : b2 = false := Bool.eq_false_iff.mpr (hr2.f c16); subst hb; have hn : plB f tl = (false, p2, 0, 0, 0, 0) := by { simp [plB, e1, e2] }; rw [hn]; exact ⟨xb.zero (by simp), h57, fun j h1 h2 => hfr j ⟨h1, h2⟩, fun h => by simp at h, ⟨_, h59⟩⟩)
    · skip
      have hb2 : b2 = true := hr2.t c16
      subst hb2
      refine lv_aload_n S.1 S.2.1 dX4_readPlace_19 rfl (lv_at hl 0 rfl) ?_
      refine lv_aload_n S.1 S.2.1 dX4_readPlace_20 rfl (lv_at hl 1 rfl) ?_
      refine lv_iconst (v := 1) S.1 S.2.1 dX4_readPlace_21 (by decide) ?_
      refine lv_iconst (v := 1) S.1 S.2.1 dX4_readPlace_22 (by decide) ?_
      refine x_qi (va_runV (As := [.ref (xad g 59), .int 1, .int 1]) (rest := []) S (c_X4_readNumber_s l g hJ E1_1 h57 h58 htl hp2 h59 (w := 1) (by decide)) (cwV 3 S.2.2.2.2 gX4_readPlace_X4_readNumber rfl rfl rfl (by decide +kernel) ⟨Nat.le_of_ble_eq_true rfl, Nat.le_of_ble_eq_true rfl⟩) (x_preV hK hP h57 (by decide) rfl) rfl rfl hl.1 rfl (lv_room (Nat.le_of_ble_eq_true rfl)) dX4_readPlace_23 ⟨Nat.le_of_ble_eq_true rfl, Nat.le_of_ble_eq_true rfl⟩) hS (fun r3 E1_2 H locs hq3 hP hS => ?_)
      obtain ⟨hr3, h57, hfr3, hi3, hx3⟩ := hq3
      have h58 : E1_2 58 = .inl (xC g, 60, .inl f) := (hfr3 _ (by decide) (by decide)).trans h58
      have hfr : ∀ j, j ≠ 57 ∧ j ≠ 59 → E1_2 j = E j := fun j hj => (hfr3 j hj.1 hj.2).trans (hfr j hj)
      obtain ⟨b3, p3, v3, e3⟩ : ∃ b p v, num f tl true p2 = (b, p, v) := ⟨_, _, _, rfl⟩
      have hp3 : p3 ≤ tl := by have := num_le (f := f) (sg := true) hp2; rw [e3] at this; exact this
      rw [e3] at hr3 hi3 h57
      dsimp only at h57
      refine lv_if_eq (tgt := 71) S.1 S.2.1 dX4_readPlace_26 (by decide) (fun c26 => ?_) (fun c26 => ?_)
      · skip
        refine lv_iconst (v := 0) S.1 S.2.1 dX4_readPlace_71 (by decide) ?_
        exact x_zret S hr hlocks hP hS dX4_readPlace_72 rfl (by have hb : b3 = false := Bool.eq_false_iff.mpr (hr3.f c26); subst hb; have hn : plB f tl = (false, p3, 0, 0, 0, 0) := by { simp [plB, e1, e2, e3] }; rw [hn]; exact ⟨xb.zero (by simp), h57, fun j h1 h2 => hfr j ⟨h1, h2⟩, fun h => by simp at h, hx3⟩)
      · skip
        have hb3 : b3 = true := hr3.t c26
        subst hb3
        have h59 : E1_2 59 = .inl (xI g, 6, .inl (upd (upd f6 0 v1) 1 v3)) := hi3 rfl
        refine lv_aload_n S.1 S.2.1 dX4_readPlace_29 rfl (lv_at hl 0 rfl) ?_
        refine lv_bipush (v := 44) S.1 S.2.1 dX4_readPlace_30 (by decide) ?_
        refine x_qi (va_runV (As := [.int 44]) (rest := []) S (c_X4_pass l g hJ E1_2 h57 h58 htl hp3 44) (cwV 1 S.2.2.2.2 gX4_readPlace_X4_pass rfl rfl rfl (by decide +kernel) ⟨Nat.le_of_ble_eq_true rfl, Nat.le_of_ble_eq_true rfl⟩) (x_preV hK hP h57 (by decide) rfl) rfl rfl hl.1 rfl (lv_room (Nat.le_of_ble_eq_true rfl)) dX4_readPlace_32 ⟨Nat.le_of_ble_eq_true rfl, Nat.le_of_ble_eq_true rfl⟩) hS (fun r4 E1_3 H locs hq4 hP hS => ?_)
        obtain ⟨hr4, h57, hfr4⟩ := hq4
        have h58 : E1_3 58 = .inl (xC g, 60, .inl f) := (hfr4 _ (by decide)).trans h58
        have h59 : E1_3 59 = .inl (xI g, 6, .inl (upd (upd f6 0 v1) 1 v3)) := (hfr4 _ (by decide)).trans h59
        have hfr : ∀ j, j ≠ 57 ∧ j ≠ 59 → E1_3 j = E j := fun j hj => (hfr4 j hj.1).trans (hfr j hj)
        obtain ⟨b4, p4, e4⟩ : ∃ b p, pas f tl 44 p3 = (b, p) := ⟨_, _, rfl⟩
        have hp4 : p4 ≤ tl := by have := pas_le (f := f) (c := 44) hp3; rw [e4] at this; exact this
        rw [e4] at hr4 h57
        dsimp only at h57
        refine lv_if_eq (tgt := 71) S.1 S.2.1 dX4_readPlace_35 (by decide) (fun c35 => ?_) (fun c35 => ?_)
        · skip
          refine lv_iconst (v := 0) S.1 S.2.1 dX4_readPlace_71 (by decide) ?_
          exact x_zret S hr hlocks hP hS dX4_readPlace_72 rfl (by have hb : b4 = false := Bool.eq_false_iff.mpr (hr4.f c35); subst hb; have hn : plB f tl = (false, p4, 0, 0, 0, 0) := by { simp [plB, e1, e2, e3, e4] }; rw [hn]; exact ⟨xb.zero (by simp), h57, fun j h1 h2 => hfr j ⟨h1, h2⟩, fun h => by simp at h, ⟨_, h59⟩⟩)
        · skip
          have hb4 : b4 = true := hr4.t c35
          subst hb4
          refine lv_aload_n S.1 S.2.1 dX4_readPlace_38 rfl (lv_at hl 0 rfl) ?_
          refine lv_aload_n S.1 S.2.1 dX4_readPlace_39 rfl (lv_at hl 1 rfl) ?_
          refine lv_iconst (v := 2) S.1 S.2.1 dX4_readPlace_40 (by decide) ?_
          refine lv_iconst (v := 1) S.1 S.2.1 dX4_readPlace_41 (by decide) ?_
          refine x_qi (va_runV (As := [.ref (xad g 59), .int 2, .int 1]) (rest := []) S (c_X4_readNumber_s l g hJ E1_3 h57 h58 htl hp4 h59 (w := 2) (by decide)) (cwV 3 S.2.2.2.2 gX4_readPlace_X4_readNumber rfl rfl rfl (by decide +kernel) ⟨Nat.le_of_ble_eq_true rfl, Nat.le_of_ble_eq_true rfl⟩) (x_preV hK hP h57 (by decide) rfl) rfl rfl hl.1 rfl (lv_room (Nat.le_of_ble_eq_true rfl)) dX4_readPlace_42 ⟨Nat.le_of_ble_eq_true rfl, Nat.le_of_ble_eq_true rfl⟩) hS (fun r5 E1_4 H locs hq5 hP hS => ?_)
          obtain ⟨hr5, h57, hfr5, hi5, hx5⟩ := hq5
          have h58 : E1_4 58 = .inl (xC g, 60, .inl f) := (hfr5 _ (by decide) (by decide)).trans h58
          have hfr : ∀ j, j ≠ 57 ∧ j ≠ 59 → E1_4 j = E j := fun j hj => (hfr5 j hj.1 hj.2).trans (hfr j hj)
          obtain ⟨b5, p5, v5, e5⟩ : ∃ b p v, num f tl true p4 = (b, p, v) := ⟨_, _, _, rfl⟩
          have hp5 : p5 ≤ tl := by have := num_le (f := f) (sg := true) hp4; rw [e5] at this; exact this
          rw [e5] at hr5 hi5 h57
          dsimp only at h57
          refine lv_if_eq (tgt := 71) S.1 S.2.1 dX4_readPlace_45 (by decide) (fun c45 => ?_) (fun c45 => ?_)
          · skip
            refine lv_iconst (v := 0) S.1 S.2.1 dX4_readPlace_71 (by decide) ?_
            exact x_zret S hr hlocks hP hS dX4_readPlace_72 rfl (by have hb : b5 = false := Bool.eq_false_iff.mpr (hr5.f c45); subst hb; have hn : plB f tl = (false, p5, 0, 0, 0, 0) := by { simp [plB, e1, e2, e3, e4, e5] }; rw [hn]; exact ⟨xb.zero (by simp), h57, fun j h1 h2 => hfr j ⟨h1, h2⟩, fun h => by simp at h, hx5⟩)
          · skip
            have hb5 : b5 = true := hr5.t c45
            subst hb5
            have h59 : E1_4 59 = .inl (xI g, 6, .inl (upd (upd (upd f6 0 v1) 1 v3) 2 v5)) := hi5 rfl
            refine lv_aload_n S.1 S.2.1 dX4_readPlace_48 rfl (lv_at hl 0 rfl) ?_
            refine lv_bipush (v := 44) S.1 S.2.1 dX4_readPlace_49 (by decide) ?_
            refine x_qi (va_runV (As := [.int 44]) (rest := []) S (c_X4_pass l g hJ E1_4 h57 h58 htl hp5 44) (cwV 1 S.2.2.2.2 gX4_readPlace_X4_pass rfl rfl rfl (by decide +kernel) ⟨Nat.le_of_ble_eq_true rfl, Nat.le_of_ble_eq_true rfl⟩) (x_preV hK hP h57 (by decide) rfl) rfl rfl hl.1 rfl (lv_room (Nat.le_of_ble_eq_true rfl)) dX4_readPlace_51 ⟨Nat.le_of_ble_eq_true rfl, Nat.le_of_ble_eq_true rfl⟩) hS (fun r6 E1_5 H locs hq6 hP hS => ?_)
            obtain ⟨hr6, h57, hfr6⟩ := hq6
            have h58 : E1_5 58 = .inl (xC g, 60, .inl f) := (hfr6 _ (by decide)).trans h58
            have h59 : E1_5 59 = .inl (xI g, 6, .inl (upd (upd (upd f6 0 v1) 1 v3) 2 v5)) := (hfr6 _ (by decide)).trans h59
            have hfr : ∀ j, j ≠ 57 ∧ j ≠ 59 → E1_5 j = E j := fun j hj => (hfr6 j hj.1).trans (hfr j hj)
            obtain ⟨b6, p6, e6⟩ : ∃ b p, pas f tl 44 p5 = (b, p) := ⟨_, _, rfl⟩
            have hp6 : p6 ≤ tl := by have := pas_le (f := f) (c := 44) hp5; rw [e6] at this; exact this
            rw [e6] at hr6 h57
            dsimp only at h57
            refine lv_if_eq (tgt := 71) S.1 S.2.1 dX4_readPlace_54 (by decide) (fun c54 => ?_) (fun c54 => ?_)
            · skip
              refine lv_iconst (v := 0) S.1 S.2.1 dX4_readPlace_71 (by decide) ?_
              exact x_zret S hr hlocks hP hS dX4_readPlace_72 rfl (by have hb : b6 = false := Bool.eq_false_iff.mpr (hr6.f c54); subst hb; have hn : plB f tl = (false, p6, 0, 0, 0, 0) := by { simp [plB, e1, e2, e3, e4, e5, e6] }; rw [hn]; exact ⟨xb.zero (by simp), h57, fun j h1 h2 => hfr j ⟨h1, h2⟩, fun h => by simp at h, ⟨_, h59⟩⟩)
            · skip
              have hb6 : b6 = true := hr6.t c54
              subst hb6
              refine lv_aload_n S.1 S.2.1 dX4_readPlace_57 rfl (lv_at hl 0 rfl) ?_
              refine lv_aload_n S.1 S.2.1 dX4_readPlace_58 rfl (lv_at hl 1 rfl) ?_
              refine lv_iconst (v := 3) S.1 S.2.1 dX4_readPlace_59 (by decide) ?_
              refine lv_iconst (v := 0) S.1 S.2.1 dX4_readPlace_60 (by decide) ?_
              refine x_qi (va_runV (As := [.ref (xad g 59), .int 3, .int 0]) (rest := []) S (c_X4_readNumber_u l g hJ E1_5 h57 h58 htl hp6 h59 (w := 3) (by decide)) (cwV 3 S.2.2.2.2 gX4_readPlace_X4_readNumber rfl rfl rfl (by decide +kernel) ⟨Nat.le_of_ble_eq_true rfl, Nat.le_of_ble_eq_true rfl⟩) (x_preV hK hP h57 (by decide) rfl) rfl rfl hl.1 rfl (lv_room (Nat.le_of_ble_eq_true rfl)) dX4_readPlace_61 ⟨Nat.le_of_ble_eq_true rfl, Nat.le_of_ble_eq_true rfl⟩) hS (fun r7 E1_6 H locs hq7 hP hS => ?_)
              obtain ⟨hr7, h57, hfr7, hi7, hx7⟩ := hq7
              have h58 : E1_6 58 = .inl (xC g, 60, .inl f) := (hfr7 _ (by decide) (by decide)).trans h58
              have hfr : ∀ j, j ≠ 57 ∧ j ≠ 59 → E1_6 j = E j := fun j hj => (hfr7 j hj.1 hj.2).trans (hfr j hj)
              obtain ⟨b7, p7, v7, e7⟩ : ∃ b p v, num f tl false p6 = (b, p, v) := ⟨_, _, _, rfl⟩
              have hp7 : p7 ≤ tl := by have := num_le (f := f) (sg := false) hp6; rw [e7] at this; exact this
              rw [e7] at hr7 hi7 h57
              dsimp only at h57
              refine lv_if_eq (tgt := 71) S.1 S.2.1 dX4_readPlace_64 (by decide) (fun c64 => ?_) (fun c64 => ?_)
              · skip
                refine lv_iconst (v := 0) S.1 S.2.1 dX4_readPlace_71 (by decide) ?_
                exact x_zret S hr hlocks hP hS dX4_readPlace_72 rfl (by have hb : b7 = false := Bool.eq_false_iff.mpr (hr7.f c64); subst hb; have hn : plB f tl = (false, p7, 0, 0, 0, 0) := by { simp [plB, e1, e2, e3, e4, e5, e6, e7] }; rw [hn]; exact ⟨xb.zero (by simp), h57, fun j h1 h2 => hfr j ⟨h1, h2⟩, fun h => by simp at h, hx7⟩)
              · skip
                have hb7 : b7 = true := hr7.t c64
                subst hb7
                have h59 : E1_6 59 = .inl (xI g, 6, .inl (upd (upd (upd (upd f6 0 v1) 1 v3) 2 v5) 3 v7)) := hi7 rfl
                refine lv_iconst (v := 1) S.1 S.2.1 dX4_readPlace_67 (by decide) ?_
                refine lv_goto (tgt := 72) S.1 S.2.1 dX4_readPlace_68 (by decide) ?_
                exact x_zret S hr hlocks hP hS dX4_readPlace_72 rfl (by have hn : plB f tl = (true, p7, v1, v3, v5, v7) := by { simp [plB, e1, e2, e3, e4, e5, e6, e7] }; rw [hn]; exact ⟨xb.one rfl, h57, fun j h1 h2 => hfr j ⟨h1, h2⟩, fun _ => ⟨_, h59, by simp [upd], by simp [upd], by simp [upd], by simp [upd], by simp [upd], by simp [upd]⟩, _, h59⟩)
theorem plB_le {f : Nat → Int32} {tl : Nat} : (plB f tl).2.1 ≤ tl := by
  have k0 : (num f tl false 0).2.1 ≤ tl := num_le (Nat.zero_le _)
  have k1 : (pas f tl 58 (num f tl false 0).2.1).2 ≤ tl := pas_le k0
  have k2 := num_le (f := f) (sg := true) k1
  have k3 := pas_le (f := f) (c := 44) k2
  have k4 := num_le (f := f) (sg := true) k3
  have k5 := pas_le (f := f) (c := 44) k4
  have k6 := num_le (f := f) (sg := false) k5
  simp only [plB]
  repeat (first | split | assumption)
set_option maxHeartbeats 4000000 in
set_option maxRecDepth 100000 in
theorem c_X4_readInto (l : Launch) (g : xG) (hJ : xJ (xad g)) (E : Nat → va_E) {tl : Nat} {p0 ta : Int32} {f : Nat → Int32} (h57 : E 57 = .inr (4, [.ref (xad g 58), .int (nI tl), .int p0, .int ta])) (h58 : E 58 = .inl (xC g, 60, .inl f)) (htl : tl ≤ 60) {f6 : Nat → Int32} (h59 : E 59 = .inl (xI g, 6, .inl f6)) : Met l yX4_readInto wsX4_readInto ({ frames := 3, cells := 0, slots := 0, locals := 68 }) (xPc g [.ref (xad g 57), .ref (xad g 59)] E) (xQi g (fun r E1 => xb ((prs f tl).1 = true) r ∧ (∃ z : Int32, E1 57 = .inr (4, [.ref (xad g 58), .int (nI tl), .int (nI (prs f tl).2.1), .int z]) ∧ xb ((prs f tl).2.2.1 = true) z) ∧ (∀ j, j ≠ 57 → j ≠ 59 → E1 j = E j) ∧ ((prs f tl).1 = true → ∃ f7 : Nat → Int32, E1 59 = .inl (xI g, 6, .inl f7) ∧ f7 0 = (plB f tl).2.2.1 ∧ f7 1 = (plB f tl).2.2.2.1 ∧ f7 2 = (plB f tl).2.2.2.2.1 ∧ f7 3 = (plB f tl).2.2.2.2.2 ∧ f7 4 = (prs f tl).2.2.2.1 ∧ f7 5 = (prs f tl).2.2.2.2) ∧ ∃ f7 : Nat → Int32, E1 59 = .inl (xI g, 6, .inl f7))) 0 0 (xA (xad g)) := by
  refine x_met (ws' := _) (by decide) rfl (Nat.le_of_ble_eq_true rfl) ?_
  intro pz ez s m below meth cz ls S hr hlocks hP hK hl
  have hl : lv_has ls 2 [(0, .ref (xad g 57)), (1, .ref (xad g 59))] := hl
  have hS : va_S (xA (xad g)) s.heap s.heap [] := va_S.rf
  have hin4 : ∀ w ∈ u_ws RX4 TX4 4, w ∈ wsX4_readInto := by decide +kernel
  have fl15 : Cond.fieldLink RX4 15 "DiscArcs$Text" "length" "I" ∈ wsX4_readInto := by decide +kernel
  have fl19 : Cond.fieldLink RX4 19 "DiscArcs$Text" "position" "I" ∈ wsX4_readInto := by decide +kernel
  have fl22 : Cond.fieldLink RX4 22 "DiscArcs$Text" "tellsAngle" "Z" ∈ wsX4_readInto := by decide +kernel
  have hfr : ∀ j, j ≠ 57 ∧ j ≠ 59 → E j = E j := fun _ _ => rfl
  refine lv_aload_n S.1 S.2.1 dX4_readInto_0 rfl (lv_at hl 0 rfl) ?_
  refine lv_iconst (v := 0) S.1 S.2.1 dX4_readInto_1 (by decide) ?_
  refine x_put S hK hJ hP hS dX4_readInto_2 h57 (by decide) (RX4, TX4, 4) rfl hin4 tyX4 tyX4_ok nmX4 2 (by decide) fl19 rfl rfl rfl (Nat.le_of_ble_eq_true rfl) (fun H locs E1 hu hP hS => ?_)
  have h57 : E1 57 = .inr (4, [.ref (xad g 58), .int (nI tl), .int 0, .int ta]) := hu.1
  have h58 : E1 58 = .inl (xC g, 60, .inl f) := (hu.2 _ (by omega)).trans h58
  have h59 : E1 59 = .inl (xI g, 6, .inl f6) := (hu.2 _ (by omega)).trans h59
  have hfr : ∀ j, j ≠ 57 ∧ j ≠ 59 → E1 j = E j := fun j hj => (hu.2 j (by omega)).trans (hfr j hj)
  refine lv_aload_n S.1 S.2.1 dX4_readInto_5 rfl (lv_at hl 0 rfl) ?_
  refine lv_iconst (v := 0) S.1 S.2.1 dX4_readInto_6 (by decide) ?_
  refine x_put S hK hJ hP hS dX4_readInto_7 h57 (by decide) (RX4, TX4, 4) rfl hin4 tyX4 tyX4_ok nmX4 3 (by decide) fl22 rfl rfl rfl (Nat.le_of_ble_eq_true rfl) (fun H locs E1_1 hu hP hS => ?_)
  have h57 : E1_1 57 = .inr (4, [.ref (xad g 58), .int (nI tl), .int 0, .int 0]) := hu.1
  have h58 : E1_1 58 = .inl (xC g, 60, .inl f) := (hu.2 _ (by omega)).trans h58
  have h59 : E1_1 59 = .inl (xI g, 6, .inl f6) := (hu.2 _ (by omega)).trans h59
  have hfr : ∀ j, j ≠ 57 ∧ j ≠ 59 → E1_1 j = E j := fun j hj => (hu.2 j (by omega)).trans (hfr j hj)
  refine lv_aload_n S.1 S.2.1 dX4_readInto_10 rfl (lv_at hl 1 rfl) ?_
  refine lv_iconst (v := 4) S.1 S.2.1 dX4_readInto_11 (by decide) ?_
  refine lv_sipush (v := 360) S.1 S.2.1 dX4_readInto_12 (by decide) ?_
  refine x_iast S hK hJ hP hS dX4_readInto_15 h59 (by decide) (j := 4) rfl (by omega) (by decide) (fun H locs E1_2 hu hP hS => ?_)
  have h57 : E1_2 57 = .inr (4, [.ref (xad g 58), .int (nI tl), .int 0, .int 0]) := (hu.2 _ (by omega)).trans h57
  have h58 : E1_2 58 = .inl (xC g, 60, .inl f) := (hu.2 _ (by omega)).trans h58
  have h59 : E1_2 59 = .inl (xI g, 6, .inl (upd f6 4 360)) := hu.1
  have hfr : ∀ j, j ≠ 57 ∧ j ≠ 59 → E1_2 j = E j := fun j hj => (hu.2 j (by omega)).trans (hfr j hj)
  refine lv_aload_n S.1 S.2.1 dX4_readInto_16 rfl (lv_at hl 1 rfl) ?_
  refine lv_iconst (v := 5) S.1 S.2.1 dX4_readInto_17 (by decide) ?_
  refine lv_iconst (v := 0) S.1 S.2.1 dX4_readInto_18 (by decide) ?_
  refine x_iast S hK hJ hP hS dX4_readInto_19 h59 (by decide) (j := 5) rfl (by omega) (by decide) (fun H locs E1_3 hu hP hS => ?_)
  have h57 : E1_3 57 = .inr (4, [.ref (xad g 58), .int (nI tl), .int 0, .int 0]) := (hu.2 _ (by omega)).trans h57
  have h58 : E1_3 58 = .inl (xC g, 60, .inl f) := (hu.2 _ (by omega)).trans h58
  have h59 : E1_3 59 = .inl (xI g, 6, .inl (upd (upd f6 4 360) 5 0)) := hu.1
  have hfr : ∀ j, j ≠ 57 ∧ j ≠ 59 → E1_3 j = E j := fun j hj => (hu.2 j (by omega)).trans (hfr j hj)
  refine lv_aload_n S.1 S.2.1 dX4_readInto_20 rfl (lv_at hl 0 rfl) ?_
  refine lv_aload_n S.1 S.2.1 dX4_readInto_21 rfl (lv_at hl 1 rfl) ?_
  refine x_qi (va_runV (As := [.ref (xad g 59)]) (rest := []) S (c_X4_readPlace l g hJ E1_3 h57 h58 htl h59) (cwV 1 S.2.2.2.2 gX4_readInto_X4_readPlace rfl rfl rfl (by decide +kernel) ⟨Nat.le_of_ble_eq_true rfl, Nat.le_of_ble_eq_true rfl⟩) (x_preV hK hP h57 (by decide) rfl) rfl rfl hl.1 rfl (lv_room (Nat.le_of_ble_eq_true rfl)) dX4_readInto_22 ⟨Nat.le_of_ble_eq_true rfl, Nat.le_of_ble_eq_true rfl⟩) hS (fun r1 E1_4 H locs hq1 hP hS => ?_)
  obtain ⟨hr1, h57, hfr1, hi1, hx1⟩ := hq1
  have h58 : E1_4 58 = .inl (xC g, 60, .inl f) := (hfr1 _ (by decide) (by decide)).trans h58
  have hfr : ∀ j, j ≠ 57 ∧ j ≠ 59 → E1_4 j = E j := fun j hj => (hfr1 j hj.1 hj.2).trans (hfr j hj)
  have hp1 := plB_le (f := f) (tl := tl)
  obtain ⟨b1, p1, w0, w1, w2, w3, e1⟩ : ∃ b p w0 w1 w2 w3, plB f tl = (b, p, w0, w1, w2, w3) := ⟨_, _, _, _, _, _, rfl⟩
  rw [e1] at hr1 hi1 h57 hp1
  dsimp only at h57 hp1
  refine lv_if_ne (tgt := 30) S.1 S.2.1 dX4_readInto_25 (by decide) (fun c25 => ?_) (fun c25 => ?_)
  · skip
    have hb1 : b1 = true := hr1.t c25
    subst hb1
    obtain ⟨f7, h59, g0, g1, g2, g3, g4, g5⟩ := hi1 rfl
    have g4 : f7 4 = 360 := g4.trans (by simp [upd])
    have g5 : f7 5 = 0 := g5.trans (by simp [upd])
    refine lv_aload_n S.1 S.2.1 dX4_readInto_30 rfl (lv_at hl 0 rfl) ?_
    refine x_get S hK hP dX4_readInto_31 h57 (by decide) (RX4, TX4, 4) rfl hin4 2 (by decide) fl19 rfl ?_
    refine lv_aload_n S.1 S.2.1 dX4_readInto_34 rfl (lv_at hl 0 rfl) ?_
    refine x_get S hK hP dX4_readInto_35 h57 (by decide) (RX4, TX4, 4) rfl hin4 1 (by decide) fl15 rfl ?_
    refine lv_icmp_ne (tgt := 43) S.1 S.2.1 dX4_readInto_38 (by decide) (fun c38 => ?_) (fun c38 => ?_)
    · skip
      refine lv_aload_n S.1 S.2.1 dX4_readInto_43 rfl (lv_at hl 0 rfl) ?_
      refine lv_aload_n S.1 S.2.1 dX4_readInto_44 rfl (lv_at hl 0 rfl) ?_
      refine lv_bipush (v := 64) S.1 S.2.1 dX4_readInto_45 (by decide) ?_
      refine x_qi (va_runV (As := [.int 64]) (rest := [.ref (xad g 57)]) S (c_X4_pass l g hJ E1_4 h57 h58 htl hp1 64) (cwV 1 S.2.2.2.2 gX4_readInto_X4_pass rfl rfl rfl (by decide +kernel) ⟨Nat.le_of_ble_eq_true rfl, Nat.le_of_ble_eq_true rfl⟩) (x_preV hK hP h57 (by decide) rfl) rfl rfl hl.1 rfl (lv_room (Nat.le_of_ble_eq_true rfl)) dX4_readInto_47 ⟨Nat.le_of_ble_eq_true rfl, Nat.le_of_ble_eq_true rfl⟩) hS (fun r2 E1_5 H locs hq2 hP hS => ?_)
      obtain ⟨hr2, h57, hfr2⟩ := hq2
      have h58 : E1_5 58 = .inl (xC g, 60, .inl f) := (hfr2 _ (by decide)).trans h58
      have h59 : E1_5 59 = .inl (xI g, 6, .inl f7) := (hfr2 _ (by decide)).trans h59
      have hfr : ∀ j, j ≠ 57 ∧ j ≠ 59 → E1_5 j = E j := fun j hj => (hfr2 j hj.1).trans (hfr j hj)
      obtain ⟨b2, p2, e2⟩ : ∃ b p, pas f tl 64 p1 = (b, p) := ⟨_, _, rfl⟩
      have hp2 : p2 ≤ tl := by have := pas_le (f := f) (c := 64) hp1; rw [e2] at this; exact this
      rw [e2] at hr2 h57
      dsimp only at h57
      refine x_put S hK hJ hP hS dX4_readInto_50 h57 (by decide) (RX4, TX4, 4) rfl hin4 tyX4 tyX4_ok nmX4 3 (by decide) fl22 rfl hr2.nar hr2.fit (Nat.le_of_ble_eq_true rfl) (fun H locs E1_6 hu hP hS => ?_)
      have h57 : E1_6 57 = .inr (4, [.ref (xad g 58), .int (nI tl), .int (nI p2), .int r2]) := hu.1
      have h58 : E1_6 58 = .inl (xC g, 60, .inl f) := (hu.2 _ (by omega)).trans h58
      have h59 : E1_6 59 = .inl (xI g, 6, .inl f7) := (hu.2 _ (by omega)).trans h59
      have hfr : ∀ j, j ≠ 57 ∧ j ≠ 59 → E1_6 j = E j := fun j hj => (hu.2 j (by omega)).trans (hfr j hj)
      refine lv_aload_n S.1 S.2.1 dX4_readInto_53 rfl (lv_at hl 0 rfl) ?_
      refine x_get S hK hP dX4_readInto_54 h57 (by decide) (RX4, TX4, 4) rfl hin4 3 (by decide) fl22 rfl ?_
      refine lv_if_eq (tgt := 104) S.1 S.2.1 dX4_readInto_57 (by decide) (fun c57 => ?_) (fun c57 => ?_)
      · skip
        refine lv_iconst (v := 0) S.1 S.2.1 dX4_readInto_104 (by decide) ?_
        exact x_zret S hr hlocks hP hS dX4_readInto_105 rfl (by have he : ¬ p1 = tl := fun h => c38 (by rw [h]); have hb : b2 = false := Bool.eq_false_iff.mpr (hr2.f c57); subst hb; have hn : prs f tl = (false, p2, false, 360, 0) := by { simp [prs, e1, e2, he] }; rw [hn]; exact ⟨xb.zero (by simp), ⟨_, h57, hr2.iff (by simp)⟩, fun j h1 h2 => hfr j ⟨h1, h2⟩, fun h => by simp at h, ⟨_, h59⟩⟩)
      · skip
        have hb2 : b2 = true := hr2.t c57
        subst hb2
        refine lv_aload_n S.1 S.2.1 dX4_readInto_60 rfl (lv_at hl 0 rfl) ?_
        refine lv_aload_n S.1 S.2.1 dX4_readInto_61 rfl (lv_at hl 1 rfl) ?_
        refine lv_iconst (v := 4) S.1 S.2.1 dX4_readInto_62 (by decide) ?_
        refine lv_iconst (v := 0) S.1 S.2.1 dX4_readInto_63 (by decide) ?_
        refine x_qi (va_runV (As := [.ref (xad g 59), .int 4, .int 0]) (rest := []) S (c_X4_readNumber_u l g hJ E1_6 h57 h58 htl hp2 h59 (w := 4) (by decide)) (cwV 3 S.2.2.2.2 gX4_readInto_X4_readNumber rfl rfl rfl (by decide +kernel) ⟨Nat.le_of_ble_eq_true rfl, Nat.le_of_ble_eq_true rfl⟩) (x_preV hK hP h57 (by decide) rfl) rfl rfl hl.1 rfl (lv_room (Nat.le_of_ble_eq_true rfl)) dX4_readInto_64 ⟨Nat.le_of_ble_eq_true rfl, Nat.le_of_ble_eq_true rfl⟩) hS (fun r3 E1_7 H locs hq3 hP hS => ?_)
        obtain ⟨hr3, h57, hfr3, hi3, hx3⟩ := hq3
        have h58 : E1_7 58 = .inl (xC g, 60, .inl f) := (hfr3 _ (by decide) (by decide)).trans h58
        have hfr : ∀ j, j ≠ 57 ∧ j ≠ 59 → E1_7 j = E j := fun j hj => (hfr3 j hj.1 hj.2).trans (hfr j hj)
        obtain ⟨b3, p3, v3, e3⟩ : ∃ b p v, num f tl false p2 = (b, p, v) := ⟨_, _, _, rfl⟩
        have hp3 : p3 ≤ tl := by have := num_le (f := f) (sg := false) hp2; rw [e3] at this; exact this
        rw [e3] at hr3 hi3 h57
        dsimp only at h57
        refine lv_if_eq (tgt := 104) S.1 S.2.1 dX4_readInto_67 (by decide) (fun c67 => ?_) (fun c67 => ?_)
        · skip
          refine lv_iconst (v := 0) S.1 S.2.1 dX4_readInto_104 (by decide) ?_
          exact x_zret S hr hlocks hP hS dX4_readInto_105 rfl (by have he : ¬ p1 = tl := fun h => c38 (by rw [h]); have hb : b3 = false := Bool.eq_false_iff.mpr (hr3.f c67); subst hb; have hn : prs f tl = (false, p3, true, 360, 0) := by { simp [prs, e1, e2, e3, he] }; rw [hn]; exact ⟨xb.zero (by simp), ⟨_, h57, hr2.iff (by simp)⟩, fun j h1 h2 => hfr j ⟨h1, h2⟩, fun h => by simp at h, hx3⟩)
        · skip
          have hb3 : b3 = true := hr3.t c67
          subst hb3
          have h59 : E1_7 59 = .inl (xI g, 6, .inl (upd f7 4 v3)) := hi3 rfl
          refine lv_aload_n S.1 S.2.1 dX4_readInto_70 rfl (lv_at hl 0 rfl) ?_
          refine lv_bipush (v := 44) S.1 S.2.1 dX4_readInto_71 (by decide) ?_
          refine x_qi (va_runV (As := [.int 44]) (rest := []) S (c_X4_pass l g hJ E1_7 h57 h58 htl hp3 44) (cwV 1 S.2.2.2.2 gX4_readInto_X4_pass rfl rfl rfl (by decide +kernel) ⟨Nat.le_of_ble_eq_true rfl, Nat.le_of_ble_eq_true rfl⟩) (x_preV hK hP h57 (by decide) rfl) rfl rfl hl.1 rfl (lv_room (Nat.le_of_ble_eq_true rfl)) dX4_readInto_73 ⟨Nat.le_of_ble_eq_true rfl, Nat.le_of_ble_eq_true rfl⟩) hS (fun r4 E1_8 H locs hq4 hP hS => ?_)
          obtain ⟨hr4, h57, hfr4⟩ := hq4
          have h58 : E1_8 58 = .inl (xC g, 60, .inl f) := (hfr4 _ (by decide)).trans h58
          have h59 : E1_8 59 = .inl (xI g, 6, .inl (upd f7 4 v3)) := (hfr4 _ (by decide)).trans h59
          have hfr : ∀ j, j ≠ 57 ∧ j ≠ 59 → E1_8 j = E j := fun j hj => (hfr4 j hj.1).trans (hfr j hj)
          obtain ⟨b4, p4, e4⟩ : ∃ b p, pas f tl 44 p3 = (b, p) := ⟨_, _, rfl⟩
          have hp4 : p4 ≤ tl := by have := pas_le (f := f) (c := 44) hp3; rw [e4] at this; exact this
          rw [e4] at hr4 h57
          dsimp only at h57
          refine lv_if_eq (tgt := 104) S.1 S.2.1 dX4_readInto_76 (by decide) (fun c76 => ?_) (fun c76 => ?_)
          · skip
            refine lv_iconst (v := 0) S.1 S.2.1 dX4_readInto_104 (by decide) ?_
            exact x_zret S hr hlocks hP hS dX4_readInto_105 rfl (by have he : ¬ p1 = tl := fun h => c38 (by rw [h]); have hb : b4 = false := Bool.eq_false_iff.mpr (hr4.f c76); subst hb; have hn : prs f tl = (false, p4, true, v3, 0) := by { simp [prs, e1, e2, e3, e4, he] }; rw [hn]; exact ⟨xb.zero (by simp), ⟨_, h57, hr2.iff (by simp)⟩, fun j h1 h2 => hfr j ⟨h1, h2⟩, fun h => by simp at h, ⟨_, h59⟩⟩)
          · skip
            have hb4 : b4 = true := hr4.t c76
            subst hb4
            refine lv_aload_n S.1 S.2.1 dX4_readInto_79 rfl (lv_at hl 0 rfl) ?_
            refine lv_aload_n S.1 S.2.1 dX4_readInto_80 rfl (lv_at hl 1 rfl) ?_
            refine lv_iconst (v := 5) S.1 S.2.1 dX4_readInto_81 (by decide) ?_
            refine lv_iconst (v := 0) S.1 S.2.1 dX4_readInto_82 (by decide) ?_
            refine x_qi (va_runV (As := [.ref (xad g 59), .int 5, .int 0]) (rest := []) S (c_X4_readNumber_u l g hJ E1_8 h57 h58 htl hp4 h59 (w := 5) (by decide)) (cwV 3 S.2.2.2.2 gX4_readInto_X4_readNumber rfl rfl rfl (by decide +kernel) ⟨Nat.le_of_ble_eq_true rfl, Nat.le_of_ble_eq_true rfl⟩) (x_preV hK hP h57 (by decide) rfl) rfl rfl hl.1 rfl (lv_room (Nat.le_of_ble_eq_true rfl)) dX4_readInto_83 ⟨Nat.le_of_ble_eq_true rfl, Nat.le_of_ble_eq_true rfl⟩) hS (fun r5 E1_9 H locs hq5 hP hS => ?_)
            obtain ⟨hr5, h57, hfr5, hi5, hx5⟩ := hq5
            have h58 : E1_9 58 = .inl (xC g, 60, .inl f) := (hfr5 _ (by decide) (by decide)).trans h58
            have hfr : ∀ j, j ≠ 57 ∧ j ≠ 59 → E1_9 j = E j := fun j hj => (hfr5 j hj.1 hj.2).trans (hfr j hj)
            obtain ⟨b5, p5, v5, e5⟩ : ∃ b p v, num f tl false p4 = (b, p, v) := ⟨_, _, _, rfl⟩
            have hp5 : p5 ≤ tl := by have := num_le (f := f) (sg := false) hp4; rw [e5] at this; exact this
            rw [e5] at hr5 hi5 h57
            dsimp only at h57
            refine lv_if_eq (tgt := 104) S.1 S.2.1 dX4_readInto_86 (by decide) (fun c86 => ?_) (fun c86 => ?_)
            · skip
              refine lv_iconst (v := 0) S.1 S.2.1 dX4_readInto_104 (by decide) ?_
              exact x_zret S hr hlocks hP hS dX4_readInto_105 rfl (by have he : ¬ p1 = tl := fun h => c38 (by rw [h]); have hb : b5 = false := Bool.eq_false_iff.mpr (hr5.f c86); subst hb; have hn : prs f tl = (false, p5, true, v3, 0) := by { simp [prs, e1, e2, e3, e4, e5, he] }; rw [hn]; exact ⟨xb.zero (by simp), ⟨_, h57, hr2.iff (by simp)⟩, fun j h1 h2 => hfr j ⟨h1, h2⟩, fun h => by simp at h, hx5⟩)
            · skip
              have hb5 : b5 = true := hr5.t c86
              subst hb5
              have h59 : E1_9 59 = .inl (xI g, 6, .inl (upd (upd f7 4 v3) 5 v5)) := hi5 rfl
              refine lv_aload_n S.1 S.2.1 dX4_readInto_89 rfl (lv_at hl 0 rfl) ?_
              refine x_get S hK hP dX4_readInto_90 h57 (by decide) (RX4, TX4, 4) rfl hin4 2 (by decide) fl19 rfl ?_
              refine lv_aload_n S.1 S.2.1 dX4_readInto_93 rfl (lv_at hl 0 rfl) ?_
              refine x_get S hK hP dX4_readInto_94 h57 (by decide) (RX4, TX4, 4) rfl hin4 1 (by decide) fl15 rfl ?_
              refine lv_icmp_ne (tgt := 104) S.1 S.2.1 dX4_readInto_97 (by decide) (fun c97 => ?_) (fun c97 => ?_)
              · skip
                refine lv_iconst (v := 0) S.1 S.2.1 dX4_readInto_104 (by decide) ?_
                exact x_zret S hr hlocks hP hS dX4_readInto_105 rfl (by have he : ¬ p1 = tl := fun h => c38 (by rw [h]); have he5 : ¬ p5 = tl := fun h => c97 (by rw [h]); have hn : prs f tl = (false, p5, true, v3, v5) := by { simp [prs, e1, e2, e3, e4, e5, he, he5] }; rw [hn]; exact ⟨xb.zero (by simp), ⟨_, h57, hr2⟩, fun j h1 h2 => hfr j ⟨h1, h2⟩, fun h => by simp at h, _, h59⟩)
              · skip
                refine lv_iconst (v := 1) S.1 S.2.1 dX4_readInto_100 (by decide) ?_
                refine lv_goto (tgt := 105) S.1 S.2.1 dX4_readInto_101 (by decide) ?_
                exact x_zret S hr hlocks hP hS dX4_readInto_105 rfl (by have he : ¬ p1 = tl := fun h => c38 (by rw [h]); have he5 : p5 = tl := (nI_eq (by omega) (by omega)).mp c97; have hn : prs f tl = (true, p5, true, v3, v5) := by { simp [prs, e1, e2, e3, e4, e5, he, he5] }; rw [hn]; exact ⟨xb.one rfl, ⟨_, h57, hr2⟩, fun j h1 h2 => hfr j ⟨h1, h2⟩, fun _ => ⟨_, h59, by rw [e1]; simp [upd, g0], by rw [e1]; simp [upd, g1], by rw [e1]; simp [upd, g2], by rw [e1]; simp [upd, g3], by simp [upd], by simp [upd]⟩, _, h59⟩)
    · skip
      refine lv_iconst (v := 1) S.1 S.2.1 dX4_readInto_41 (by decide) ?_
      exact x_zret S hr hlocks hP hS dX4_readInto_42 rfl (by have he : p1 = tl := (nI_eq (by omega) (by omega)).mp c38; have hn : prs f tl = (true, p1, false, 360, 0) := by { simp [prs, e1, he] }; rw [hn]; exact ⟨xb.one rfl, ⟨_, h57, xb.zero (by simp)⟩, fun j h1 h2 => hfr j ⟨h1, h2⟩, fun _ => ⟨_, h59, by rw [e1]; simp [upd, g0], by rw [e1]; simp [upd, g1], by rw [e1]; simp [upd, g2], by rw [e1]; simp [upd, g3], by simp [g4], by simp [g5]⟩, _, h59⟩)
  · skip
    refine lv_iconst (v := 0) S.1 S.2.1 dX4_readInto_28 (by decide) ?_
    exact x_zret S hr hlocks hP hS dX4_readInto_29 rfl (by have hb : b1 = false := Bool.eq_false_iff.mpr (hr1.f c25); subst hb; have hn : prs f tl = (false, p1, false, 360, 0) := by { simp [prs, e1] }; rw [hn]; exact ⟨xb.zero (by simp), ⟨_, h57, xb.zero (by simp)⟩, fun j h1 h2 => hfr j ⟨h1, h2⟩, fun h => by simp at h, hx1⟩)
/-! TRACKS: rows that fit, and the parting into the fewest -/
/-- the usable photos from a on, ahead of b -/
def pB (M : Nat → Nat → Int32) (a b q : Nat) : Bool := pU M q && (decide (a ≤ q) && decide (q < b))
def fitS (M : Nat → Nat → Int32) (n : Nat) (P : Nat → Bool) : Prop := (∀ i j k, ¬ trio P n i j k) ∨ ∃ i j k, isBest M P n i j k ∧ mk (pM M P i j k) n = 0
def fitR (M : Nat → Nat → Int32) (n a b : Nat) : Prop := fitS M n (pB M a b)
theorem fitS_congr {M : Nat → Nat → Int32} {n : Nat} {P Q : Nat → Bool} (h : ∀ q, q < n → P q = Q q) (hf : fitS M n P) : fitS M n Q := by
  have htr : ∀ i j k, trio P n i j k ↔ trio Q n i j k := by
    intro i j k
    unfold trio
    constructor
    · rintro ⟨h1, h2, h3, h4, h5, h6⟩
      exact ⟨h1, h2, h3, by rw [← h i (by omega)]; exact h4, by rw [← h j (by omega)]; exact h5, by rw [← h k h3]; exact h6⟩
    · rintro ⟨h1, h2, h3, h4, h5, h6⟩
      exact ⟨h1, h2, h3, by rw [h i (by omega)]; exact h4, by rw [h j (by omega)]; exact h5, by rw [h k h3]; exact h6⟩
  have hsc : ∀ i j k, sco M P n i j k = sco M Q n i j k := fun i j k => cnt_congr fun q hq => by rw [h q hq]
  rcases hf with hf | ⟨i, j, k, ⟨b1, b2, b3, b4⟩, hm⟩
  · exact Or.inl fun i j k ht => hf i j k ((htr i j k).mpr ht)
  · refine Or.inr ⟨i, j, k, ⟨(htr i j k).mp b1, b2, fun r s t ht hl => ?_, fun r s t ht hl => ?_⟩, ?_⟩
    · rw [← hsc, ← hsc]
      exact b3 r s t ((htr r s t).mpr ht) hl
    · rw [← hsc, ← hsc]
      exact b4 r s t ((htr r s t).mpr ht) hl
    · rw [← hm]
      refine mk_congr fun q hq => ?_
      unfold pM
      rw [h q hq]
/-- one photo alone fits -/
theorem fitR_one {M : Nat → Nat → Int32} {n a : Nat} : fitR M n a (a + 1) := by
  refine Or.inl fun i j k ht => ?_
  obtain ⟨h1, h2, -, h4, h5, -⟩ := ht
  unfold pB at h4 h5
  simp only [Bool.and_eq_true, decide_eq_true_eq] at h4 h5
  omega
/-- the rows from a on: how few; where the first of them ends -/
def trk (M : Nat → Nat → Int32) (n : Nat) (R T : Nat → Nat) : Prop := R n = 0 ∧ T n = n ∧ ∀ a, a < n → (¬ pU M a = true → R a = R (a + 1) ∧ T a = T (a + 1)) ∧ (pU M a = true → a < T a ∧ T a ≤ n ∧ fitR M n a (T a) ∧ R a = 1 + R (T a) ∧ ∀ b, a < b → b ≤ n → fitR M n a b → R a ≤ 1 + R b ∧ (T a < b → R a < 1 + R b))
theorem trk.uniq {M : Nat → Nat → Int32} {n : Nat} {R T R' T' : Nat → Nat} (h : trk M n R T) (h' : trk M n R' T') : ∀ d a, a ≤ n → n - a ≤ d → R a = R' a ∧ T a = T' a := by
  obtain ⟨h1, h2, h3⟩ := h
  obtain ⟨g1, g2, g3⟩ := h'
  intro d
  induction d with
  | zero =>
    intro a ha hd
    have e : a = n := by omega
    subst e
    exact ⟨h1.trans g1.symm, h2.trans g2.symm⟩
  | succ d ih =>
    intro a ha hd
    by_cases e : a = n
    · subst e
      exact ⟨h1.trans g1.symm, h2.trans g2.symm⟩
    · by_cases hu : pU M a = true
      · obtain ⟨a1, a2, a3, a4, a5⟩ := (h3 a (by omega)).2 hu
        obtain ⟨b1, b2, b3, b4, b5⟩ := (g3 a (by omega)).2 hu
        obtain ⟨c1, c2⟩ := a5 _ b1 b2 b3
        obtain ⟨d1, d2⟩ := b5 _ a1 a2 a3
        have e1 := (ih (T a) a2 (by omega)).1
        have e2 := (ih (T' a) b2 (by omega)).1
        have hR : R a = R' a := by omega
        refine ⟨hR, ?_⟩
        rcases Nat.lt_trichotomy (T a) (T' a) with z | z | z
        · have := c2 z; omega
        · exact z
        · have := d2 z; omega
      · obtain ⟨a1, a2⟩ := (h3 a (by omega)).1 hu
        obtain ⟨b1, b2⟩ := (g3 a (by omega)).1 hu
        obtain ⟨e1, e2⟩ := ih (a + 1) (by omega) (by omega)
        exact ⟨by omega, by omega⟩
theorem trk.le {M : Nat → Nat → Int32} {n : Nat} {R T : Nat → Nat} (h : trk M n R T) : ∀ d a, a ≤ n → n - a ≤ d → R a ≤ n - a ∧ a ≤ T a ∧ T a ≤ n := by
  obtain ⟨h1, h2, h3⟩ := h
  intro d
  induction d with
  | zero =>
    intro a ha hd
    have e : a = n := by omega
    subst e
    rw [h1, h2]
    omega
  | succ d ih =>
    intro a ha hd
    by_cases e : a = n
    · subst e
      rw [h1, h2]
      omega
    · by_cases hu : pU M a = true
      · obtain ⟨a1, a2, a3, a4, a5⟩ := (h3 a (by omega)).2 hu
        have c1 := (a5 (a + 1) (by omega) (by omega) fitR_one).1
        have := (ih (a + 1) (by omega) (by omega)).1
        omega
      · obtain ⟨a1, a2⟩ := (h3 a (by omega)).1 hu
        have := ih (a + 1) (by omega) (by omega)
        omega
/-- the beginning of the w-th row -/
def itr (n : Nat) (T : Nat → Nat) : Nat → Nat → Nat
  | 0, a => a
  | w + 1, a => itr n T w (if a < n then T a else a)
theorem itr_succ (n : Nat) (T : Nat → Nat) : ∀ w a, itr n T (w + 1) a = (if itr n T w a < n then T (itr n T w a) else itr n T w a)
  | 0, a => rfl
  | w + 1, a => by
    show itr n T (w + 1) (if a < n then T a else a) = _
    rw [itr_succ n T w]
    rfl
theorem bet_bits : ∀ a, a < 11 → ∀ b, b < 11 → a ≤ b → ((1 : Int32) <<< (nI b &&& 31)) - ((1 : Int32) <<< (nI a &&& 31)) = nI (2 ^ b - 2 ^ a) := by decide +kernel
theorem bet_tb : ∀ a, a < 11 → ∀ b, b < 11 → a ≤ b → ∀ q, q < 10 → (2 ^ b - 2 ^ a).testBit q = (decide (a ≤ q) && decide (q < b)) := by decide +kernel
theorem bet_mk {M : Nat → Nat → Int32} {n a b : Nat} (hn : n ≤ 10) (hab : a ≤ b) (hb : b ≤ n) : nI (mk (pU M) n) &&& (((1 : Int32) <<< (nI b &&& 31)) - ((1 : Int32) <<< (nI a &&& 31))) = nI (mk (pB M a b) n) := by
  rw [bet_bits a (by omega) b (by omega) hab, nI_and]
  congr 1
  apply Nat.eq_of_testBit_eq
  intro q
  rw [Nat.testBit_and, mk_tb, mk_tb]
  by_cases hq : q < n
  · rw [bet_tb a (by omega) b (by omega) hab q (by omega)]
    simp [hq, pB]
  · simp [hq]
/-! TRACK: the class's parting at the places 61, 62, 63; the arc at 60 is its scratch -/
set_option maxHeartbeats 4000000 in
set_option maxRecDepth 100000 in
/-- Track.between -/
theorem c_X5_between (l : Launch) (g : xG) (E : Nat → va_E) (h61 : E 61 = .inr (5, [.ref (xad g 1), .ref (xad g 60), .ref (xad g 62), .ref (xad g 63)])) {n : Nat} {M : Nat → Nat → Int32} (hp : ePh g E 1 n M) {a b : Nat} (hab : a ≤ b) (hb : b ≤ n) : Met l yX5_between wsX5_between ({ frames := 2, cells := 0, slots := 0, locals := 43 }) (xPc g [.ref (xad g 61), .int (nI a), .int (nI b)] E) (vp_Si (fun r => r = nI (mk (pB M a b) n))) 0 0 (fun _ => False) := by
  refine x_met (ws' := _) (by decide) rfl (Nat.le_of_ble_eq_true rfl) ?_
  intro pz ez s m below meth cz ls S hr hlocks hP hK hl
  have hl : lv_has ls 3 [(0, .ref (xad g 61)), (1, .int (nI a)), (2, .int (nI b))] := hl
  have hin5 : ∀ w ∈ u_ws RX5 TX5 4, w ∈ wsX5_between := by decide +kernel
  have fl18 : Cond.fieldLink RX5 18 "DiscArcs$Track" "photos" "LDiscArcs$Photos;" ∈ wsX5_between := by decide +kernel
  have h0 := hp.1
  refine lv_aload_n S.1 S.2.1 dX5_between_0 rfl (lv_at hl 0 rfl) ?_
  refine x_get S hK hP dX5_between_1 h61 (by decide) (RX5, TX5, 4) rfl hin5 0 (by decide) fl18 rfl ?_
  refine x_si (va_runV (As := []) (rest := []) S (c_X2_usable l g E hp) (cwV 0 S.2.2.2.2 gX5_between_X2_usable rfl rfl rfl (by decide +kernel) ⟨Nat.le_of_ble_eq_true rfl, Nat.le_of_ble_eq_true rfl⟩) (x_preV hK hP hp.2.1 (by decide) rfl) rfl rfl hl.1 rfl (lv_room (Nat.le_of_ble_eq_true rfl)) dX5_between_4 ⟨Nat.le_of_ble_eq_true rfl, Nat.le_of_ble_eq_true rfl⟩) (fun r4 hr4 => ?_)
  refine lv_iconst (v := 1) S.1 S.2.1 dX5_between_7 (by decide) ?_
  refine lv_iload_n S.1 S.2.1 dX5_between_8 rfl (lv_at hl 2 rfl) ?_
  refine lv_ishl S.1 S.2.1 dX5_between_9 ?_
  refine lv_iconst (v := 1) S.1 S.2.1 dX5_between_10 (by decide) ?_
  refine lv_iload_n S.1 S.2.1 dX5_between_11 rfl (lv_at hl 1 rfl) ?_
  refine lv_ishl S.1 S.2.1 dX5_between_12 ?_
  refine lv_isub S.1 S.2.1 dX5_between_13 ?_
  refine lv_iand S.1 S.2.1 dX5_between_14 ?_
  exact x_iretR S hr hlocks dX5_between_15 (by rw [hr4]; exact bet_mk h0.2 hab hb)
theorem fit_no {M : Nat → Nat → Int32} {n : Nat} {P : Nat → Bool} {i j k : Nat} (hn : n ≤ 10) (hb : isBest M P n i j k) (hm : ¬ mk (pM M P i j k) n = 0) : ¬ fitS M n P := by
  rintro (h | ⟨i', j', k', h1, h2⟩)
  · exact h i j k hb.1
  · obtain ⟨rfl, rfl, rfl⟩ := isBest.uniq hn hb h1
    exact hm h2
theorem nI_mk0 {P : Nat → Bool} {n : Nat} (hn : n ≤ 10) : nI (mk P n) = 0 ↔ mk P n = 0 := nI_eq (b := 0) (by have := mk_lt10 P hn; omega) (by decide)
set_option maxHeartbeats 4000000 in
set_option maxRecDepth 100000 in
/-- Track.isFitting -/
theorem c_X5_isFitting (l : Launch) (g : xG) (hJ : xJ (xad g)) (E : Nat → va_E) (h61 : E 61 = .inr (5, [.ref (xad g 1), .ref (xad g 60), .ref (xad g 62), .ref (xad g 63)])) {n : Nat} {M : Nat → Nat → Int32} (hp : ePh g E 1 n M) {x1 x2 x3 : Int32} (hA : E 60 = .inr (0, [.ref (xad g 1), .int x1, .int x2, .int x3])) (hv : vld n M) (P : Nat → Bool) : Met l yX5_isFitting wsX5_isFitting ({ frames := 3, cells := 0, slots := 0, locals := 101 }) (xPc g [.ref (xad g 61), .int (nI (mk P n))] E) (xQi g (fun r E1 => (∀ j, j ≠ 60 → E1 j = E j) ∧ xb (fitS M n P) r ∧ ∃ a b c, E1 60 = .inr (0, [.ref (xad g 1), .int a, .int b, .int c]))) 0 0 (xA (xad g)) := by
  refine x_met (ws' := _) (by decide) rfl (Nat.le_of_ble_eq_true rfl) ?_
  intro pz ez s m below meth cz ls S hr hlocks hP hK hl
  have hl : lv_has ls 2 [(0, .ref (xad g 61)), (1, .int (nI (mk P n)))] := hl
  have hS : va_S (xA (xad g)) s.heap s.heap [] := va_S.rf
  have hin5 : ∀ w ∈ u_ws RX5 TX5 4, w ∈ wsX5_isFitting := by decide +kernel
  have fl22 : Cond.fieldLink RX5 22 "DiscArcs$Track" "curve" "LDiscArcs$Arc;" ∈ wsX5_isFitting := by decide +kernel
  have h0 := hp.1
  refine lv_aload_n S.1 S.2.1 dX5_isFitting_0 rfl (lv_at hl 0 rfl) ?_
  refine x_get S hK hP dX5_isFitting_1 h61 (by decide) (RX5, TX5, 4) rfl hin5 1 (by decide) fl22 rfl ?_
  refine lv_iload_n S.1 S.2.1 dX5_isFitting_4 rfl (lv_at hl 1 rfl) ?_
  refine x_qi (va_runV (As := [.int (nI (mk P n))]) (rest := []) S (c_X0_layBest l g hJ E hp hA hv P) (cwV 1 S.2.2.2.2 gX5_isFitting_X0_layBest rfl rfl rfl (by decide +kernel) ⟨Nat.le_of_ble_eq_true rfl, Nat.le_of_ble_eq_true rfl⟩) (x_preV hK hP hA (by decide) rfl) rfl rfl hl.1 rfl (lv_room (Nat.le_of_ble_eq_true rfl)) dX5_isFitting_5 ⟨Nat.le_of_ble_eq_true rfl, Nat.le_of_ble_eq_true rfl⟩) hS (fun r5 E1 H locs hq5 hP hS => ?_)
  obtain ⟨hfr, hor⟩ := hq5
  have hp : ePh g E1 1 n M := hp.keep (fun j h1 h2 => hfr j (by omega))
  have h61 : E1 61 = .inr (5, [.ref (xad g 1), .ref (xad g 60), .ref (xad g 62), .ref (xad g 63)]) := (hfr _ (by decide)).trans h61
  refine lv_if_eq (tgt := 22) S.1 S.2.1 dX5_isFitting_8 (by decide) (fun c8 => ?_) (fun c8 => ?_)
  · skip
    refine lv_iconst (v := 1) S.1 S.2.1 dX5_isFitting_22 (by decide) ?_
    refine lv_goto (tgt := 27) S.1 S.2.1 dX5_isFitting_23 (by decide) ?_
    exact x_zret S hr hlocks hP hS dX5_isFitting_27 rfl (by rcases hor with ⟨h1, -⟩ | ⟨-, hno, a, b, c9, hA⟩; rw [h1] at c8; exact absurd c8 (by decide); exact ⟨hfr, xb.one (Or.inl hno), a, b, c9, hA⟩)
  · skip
    obtain ⟨i, j, k, hb, hA⟩ : ∃ i j k, isBest M P n i j k ∧ E1 60 = .inr (0, [.ref (xad g 1), .int (nI i), .int (nI j), .int (nI k)]) := by rcases hor with ⟨-, h⟩ | ⟨h0, -⟩; exact h; exact absurd h0 c8
    obtain ⟨g1, g2, g3, -⟩ := id hb.1
    refine lv_aload_n S.1 S.2.1 dX5_isFitting_11 rfl (lv_at hl 0 rfl) ?_
    refine x_get S hK hP dX5_isFitting_12 h61 (by decide) (RX5, TX5, 4) rfl hin5 1 (by decide) fl22 rfl ?_
    refine lv_iload_n S.1 S.2.1 dX5_isFitting_15 rfl (lv_at hl 1 rfl) ?_
    refine x_si (va_runV (As := [.int (nI (mk P n))]) (rest := []) S (c_X0_missedOf l g E1 hp hA (i := i) (j := j) (k := k) (by omega) (by omega) g3 (P := P) (lo_pos hv g1 g2 g3)) (cwV 1 S.2.2.2.2 gX5_isFitting_X0_missedOf rfl rfl rfl (by decide +kernel) ⟨Nat.le_of_ble_eq_true rfl, Nat.le_of_ble_eq_true rfl⟩) (x_preV hK hP hA (by decide) rfl) rfl rfl hl.1 rfl (lv_room (Nat.le_of_ble_eq_true rfl)) dX5_isFitting_16 ⟨Nat.le_of_ble_eq_true rfl, Nat.le_of_ble_eq_true rfl⟩) (fun r16 hr16 => ?_)
    refine lv_if_ne (tgt := 26) S.1 S.2.1 dX5_isFitting_19 (by decide) (fun c19 => ?_) (fun c19 => ?_)
    · skip
      refine lv_iconst (v := 0) S.1 S.2.1 dX5_isFitting_26 (by decide) ?_
      exact x_zret S hr hlocks hP hS dX5_isFitting_27 rfl (⟨hfr, xb.zero (fit_no h0.2 hb (fun h => c19 (by rw [hr16, h]; rfl))), _, _, _, hA⟩)
    · skip
      refine lv_iconst (v := 1) S.1 S.2.1 dX5_isFitting_22 (by decide) ?_
      refine lv_goto (tgt := 27) S.1 S.2.1 dX5_isFitting_23 (by decide) ?_
      exact x_zret S hr hlocks hP hS dX5_isFitting_27 rfl (⟨hfr, xb.one (Or.inr ⟨i, j, k, hb, (nI_mk0 h0.2).mp (hr16.symm.trans c19)⟩), _, _, _, hA⟩)
/-- the search for the first row from a on, as far as an end b: r is how few rows, t where the first ends -/
def pfI (M : Nat → Nat → Int32) (n : Nat) (R : Nat → Nat) (a b r t : Nat) : Prop := (r = 11 ∧ ∀ b', a < b' → b' < b → ¬ fitR M n a b') ∨ (a < t ∧ t < b ∧ fitR M n a t ∧ r = 1 + R t ∧ ∀ b', a < b' → b' < b → fitR M n a b' → r ≤ 1 + R b' ∧ (t < b' → r < 1 + R b'))
theorem pfI.take {M : Nat → Nat → Int32} {n : Nat} {R : Nat → Nat} {a b r t : Nat} (h : pfI M n R a b r t) (hab : a < b) (hR : R b ≤ 10) (hle : 1 + R b ≤ r) (hf : fitR M n a b) : pfI M n R a (b + 1) (1 + R b) b := by
  refine Or.inr ⟨hab, by omega, hf, rfl, fun b' h1 h2 h3 => ?_⟩
  by_cases e : b' = b
  · subst e
    exact ⟨Nat.le_refl _, fun h => absurd h (Nat.lt_irrefl _)⟩
  · rcases h with ⟨-, h5⟩ | ⟨-, -, -, -, h5⟩
    · exact absurd h3 (h5 b' h1 (by omega))
    · have := (h5 b' h1 (by omega) h3).1
      exact ⟨by omega, fun h => by omega⟩
theorem pfI.keep {M : Nat → Nat → Int32} {n : Nat} {R : Nat → Nat} {a b r t : Nat} (h : pfI M n R a b r t) (hR : R b ≤ 10) (hno : ¬ (1 + R b ≤ r ∧ fitR M n a b)) : pfI M n R a (b + 1) r t := by
  rcases h with ⟨h1, h2⟩ | ⟨h1, h2, h3, h4, h5⟩
  · refine Or.inl ⟨h1, fun b' g1 g2 g3 => ?_⟩
    by_cases e : b' = b
    · subst e
      exact hno ⟨by omega, g3⟩
    · exact h2 b' g1 (by omega) g3
  · refine Or.inr ⟨h1, by omega, h3, h4, fun b' g1 g2 g3 => ?_⟩
    by_cases e : b' = b
    · subst e
      have : ¬ 1 + R b' ≤ r := fun g => hno ⟨g, g3⟩
      exact ⟨by omega, fun _ => by omega⟩
    · exact h5 b' g1 (by omega) g3
theorem pfI.done {M : Nat → Nat → Int32} {n : Nat} {R : Nat → Nat} {a r t : Nat} (h : pfI M n R a (n + 1) r t) (ha : a < n) : a < t ∧ t ≤ n ∧ fitR M n a t ∧ r = 1 + R t ∧ ∀ b, a < b → b ≤ n → fitR M n a b → r ≤ 1 + R b ∧ (t < b → r < 1 + R b) := by
  rcases h with ⟨h1, h2⟩ | ⟨h1, h2, h3, h4, h5⟩
  · exact absurd fitR_one (h2 (a + 1) (by omega) (by omega))
  · exact ⟨h1, by omega, h3, h4, fun b g1 g2 g3 => h5 b g1 (by omega) g3⟩
set_option maxHeartbeats 4000000 in
set_option maxRecDepth 100000 in
/-- Track.planFrom -/
theorem c_X5_planFrom (l : Launch) (g : xG) (hJ : xJ (xad g)) (E : Nat → va_E) (h61 : E 61 = .inr (5, [.ref (xad g 1), .ref (xad g 60), .ref (xad g 62), .ref (xad g 63)])) {n : Nat} {M : Nat → Nat → Int32} (hp : ePh g E 1 n M) {x1 x2 x3 : Int32} (hA : E 60 = .inr (0, [.ref (xad g 1), .int x1, .int x2, .int x3])) (hv : vld n M) {f2 f3 : Nat → Int32} (h62 : E 62 = .inl (xI g, 11, .inl f2)) (h63 : E 63 = .inl (xI g, 11, .inl f3)) {R T : Nat → Nat} {a : Nat} (ha : a < n) (hRT : ∀ k, a < k → k ≤ n → f2 k = nI (R k) ∧ f3 k = nI (T k) ∧ R k ≤ n - k) : Met l yX5_planFrom wsX5_planFrom ({ frames := 4, cells := 0, slots := 0, locals := 122 }) (xPc g [.ref (xad g 61), .int (nI a)] E) (xQv g (fun E1 => (∀ j, j ≠ 60 ∧ j ≠ 62 ∧ j ≠ 63 → E1 j = E j) ∧ (∃ z1 z2 z3, E1 60 = .inr (0, [.ref (xad g 1), .int z1, .int z2, .int z3])) ∧ ∃ (y2 y3 : Nat → Int32) (r t : Nat), E1 62 = .inl (xI g, 11, .inl y2) ∧ E1 63 = .inl (xI g, 11, .inl y3) ∧ (a < t ∧ t ≤ n ∧ fitR M n a t ∧ r = 1 + R t ∧ ∀ b, a < b → b ≤ n → fitR M n a b → r ≤ 1 + R b ∧ (t < b → r < 1 + R b)) ∧ y2 a = nI r ∧ y3 a = nI t ∧ ∀ k, a < k → k ≤ n → y2 k = nI (R k) ∧ y3 k = nI (T k))) 0 0 (xA (xad g)) := by
  refine x_met (ws' := _) (by decide) rfl (Nat.le_of_ble_eq_true rfl) ?_
  intro pz ez s m below meth cz ls S hr hlocks hP hK hl
  have hl : lv_has ls 3 [(0, .ref (xad g 61)), (1, .int (nI a))] := hl
  have hS : va_S (xA (xad g)) s.heap s.heap [] := va_S.rf
  have hin2 : ∀ w ∈ u_ws RX2 TX2 2, w ∈ wsX5_planFrom := by decide +kernel
  have hin5 : ∀ w ∈ u_ws RX5 TX5 4, w ∈ wsX5_planFrom := by decide +kernel
  have fl9 : Cond.fieldLink RX5 9 "DiscArcs$Track" "rowsFrom" "[I" ∈ wsX5_planFrom := by decide +kernel
  have fl15 : Cond.fieldLink RX5 15 "DiscArcs$Track" "endFrom" "[I" ∈ wsX5_planFrom := by decide +kernel
  have fl18 : Cond.fieldLink RX5 18 "DiscArcs$Track" "photos" "LDiscArcs$Photos;" ∈ wsX5_planFrom := by decide +kernel
  have fl42 : Cond.fieldLink RX5 42 "DiscArcs$Photos" "size" "I" ∈ wsX5_planFrom := by decide +kernel
  have h0 := hp.1
  have hfr : ∀ j, j ≠ 60 ∧ j ≠ 62 ∧ j ≠ 63 → E j = E j := fun _ _ => rfl
  refine lv_aload_n S.1 S.2.1 dX5_planFrom_0 rfl (lv_at hl 0 rfl) ?_
  refine x_get S hK hP dX5_planFrom_1 h61 (by decide) (RX5, TX5, 4) rfl hin5 2 (by decide) fl9 rfl ?_
  refine lv_iload_n S.1 S.2.1 dX5_planFrom_4 rfl (lv_at hl 1 rfl) ?_
  refine lv_bipush (v := 11) S.1 S.2.1 dX5_planFrom_5 (by decide) ?_
  refine x_iast S hK hJ hP hS dX5_planFrom_7 h62 (by decide) (j := a) rfl (by omega) (by decide) (fun H locs E1 hu hP hS => ?_)
  have h61 : E1 61 = .inr (5, [.ref (xad g 1), .ref (xad g 60), .ref (xad g 62), .ref (xad g 63)]) := (hu.2 _ (by omega)).trans h61
  have hp : ePh g E1 1 n M := hp.keep (fun j h1 h2 => hu.2 j (by omega))
  have hA : E1 60 = .inr (0, [.ref (xad g 1), .int x1, .int x2, .int x3]) := (hu.2 _ (by omega)).trans hA
  have h62 : E1 62 = .inl (xI g, 11, .inl (upd f2 a 11)) := hu.1
  have h63 : E1 63 = .inl (xI g, 11, .inl f3) := (hu.2 _ (by omega)).trans h63
  have hfr : ∀ j, j ≠ 60 ∧ j ≠ 62 ∧ j ≠ 63 → E1 j = E j := fun j hj => (hu.2 j (by omega)).trans (hfr j hj)
  refine lv_iload_n S.1 S.2.1 dX5_planFrom_8 rfl (lv_at hl 1 rfl) ?_
  refine lv_iconst (v := 1) S.1 S.2.1 dX5_planFrom_9 (by decide) ?_
  refine lv_iadd S.1 S.2.1 dX5_planFrom_10 ?_
  refine W.eq (g2 := F0 m 11 ls [.int (nI (a + 1))]) (by rw [nI_1 a]) ?_
  refine lv_istore_n (lv' := [(2, .int (nI (a + 1))), (0, .ref (xad g 61)), (1, .int (nI a))]) S.1 S.2.1 dX5_planFrom_11 rfl hl (by decide) rfl (fun ls hl => ?_)
  have loop12 : ∀ (d : Nat) (b : Nat) (r : Nat) (t : Nat) (y2 : Nat → Int32) (y3 : Nat → Int32) (x1 : Int32) (x2 : Int32) (x3 : Int32) (EL : Nat → va_E) (H : Heap) (locs : List Loc), (hb1 : a < b) → (hb : b ≤ n + 1) → (hr11 : r ≤ 11) → (hpf : pfI M n R a b r t) → (g2a : y2 a = nI r) → (g3a : (a < t → y3 a = nI t)) → (hk : ∀ k, a < k → k ≤ n → y2 k = nI (R k) ∧ y3 k = nI (T k)) → (n + 1 - b) < d → (h61 : EL 61 = .inr (5, [.ref (xad g 1), .ref (xad g 60), .ref (xad g 62), .ref (xad g 63)])) → (hp : ePh g EL 1 n M) → (hA : EL 60 = .inr (0, [.ref (xad g 1), .int x1, .int x2, .int x3])) → (h62 : EL 62 = .inl (xI g, 11, .inl y2)) → (h63 : EL 63 = .inl (xI g, 11, .inl y3)) → (hfr : ∀ j, j ≠ 60 ∧ j ≠ 62 ∧ j ≠ 63 → EL j = E j) → xP g EL H → va_S (xA (xad g)) s.heap H locs → ∀ ls : Array Slot, lv_has ls 3 [(2, .int (nI b)), (1, .int (nI a)), (0, .ref (xad g 61))] → W pz l ez ({ frames := 4, cells := 0, slots := 0, locals := 122 }) s m ([.ref (xad g 61), .int (nI a)] : List Value).toArray below meth cz H locs 0 0 (MQ below (xQv g (fun E1 => (∀ j, j ≠ 60 ∧ j ≠ 62 ∧ j ≠ 63 → E1 j = E j) ∧ (∃ z1 z2 z3, E1 60 = .inr (0, [.ref (xad g 1), .int z1, .int z2, .int z3])) ∧ ∃ (y2 y3 : Nat → Int32) (r t : Nat), E1 62 = .inl (xI g, 11, .inl y2) ∧ E1 63 = .inl (xI g, 11, .inl y3) ∧ (a < t ∧ t ≤ n ∧ fitR M n a t ∧ r = 1 + R t ∧ ∀ b, a < b → b ≤ n → fitR M n a b → r ≤ 1 + R b ∧ (t < b → r < 1 + R b)) ∧ y2 a = nI r ∧ y3 a = nI t ∧ ∀ k, a < k → k ≤ n → y2 k = nI (R k) ∧ y3 k = nI (T k))) ([.ref (xad g 61), .int (nI a)] : List Value).toArray s 0 0 (xA (xad g))) (F0 m 12 ls []) := by
    intro d
    induction d with
    | zero => intro b r t y2 y3 x1 x2 x3 EL H locs hb1 hb hr11 hpf g2a g3a hk hd; exact absurd hd (Nat.not_lt_zero _)
    | succ d ih12 =>
      intro b r t y2 y3 x1 x2 x3 EL H locs hb1 hb hr11 hpf g2a g3a hk hd h61 hp hA h62 h63 hfr hP hS ls hl
      refine lv_iload_n S.1 S.2.1 dX5_planFrom_12 rfl (lv_at hl 0 rfl) ?_
      refine lv_aload_n S.1 S.2.1 dX5_planFrom_13 rfl (lv_at hl 2 rfl) ?_
      refine x_get S hK hP dX5_planFrom_14 h61 (by decide) (RX5, TX5, 4) rfl hin5 0 (by decide) fl18 rfl ?_
      refine x_get S hK hP dX5_planFrom_17 hp.2.1 (by decide) (RX2, TX2, 2) rfl hin2 1 (by decide) fl42 rfl ?_
      refine lv_icmp_gt (tgt := 80) S.1 S.2.1 dX5_planFrom_20 (by decide) (fun c20 => ?_) (fun c20 => ?_)
      · skip
        have hbe : b = n + 1 := by have := (nI_ltI (a := n) (b := b) (by omega) (by omega)).mp c20; omega
        subst hbe
        have hdn := hpf.done ha
        exact x_vret S hr hlocks hP hS dX5_planFrom_80 (⟨hfr, ⟨_, _, _, hA⟩, y2, y3, r, t, h62, h63, hdn, g2a, g3a hdn.1, hk⟩)
      · skip
        have hbn : b ≤ n := by have := Nat.not_lt.mp (fun h => c20 ((nI_ltI (a := n) (b := b) (by omega) (by omega)).mpr h)); omega
        obtain ⟨k2, k3, k4⟩ := hRT b hb1 hbn
        have hcmp : y2 a < 1 + y2 b ↔ r < 1 + R b := by rw [(hk b hb1 hbn).1, g2a, show (1 : Int32) = nI 1 from rfl, nI_add]; exact nI_ltI (by omega) (by omega)
        refine lv_iconst (v := 1) S.1 S.2.1 dX5_planFrom_23 (by decide) ?_
        refine lv_aload_n S.1 S.2.1 dX5_planFrom_24 rfl (lv_at hl 2 rfl) ?_
        refine x_get S hK hP dX5_planFrom_25 h61 (by decide) (RX5, TX5, 4) rfl hin5 2 (by decide) fl9 rfl ?_
        refine lv_iload_n S.1 S.2.1 dX5_planFrom_28 rfl (lv_at hl 0 rfl) ?_
        refine x_iald S hK hP dX5_planFrom_29 h62 (by decide) (j := b) rfl (by omega) (by decide) ?_
        refine lv_iadd S.1 S.2.1 dX5_planFrom_30 ?_
        refine lv_aload_n S.1 S.2.1 dX5_planFrom_31 rfl (lv_at hl 2 rfl) ?_
        refine x_get S hK hP dX5_planFrom_32 h61 (by decide) (RX5, TX5, 4) rfl hin5 2 (by decide) fl9 rfl ?_
        refine lv_iload_n S.1 S.2.1 dX5_planFrom_35 rfl (lv_at hl 1 rfl) ?_
        refine x_iald S hK hP dX5_planFrom_36 h62 (by decide) (j := a) rfl (by omega) (by decide) ?_
        refine lv_icmp_gt (tgt := 74) S.1 S.2.1 dX5_planFrom_37 (by decide) (fun c37 => ?_) (fun c37 => ?_)
        · skip
          refine lv_iinc (v := nI (b + 1)) (lv' := [(2, .int (nI (b + 1))), (1, .int (nI a)), (0, .ref (xad g 61))]) S.1 S.2.1 dX5_planFrom_74 hl (k := 0) rfl (show nI b + Int32.ofInt 1 = _ from nI_1 _) (by decide) rfl (fun ls hl => ?_)
          refine lv_goto (tgt := 12) S.1 S.2.1 dX5_planFrom_77 (by decide) ?_
          exact ih12 (b + 1) r t y2 y3 x1 x2 x3 _ _ _ (by omega) (by omega) hr11 (hpf.keep (by omega) (by first | exact fun h => absurd (hcmp.mp c37) (by have := h.1; omega) | exact fun h => hr47.f c50 h.2)) g2a g3a hk (by omega) h61 hp hA h62 h63 hfr hP hS ls (lv_sub hl [0, 1, 2] rfl)
        · skip
          have hle : 1 + R b ≤ r := Nat.not_lt.mp (fun h => c37 (hcmp.mpr h))
          refine lv_aload_n S.1 S.2.1 dX5_planFrom_40 rfl (lv_at hl 2 rfl) ?_
          refine lv_aload_n S.1 S.2.1 dX5_planFrom_41 rfl (lv_at hl 2 rfl) ?_
          refine lv_iload_n S.1 S.2.1 dX5_planFrom_42 rfl (lv_at hl 1 rfl) ?_
          refine lv_iload_n S.1 S.2.1 dX5_planFrom_43 rfl (lv_at hl 0 rfl) ?_
          refine x_si (va_runV (As := [.int (nI a), .int (nI b)]) (rest := [.ref (xad g 61)]) S (c_X5_between l g EL h61 hp (a := a) (b := b) (by omega) (by omega)) (cwV 2 S.2.2.2.2 gX5_planFrom_X5_between rfl rfl rfl (by decide +kernel) ⟨Nat.le_of_ble_eq_true rfl, Nat.le_of_ble_eq_true rfl⟩) (x_preV hK hP h61 (by decide) rfl) rfl rfl hl.1 rfl (lv_room (Nat.le_of_ble_eq_true rfl)) dX5_planFrom_44 ⟨Nat.le_of_ble_eq_true rfl, Nat.le_of_ble_eq_true rfl⟩) (fun r44 hr44 => ?_)
          subst hr44
          refine x_qi (va_runV (As := [.int (nI (mk (pB M a b) n))]) (rest := []) S (c_X5_isFitting l g hJ EL h61 hp hA hv (pB M a b)) (cwV 1 S.2.2.2.2 gX5_planFrom_X5_isFitting rfl rfl rfl (by decide +kernel) ⟨Nat.le_of_ble_eq_true rfl, Nat.le_of_ble_eq_true rfl⟩) (x_preV hK hP h61 (by decide) rfl) rfl rfl hl.1 rfl (lv_room (Nat.le_of_ble_eq_true rfl)) dX5_planFrom_47 ⟨Nat.le_of_ble_eq_true rfl, Nat.le_of_ble_eq_true rfl⟩) hS (fun r47 E1_1 H locs hq47 hP hS => ?_)
          obtain ⟨hfr47, hr47, z1, z2, z3, hA⟩ := hq47
          have hp : ePh g E1_1 1 n M := hp.keep (fun j h1 h2 => hfr47 j (by omega))
          have h61 : E1_1 61 = .inr (5, [.ref (xad g 1), .ref (xad g 60), .ref (xad g 62), .ref (xad g 63)]) := (hfr47 _ (by decide)).trans h61
          have h62 : E1_1 62 = .inl (xI g, 11, .inl y2) := (hfr47 _ (by decide)).trans h62
          have h63 : E1_1 63 = .inl (xI g, 11, .inl y3) := (hfr47 _ (by decide)).trans h63
          have hfr : ∀ j, j ≠ 60 ∧ j ≠ 62 ∧ j ≠ 63 → E1_1 j = E j := fun j hj => (hfr47 j hj.1).trans (hfr j hj)
          refine lv_if_eq (tgt := 74) S.1 S.2.1 dX5_planFrom_50 (by decide) (fun c50 => ?_) (fun c50 => ?_)
          · skip
            refine lv_iinc (v := nI (b + 1)) (lv' := [(2, .int (nI (b + 1))), (1, .int (nI a)), (0, .ref (xad g 61))]) S.1 S.2.1 dX5_planFrom_74 hl (k := 0) rfl (show nI b + Int32.ofInt 1 = _ from nI_1 _) (by decide) rfl (fun ls hl => ?_)
            refine lv_goto (tgt := 12) S.1 S.2.1 dX5_planFrom_77 (by decide) ?_
            exact ih12 (b + 1) r t y2 y3 z1 z2 z3 _ _ _ (by omega) (by omega) hr11 (hpf.keep (by omega) (by first | exact fun h => absurd (hcmp.mp c37) (by have := h.1; omega) | exact fun h => hr47.f c50 h.2)) g2a g3a hk (by omega) h61 hp hA h62 h63 hfr hP hS ls (lv_sub hl [0, 1, 2] rfl)
          · skip
            refine lv_aload_n S.1 S.2.1 dX5_planFrom_53 rfl (lv_at hl 2 rfl) ?_
            refine x_get S hK hP dX5_planFrom_54 h61 (by decide) (RX5, TX5, 4) rfl hin5 2 (by decide) fl9 rfl ?_
            refine lv_iload_n S.1 S.2.1 dX5_planFrom_57 rfl (lv_at hl 1 rfl) ?_
            refine lv_iconst (v := 1) S.1 S.2.1 dX5_planFrom_58 (by decide) ?_
            refine lv_aload_n S.1 S.2.1 dX5_planFrom_59 rfl (lv_at hl 2 rfl) ?_
            refine x_get S hK hP dX5_planFrom_60 h61 (by decide) (RX5, TX5, 4) rfl hin5 2 (by decide) fl9 rfl ?_
            refine lv_iload_n S.1 S.2.1 dX5_planFrom_63 rfl (lv_at hl 0 rfl) ?_
            refine x_iald S hK hP dX5_planFrom_64 h62 (by decide) (j := b) rfl (by omega) (by decide) ?_
            refine lv_iadd S.1 S.2.1 dX5_planFrom_65 ?_
            refine x_iast S hK hJ hP hS dX5_planFrom_66 h62 (by decide) (j := a) rfl (by omega) (by decide) (fun H locs E1_2 hu hP hS => ?_)
            have h61 : E1_2 61 = .inr (5, [.ref (xad g 1), .ref (xad g 60), .ref (xad g 62), .ref (xad g 63)]) := (hu.2 _ (by omega)).trans h61
            have hp : ePh g E1_2 1 n M := hp.keep (fun j h1 h2 => hu.2 j (by omega))
            have hA : E1_2 60 = .inr (0, [.ref (xad g 1), .int z1, .int z2, .int z3]) := (hu.2 _ (by omega)).trans hA
            have h62 : E1_2 62 = .inl (xI g, 11, .inl (upd y2 a (1 + (y2 b)))) := hu.1
            have h63 : E1_2 63 = .inl (xI g, 11, .inl y3) := (hu.2 _ (by omega)).trans h63
            have hfr : ∀ j, j ≠ 60 ∧ j ≠ 62 ∧ j ≠ 63 → E1_2 j = E j := fun j hj => (hu.2 j (by omega)).trans (hfr j hj)
            refine lv_aload_n S.1 S.2.1 dX5_planFrom_67 rfl (lv_at hl 2 rfl) ?_
            refine x_get S hK hP dX5_planFrom_68 h61 (by decide) (RX5, TX5, 4) rfl hin5 3 (by decide) fl15 rfl ?_
            refine lv_iload_n S.1 S.2.1 dX5_planFrom_71 rfl (lv_at hl 1 rfl) ?_
            refine lv_iload_n S.1 S.2.1 dX5_planFrom_72 rfl (lv_at hl 0 rfl) ?_
            refine x_iast S hK hJ hP hS dX5_planFrom_73 h63 (by decide) (j := a) rfl (by omega) (by decide) (fun H locs E1_3 hu hP hS => ?_)
            have h61 : E1_3 61 = .inr (5, [.ref (xad g 1), .ref (xad g 60), .ref (xad g 62), .ref (xad g 63)]) := (hu.2 _ (by omega)).trans h61
            have hp : ePh g E1_3 1 n M := hp.keep (fun j h1 h2 => hu.2 j (by omega))
            have hA : E1_3 60 = .inr (0, [.ref (xad g 1), .int z1, .int z2, .int z3]) := (hu.2 _ (by omega)).trans hA
            have h62 : E1_3 62 = .inl (xI g, 11, .inl (upd y2 a (1 + (y2 b)))) := (hu.2 _ (by omega)).trans h62
            have h63 : E1_3 63 = .inl (xI g, 11, .inl (upd y3 a (nI b))) := hu.1
            have hfr : ∀ j, j ≠ 60 ∧ j ≠ 62 ∧ j ≠ 63 → E1_3 j = E j := fun j hj => (hu.2 j (by omega)).trans (hfr j hj)
            refine lv_iinc (v := nI (b + 1)) (lv' := [(2, .int (nI (b + 1))), (1, .int (nI a)), (0, .ref (xad g 61))]) S.1 S.2.1 dX5_planFrom_74 hl (k := 0) rfl (show nI b + Int32.ofInt 1 = _ from nI_1 _) (by decide) rfl (fun ls hl => ?_)
            refine lv_goto (tgt := 12) S.1 S.2.1 dX5_planFrom_77 (by decide) ?_
            exact ih12 (b + 1) (1 + R b) b _ _ z1 z2 z3 _ _ _ (by omega) (by omega) (by omega) (hpf.take hb1 (by omega) hle (hr47.t c50)) (by rw [pk_us, (hk b hb1 hbn).1]; exact nI_add 1 _) (fun _ => pk_us) (fun k h1 h2 => by rw [pk_un (by omega), pk_un (by omega)]; exact hk k h1 h2) (by omega) h61 hp hA h62 h63 hfr hP hS ls (lv_sub hl [0, 1, 2] rfl)
  exact loop12 _ (a + 1) 11 0 _ _ x1 x2 x3 _ _ _ (Nat.lt_succ_self _) (by omega) (Nat.le_refl _) (Or.inl ⟨rfl, fun b' h1 h2 => by omega⟩) (pk_us.trans rfl) (fun h => absurd h (Nat.not_lt_zero _)) (fun k h1 h2 => by rw [pk_un (by omega)]; exact ⟨(hRT k h1 h2).1, (hRT k h1 h2).2.1⟩) (Nat.lt_succ_self _) h61 hp hA h62 h63 hfr hP hS ls (lv_sub hl [0, 2, 1] rfl)
/-- the rows as far as they are planned: from a on -/
def plI (M : Nat → Nat → Int32) (n a : Nat) (R T : Nat → Nat) (y2 y3 : Nat → Int32) : Prop := R n = 0 ∧ T n = n ∧ (∀ b, a ≤ b → b < n → (¬ pU M b = true → R b = R (b + 1) ∧ T b = T (b + 1)) ∧ (pU M b = true → b < T b ∧ T b ≤ n ∧ fitR M n b (T b) ∧ R b = 1 + R (T b) ∧ ∀ b', b < b' → b' ≤ n → fitR M n b b' → R b ≤ 1 + R b' ∧ (T b < b' → R b < 1 + R b'))) ∧ ∀ k, a ≤ k → k ≤ n → y2 k = nI (R k) ∧ y3 k = nI (T k) ∧ R k ≤ n - k
theorem plI.done {M : Nat → Nat → Int32} {n : Nat} {R T : Nat → Nat} {y2 y3 : Nat → Int32} (h : plI M n 0 R T y2 y3) : trk M n R T := ⟨h.1, h.2.1, fun a ha => h.2.2.1 a (Nat.zero_le _) ha⟩
theorem plI.skip {M : Nat → Nat → Int32} {n a : Nat} {R T : Nat → Nat} {y2 y3 z2 z3 : Nat → Int32} (h : plI M n (a + 1) R T y2 y3) (ha : a < n) (hu : ¬ pU M a = true) (h2 : z2 = upd y2 a (y2 (a + 1))) (h3 : z3 = upd y3 a (y3 (a + 1))) : plI M n a (va_up R a (R (a + 1))) (va_up T a (T (a + 1))) z2 z3 := by
  obtain ⟨g1, g2, g3, g4⟩ := h
  subst h2 h3
  refine ⟨by rw [va_up_ne _ _ (by omega)]; exact g1, by rw [va_up_ne _ _ (by omega)]; exact g2, fun b hb hbn => ?_, fun k hk hkn => ?_⟩
  · by_cases e : b = a
    · subst e
      rw [va_up_self, va_up_self, va_up_ne _ _ (by omega), va_up_ne _ _ (by omega)]
      exact ⟨fun _ => ⟨rfl, rfl⟩, fun h => absurd h hu⟩
    · obtain ⟨k1, k2⟩ := g3 b (by omega) hbn
      rw [va_up_ne _ _ e, va_up_ne _ _ e, va_up_ne _ _ (by omega), va_up_ne _ _ (by omega)]
      refine ⟨k1, fun hb2 => ?_⟩
      obtain ⟨c1, c2, c3, c4, c5⟩ := k2 hb2
      refine ⟨c1, c2, c3, by rw [va_up_ne _ _ (by omega)]; exact c4, fun b' d1 d2 d3 => ?_⟩
      rw [va_up_ne _ _ (by omega)]
      exact c5 b' d1 d2 d3
  · by_cases e : k = a
    · subst e
      obtain ⟨c1, c2, c3⟩ := g4 (k + 1) (Nat.le_refl _) (by omega)
      rw [va_up_self, va_up_self]
      simp only [upd, if_pos]
      exact ⟨c1, c2, by omega⟩
    · rw [va_up_ne _ _ e, va_up_ne _ _ e]
      simp only [upd, if_neg e]
      exact g4 k (by omega) hkn
theorem plI.row {M : Nat → Nat → Int32} {n a r t : Nat} {R T : Nat → Nat} {y2 y3 z2 z3 : Nat → Int32} (h : plI M n (a + 1) R T y2 y3) (ha : a < n) (hu : pU M a = true) (hd : a < t ∧ t ≤ n ∧ fitR M n a t ∧ r = 1 + R t ∧ ∀ b, a < b → b ≤ n → fitR M n a b → r ≤ 1 + R b ∧ (t < b → r < 1 + R b)) (h2 : z2 a = nI r) (h3 : z3 a = nI t) (hk : ∀ k, a < k → k ≤ n → z2 k = nI (R k) ∧ z3 k = nI (T k)) : plI M n a (va_up R a r) (va_up T a t) z2 z3 := by
  obtain ⟨g1, g2, g3, g4⟩ := h
  refine ⟨by rw [va_up_ne _ _ (by omega)]; exact g1, by rw [va_up_ne _ _ (by omega)]; exact g2, fun b hb hbn => ?_, fun k hk1 hkn => ?_⟩
  · by_cases e : b = a
    · subst e
      obtain ⟨d1, d2, d3, d4, d5⟩ := hd
      rw [va_up_self, va_up_self]
      refine ⟨fun h => absurd hu h, fun _ => ⟨d1, d2, d3, by rw [va_up_ne _ _ (by omega)]; exact d4, fun b' e1 e2 e3 => ?_⟩⟩
      rw [va_up_ne _ _ (by omega)]
      exact d5 b' e1 e2 e3
    · obtain ⟨k1, k2⟩ := g3 b (by omega) hbn
      rw [va_up_ne _ _ e, va_up_ne _ _ e, va_up_ne _ _ (by omega), va_up_ne _ _ (by omega)]
      refine ⟨k1, fun hb2 => ?_⟩
      obtain ⟨c1, c2, c3, c4, c5⟩ := k2 hb2
      refine ⟨c1, c2, c3, by rw [va_up_ne _ _ (by omega)]; exact c4, fun b' d1 d2 d3 => ?_⟩
      rw [va_up_ne _ _ (by omega)]
      exact c5 b' d1 d2 d3
  · by_cases e : k = a
    · subst e
      rw [va_up_self, va_up_self]
      have := (hd.2.2.2.2 (k + 1) (by omega) (by omega) fitR_one).1
      have := (g4 (k + 1) (Nat.le_refl _) (by omega)).2.2
      exact ⟨h2, h3, by omega⟩
    · rw [va_up_ne _ _ e, va_up_ne _ _ e]
      obtain ⟨c1, c2⟩ := hk k (by omega) hkn
      exact ⟨c1, c2, (g4 k (by omega) hkn).2.2⟩
theorem nI_dec (a : Nat) : nI (a + 1) - 1 = nI a := nI_pred a
set_option maxHeartbeats 4000000 in
set_option maxRecDepth 100000 in
theorem c_X5_plan (l : Launch) (g : xG) (hJ : xJ (xad g)) (E : Nat → va_E) (h61 : E 61 = .inr (5, [.ref (xad g 1), .ref (xad g 60), .ref (xad g 62), .ref (xad g 63)])) {n : Nat} {M : Nat → Nat → Int32} (hp : ePh g E 1 n M) {x1 x2 x3 : Int32} (hA : E 60 = .inr (0, [.ref (xad g 1), .int x1, .int x2, .int x3])) (hv : vld n M) {f2 f3 : Nat → Int32} (h62 : E 62 = .inl (xI g, 11, .inl f2)) (h63 : E 63 = .inl (xI g, 11, .inl f3)) : Met l yX5_plan wsX5_plan ({ frames := 5, cells := 0, slots := 0, locals := 144 }) (xPc g [.ref (xad g 61)] E) (xQi g (fun r E1 => (∀ j, j ≠ 60 ∧ j ≠ 62 ∧ j ≠ 63 → E1 j = E j) ∧ (∃ z1 z2 z3, E1 60 = .inr (0, [.ref (xad g 1), .int z1, .int z2, .int z3])) ∧ ∃ (y2 y3 : Nat → Int32) (R T : Nat → Nat), E1 62 = .inl (xI g, 11, .inl y2) ∧ E1 63 = .inl (xI g, 11, .inl y3) ∧ trk M n R T ∧ (∀ k, k ≤ n → y2 k = nI (R k) ∧ y3 k = nI (T k)) ∧ r = nI (R 0))) 0 0 (xA (xad g)) := by
  refine x_met (ws' := _) (by decide) rfl (Nat.le_of_ble_eq_true rfl) ?_
  intro pz ez s m below meth cz ls S hr hlocks hP hK hl
  have hl : lv_has ls 2 [(0, .ref (xad g 61))] := hl
  have hS : va_S (xA (xad g)) s.heap s.heap [] := va_S.rf
  have hin2 : ∀ w ∈ u_ws RX2 TX2 2, w ∈ wsX5_plan := by decide +kernel
  have hin5 : ∀ w ∈ u_ws RX5 TX5 4, w ∈ wsX5_plan := by decide +kernel
  have fl9 : Cond.fieldLink RX5 9 "DiscArcs$Track" "rowsFrom" "[I" ∈ wsX5_plan := by decide +kernel
  have fl15 : Cond.fieldLink RX5 15 "DiscArcs$Track" "endFrom" "[I" ∈ wsX5_plan := by decide +kernel
  have fl18 : Cond.fieldLink RX5 18 "DiscArcs$Track" "photos" "LDiscArcs$Photos;" ∈ wsX5_plan := by decide +kernel
  have fl42 : Cond.fieldLink RX5 42 "DiscArcs$Photos" "size" "I" ∈ wsX5_plan := by decide +kernel
  have h0 := hp.1
  have hfr : ∀ j, j ≠ 60 ∧ j ≠ 62 ∧ j ≠ 63 → E j = E j := fun _ _ => rfl
  refine lv_aload_n S.1 S.2.1 dX5_plan_0 rfl (lv_at hl 0 rfl) ?_
  refine x_get S hK hP dX5_plan_1 h61 (by decide) (RX5, TX5, 4) rfl hin5 2 (by decide) fl9 rfl ?_
  refine lv_aload_n S.1 S.2.1 dX5_plan_4 rfl (lv_at hl 0 rfl) ?_
  refine x_get S hK hP dX5_plan_5 h61 (by decide) (RX5, TX5, 4) rfl hin5 0 (by decide) fl18 rfl ?_
  refine x_get S hK hP dX5_plan_8 hp.2.1 (by decide) (RX2, TX2, 2) rfl hin2 1 (by decide) fl42 rfl ?_
  refine lv_iconst (v := 0) S.1 S.2.1 dX5_plan_11 (by decide) ?_
  refine x_iast S hK hJ hP hS dX5_plan_12 h62 (by decide) (j := n) rfl (by omega) (by decide) (fun H locs E1 hu hP hS => ?_)
  have h61 : E1 61 = .inr (5, [.ref (xad g 1), .ref (xad g 60), .ref (xad g 62), .ref (xad g 63)]) := (hu.2 _ (by omega)).trans h61
  have hp : ePh g E1 1 n M := hp.keep (fun j h1 h2 => hu.2 j (by omega))
  have hA : E1 60 = .inr (0, [.ref (xad g 1), .int x1, .int x2, .int x3]) := (hu.2 _ (by omega)).trans hA
  have h62 : E1 62 = .inl (xI g, 11, .inl (upd f2 n 0)) := hu.1
  have h63 : E1 63 = .inl (xI g, 11, .inl f3) := (hu.2 _ (by omega)).trans h63
  have hfr : ∀ j, j ≠ 60 ∧ j ≠ 62 ∧ j ≠ 63 → E1 j = E j := fun j hj => (hu.2 j (by omega)).trans (hfr j hj)
  refine lv_aload_n S.1 S.2.1 dX5_plan_13 rfl (lv_at hl 0 rfl) ?_
  refine x_get S hK hP dX5_plan_14 h61 (by decide) (RX5, TX5, 4) rfl hin5 3 (by decide) fl15 rfl ?_
  refine lv_aload_n S.1 S.2.1 dX5_plan_17 rfl (lv_at hl 0 rfl) ?_
  refine x_get S hK hP dX5_plan_18 h61 (by decide) (RX5, TX5, 4) rfl hin5 0 (by decide) fl18 rfl ?_
  refine x_get S hK hP dX5_plan_21 hp.2.1 (by decide) (RX2, TX2, 2) rfl hin2 1 (by decide) fl42 rfl ?_
  refine lv_aload_n S.1 S.2.1 dX5_plan_24 rfl (lv_at hl 0 rfl) ?_
  refine x_get S hK hP dX5_plan_25 h61 (by decide) (RX5, TX5, 4) rfl hin5 0 (by decide) fl18 rfl ?_
  refine x_get S hK hP dX5_plan_28 hp.2.1 (by decide) (RX2, TX2, 2) rfl hin2 1 (by decide) fl42 rfl ?_
  refine x_iast S hK hJ hP hS dX5_plan_31 h63 (by decide) (j := n) rfl (by omega) (by decide) (fun H locs E1_1 hu hP hS => ?_)
  have h61 : E1_1 61 = .inr (5, [.ref (xad g 1), .ref (xad g 60), .ref (xad g 62), .ref (xad g 63)]) := (hu.2 _ (by omega)).trans h61
  have hp : ePh g E1_1 1 n M := hp.keep (fun j h1 h2 => hu.2 j (by omega))
  have hA : E1_1 60 = .inr (0, [.ref (xad g 1), .int x1, .int x2, .int x3]) := (hu.2 _ (by omega)).trans hA
  have h62 : E1_1 62 = .inl (xI g, 11, .inl (upd f2 n 0)) := (hu.2 _ (by omega)).trans h62
  have h63 : E1_1 63 = .inl (xI g, 11, .inl (upd f3 n (nI n))) := hu.1
  have hfr : ∀ j, j ≠ 60 ∧ j ≠ 62 ∧ j ≠ 63 → E1_1 j = E j := fun j hj => (hu.2 j (by omega)).trans (hfr j hj)
  refine lv_aload_n S.1 S.2.1 dX5_plan_32 rfl (lv_at hl 0 rfl) ?_
  refine x_get S hK hP dX5_plan_33 h61 (by decide) (RX5, TX5, 4) rfl hin5 0 (by decide) fl18 rfl ?_
  refine x_get S hK hP dX5_plan_36 hp.2.1 (by decide) (RX2, TX2, 2) rfl hin2 1 (by decide) fl42 rfl ?_
  refine lv_iconst (v := 1) S.1 S.2.1 dX5_plan_39 (by decide) ?_
  refine lv_isub S.1 S.2.1 dX5_plan_40 ?_
  refine lv_istore_n (lv' := [(1, .int ((nI n) - 1)), (0, .ref (xad g 61))]) S.1 S.2.1 dX5_plan_41 rfl hl (by decide) rfl (fun ls hl => ?_)
  have loop42 : ∀ (d : Nat) (a9 : Nat) (R : Nat → Nat) (T : Nat → Nat) (y2 : Nat → Int32) (y3 : Nat → Int32) (x1 : Int32) (x2 : Int32) (x3 : Int32) (EL : Nat → va_E) (H : Heap) (locs : List Loc), (ha9 : a9 ≤ n) → (hpl : plI M n a9 R T y2 y3) → (a9) < d → (h61 : EL 61 = .inr (5, [.ref (xad g 1), .ref (xad g 60), .ref (xad g 62), .ref (xad g 63)])) → (hp : ePh g EL 1 n M) → (hA : EL 60 = .inr (0, [.ref (xad g 1), .int x1, .int x2, .int x3])) → (h62 : EL 62 = .inl (xI g, 11, .inl y2)) → (h63 : EL 63 = .inl (xI g, 11, .inl y3)) → (hfr : ∀ j, j ≠ 60 ∧ j ≠ 62 ∧ j ≠ 63 → EL j = E j) → xP g EL H → va_S (xA (xad g)) s.heap H locs → ∀ ls : Array Slot, lv_has ls 2 [(1, .int (nI a9 - 1)), (0, .ref (xad g 61))] → W pz l ez ({ frames := 5, cells := 0, slots := 0, locals := 144 }) s m ([.ref (xad g 61)] : List Value).toArray below meth cz H locs 0 0 (MQ below (xQi g (fun r E1 => (∀ j, j ≠ 60 ∧ j ≠ 62 ∧ j ≠ 63 → E1 j = E j) ∧ (∃ z1 z2 z3, E1 60 = .inr (0, [.ref (xad g 1), .int z1, .int z2, .int z3])) ∧ ∃ (y2 y3 : Nat → Int32) (R T : Nat → Nat), E1 62 = .inl (xI g, 11, .inl y2) ∧ E1 63 = .inl (xI g, 11, .inl y3) ∧ trk M n R T ∧ (∀ k, k ≤ n → y2 k = nI (R k) ∧ y3 k = nI (T k)) ∧ r = nI (R 0))) ([.ref (xad g 61)] : List Value).toArray s 0 0 (xA (xad g))) (F0 m 42 ls []) := by
    intro d
    induction d with
    | zero => intro a9 R T y2 y3 x1 x2 x3 EL H locs ha9 hpl hd; exact absurd hd (Nat.not_lt_zero _)
    | succ d ih42 =>
      intro a9 R T y2 y3 x1 x2 x3 EL H locs ha9 hpl hd h61 hp hA h62 h63 hfr hP hS ls hl
      refine lv_iload_n S.1 S.2.1 dX5_plan_42 rfl (lv_at hl 0 rfl) ?_
      refine lv_if_lt (tgt := 99) S.1 S.2.1 dX5_plan_43 (by decide) (fun c43 => ?_) (fun c43 => ?_)
      · skip
        have ha0 : a9 = 0 := by rcases Nat.eq_zero_or_pos a9 with h | h; exact h; exact absurd c43 (by obtain ⟨z, rfl⟩ : ∃ z, a9 = z + 1 := ⟨a9 - 1, by omega⟩; rw [nI_dec]; exact nI_pos (by omega))
        subst ha0
        refine lv_aload_n S.1 S.2.1 dX5_plan_99 rfl (lv_at hl 1 rfl) ?_
        refine x_get S hK hP dX5_plan_100 h61 (by decide) (RX5, TX5, 4) rfl hin5 2 (by decide) fl9 rfl ?_
        refine lv_iconst (v := 0) S.1 S.2.1 dX5_plan_103 (by decide) ?_
        refine x_iald S hK hP dX5_plan_104 h62 (by decide) (j := 0) rfl (by omega) (by decide) ?_
        exact x_iret S hr hlocks hP hS dX5_plan_105 (⟨hfr, ⟨_, _, _, hA⟩, y2, y3, R, T, h62, h63, hpl.done, fun k hk => ⟨(hpl.2.2.2 k (Nat.zero_le _) hk).1, (hpl.2.2.2 k (Nat.zero_le _) hk).2.1⟩, (hpl.2.2.2 0 (Nat.le_refl _) (Nat.zero_le _)).1⟩)
      · skip
        obtain ⟨a, rfl⟩ : ∃ z, a9 = z + 1 := ⟨a9 - 1, by have : ¬ a9 = 0 := fun h => c43 (by rw [h]; decide); omega⟩
        rw [nI_dec] at hl
        refine lv_aload_n S.1 S.2.1 dX5_plan_46 rfl (lv_at hl 1 rfl) ?_
        refine x_get S hK hP dX5_plan_47 h61 (by decide) (RX5, TX5, 4) rfl hin5 0 (by decide) fl18 rfl ?_
        refine lv_iload_n S.1 S.2.1 dX5_plan_50 rfl (lv_at hl 0 rfl) ?_
        refine x_si (va_runV (As := [.int (nI a)]) (rest := []) S (c_X2_isUsable l g EL hp (k := a) (by omega)) (cwV 1 S.2.2.2.2 gX5_plan_X2_isUsable rfl rfl rfl (by decide +kernel) ⟨Nat.le_of_ble_eq_true rfl, Nat.le_of_ble_eq_true rfl⟩) (x_preV hK hP hp.2.1 (by decide) rfl) rfl rfl hl.1 rfl (lv_room (Nat.le_of_ble_eq_true rfl)) dX5_plan_51 ⟨Nat.le_of_ble_eq_true rfl, Nat.le_of_ble_eq_true rfl⟩) (fun r51 hr51 => ?_)
        refine lv_if_eq (tgt := 65) S.1 S.2.1 dX5_plan_54 (by decide) (fun c54 => ?_) (fun c54 => ?_)
        · skip
          refine lv_aload_n S.1 S.2.1 dX5_plan_65 rfl (lv_at hl 1 rfl) ?_
          refine x_get S hK hP dX5_plan_66 h61 (by decide) (RX5, TX5, 4) rfl hin5 2 (by decide) fl9 rfl ?_
          refine lv_iload_n S.1 S.2.1 dX5_plan_69 rfl (lv_at hl 0 rfl) ?_
          refine lv_aload_n S.1 S.2.1 dX5_plan_70 rfl (lv_at hl 1 rfl) ?_
          refine x_get S hK hP dX5_plan_71 h61 (by decide) (RX5, TX5, 4) rfl hin5 2 (by decide) fl9 rfl ?_
          refine lv_iload_n S.1 S.2.1 dX5_plan_74 rfl (lv_at hl 0 rfl) ?_
          refine lv_iconst (v := 1) S.1 S.2.1 dX5_plan_75 (by decide) ?_
          refine lv_iadd S.1 S.2.1 dX5_plan_76 ?_
          refine x_iald S hK hP dX5_plan_77 h62 (by decide) (j := a + 1) (nI_1 a) (by omega) (by decide) ?_
          refine x_iast S hK hJ hP hS dX5_plan_78 h62 (by decide) (j := a) rfl (by omega) (by decide) (fun H locs E1_2 hu hP hS => ?_)
          have h61 : E1_2 61 = .inr (5, [.ref (xad g 1), .ref (xad g 60), .ref (xad g 62), .ref (xad g 63)]) := (hu.2 _ (by omega)).trans h61
          have hp : ePh g E1_2 1 n M := hp.keep (fun j h1 h2 => hu.2 j (by omega))
          have hA : E1_2 60 = .inr (0, [.ref (xad g 1), .int x1, .int x2, .int x3]) := (hu.2 _ (by omega)).trans hA
          have h62 : E1_2 62 = .inl (xI g, 11, .inl (upd y2 a (y2 (a + 1)))) := hu.1
          have h63 : E1_2 63 = .inl (xI g, 11, .inl y3) := (hu.2 _ (by omega)).trans h63
          have hfr : ∀ j, j ≠ 60 ∧ j ≠ 62 ∧ j ≠ 63 → E1_2 j = E j := fun j hj => (hu.2 j (by omega)).trans (hfr j hj)
          refine lv_aload_n S.1 S.2.1 dX5_plan_79 rfl (lv_at hl 1 rfl) ?_
          refine x_get S hK hP dX5_plan_80 h61 (by decide) (RX5, TX5, 4) rfl hin5 3 (by decide) fl15 rfl ?_
          refine lv_iload_n S.1 S.2.1 dX5_plan_83 rfl (lv_at hl 0 rfl) ?_
          refine lv_aload_n S.1 S.2.1 dX5_plan_84 rfl (lv_at hl 1 rfl) ?_
          refine x_get S hK hP dX5_plan_85 h61 (by decide) (RX5, TX5, 4) rfl hin5 3 (by decide) fl15 rfl ?_
          refine lv_iload_n S.1 S.2.1 dX5_plan_88 rfl (lv_at hl 0 rfl) ?_
          refine lv_iconst (v := 1) S.1 S.2.1 dX5_plan_89 (by decide) ?_
          refine lv_iadd S.1 S.2.1 dX5_plan_90 ?_
          refine x_iald S hK hP dX5_plan_91 h63 (by decide) (j := a + 1) (nI_1 a) (by omega) (by decide) ?_
          refine x_iast S hK hJ hP hS dX5_plan_92 h63 (by decide) (j := a) rfl (by omega) (by decide) (fun H locs E1_3 hu hP hS => ?_)
          have h61 : E1_3 61 = .inr (5, [.ref (xad g 1), .ref (xad g 60), .ref (xad g 62), .ref (xad g 63)]) := (hu.2 _ (by omega)).trans h61
          have hp : ePh g E1_3 1 n M := hp.keep (fun j h1 h2 => hu.2 j (by omega))
          have hA : E1_3 60 = .inr (0, [.ref (xad g 1), .int x1, .int x2, .int x3]) := (hu.2 _ (by omega)).trans hA
          have h62 : E1_3 62 = .inl (xI g, 11, .inl (upd y2 a (y2 (a + 1)))) := (hu.2 _ (by omega)).trans h62
          have h63 : E1_3 63 = .inl (xI g, 11, .inl (upd y3 a (y3 (a + 1)))) := hu.1
          have hfr : ∀ j, j ≠ 60 ∧ j ≠ 62 ∧ j ≠ 63 → E1_3 j = E j := fun j hj => (hu.2 j (by omega)).trans (hfr j hj)
          refine lv_iinc (v := (nI a - 1)) (lv' := [(1, .int (nI a - 1)), (0, .ref (xad g 61))]) S.1 S.2.1 dX5_plan_93 hl (k := 0) rfl (by rw [Int32.sub_eq_add_neg]; rfl) (by decide) rfl (fun ls hl => ?_)
          refine lv_goto (tgt := 42) S.1 S.2.1 dX5_plan_96 (by decide) ?_
          exact ih42 a _ _ _ _ x1 x2 x3 _ _ _ (by omega) (hpl.skip (by omega) (hr51.f c54) rfl rfl) (by omega) h61 hp hA h62 h63 hfr hP hS ls (lv_sub hl [0, 1] rfl)
        · skip
          refine lv_aload_n S.1 S.2.1 dX5_plan_57 rfl (lv_at hl 1 rfl) ?_
          refine lv_iload_n S.1 S.2.1 dX5_plan_58 rfl (lv_at hl 0 rfl) ?_
          refine x_qv (va_runV (As := [.int (nI a)]) (rest := []) S (c_X5_planFrom l g hJ EL h61 hp hA hv h62 h63 (R := R) (T := T) (a := a) (by omega) (fun k h1 h2 => hpl.2.2.2 k h1 h2)) (cwV 1 S.2.2.2.2 gX5_plan_X5_planFrom rfl rfl rfl (by decide +kernel) ⟨Nat.le_of_ble_eq_true rfl, Nat.le_of_ble_eq_true rfl⟩) (x_preV hK hP h61 (by decide) rfl) rfl rfl hl.1 rfl (lv_room (Nat.le_of_ble_eq_true rfl)) dX5_plan_59 ⟨Nat.le_of_ble_eq_true rfl, Nat.le_of_ble_eq_true rfl⟩) hS (fun E1_4 H locs hq59 hP hS => ?_)
          obtain ⟨hfr59, ⟨w1, w2, w3, hA⟩, w4, w5, r59, t59, h62, h63, hd59, g2a, g3a, hk59⟩ := hq59
          have hp : ePh g E1_4 1 n M := hp.keep (fun j h1 h2 => hfr59 j (by omega))
          have h61 : E1_4 61 = .inr (5, [.ref (xad g 1), .ref (xad g 60), .ref (xad g 62), .ref (xad g 63)]) := (hfr59 _ (by decide)).trans h61
          have hfr : ∀ j, j ≠ 60 ∧ j ≠ 62 ∧ j ≠ 63 → E1_4 j = E j := fun j hj => (hfr59 j hj).trans (hfr j hj)
          refine lv_goto (tgt := 93) S.1 S.2.1 dX5_plan_62 (by decide) ?_
          refine lv_iinc (v := (nI a - 1)) (lv' := [(1, .int (nI a - 1)), (0, .ref (xad g 61))]) S.1 S.2.1 dX5_plan_93 hl (k := 0) rfl (by rw [Int32.sub_eq_add_neg]; rfl) (by decide) rfl (fun ls hl => ?_)
          refine lv_goto (tgt := 42) S.1 S.2.1 dX5_plan_96 (by decide) ?_
          exact ih42 a _ _ w4 w5 w1 w2 w3 _ _ _ (by omega) (hpl.row (by omega) (hr51.t c54) hd59 g2a g3a hk59) (by omega) h61 hp hA h62 h63 hfr hP hS ls (lv_sub hl [0, 1] rfl)
  exact loop42 _ n (fun _ => 0) (fun _ => n) _ _ x1 x2 x3 _ _ _ (Nat.le_refl _) ⟨rfl, rfl, fun b h1 h2 => by omega, fun k h1 h2 => by have e9 : k = n := (by omega); subst e9; exact ⟨pk_us.trans rfl, pk_us.trans rfl, Nat.zero_le _⟩⟩ (Nat.lt_succ_self _) h61 hp hA h62 h63 hfr hP hS ls (lv_sub hl [0, 1] rfl)
theorem itr_stay {n : Nat} {T : Nat → Nat} {a i w : Nat} (h : itr n T i 0 = a) (ha : ¬ a < n) (hw : i ≤ w) : itr n T w 0 = a := by
  obtain ⟨d, rfl⟩ : ∃ d, w = i + d := ⟨w - i, by omega⟩
  clear hw
  induction d with
  | zero => exact h
  | succ d ih =>
    rw [show i + (d + 1) = (i + d) + 1 by omega, itr_succ, ih, if_neg ha]
set_option maxHeartbeats 4000000 in
set_option maxRecDepth 100000 in
theorem c_X5_rowAt (l : Launch) (g : xG) (E : Nat → va_E) (h61 : E 61 = .inr (5, [.ref (xad g 1), .ref (xad g 60), .ref (xad g 62), .ref (xad g 63)])) {n : Nat} {M : Nat → Nat → Int32} (hp : ePh g E 1 n M) {y3 : Nat → Int32} (h63 : E 63 = .inl (xI g, 11, .inl y3)) {T : Nat → Nat} (hT : ∀ k, k ≤ n → y3 k = nI (T k) ∧ k ≤ T k ∧ T k ≤ n) {w : Nat} (hw : w ≤ 10) : Met l yX5_rowAt wsX5_rowAt ({ frames := 3, cells := 0, slots := 0, locals := 65 }) (xPc g [.ref (xad g 61), .int (nI w)] E) (vp_Si (fun r => r = nI (mk (pB M (itr n T w 0) (T (itr n T w 0))) n))) 0 0 (fun _ => False) := by
  refine x_met (ws' := _) (by decide) rfl (Nat.le_of_ble_eq_true rfl) ?_
  intro pz ez s m below meth cz ls S hr hlocks hP hK hl
  have hl : lv_has ls 4 [(0, .ref (xad g 61)), (1, .int (nI w))] := hl
  have hin2 : ∀ w ∈ u_ws RX2 TX2 2, w ∈ wsX5_rowAt := by decide +kernel
  have hin5 : ∀ w ∈ u_ws RX5 TX5 4, w ∈ wsX5_rowAt := by decide +kernel
  have fl15 : Cond.fieldLink RX5 15 "DiscArcs$Track" "endFrom" "[I" ∈ wsX5_rowAt := by decide +kernel
  have fl18 : Cond.fieldLink RX5 18 "DiscArcs$Track" "photos" "LDiscArcs$Photos;" ∈ wsX5_rowAt := by decide +kernel
  have fl42 : Cond.fieldLink RX5 42 "DiscArcs$Photos" "size" "I" ∈ wsX5_rowAt := by decide +kernel
  have h0 := hp.1
  refine lv_iconst (v := 0) S.1 S.2.1 dX5_rowAt_0 (by decide) ?_
  refine lv_istore_n (lv' := [(2, .int 0), (0, .ref (xad g 61)), (1, .int (nI w))]) S.1 S.2.1 dX5_rowAt_1 rfl hl (by decide) rfl (fun ls hl => ?_)
  refine lv_iconst (v := 0) S.1 S.2.1 dX5_rowAt_2 (by decide) ?_
  refine lv_istore_n (lv' := [(3, .int 0), (2, .int 0), (0, .ref (xad g 61)), (1, .int (nI w))]) S.1 S.2.1 dX5_rowAt_3 rfl hl (by decide) rfl (fun ls hl => ?_)
  have loop4 : ∀ (d : Nat) (i : Nat) (a : Nat), (hiw : i ≤ w) → (ha : a ≤ n) → (hit : itr n T i 0 = a) → (w - i) < d → ∀ ls : Array Slot, lv_has ls 4 [(3, .int (nI i)), (2, .int (nI a)), (1, .int (nI w)), (0, .ref (xad g 61))] → W pz l ez ({ frames := 3, cells := 0, slots := 0, locals := 65 }) s m ([.ref (xad g 61), .int (nI w)] : List Value).toArray below meth cz s.heap [] 0 0 (MQ below (vp_Si (fun r => r = nI (mk (pB M (itr n T w 0) (T (itr n T w 0))) n))) ([.ref (xad g 61), .int (nI w)] : List Value).toArray s 0 0 (fun _ => False)) (F0 m 4 ls []) := by
    intro d
    induction d with
    | zero => intro i a hiw ha hit hd; exact absurd hd (Nat.not_lt_zero _)
    | succ d ih4 =>
      intro i a hiw ha hit hd ls hl
      refine lv_iload_n S.1 S.2.1 dX5_rowAt_4 rfl (lv_at hl 0 rfl) ?_
      refine lv_iload_n S.1 S.2.1 dX5_rowAt_5 rfl (lv_at hl 2 rfl) ?_
      refine lv_icmp_ge (tgt := 33) S.1 S.2.1 dX5_rowAt_6 (by decide) (fun c6 => ?_) (fun c6 => ?_)
      · skip
        have hi : i = w := Nat.le_antisymm hiw ((nI_leI (by omega) (by omega)).mp c6)
        subst hi
        refine lv_aload_n S.1 S.2.1 dX5_rowAt_33 rfl (lv_at hl 3 rfl) ?_
        refine lv_iload_n S.1 S.2.1 dX5_rowAt_34 rfl (lv_at hl 1 rfl) ?_
        refine lv_aload_n S.1 S.2.1 dX5_rowAt_35 rfl (lv_at hl 3 rfl) ?_
        refine x_get S hK hP dX5_rowAt_36 h61 (by decide) (RX5, TX5, 4) rfl hin5 3 (by decide) fl15 rfl ?_
        refine lv_iload_n S.1 S.2.1 dX5_rowAt_39 rfl (lv_at hl 1 rfl) ?_
        refine x_iald S hK hP dX5_rowAt_40 h63 (by decide) (j := a) rfl (by omega) (by decide) ?_
        refine W.eq (g2 := F0 m 41 ls [.int (nI (T a)), .int (nI a), .ref (xad g 61)]) (by rw [(hT a ha).1]) ?_
        refine x_si (va_runV (As := [.int (nI a), .int (nI (T a))]) (rest := []) S (c_X5_between l g E h61 hp (a := a) (b := T a) (hT a ha).2.1 (hT a ha).2.2) (cwV 2 S.2.2.2.2 gX5_rowAt_X5_between rfl rfl rfl (by decide +kernel) ⟨Nat.le_of_ble_eq_true rfl, Nat.le_of_ble_eq_true rfl⟩) (x_preV hK hP h61 (by decide) rfl) rfl rfl hl.1 rfl (lv_room (Nat.le_of_ble_eq_true rfl)) dX5_rowAt_41 ⟨Nat.le_of_ble_eq_true rfl, Nat.le_of_ble_eq_true rfl⟩) (fun r41 hr41 => ?_)
        exact x_iretR S hr hlocks dX5_rowAt_44 (by rw [hr41, hit])
      · skip
        have hiw2 : i < w := (Nat.not_le.mp (fun h => c6 ((nI_leI (by omega) (by omega)).mpr h)))
        refine lv_iload_n S.1 S.2.1 dX5_rowAt_9 rfl (lv_at hl 1 rfl) ?_
        refine lv_aload_n S.1 S.2.1 dX5_rowAt_10 rfl (lv_at hl 3 rfl) ?_
        refine x_get S hK hP dX5_rowAt_11 h61 (by decide) (RX5, TX5, 4) rfl hin5 0 (by decide) fl18 rfl ?_
        refine x_get S hK hP dX5_rowAt_14 hp.2.1 (by decide) (RX2, TX2, 2) rfl hin2 1 (by decide) fl42 rfl ?_
        refine lv_icmp_ge (tgt := 33) S.1 S.2.1 dX5_rowAt_17 (by decide) (fun c17 => ?_) (fun c17 => ?_)
        · skip
          have hit : itr n T w 0 = a := itr_stay hit (fun h => absurd ((nI_leI (by omega) (by omega)).mp c17) (by omega)) hiw
          refine lv_aload_n S.1 S.2.1 dX5_rowAt_33 rfl (lv_at hl 3 rfl) ?_
          refine lv_iload_n S.1 S.2.1 dX5_rowAt_34 rfl (lv_at hl 1 rfl) ?_
          refine lv_aload_n S.1 S.2.1 dX5_rowAt_35 rfl (lv_at hl 3 rfl) ?_
          refine x_get S hK hP dX5_rowAt_36 h61 (by decide) (RX5, TX5, 4) rfl hin5 3 (by decide) fl15 rfl ?_
          refine lv_iload_n S.1 S.2.1 dX5_rowAt_39 rfl (lv_at hl 1 rfl) ?_
          refine x_iald S hK hP dX5_rowAt_40 h63 (by decide) (j := a) rfl (by omega) (by decide) ?_
          refine W.eq (g2 := F0 m 41 ls [.int (nI (T a)), .int (nI a), .ref (xad g 61)]) (by rw [(hT a ha).1]) ?_
          refine x_si (va_runV (As := [.int (nI a), .int (nI (T a))]) (rest := []) S (c_X5_between l g E h61 hp (a := a) (b := T a) (hT a ha).2.1 (hT a ha).2.2) (cwV 2 S.2.2.2.2 gX5_rowAt_X5_between rfl rfl rfl (by decide +kernel) ⟨Nat.le_of_ble_eq_true rfl, Nat.le_of_ble_eq_true rfl⟩) (x_preV hK hP h61 (by decide) rfl) rfl rfl hl.1 rfl (lv_room (Nat.le_of_ble_eq_true rfl)) dX5_rowAt_41 ⟨Nat.le_of_ble_eq_true rfl, Nat.le_of_ble_eq_true rfl⟩) (fun r41 hr41 => ?_)
          exact x_iretR S hr hlocks dX5_rowAt_44 (by rw [hr41, hit])
        · skip
          have han : a < n := (Nat.not_le.mp (fun h => c17 ((nI_leI (by omega) (by omega)).mpr h)))
          refine lv_aload_n S.1 S.2.1 dX5_rowAt_20 rfl (lv_at hl 3 rfl) ?_
          refine x_get S hK hP dX5_rowAt_21 h61 (by decide) (RX5, TX5, 4) rfl hin5 3 (by decide) fl15 rfl ?_
          refine lv_iload_n S.1 S.2.1 dX5_rowAt_24 rfl (lv_at hl 1 rfl) ?_
          refine x_iald S hK hP dX5_rowAt_25 h63 (by decide) (j := a) rfl (by omega) (by decide) ?_
          refine lv_istore_n (lv' := [(2, .int (y3 a)), (3, .int (nI i)), (1, .int (nI w)), (0, .ref (xad g 61))]) S.1 S.2.1 dX5_rowAt_26 rfl hl (by decide) rfl (fun ls hl => ?_)
          rw [(hT a ha).1] at hl
          refine lv_iinc (v := nI (i + 1)) (lv' := [(3, .int (nI (i + 1))), (2, .int (nI (T a))), (1, .int (nI w)), (0, .ref (xad g 61))]) S.1 S.2.1 dX5_rowAt_27 hl (k := 1) rfl (show nI i + Int32.ofInt 1 = _ from nI_1 _) (by decide) rfl (fun ls hl => ?_)
          refine lv_goto (tgt := 4) S.1 S.2.1 dX5_rowAt_30 (by decide) ?_
          exact ih4 (i + 1) (T a) (by have := Nat.not_le.mp (fun h => c6 ((nI_leI (by omega) (by omega)).mpr h)); omega) (hT a ha).2.2 (by rw [itr_succ, hit]; exact if_pos han) (by omega) ls (lv_sub hl [0, 1, 2, 3] rfl)
  exact loop4 _ 0 0 (Nat.zero_le _) (Nat.zero_le _) rfl (Nat.lt_succ_self _) ls (lv_sub hl [0, 1, 3, 2] rfl)
