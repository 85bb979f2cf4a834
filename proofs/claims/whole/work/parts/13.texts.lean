/-! TEXTS: the reading of a photo out of characters f 0 .. f (tl - 1) -/
def pas (f : Nat → Int32) (tl : Nat) (c : Int32) (p : Nat) : Bool × Nat := if p < tl ∧ f p = c then (true, p + 1) else (false, p)
def dig (f : Nat → Int32) (tl p : Nat) : Prop := p < tl ∧ 48 ≤ f p ∧ f p ≤ 57
def digB (f : Nat → Int32) (tl p : Nat) : Bool := decide (p < tl ∧ 48 ≤ f p ∧ f p ≤ 57)
theorem digB_iff {f : Nat → Int32} {tl p : Nat} : digB f tl p = true ↔ dig f tl p := ⟨fun h => of_decide_eq_true h, fun h => decide_eq_true h⟩
def dgs (f : Nat → Int32) (tl : Nat) : Nat → Nat → Int32 → Nat × Int32
  | 0, p, v => (p, v)
  | d + 1, p, v => if v = 0 then (p, v) else if digB f tl p then dgs f tl d (p + 1) (10 * v + (f p - 48)) else (p, v)
theorem dgs_step {f : Nat → Int32} {tl d p : Nat} {v : Int32} : dgs f tl (d + 1) p v = if v = 0 then (p, v) else if digB f tl p then dgs f tl d (p + 1) (10 * v + (f p - 48)) else (p, v) := rfl
/-- behind a sign: neg tells that there was one -/
def numB (f : Nat → Int32) (tl : Nat) (neg : Bool) (p : Nat) : Bool × Nat × Int32 := if digB f tl p then (if neg && decide (f p = 48) then (false, p, 0) else (true, (dgs f tl 2 (p + 1) (f p - 48)).1, if neg then -(dgs f tl 2 (p + 1) (f p - 48)).2 else (dgs f tl 2 (p + 1) (f p - 48)).2)) else (false, p, 0)
def num (f : Nat → Int32) (tl : Nat) (sg : Bool) (p : Nat) : Bool × Nat × Int32 := if sg then numB f tl (pas f tl 45 p).1 (pas f tl 45 p).2 else numB f tl false p
theorem pas_le {f : Nat → Int32} {tl : Nat} {c : Int32} {p : Nat} (h : p ≤ tl) : (pas f tl c p).2 ≤ tl := by
  unfold pas
  split <;> simp <;> omega
theorem dgs_le {f : Nat → Int32} {tl : Nat} : ∀ (d p : Nat) (v : Int32), p ≤ tl → (dgs f tl d p v).1 ≤ tl
  | 0, p, v, h => h
  | d + 1, p, v, h => by
    rw [dgs_step]
    split
    · exact h
    · split
      · rename_i h2
        have := (digB_iff.mp h2).1
        exact dgs_le d (p + 1) _ (by omega)
      · exact h
theorem numB_le {f : Nat → Int32} {tl : Nat} {neg : Bool} {p : Nat} (h : p ≤ tl) : (numB f tl neg p).2.1 ≤ tl := by
  unfold numB
  split
  · rename_i h2
    have := (digB_iff.mp h2).1
    split
    · exact h
    · exact dgs_le 2 (p + 1) _ (by omega)
  · exact h
theorem num_le {f : Nat → Int32} {tl : Nat} {sg : Bool} {p : Nat} (h : p ≤ tl) : (num f tl sg p).2.1 ≤ tl := by
  unfold num
  split
  · exact numB_le (pas_le h)
  · exact numB_le h
/-- a place: time, x, y, error -/
def plB (f : Nat → Int32) (tl : Nat) : Bool × Nat × Int32 × Int32 × Int32 × Int32 :=
  let a := num f tl false 0
  if !a.1 then (false, a.2.1, 0, 0, 0, 0) else
  let b := pas f tl 58 a.2.1
  if !b.1 then (false, b.2, 0, 0, 0, 0) else
  let c := num f tl true b.2
  if !c.1 then (false, c.2.1, 0, 0, 0, 0) else
  let d := pas f tl 44 c.2.1
  if !d.1 then (false, d.2, 0, 0, 0, 0) else
  let e := num f tl true d.2
  if !e.1 then (false, e.2.1, 0, 0, 0, 0) else
  let g := pas f tl 44 e.2.1
  if !g.1 then (false, g.2, 0, 0, 0, 0) else
  let h := num f tl false g.2
  if !h.1 then (false, h.2.1, 0, 0, 0, 0) else (true, h.2.1, a.2.2, c.2.2, e.2.2, h.2.2)
/-- the whole: whether it is right; where the fault is; whether it tells an angle; the angle and its error -/
def prs (f : Nat → Int32) (tl : Nat) : Bool × Nat × Bool × Int32 × Int32 :=
  let a := plB f tl
  if !a.1 then (false, a.2.1, false, 360, 0) else
  if a.2.1 = tl then (true, a.2.1, false, 360, 0) else
  let b := pas f tl 64 a.2.1
  if !b.1 then (false, b.2, false, 360, 0) else
  let c := num f tl false b.2
  if !c.1 then (false, c.2.1, true, 360, 0) else
  let d := pas f tl 44 c.2.1
  if !d.1 then (false, d.2, true, c.2.2, 0) else
  let e := num f tl false d.2
  if !e.1 then (false, e.2.1, true, c.2.2, 0) else
  if e.2.1 = tl then (true, e.2.1, true, c.2.2, e.2.2) else (false, e.2.1, true, c.2.2, e.2.2)
