/-- one clause: what told becomes -/
def tellS (head lo hi vb : Int) (z : Option Int) (so : Bool) (w : Int) : Int := if vb = head ∧ so = true then (match z with
      | none => w
      | some z => if z < lo then lo else if z > hi then hi else z) else w
theorem tellS_no {head lo hi vb : Int} {z : Option Int} {so : Bool} {w : Int} (h : ¬ (vb = head ∧ so = true ∧ z ≠ none)) : tellS head lo hi vb z so w = w := by
  unfold tellS
  split
  · rename_i h1
    cases z with
    | none => rfl
    | some x => exact absurd ⟨h1.1, h1.2, by simp⟩ h
  · rfl
theorem tellS_yes {head lo hi vb x : Int} {z : Option Int} {so : Bool} {w : Int} (h1 : vb = head) (h2 : so = true) (h3 : z = some x) : tellS head lo hi vb z so w = if x < lo then lo else if x > hi then hi else x := by
  subst h3
  unfold tellS
  rw [if_pos ⟨h1, h2⟩]
theorem ev_1 {z : Option Int} : (evB 1 0 z = 0 ∧ ∃ x, z = some x ∧ evV 1 0 z = x) ∨ (evB 1 0 z = 1 ∧ z = none) := by
  cases z with
  | none => exact Or.inr ⟨rfl, rfl⟩
  | some x => exact Or.inl ⟨rfl, x, rfl, rfl⟩
