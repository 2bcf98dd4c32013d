/-! ===== what a law tells ===== -/
theorem ptext_step {lw : Bool} {c v : Int → Int} {n m t p : Nat} {l : List Cla} (h : pText lw c v n m t p = .ok l) : ∃ m' t' p' k, m = m' + 1 ∧ pCla lw c v t p = .ok (t', p', k) ∧ ((c t' = 159 ∧ ∃ l', pText lw c v n m' (t' + 1) p' = .ok l' ∧ l = k :: l') ∨ (¬ c t' = 159 ∧ ¬ t' < n ∧ l = [k])) := by
  cases m with
  | zero => cases h
  | succ m =>
    simp only [pText] at h
    cases hg : pCla lw c v t p with
    | error e => rw [hg] at h; cases h
    | ok r =>
      obtain ⟨t', p', k⟩ := r
      rw [hg] at h
      simp only at h
      refine ⟨m, t', p', k, rfl, rfl, ?_⟩
      split at h
      · rename_i h59
        cases hg2 : pText lw c v n m (t' + 1) p' with
        | error e => rw [hg2] at h; cases h
        | ok l' => rw [hg2] at h; cases h; exact Or.inl ⟨h59, l', rfl, rfl⟩
      · rename_i h59
        split at h
        · cases h
        · rename_i hn
          cases h
          exact Or.inr ⟨h59, hn, rfl⟩
theorem pif_step {lw : Bool} {c v : Int → Int} {t p t' p' : Nat} {q : Option Den} (h : pIf lw c v t p = .ok (t', p', q)) : (c t = 4 ∧ ∃ k, pTestD lw c v 8 (t + 1) p = .ok (t', p', k) ∧ q = some k) ∨ (¬ c t = 4 ∧ t' = t ∧ p' = p ∧ q = none) := by
  unfold pIf at h
  split at h
  · rename_i h4
    cases hg : pTestD lw c v 8 (t + 1) p with
    | error e => rw [hg] at h; cases h
    | ok r =>
      obtain ⟨t1, p1, k⟩ := r
      rw [hg] at h
      cases h
      exact Or.inl ⟨h4, k, rfl, rfl⟩
  · rename_i h4
    cases h
    exact Or.inr ⟨h4, rfl, rfl, rfl⟩
theorem pcla_law {c v : Int → Int} {t p t' p' : Nat} {k : Cla} (h : pCla true c v t p = .ok (t', p', k)) : ((c t = 1 ∨ c t = 2) ∧ ∃ t1 p1 k1 q, pSumD true c v 8 (t + 1) p = .ok (t1, p1, k1) ∧ pIf true c v t1 p1 = .ok (t', p', q) ∧ k = (c t, k1, dOne, 1, q)) ∨ (c t = 3 ∧ ∃ q, pIf true c v (t + 1) p = .ok (t', p', q) ∧ k = (3, dOne, dOne, 1, q)) := by
  unfold pCla at h
  simp only [if_true] at h
  split at h
  · rename_i h12
    cases hg : pSumD true c v 8 (t + 1) p with
    | error e => rw [hg] at h; cases h
    | ok r =>
      obtain ⟨t1, p1, k1⟩ := r
      rw [hg] at h
      simp only at h
      cases hg2 : pIf true c v t1 p1 with
      | error e => rw [hg2] at h; cases h
      | ok r =>
        obtain ⟨t2, p2, q⟩ := r
        rw [hg2] at h
        cases h
        exact Or.inl ⟨h12, t1, p1, k1, q, rfl, hg2, rfl⟩
  · split at h
    · rename_i h3
      cases hg2 : pIf true c v (t + 1) p with
      | error e => rw [hg2] at h; cases h
      | ok r =>
        obtain ⟨t2, p2, q⟩ := r
        rw [hg2] at h
        cases h
        exact Or.inr ⟨h3, q, rfl, rfl⟩
    · cases h
theorem tellF_cons {head lo hi w : Int} {φ : Int → Int} {vb tm : Int} {d1 d2 : Den} {q : Option Den} {l : List Cla} : tellF head lo hi φ ((vb, d1, d2, tm, q) :: l) w = tellF head lo hi φ l (tellS head lo hi vb (d1 φ) (tellF.isSoB q φ) w) := rfl
