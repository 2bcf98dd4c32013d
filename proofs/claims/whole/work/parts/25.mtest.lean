/-! ===== the reference: tests asked ===== -/
def pPos (c : Int → Int) (sum : Nat → Nat → PR) (inner : Option (Nat → Nat → PR)) (t p : Nat) : PR :=
  if c t = 140 then
    match inner with
    | none => .error t
    | some g => match g (t + 1) p with
      | .error e => .error e
      | .ok (t', p', k) => if c t' = 141 then .ok (t' + 1, p', k) else .error t'
  else match sum t p with
    | .error e => .error e
    | .ok (t2, p2, k1) => match cmpOp (c t2) with
      | none => .error t2
      | some o => match sum (t2 + 1) p2 with
        | .error e => .error e
        | .ok (t3, p3, k2) => .ok (t3, p3, dBin o k1 k2)
theorem pPlain_ok {c : Int → Int} {sum : Nat → Nat → PR} {inner : Option (Nat → Nat → PR)} {t p t' p' : Nat} {k : Den} (h : pPlain c sum inner t p = .ok (t', p', k)) : ∃ k1, pPos c sum inner (pNots c 401 t false).1 p = .ok (t', p', k1) ∧ k = dNot (pNots c 401 t false).2 k1 := by
  unfold pPlain at h
  unfold pPos
  simp only at h
  split at h
  · rename_i h40
    rw [if_pos h40]
    cases inner with
    | none => cases h
    | some g =>
      simp only at h ⊢
      cases hg : g ((pNots c 401 t false).1 + 1) p with
      | error e => rw [hg] at h; cases h
      | ok r =>
        obtain ⟨t1, p1, k1⟩ := r
        rw [hg] at h
        simp only at h ⊢
        split at h
        · rename_i h41
          rw [if_pos h41]
          cases h
          exact ⟨_, rfl, rfl⟩
        · cases h
  · rename_i h40
    rw [if_neg h40]
    cases hg : sum (pNots c 401 t false).1 p with
    | error e => rw [hg] at h; cases h
    | ok r =>
      obtain ⟨t2, p2, k1⟩ := r
      rw [hg] at h
      simp only at h ⊢
      cases hc : cmpOp (c t2) with
      | none => rw [hc] at h; cases h
      | some o =>
        rw [hc] at h
        simp only at h ⊢
        cases hg2 : sum (t2 + 1) p2 with
        | error e => rw [hg2] at h; cases h
        | ok r =>
          obtain ⟨t3, p3, k2⟩ := r
          rw [hg2] at h
          simp only at h ⊢
          cases h
          exact ⟨_, rfl, rfl⟩
def EvTQ (b : Int) (t' : Nat) (live br : Int) (z : Option Int) (f : mF) (g j : mA) : Int → mF → mA → mA → Prop := fun r f' g' j' => ((r = 0 ∨ r = 1) ∧ f' 24 = evB live br z ∧ f' 22 = b + t' ∧ (live = 1 → br = 0 → ∀ x, z = some x → r = x)) ∧ eqx [22, 24] f f' ∧ eqx [] g g' ∧ j' = j
def EvT (l : Launch) (o : Nat) (ar : Nat → Nat) (M : zM) (N : Nat) (lw : Bool) (K : Int → Int) (b nt : Int) (φ : Int → Int) (pf : Nat → Nat → PR) : Prop := ∀ (live br : Int) (t p t' p' : Nat) (k : Den) (f : mF) (g j : mA), (live = 0 ∨ live = 1) → (br = 0 ∨ br = 1) → g 2 = K → f 22 = b + t → f 23 = b + nt → f 24 = br → FOK lw K f g φ → (t : Int) ≤ nt → pf t p = .ok (t', p', k) → MM l o ar M N [.ref o, vI live] f g j (PI (EvTQ b t' live br (k φ) f g j))
def orZ (z0 z2 : Option Int) : Option Int := match z0 with
  | none => none
  | some x => if x = 1 then some 1 else z2
def andZ (z0 z2 : Option Int) : Option Int := match z0 with
  | none => none
  | some x => if x = 0 then some 0 else z2
theorem evB_no {live br : Int} {z : Option Int} (h : ¬ (live = 1 ∧ br = 0)) : evB live br z = br := if_neg h
theorem or_step {live br v w live2 v2 : Int} {z0 z2 : Option Int} (hl : live = 0 ∨ live = 1) (hb : br = 0 ∨ br = 1) (hv : v = 0 ∨ v = 1) (hw : w = 0 ∨ w = 1) (h1 : live = 1 → br = 0 → ∀ x, z0 = some x → v = x) (hl2 : live2 = if live ≠ 0 ∧ v = 0 then 1 else 0) (h2 : live2 = 1 → evB live br z0 = 0 → ∀ x, z2 = some x → w = x) (hv2 : v2 = if v ≠ 0 ∨ w ≠ 0 then 1 else 0) : evB live2 (evB live br z0) z2 = evB live br (orZ z0 z2) ∧ (live = 1 → br = 0 → ∀ x, orZ z0 z2 = some x → v2 = x) := by
  by_cases hL : live = 1 ∧ br = 0
  · obtain ⟨rfl, rfl⟩ := hL
    have h1 := h1 rfl rfl
    cases z0 with
    | none =>
      refine ⟨?_, fun _ _ x hx => by cases hx⟩
      rw [show evB 1 0 none = 1 from rfl, evB_no (by omega)]; rfl
    | some x0 =>
      have e0 := h1 x0 rfl
      subst e0
      rw [show evB 1 0 (some v) = 0 from rfl] at h2 ⊢
      rcases hv with rfl | rfl
      · rw [if_pos (by omega)] at hl2
        subst hl2
        have h2 := h2 rfl rfl
        refine ⟨rfl, fun _ _ x hx => ?_⟩
        have e2 := h2 x hx
        subst e2
        rw [hv2]
        rcases hw with rfl | rfl <;> rfl
      · rw [if_neg (by omega)] at hl2
        subst hl2
        refine ⟨rfl, fun _ _ x hx => ?_⟩
        cases hx
        rw [hv2]; rfl
  · rw [evB_no hL, evB_no hL]
    refine ⟨?_, fun a c => absurd ⟨a, c⟩ hL⟩
    refine evB_no (fun q => ?_)
    have : live ≠ 0 := by
      intro e
      rw [if_neg (by omega)] at hl2
      omega
    omega
theorem and_step {live br v w live2 v2 : Int} {z0 z2 : Option Int} (hl : live = 0 ∨ live = 1) (hb : br = 0 ∨ br = 1) (hv : v = 0 ∨ v = 1) (hw : w = 0 ∨ w = 1) (h1 : live = 1 → br = 0 → ∀ x, z0 = some x → v = x) (hl2 : live2 = if live ≠ 0 ∧ v ≠ 0 then 1 else 0) (h2 : live2 = 1 → evB live br z0 = 0 → ∀ x, z2 = some x → w = x) (hv2 : v2 = if v ≠ 0 ∧ w ≠ 0 then 1 else 0) : evB live2 (evB live br z0) z2 = evB live br (andZ z0 z2) ∧ (live = 1 → br = 0 → ∀ x, andZ z0 z2 = some x → v2 = x) := by
  by_cases hL : live = 1 ∧ br = 0
  · obtain ⟨rfl, rfl⟩ := hL
    have h1 := h1 rfl rfl
    cases z0 with
    | none =>
      refine ⟨?_, fun _ _ x hx => by cases hx⟩
      rw [show evB 1 0 none = 1 from rfl, evB_no (by omega)]; rfl
    | some x0 =>
      have e0 := h1 x0 rfl
      subst e0
      rw [show evB 1 0 (some v) = 0 from rfl] at h2 ⊢
      rcases hv with rfl | rfl
      · rw [if_neg (by omega)] at hl2
        subst hl2
        refine ⟨rfl, fun _ _ x hx => ?_⟩
        cases hx
        rw [hv2]; rfl
      · rw [if_pos (by omega)] at hl2
        subst hl2
        have h2 := h2 rfl rfl
        refine ⟨rfl, fun _ _ x hx => ?_⟩
        have e2 := h2 x hx
        subst e2
        rw [hv2]
        rcases hw with rfl | rfl <;> rfl
  · rw [evB_no hL, evB_no hL]
    refine ⟨?_, fun a c => absurd ⟨a, c⟩ hL⟩
    refine evB_no (fun q => ?_)
    have : live ≠ 0 := by
      intro e
      rw [if_neg (by omega)] at hl2
      omega
    omega
theorem ploopB_step {w : Int} {join : Den → Den → Den} {c : Int → Int} {item : Nat → Nat → PR} {n t p : Nat} {k : Den} {R : Nat × Nat × Den} (h : pLoopB w join c item (n + 1) t p k = .ok R) (ho : c t = w) : ∃ t2 p2 k2, item (t + 1) p = .ok (t2, p2, k2) ∧ pLoopB w join c item n t2 p2 (join k k2) = .ok R := by
  simp only [pLoopB, if_pos ho] at h
  cases hg : item (t + 1) p with
  | error e => rw [hg] at h; cases h
  | ok r => obtain ⟨t2, p2, k2⟩ := r; rw [hg] at h; exact ⟨t2, p2, k2, rfl, h⟩
theorem ploopB_end {w : Int} {join : Den → Den → Den} {c : Int → Int} {item : Nat → Nat → PR} {n t p t1 p1 : Nat} {k k1 : Den} (h : pLoopB w join c item (n + 1) t p k = .ok (t1, p1, k1)) (ho : ¬ c t = w) : t1 = t ∧ k1 = k := by
  simp only [pLoopB, if_neg ho] at h
  cases h
  exact ⟨rfl, rfl⟩
theorem prowB_step {w : Int} {join : Den → Den → Den} {c : Int → Int} {item : Nat → Nat → PR} {t p : Nat} {R : Nat × Nat × Den} (h : pRowB w join c item t p = .ok R) : ∃ t2 p2 k2, item t p = .ok (t2, p2, k2) ∧ pLoopB w join c item 401 t2 p2 k2 = .ok R := by
  unfold pRowB at h
  cases hg : item t p with
  | error e => rw [hg] at h; cases h
  | ok r => obtain ⟨t2, p2, k2⟩ := r; rw [hg] at h; exact ⟨t2, p2, k2, rfl, h⟩
