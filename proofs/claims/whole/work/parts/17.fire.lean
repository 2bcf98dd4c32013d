/-! ===== fire, as mathematics: knots 0 .. 7, times, 1000000 is never ===== -/
def gIs (C B Hd : Int → Int) (f a : Int) : Int := if C a = 1000000 then 1000000 else C a + Hd a + B f
def gC (C B Hd : Int → Int) (f a b : Int) : Int → Int := iu C b (min (C b) (gIs C B Hd f a))
/-- one fuse, both ways; the second component: has something come sooner -/
def rdS (fr to B Hd : Int → Int) (S f : Int) (p : (Int → Int) × Int) : (Int → Int) × Int :=
  if bt S f then (gC (gC p.1 B Hd f (fr f) (to f)) B Hd f (to f) (fr f), if gIs (gC p.1 B Hd f (fr f) (to f)) B Hd f (to f) < gC p.1 B Hd f (fr f) (to f) (fr f) then 1 else if gIs p.1 B Hd f (fr f) < p.1 (to f) then 1 else p.2) else p
def rdN (fr to B Hd : Int → Int) (S : Int) (p : (Int → Int) × Int) : Nat → (Int → Int) × Int
  | 0 => p
  | n + 1 => rdS fr to B Hd S n (rdN fr to B Hd S p n)
/-- a round -/
def rd (fr to B Hd : Int → Int) (S : Int) (n : Nat) (C : Int → Int) : Int → Int := (rdN fr to B Hd S (C, 0) n).1
def rdI (fr to B Hd : Int → Int) (S : Int) (n : Nat) (C : Int → Int) : Nat → Int → Int
  | 0 => C
  | k + 1 => rd fr to B Hd S n (rdI fr to B Hd S n C k)
/-- what the frame must be: ends of fuses are knots, times are small -/
def FrOK (fr to B Hd : Int → Int) (n : Nat) : Prop := n ≤ 10 ∧ (∀ f : Int, 0 ≤ f → f < n → (0 ≤ fr f ∧ fr f ≤ 7) ∧ (0 ≤ to f ∧ to f ≤ 7) ∧ 1 ≤ B f ∧ B f ≤ 99) ∧ ∀ k : Int, 0 ≤ k → k ≤ 7 → 0 ≤ Hd k ∧ Hd k ≤ 9
/-- how many knots fire has come to -/
def fin (C : Int → Int) : Int := sm (fun k => b2i (C k ≠ 1000000)) 8
/-- times are sound: from 0 on, and not large -/
def COK (C : Int → Int) : Prop := ∀ k : Int, 0 ≤ k → k ≤ 7 → 0 ≤ C k ∧ (C k = 1000000 ∨ C k ≤ 999 + 108 * fin C)
theorem fin_in (C : Int → Int) : 0 ≤ fin C ∧ fin C ≤ 8 := sm_in (by omega) (fun t _ _ => by have := b2i_01 (C t ≠ 1000000); omega)
theorem COK.bd {C : Int → Int} (h : COK C) {k : Int} (h0 : 0 ≤ k) (h1 : k ≤ 7) : 0 ≤ C k ∧ C k ≤ 1000000 ∧ (C k ≠ 1000000 → C k ≤ 1863) := by
  have a := h k h0 h1
  have b := fin_in C
  omega
/-- sm of two rows that differ in one place -/
theorem sm_iu {p q : Int → Int} {b N : Int} (hb : 0 ≤ b) (hN : b < N) (h : ∀ t, t ≠ b → p t = q t) : sm p N = sm q N + p b - q b := by
  have key : ∀ m : Nat, smN p m = smN q m + (if b < m then p b - q b else 0) := by
    intro m
    induction m with
    | zero => simp [smN]; omega
    | succ m ih =>
      simp only [smN]
      rw [ih]
      by_cases e : (m : Int) = b
      · rw [if_neg (by omega), if_pos (by omega), e]; omega
      · rw [h _ e]
        by_cases e2 : b < (m : Int)
        · rw [if_pos e2, if_pos (by omega)]; omega
        · rw [if_neg e2, if_neg (by omega)]; omega
  have := key N.toNat
  rw [if_pos (by omega)] at this
  unfold sm
  omega
theorem gC_ok {C B Hd : Int → Int} {f a b : Int} (hC : COK C) (ha : 0 ≤ a ∧ a ≤ 7) (hb : 0 ≤ b ∧ b ≤ 7) (hB : 1 ≤ B f ∧ B f ≤ 99) (hH : 0 ≤ Hd a ∧ Hd a ≤ 9) : COK (gC C B Hd f a b) ∧ (∀ k, gC C B Hd f a b k ≤ C k) ∧ gC C B Hd f a b b ≤ gIs C B Hd f a := by
  have ca := hC.bd ha.1 ha.2
  have cb := hC.bd hb.1 hb.2
  have a1 := hC a ha.1 ha.2
  have b1 := hC b hb.1 hb.2
  have gv : gC C B Hd f a b b = min (C b) (gIs C B Hd f a) := by unfold gC; exact iu_self _ _ _
  have gn : ∀ k, k ≠ b → gC C B Hd f a b k = C k := fun k h => by unfold gC; exact iu_ne h
  have fs : fin (gC C B Hd f a b) = fin C + b2i (gC C B Hd f a b b ≠ 1000000) - b2i (C b ≠ 1000000) := sm_iu hb.1 (by omega) (fun t ht => by simp only [gn t ht])
  have isv : gIs C B Hd f a = 1000000 ∧ C a = 1000000 ∨ gIs C B Hd f a = C a + Hd a + B f ∧ C a ≠ 1000000 := by
    unfold gIs; split
    · exact Or.inl ⟨rfl, by assumption⟩
    · exact Or.inr ⟨rfl, by assumption⟩
  have f1 := fin_in C
  have hfin : fin C ≤ fin (gC C B Hd f a b) ∧ (C b = 1000000 → gC C B Hd f a b b ≠ 1000000 → fin (gC C B Hd f a b) = fin C + 1) := by
    rw [fs]
    constructor
    · by_cases e : C b = 1000000
      · rw [b2i_f (show ¬ C b ≠ 1000000 by omega)]; have := b2i_01 (gC C B Hd f a b b ≠ 1000000); omega
      · rw [b2i_t (show C b ≠ 1000000 by omega), b2i_t (show gC C B Hd f a b b ≠ 1000000 by rw [gv]; omega)]; omega
    · intro e1 e2
      rw [b2i_f (show ¬ C b ≠ 1000000 by omega), b2i_t e2]; omega
  refine ⟨fun k h0 h1 => ?_, fun k => ?_, by rw [gv]; omega⟩
  · by_cases e : k = b
    · subst e
      have h2 := hfin.2
      rw [gv] at h2 ⊢
      rcases isv with ⟨i1, i2⟩ | ⟨i1, i2⟩ <;> omega
    · rw [gn k e]
      have := hC k h0 h1
      omega
  · by_cases e : k = b
    · subst e; rw [gv]; omega
    · rw [gn k e]; omega
