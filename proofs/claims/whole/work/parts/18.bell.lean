/-! ===== after seven rounds nothing comes sooner ===== -/
theorem gIs_mono {C C' B Hd : Int → Int} {f a : Int} (hC : COK C) (hC' : COK C') (h : C' a ≤ C a) (ha : 0 ≤ a ∧ a ≤ 7) (hB : 1 ≤ B f ∧ B f ≤ 99) (hH : 0 ≤ Hd a ∧ Hd a ≤ 9) : gIs C' B Hd f a ≤ gIs C B Hd f a := by
  have c := hC.bd ha.1 ha.2
  have c' := hC'.bd ha.1 ha.2
  unfold gIs
  split <;> split <;> omega
theorem gC_far {C B Hd : Int → Int} {f a b t : Int} (h : t ≠ b) : gC C B Hd f a b t = C t := by unfold gC; exact iu_ne h
theorem gC_at {C B Hd : Int → Int} {f a b : Int} : gC C B Hd f a b b = min (C b) (gIs C B Hd f a) := by unfold gC; exact iu_self _ _ _
theorem iu_same {C : Int → Int} {b : Int} : iu C b (C b) = C := by
  funext t; unfold iu; split
  · rename_i h; rw [h]
  · rfl
theorem gC_no {C B Hd : Int → Int} {f a b : Int} (h : ¬ gIs C B Hd f a < C b) : gC C B Hd f a b = C := by
  unfold gC
  rw [Int.min_eq_left (by omega)]
  exact iu_same
section Bell
variable {fr to B Hd : Int → Int} {S : Int} {n : Nat}
theorem rdS_ok {m : Nat} {p : (Int → Int) × Int} (hF : FrOK fr to B Hd n) (hm : m < n) (hC : COK p.1) : COK (rdS fr to B Hd S m p).1 ∧ (∀ k, (rdS fr to B Hd S m p).1 k ≤ p.1 k) ∧ (bt S m → (rdS fr to B Hd S m p).1 (to m) ≤ gIs p.1 B Hd m (fr m) ∧ (rdS fr to B Hd S m p).1 (fr m) ≤ gIs p.1 B Hd m (to m)) := by
  obtain ⟨h1, h2, h3, h4⟩ := hF.2.1 m (by omega) (by omega)
  have hB : 1 ≤ B m ∧ B m ≤ 99 := ⟨h3, h4⟩
  have g1 := gC_ok (C := p.1) (B := B) (Hd := Hd) (f := m) (a := fr m) (b := to m) hC h1 h2 hB (hF.2.2 _ h1.1 h1.2)
  have g2 := gC_ok (C := gC p.1 B Hd m (fr m) (to m)) (B := B) (Hd := Hd) (f := m) (a := to m) (b := fr m) g1.1 h2 h1 hB (hF.2.2 _ h2.1 h2.2)
  unfold rdS
  split
  · refine ⟨g2.1, fun k => ?_, fun _ => ⟨?_, ?_⟩⟩
    · have a := g1.2.1 k; have b := g2.2.1 k; show gC _ B Hd m (to m) (fr m) k ≤ _; omega
    · have a := g2.2.1 (to m); have b := g1.2.2; show gC _ B Hd m (to m) (fr m) (to m) ≤ _; omega
    · have a := g2.2.2
      have b := gIs_mono (C' := gC p.1 B Hd m (fr m) (to m)) (B := B) (Hd := Hd) (f := m) (a := to m) hC g1.1 (g1.2.1 _) h2 hB (hF.2.2 _ h2.1 h2.2)
      show gC _ B Hd m (to m) (fr m) (fr m) ≤ _; omega
  · rename_i hs
    exact ⟨hC, fun k => Int.le_refl _, fun h => absurd h hs⟩
theorem rdN_ok {p : (Int → Int) × Int} (hF : FrOK fr to B Hd n) (hC : COK p.1) : ∀ m : Nat, m ≤ n → COK (rdN fr to B Hd S p m).1 ∧ (∀ k, (rdN fr to B Hd S p m).1 k ≤ p.1 k) ∧ ∀ f : Nat, f < m → bt S f → (rdN fr to B Hd S p m).1 (to f) ≤ gIs p.1 B Hd f (fr f) ∧ (rdN fr to B Hd S p m).1 (fr f) ≤ gIs p.1 B Hd f (to f) := by
  intro m
  induction m with
  | zero => intro _; exact ⟨hC, fun _ => Int.le_refl _, fun f h => by omega⟩
  | succ m ih =>
    intro hm
    obtain ⟨i1, i2, i3⟩ := ih (by omega)
    obtain ⟨s1, s2, s3⟩ := rdS_ok (S := S) (m := m) hF (by omega) i1
    refine ⟨s1, fun k => Int.le_trans (s2 k) (i2 k), fun f hf hb => ?_⟩
    obtain ⟨h1, h2, h3, h4⟩ := hF.2.1 (f : Int) (by omega) (by omega)
    by_cases e : f = m
    · subst e
      have q := s3 hb
      have a := gIs_mono (C' := (rdN fr to B Hd S p f).1) (B := B) (Hd := Hd) (f := f) (a := fr f) hC i1 (i2 _) h1 ⟨h3, h4⟩ (hF.2.2 _ h1.1 h1.2)
      have b := gIs_mono (C' := (rdN fr to B Hd S p f).1) (B := B) (Hd := Hd) (f := f) (a := to f) hC i1 (i2 _) h2 ⟨h3, h4⟩ (hF.2.2 _ h2.1 h2.2)
      exact ⟨Int.le_trans q.1 a, Int.le_trans q.2 b⟩
    · have q := i3 f (by omega) hb
      exact ⟨Int.le_trans (s2 _) q.1, Int.le_trans (s2 _) q.2⟩
theorem rd_ok {C : Int → Int} (hF : FrOK fr to B Hd n) (hC : COK C) : COK (rd fr to B Hd S n C) ∧ (∀ k, rd fr to B Hd S n C k ≤ C k) ∧ ∀ f : Nat, f < n → bt S f → rd fr to B Hd S n C (to f) ≤ gIs C B Hd f (fr f) ∧ rd fr to B Hd S n C (fr f) ≤ gIs C B Hd f (to f) := rdN_ok (p := (C, 0)) hF hC n (Nat.le_refl n)
theorem rdI_ok {C : Int → Int} (hF : FrOK fr to B Hd n) (hC : COK C) : ∀ k : Nat, COK (rdI fr to B Hd S n C k) ∧ ∀ t, rdI fr to B Hd S n C k t ≤ C t := by
  intro k
  induction k with
  | zero => exact ⟨hC, fun _ => Int.le_refl _⟩
  | succ k ih => have r := rd_ok (S := S) hF ih.1; exact ⟨r.1, fun t => Int.le_trans (r.2.1 t) (ih.2 t)⟩
theorem rdI_down {C : Int → Int} (hF : FrOK fr to B Hd n) (hC : COK C) (k : Nat) : ∀ m t, rdI fr to B Hd S n C (k + m) t ≤ rdI fr to B Hd S n C k t := by
  intro m
  induction m with
  | zero => intro t; exact Int.le_refl _
  | succ m ih => intro t; exact Int.le_trans ((rd_ok (S := S) hF (rdI_ok hF hC (k + m)).1).2.1 t) (ih t)
/-- every time is one from the start, or was brought by a fuse -/
def Att (fr to B Hd : Int → Int) (S : Int) (n : Nat) (C0 C : Int → Int) : Prop := ∀ v : Int, 0 ≤ v → v ≤ 7 → C v = C0 v ∨ ∃ (f : Nat) (u : Int), f < n ∧ bt S f ∧ ((u = fr f ∧ v = to f) ∨ (u = to f ∧ v = fr f)) ∧ C u ≠ 1000000 ∧ gIs C B Hd f u ≤ C v
theorem Att_gC {C0 C : Int → Int} {f : Nat} {a b : Int} (hF : FrOK fr to B Hd n) (hC : COK C) (hA : Att fr to B Hd S n C0 C) (hf : f < n) (hs : bt S f) (hab : (a = fr f ∧ b = to f) ∨ (a = to f ∧ b = fr f)) : Att fr to B Hd S n C0 (gC C B Hd f a b) := by
  obtain ⟨h1, h2, h3, h4⟩ := hF.2.1 (f : Int) (by omega) (by omega)
  have ha : 0 ≤ a ∧ a ≤ 7 := by rcases hab with ⟨e1, e2⟩ | ⟨e1, e2⟩ <;> rw [e1] <;> assumption
  have hb : 0 ≤ b ∧ b ≤ 7 := by rcases hab with ⟨e1, e2⟩ | ⟨e1, e2⟩ <;> rw [e2] <;> assumption
  have g := gC_ok (C := C) (B := B) (Hd := Hd) (f := f) hC ha hb ⟨h3, h4⟩ (hF.2.2 _ ha.1 ha.2)
  have ca := hC.bd ha.1 ha.2
  have cb := hC.bd hb.1 hb.2
  have hha := hF.2.2 _ ha.1 ha.2
  intro v hv0 hv7
  by_cases e : gIs C B Hd f a < C b
  · by_cases ev : v = b
    · subst ev
      have hav : a ≠ v := by
        intro e2
        subst e2
        unfold gIs at e
        split at e <;> omega
      have haf : C a ≠ 1000000 := by
        intro e2
        unfold gIs at e
        rw [if_pos e2] at e
        omega
      refine Or.inr ⟨f, a, hf, hs, hab, by rw [gC_far hav]; exact haf, ?_⟩
      rw [gC_at, Int.min_eq_right (by omega)]
      unfold gIs
      rw [gC_far hav]
      exact Int.le_refl _
    · rw [gC_far ev]
      rcases hA v hv0 hv7 with q | ⟨f', u, q1, q2, q3, q4, q5⟩
      · exact Or.inl q
      · obtain ⟨k1, k2, k3, k4⟩ := hF.2.1 (f' : Int) (by omega) (by omega)
        have hu : 0 ≤ u ∧ u ≤ 7 := by rcases q3 with ⟨e1, e2⟩ | ⟨e1, e2⟩ <;> rw [e1] <;> assumption
        have cu := hC.bd hu.1 hu.2
        have gu := g.2.1 u
        have gm := gIs_mono (C' := fun t => iu C b (min (C b) (gIs C B Hd f a)) t) (B := B) (Hd := Hd) (f := f') (a := u) hC g.1 gu hu ⟨k3, k4⟩ (hF.2.2 _ hu.1 hu.2)
        exact Or.inr ⟨f', u, q1, q2, q3, by omega, Int.le_trans gm q5⟩
  · rw [gC_no e]
    exact hA v hv0 hv7
theorem Att_rdS {C0 : Int → Int} {m : Nat} {p : (Int → Int) × Int} (hF : FrOK fr to B Hd n) (hm : m < n) (hC : COK p.1) (hA : Att fr to B Hd S n C0 p.1) : Att fr to B Hd S n C0 (rdS fr to B Hd S m p).1 := by
  obtain ⟨h1, h2, h3, h4⟩ := hF.2.1 m (by omega) (by omega)
  have g1 := gC_ok (C := p.1) (B := B) (Hd := Hd) (f := m) (a := fr m) (b := to m) hC h1 h2 ⟨h3, h4⟩ (hF.2.2 _ h1.1 h1.2)
  unfold rdS
  split
  · rename_i hs
    exact Att_gC hF g1.1 (Att_gC hF hC hA hm hs (Or.inl ⟨rfl, rfl⟩)) hm hs (Or.inr ⟨rfl, rfl⟩)
  · exact hA
theorem Att_rdN {C0 : Int → Int} {p : (Int → Int) × Int} (hF : FrOK fr to B Hd n) (hC : COK p.1) (hA : Att fr to B Hd S n C0 p.1) : ∀ m : Nat, m ≤ n → Att fr to B Hd S n C0 (rdN fr to B Hd S p m).1 := by
  intro m
  induction m with
  | zero => intro _; exact hA
  | succ m ih => intro hm; exact Att_rdS hF (by omega) (rdN_ok hF hC m (by omega)).1 (ih (by omega))
theorem Att_rdI {C : Int → Int} (hF : FrOK fr to B Hd n) (hC : COK C) : ∀ k : Nat, Att fr to B Hd S n C (rdI fr to B Hd S n C k) := by
  intro k
  induction k with
  | zero => exact fun v _ _ => Or.inl rfl
  | succ k ih => exact Att_rdN (p := (rdI fr to B Hd S n C k, 0)) hF (rdI_ok hF hC k).1 ih n (Nat.le_refl n)
theorem smN_le {p q : Int → Int} : ∀ m : Nat, (∀ t : Int, 0 ≤ t → t < m → p t ≤ q t) → smN p m ≤ smN q m := by
  intro m
  induction m with
  | zero => intro _; exact Int.le_refl _
  | succ m ih => intro h; have a := ih (fun t h1 h2 => h t h1 (by omega)); have b := h m (by omega) (by omega); simp only [smN]; omega
theorem smN_lt {p q : Int → Int} {v : Int} : ∀ m : Nat, (∀ t : Int, 0 ≤ t → t < m → p t ≤ q t) → 0 ≤ v → v < m → p v < q v → smN p m < smN q m := by
  intro m
  induction m with
  | zero => intro _ h0 h1; omega
  | succ m ih =>
    intro h h0 h1 hl
    have b := h m (by omega) (by omega)
    simp only [smN]
    by_cases e : v = (m : Int)
    · subst e
      have a := smN_le m (fun t h1 h2 => h t h1 (by omega))
      omega
    · have a := ih (fun t h1 h2 => h t h1 (by omega)) h0 (by omega) hl
      omega
/-- a state at which nothing comes sooner any more is reached -/
theorem rdI_end {C : Int → Int} (hF : FrOK fr to B Hd n) (hC : COK C) : ∃ N : Nat, ∀ v : Int, 0 ≤ v → v ≤ 7 → rdI fr to B Hd S n C (N + 1) v = rdI fr to B Hd S n C N v := by
  obtain ⟨s, ⟨N, hN⟩, hmin⟩ := pk_least (fun s => ∃ N, (smN (rdI fr to B Hd S n C N) 8).toNat = s) ⟨_, 0, rfl⟩
  refine ⟨N, fun v h0 h7 => ?_⟩
  have d := rdI_down (S := S) hF hC N 1
  rcases Int.lt_or_eq_of_le (d v) with h | h
  · exfalso
    have hl := smN_lt (p := rdI fr to B Hd S n C (N + 1)) (q := rdI fr to B Hd S n C N) (v := v) 8 (fun t _ _ => d t) h0 (by omega) h
    have c1 := (rdI_ok (S := S) hF hC (N + 1)).1
    have hp : 0 ≤ smN (rdI fr to B Hd S n C (N + 1)) 8 := by
      have a := smN_le (p := fun _ => 0) (q := rdI fr to B Hd S n C (N + 1)) 8 (fun t h1 h2 => (c1.bd h1 (by omega)).1)
      have b : smN (fun _ => (0 : Int)) 8 = 0 := by decide
      omega
    exact hmin (smN (rdI fr to B Hd S n C (N + 1)) 8).toNat (by omega) ⟨N + 1, rfl⟩
  · exact h
end Bell
