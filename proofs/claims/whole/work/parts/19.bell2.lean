section Bell2
variable {fr to B Hd : Int → Int} {S : Int} {n : Nat}
theorem rdS_out {m : Nat} {p : (Int → Int) × Int} (hF : FrOK fr to B Hd n) (hm : m < n) {t : Int} (ht : ¬ (0 ≤ t ∧ t ≤ 7)) : (rdS fr to B Hd S m p).1 t = p.1 t := by
  obtain ⟨h1, h2, -, -⟩ := hF.2.1 m (by omega) (by omega)
  unfold rdS
  split
  · show gC _ B Hd m (to m) (fr m) t = _
    rw [gC_far (by omega), gC_far (by omega)]
  · rfl
theorem rdN_out {p : (Int → Int) × Int} (hF : FrOK fr to B Hd n) {t : Int} (ht : ¬ (0 ≤ t ∧ t ≤ 7)) : ∀ m : Nat, m ≤ n → (rdN fr to B Hd S p m).1 t = p.1 t := by
  intro m
  induction m with
  | zero => intro _; rfl
  | succ m ih => intro hm; rw [rdN, rdS_out hF (by omega) ht, ih (by omega)]
theorem rd_out {C : Int → Int} (hF : FrOK fr to B Hd n) {t : Int} (ht : ¬ (0 ≤ t ∧ t ≤ 7)) : rd fr to B Hd S n C t = C t := rdN_out (p := (C, 0)) hF ht n (Nat.le_refl n)
theorem rdI_out {C : Int → Int} (hF : FrOK fr to B Hd n) {t : Int} (ht : ¬ (0 ≤ t ∧ t ≤ 7)) : ∀ k : Nat, rdI fr to B Hd S n C k t = C t := by
  intro k
  induction k with
  | zero => rfl
  | succ k ih => rw [rdI, rd_out hF ht, ih]
theorem rdI_fix {C : Int → Int} (hF : FrOK fr to B Hd n) (hC : COK C) : ∃ F : Int → Int, rd fr to B Hd S n F = F ∧ COK F ∧ Att fr to B Hd S n C F ∧ (∀ k t, F t ≤ rdI fr to B Hd S n C k t) ∧ ∀ t : Int, ¬ (0 ≤ t ∧ t ≤ 7) → F t = C t := by
  obtain ⟨N, hN⟩ := rdI_end (S := S) hF hC
  have e : rd fr to B Hd S n (rdI fr to B Hd S n C N) = rdI fr to B Hd S n C N := by
    funext t
    by_cases ht : 0 ≤ t ∧ t ≤ 7
    · exact hN t ht.1 ht.2
    · exact rd_out hF ht
  have st : ∀ m, rdI fr to B Hd S n C (N + m) = rdI fr to B Hd S n C N := by
    intro m
    induction m with
    | zero => rfl
    | succ m ih => show rd fr to B Hd S n (rdI fr to B Hd S n C (N + m)) = _; rw [ih, e]
  refine ⟨_, e, (rdI_ok hF hC N).1, Att_rdI hF hC N, fun k t => ?_, fun t ht => rdI_out hF ht N⟩
  rcases Nat.le_total k N with h | h
  · obtain ⟨m, rfl⟩ : ∃ m, N = k + m := ⟨N - k, by omega⟩
    exact rdI_down hF hC k m t
  · obtain ⟨m, rfl⟩ : ∃ m, k = N + m := ⟨k - N, by omega⟩
    rw [st m]
    exact Int.le_refl _
theorem gIs_cg {C C' B Hd : Int → Int} {f a : Int} (h : C' a = C a) : gIs C' B Hd f a = gIs C B Hd f a := by unfold gIs; rw [h]
theorem gIs_gt {C B Hd : Int → Int} {f a : Int} (h : C a ≠ 1000000) (hB : 1 ≤ B f) (hH : 0 ≤ Hd a) : C a < gIs C B Hd f a := by unfold gIs; rw [if_neg h]; omega
/-- how many knots fire comes to sooner -/
def rank (F : Int → Int) (v : Int) : Int := smN (fun u => b2i (F u < F v)) 8
theorem rank_lt {F : Int → Int} {u v : Int} (h : F u < F v) (h0 : 0 ≤ u) (h7 : u ≤ 7) : rank F u < rank F v := by
  unfold rank
  refine smN_lt (v := u) 8 (fun t _ _ => ?_) h0 (by omega) ?_
  · by_cases e : F t < F u
    · rw [b2i_t e, b2i_t (by omega)]; omega
    · rw [b2i_f e]; have := b2i_01 (F t < F v); omega
  · rw [b2i_f (by omega), b2i_t h]; decide
theorem rank_7 {F : Int → Int} {v : Int} (h0 : 0 ≤ v) (h7 : v ≤ 7) : 0 ≤ rank F v ∧ rank F v ≤ 7 := by
  have a := smN_lt (p := fun u => b2i (F u < F v)) (q := fun _ => 1) (v := v) 8 (fun t _ _ => by have := b2i_01 (F t < F v); omega) h0 (by omega) (by rw [b2i_f (by omega)]; decide)
  have b : smN (fun _ => (1 : Int)) 8 = 8 := by decide
  have c := smN_in (p := fun u => b2i (F u < F v)) 8 (fun t _ _ => by have := b2i_01 (F t < F v); omega)
  unfold rank
  omega
theorem rdI_rank {C F : Int → Int} (hF : FrOK fr to B Hd n) (hC : COK C) (hA : Att fr to B Hd S n C F) (hle : ∀ k t, F t ≤ rdI fr to B Hd S n C k t) : ∀ (k : Nat) (v : Int), 0 ≤ v → v ≤ 7 → rank F v ≤ k → rdI fr to B Hd S n C k v = F v := by
  intro k
  induction k with
  | zero =>
    intro v h0 h7 hr
    rcases hA v h0 h7 with e | ⟨f, u, hf, hs, hab, hu, hg⟩
    · exact e.symm
    · exfalso
      obtain ⟨h1, h2, h3, h4⟩ := hF.2.1 (f : Int) (by omega) (by omega)
      have hu7 : 0 ≤ u ∧ u ≤ 7 := by rcases hab with ⟨e1, -⟩ | ⟨e1, -⟩ <;> rw [e1] <;> assumption
      have a := gIs_gt (B := B) (Hd := Hd) (f := f) hu h3 (hF.2.2 _ hu7.1 hu7.2).1
      have b := rank_lt (F := F) (u := u) (v := v) (by omega) hu7.1 hu7.2
      have c := rank_7 (F := F) hu7.1 hu7.2
      omega
  | succ k ih =>
    intro v h0 h7 hr
    have lo := hle (k + 1) v
    rcases hA v h0 h7 with e | ⟨f, u, hf, hs, hab, hu, hg⟩
    · have hi := (rdI_ok (S := S) hF hC (k + 1)).2 v
      omega
    · obtain ⟨h1, h2, h3, h4⟩ := hF.2.1 (f : Int) (by omega) (by omega)
      have hu7 : 0 ≤ u ∧ u ≤ 7 := by rcases hab with ⟨e1, -⟩ | ⟨e1, -⟩ <;> rw [e1] <;> assumption
      have a := gIs_gt (B := B) (Hd := Hd) (f := f) hu h3 (hF.2.2 _ hu7.1 hu7.2).1
      have b := rank_lt (F := F) (u := u) (v := v) (by omega) hu7.1 hu7.2
      have iu' := ih u hu7.1 hu7.2 (by omega)
      have r := (rd_ok (S := S) hF (rdI_ok (S := S) hF hC k).1).2.2 f hf hs
      have hi : rdI fr to B Hd S n C (k + 1) v ≤ gIs (rdI fr to B Hd S n C k) B Hd f u := by
        rcases hab with ⟨e1, e2⟩ | ⟨e1, e2⟩
        · rw [e1, e2]; exact r.1
        · rw [e1, e2]; exact r.2
      rw [gIs_cg iu'] at hi
      omega
theorem rdI_7 {C : Int → Int} (hF : FrOK fr to B Hd n) (hC : COK C) : rd fr to B Hd S n (rdI fr to B Hd S n C 7) = rdI fr to B Hd S n C 7 := by
  obtain ⟨F, e1, e2, e3, e4, e5⟩ := rdI_fix (S := S) hF hC
  have e : rdI fr to B Hd S n C 7 = F := by
    funext t
    by_cases ht : 0 ≤ t ∧ t ≤ 7
    · exact rdI_rank hF hC e3 e4 7 t ht.1 ht.2 (rank_7 ht.1 ht.2).2
    · rw [rdI_out hF ht, e5 t ht]
  rw [e, e1]
/-- what is behind seven rounds stays -/
theorem rdI_ge7 {C : Int → Int} (hF : FrOK fr to B Hd n) (hC : COK C) : ∀ m : Nat, rdI fr to B Hd S n C (7 + m) = rdI fr to B Hd S n C 7 := by
  intro m
  induction m with
  | zero => rfl
  | succ m ih => show rd fr to B Hd S n (rdI fr to B Hd S n C (7 + m)) = _; rw [ih, rdI_7 hF hC]
/-- the times at which fire comes, from the times C -/
def dist (fr to B Hd : Int → Int) (S : Int) (n : Nat) (C : Int → Int) : Int → Int := rdI fr to B Hd S n C 8
theorem dist_eq {C : Int → Int} (hF : FrOK fr to B Hd n) (hC : COK C) {k : Nat} (hk : rd fr to B Hd S n (rdI fr to B Hd S n C k) = rdI fr to B Hd S n C k) : rdI fr to B Hd S n C k = dist fr to B Hd S n C := by
  have st : ∀ m, rdI fr to B Hd S n C (k + m) = rdI fr to B Hd S n C k := by
    intro m
    induction m with
    | zero => rfl
    | succ m ih => show rd fr to B Hd S n (rdI fr to B Hd S n C (k + m)) = _; rw [ih, hk]
  unfold dist
  rcases Nat.le_total k 8 with h | h
  · obtain ⟨m, hm⟩ : ∃ m, 8 = k + m := ⟨8 - k, by omega⟩
    rw [hm, st m]
  · obtain ⟨m, rfl⟩ : ∃ m, k = 7 + m := ⟨k - 7, by omega⟩
    rw [rdI_ge7 hF hC m, ← rdI_ge7 hF hC 1]
theorem dist_fix {C : Int → Int} (hF : FrOK fr to B Hd n) (hC : COK C) : rd fr to B Hd S n (dist fr to B Hd S n C) = dist fr to B Hd S n C := by
  unfold dist
  have := rdI_ge7 (S := S) hF hC 1
  rw [show (8 : Nat) = 7 + 1 from rfl, this, rdI_7 hF hC]
theorem dist_ok {C : Int → Int} (hF : FrOK fr to B Hd n) (hC : COK C) : COK (dist fr to B Hd S n C) ∧ (∀ t, dist fr to B Hd S n C t ≤ C t) ∧ Att fr to B Hd S n C (dist fr to B Hd S n C) ∧ ∀ f : Nat, f < n → bt S f → dist fr to B Hd S n C (to f) ≤ gIs (dist fr to B Hd S n C) B Hd f (fr f) ∧ dist fr to B Hd S n C (fr f) ≤ gIs (dist fr to B Hd S n C) B Hd f (to f) := by
  have a := rdI_ok (S := S) hF hC 8
  refine ⟨a.1, a.2, Att_rdI hF hC 8, fun f hf hs => ?_⟩
  have r := (rd_ok (S := S) hF a.1).2.2 f hf hs
  have e := dist_fix (S := S) hF hC
  unfold dist at e ⊢
  rw [e] at r
  exact r
/-- the flag of a round -/
theorem rdS_0 {m : Nat} {p : (Int → Int) × Int} (h : (rdS fr to B Hd S m p).2 = 0) : p.2 = 0 ∧ (rdS fr to B Hd S m p).1 = p.1 := by
  unfold rdS at h ⊢
  split
  · rename_i hs
    rw [if_pos hs] at h
    simp only at h
    split at h
    · omega
    · rename_i h2
      split at h
      · omega
      · rename_i h1
        refine ⟨h, ?_⟩
        show gC _ B Hd m (to m) (fr m) = _
        rw [gC_no h2, gC_no h1]
  · rename_i hs
    rw [if_neg hs] at h
    exact ⟨h, rfl⟩
theorem rdN_0 {p : (Int → Int) × Int} : ∀ m : Nat, (rdN fr to B Hd S p m).2 = 0 → p.2 = 0 ∧ (rdN fr to B Hd S p m).1 = p.1 := by
  intro m
  induction m with
  | zero => intro h; exact ⟨h, rfl⟩
  | succ m ih => intro h; obtain ⟨a, b⟩ := rdS_0 h; obtain ⟨c, e⟩ := ih a; exact ⟨c, b.trans e⟩
theorem rdN_01 {p : (Int → Int) × Int} (hp : p.2 = 0 ∨ p.2 = 1) : ∀ m : Nat, (rdN fr to B Hd S p m).2 = 0 ∨ (rdN fr to B Hd S p m).2 = 1 := by
  intro m
  induction m with
  | zero => exact hp
  | succ m ih =>
    simp only [rdN]
    unfold rdS
    split
    · simp only; split
      · exact Or.inr rfl
      · split
        · exact Or.inr rfl
        · exact ih
    · exact ih
theorem rdN_1 {p : (Int → Int) × Int} (hF : FrOK fr to B Hd n) (hC : COK p.1) (hp : p.2 = 0) : ∀ m : Nat, m ≤ n → (rdN fr to B Hd S p m).2 ≠ 0 → ∃ v, (rdN fr to B Hd S p m).1 v < p.1 v := by
  intro m
  induction m with
  | zero => intro _ h; exact absurd hp h
  | succ m ih =>
    intro hm h
    have ok := rdN_ok (S := S) hF hC m (by omega)
    obtain ⟨s1, s2, -⟩ := rdS_ok (S := S) (m := m) hF (by omega) ok.1
    by_cases e : (rdN fr to B Hd S p m).2 = 0
    · simp only [rdN] at h ⊢
      obtain ⟨h1, h2, h3, h4⟩ := hF.2.1 m (by omega) (by omega)
      have g1 := gC_ok (C := (rdN fr to B Hd S p m).1) (B := B) (Hd := Hd) (f := m) (a := fr m) (b := to m) ok.1 h1 h2 ⟨h3, h4⟩ (hF.2.2 _ h1.1 h1.2)
      have g2 := gC_ok (C := gC (rdN fr to B Hd S p m).1 B Hd m (fr m) (to m)) (B := B) (Hd := Hd) (f := m) (a := to m) (b := fr m) g1.1 h2 h1 ⟨h3, h4⟩ (hF.2.2 _ h2.1 h2.2)
      unfold rdS at h ⊢
      split
      · rename_i hs
        rw [if_pos hs] at h
        simp only at h ⊢
        split at h
        · rename_i hlt
          refine ⟨fr m, ?_⟩
          have a := g2.2.2
          have b := g1.2.1 (fr m)
          have c := ok.2.1 (fr m)
          omega
        · split at h
          · rename_i hlt
            refine ⟨to m, ?_⟩
            have a := g1.2.2
            have b := g2.2.1 (to m)
            have c := ok.2.1 (to m)
            omega
          · exact absurd e h
      · rename_i hs
        rw [if_neg hs] at h
        exact absurd e h
    · obtain ⟨v, hv⟩ := ih (by omega) e
      exact ⟨v, Int.lt_of_le_of_lt (s2 v) hv⟩
end Bell2
