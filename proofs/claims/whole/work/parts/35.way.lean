/-! ===== ways of fire, as mathematics ===== -/
section Way
variable {fr to B Hd : Int → Int} {S : Int} {n : Nat}
theorem rdI_inv {P : (Int → Int) → Prop} {C : Int → Int} (hF : FrOK fr to B Hd n) (hP : ∀ (C : Int → Int) (f : Nat) (a b : Int), COK C → P C → f < n → bt S f → ((a = fr f ∧ b = to f) ∨ (a = to f ∧ b = fr f)) → P (gC C B Hd f a b)) (hC : COK C) (h : P C) : ∀ k : Nat, P (rdI fr to B Hd S n C k) := by
  intro k
  induction k with
  | zero => exact h
  | succ k ih =>
    have key : ∀ m : Nat, m ≤ n → P (rdN fr to B Hd S (rdI fr to B Hd S n C k, 0) m).1 := by
      intro m
      induction m with
      | zero => intro _; exact ih
      | succ m ihm =>
        intro hm
        have p0 := ihm (by omega)
        have c0 := (rdN_ok (S := S) (p := (rdI fr to B Hd S n C k, 0)) hF (rdI_ok hF hC k).1 m (by omega)).1
        obtain ⟨h1, h2, h3, h4⟩ := hF.2.1 (m : Int) (by omega) (by omega)
        simp only [rdN, rdS]
        split
        · rename_i hs
          have p1 := hP _ m (fr m) (to m) c0 p0 (by omega) hs (Or.inl ⟨rfl, rfl⟩)
          have c1 := (gC_ok (B := B) (Hd := Hd) (f := m) (a := fr m) (b := to m) c0 h1 h2 ⟨h3, h4⟩ (hF.2.2 _ h1.1 h1.2)).1
          exact hP _ m (to m) (fr m) c1 p1 (by omega) hs (Or.inr ⟨rfl, rfl⟩)
        · exact p0
    exact key n (Nat.le_refl n)
/-- from one knot -/
def dd (fr to B Hd : Int → Int) (S : Int) (n : Nat) (k v : Int) : Int := dist fr to B Hd S n (src (zshl 1 k)) v
theorem src_1 {k t : Int} (h0 : 0 ≤ k) (h7 : k ≤ 7) (ht : 0 ≤ t) : src (zshl 1 k) t = if t = k then 0 else 1000000 := by
  unfold src
  by_cases e : t = k
  · rw [if_pos e, if_pos ((bt_shl h0 (by omega) ht).mpr e)]
  · rw [if_neg e, if_neg (fun z => e ((bt_shl h0 (by omega) ht).mp z))]
theorem dd_bd (hF : FrOK fr to B Hd n) {k v : Int} (h0 : 0 ≤ v) (h7 : v ≤ 7) : 0 ≤ dd fr to B Hd S n k v ∧ dd fr to B Hd S n k v ≤ 1000000 ∧ (dd fr to B Hd S n k v ≠ 1000000 → dd fr to B Hd S n k v ≤ 1863) := (dist_ok (S := S) hF (COK_src _)).1.bd h0 h7
theorem dd_0 (hF : FrOK fr to B Hd n) {k : Int} (h0 : 0 ≤ k) (h7 : k ≤ 7) : dd fr to B Hd S n k k = 0 := by
  have a := (dist_ok (S := S) hF (COK_src (zshl 1 k))).2.1 k
  have b := dd_bd (S := S) hF (k := k) h0 h7
  rw [src_1 h0 h7 h0, if_pos rfl] at a
  unfold dd at b ⊢
  omega
def Edg (fr to : Int → Int) (S : Int) (n : Nat) (f : Nat) (a b : Int) : Prop := f < n ∧ bt S f ∧ ((a = fr f ∧ b = to f) ∨ (a = to f ∧ b = fr f))
theorem Edg.fa {f : Nat} {a b : Int} (h : Edg fr to S n f a b) (hF : FrOK fr to B Hd n) : (0 ≤ a ∧ a ≤ 7) ∧ (0 ≤ b ∧ b ≤ 7) ∧ (1 ≤ B f ∧ B f ≤ 99) ∧ (0 ≤ Hd a ∧ Hd a ≤ 9) := by
  obtain ⟨h1, h2, h3⟩ := h
  obtain ⟨e1, e2, e3, e4⟩ := hF.2.1 (f : Int) (by omega) (by omega)
  have ha : 0 ≤ a ∧ a ≤ 7 := by rcases h3 with ⟨z, -⟩ | ⟨z, -⟩ <;> rw [z] <;> assumption
  have hb : 0 ≤ b ∧ b ≤ 7 := by rcases h3 with ⟨-, z⟩ | ⟨-, z⟩ <;> rw [z] <;> assumption
  exact ⟨ha, hb, ⟨e3, e4⟩, hF.2.2 a ha.1 ha.2⟩
theorem dd_relax (hF : FrOK fr to B Hd n) {k a b : Int} {f : Nat} (h : Edg fr to S n f a b) (ha : dd fr to B Hd S n k a ≠ 1000000) : dd fr to B Hd S n k b ≤ dd fr to B Hd S n k a + Hd a + B f := by
  have r := (dist_ok (S := S) hF (COK_src (zshl 1 k))).2.2.2 f h.1 h.2.1
  have e : dd fr to B Hd S n k b ≤ gIs (dist fr to B Hd S n (src (zshl 1 k))) B Hd f a := by
    rcases h.2.2 with ⟨e1, e2⟩ | ⟨e1, e2⟩
    · rw [e1, e2]; exact r.1
    · rw [e1, e2]; exact r.2
  unfold gIs at e
  rw [if_neg (show ¬ dist fr to B Hd S n (src (zshl 1 k)) a = 1000000 from ha)] at e
  exact e
theorem dd_tri (hF : FrOK fr to B Hd n) {k u v : Int} {f : Nat} (h : Edg fr to S n f k u) (h0 : 0 ≤ v) (h7 : v ≤ 7) (hv : dd fr to B Hd S n u v ≠ 1000000) : dd fr to B Hd S n k v ≤ Hd k + B f + dd fr to B Hd S n u v := by
  obtain ⟨ka, ub, hb, hh⟩ := h.fa hF
  have key := rdI_inv (S := S) (P := fun C => ∀ v : Int, 0 ≤ v → v ≤ 7 → C v ≠ 1000000 → dd fr to B Hd S n k v ≤ Hd k + B f + C v) (C := src (zshl 1 u)) hF ?_ (COK_src _) ?_ 8
  · exact key v h0 h7 hv
  · intro C g a b hC hP hg hs hab v h0 h7 hv
    obtain ⟨a7, b7, hb2, hh2⟩ := Edg.fa (fr := fr) (to := to) (B := B) (Hd := Hd) (S := S) (n := n) ⟨hg, hs, hab⟩ hF
    by_cases e : v = b
    · subst e
      rw [gC_at] at hv ⊢
      by_cases ea : C a = 1000000
      · have e2 : gIs C B Hd g a = 1000000 := if_pos ea
        rw [e2] at hv ⊢
        have := hC.bd h0 h7
        have := hP v h0 h7 (by omega)
        omega
      · have e2 : gIs C B Hd g a = C a + Hd a + B g := if_neg ea
        rw [e2] at hv ⊢
        have ca := hC.bd a7.1 a7.2
        have pa := hP a a7.1 a7.2 ea
        have r := dd_relax (k := k) hF (f := g) (a := a) (b := v) ⟨hg, hs, hab⟩ (by omega)
        by_cases ev : C v = 1000000
        · omega
        · have := hP v h0 h7 ev
          omega
    · rw [gC_far e] at hv ⊢
      exact hP v h0 h7 hv
  · intro v h0 h7 hv
    rw [src_1 ub.1 ub.2 h0] at hv ⊢
    split at hv
    · rename_i e
      subst e
      rw [if_pos rfl]
      have := dd_relax (k := k) hF h (by rw [dd_0 hF ka.1 ka.2]; decide)
      rw [dd_0 hF ka.1 ka.2] at this
      omega
    · exact absurd rfl hv
theorem dd_first (hF : FrOK fr to B Hd n) {k : Int} (k0 : 0 ≤ k) (k7 : k ≤ 7) : ∀ (m : Nat) (v : Int), 0 ≤ v → v ≤ 7 → v ≠ k → dd fr to B Hd S n k v ≠ 1000000 → dd fr to B Hd S n k v < m → ∃ (f : Nat) (u : Int), Edg fr to S n f k u ∧ dd fr to B Hd S n u v ≠ 1000000 ∧ Hd k + B f + dd fr to B Hd S n u v ≤ dd fr to B Hd S n k v := by
  intro m
  induction m with
  | zero => intro v h0 h7 _ _ hm; have := dd_bd (S := S) hF (k := k) h0 h7; omega
  | succ m ih =>
    intro v h0 h7 hne hv hm
    rcases (dist_ok (S := S) hF (COK_src (zshl 1 k))).2.2.1 v h0 h7 with e | ⟨f, u, hf, hs, hab, hu, hg⟩
    · rw [src_1 k0 k7 h0, if_neg hne] at e
      exact absurd e hv
    · have he : Edg fr to S n f u v := ⟨hf, hs, hab⟩
      obtain ⟨u7, v7, hb, hh⟩ := he.fa hF
      unfold gIs at hg
      rw [if_neg hu] at hg
      have hg2 : dd fr to B Hd S n k u + Hd u + B f ≤ dd fr to B Hd S n k v := hg
      have hu2 : dd fr to B Hd S n k u ≠ 1000000 := hu
      by_cases euk : u = k
      · subst euk
        refine ⟨f, v, he, ?_, ?_⟩
        · rw [dd_0 hF h0 h7]; decide
        · rw [dd_0 hF h0 h7]
          rw [dd_0 hF k0 k7] at hg2
          omega
      · obtain ⟨f1, u1, e1, e2, e3⟩ := ih u u7.1 u7.2 euk hu2 (by omega)
        have r := dd_relax (k := u1) hF he e2
        have b2 := dd_bd (S := S) hF (k := u1) u7.1 u7.2
        exact ⟨f1, u1, e1, by omega, by omega⟩
end Way
def oe (K : Int → Int) (x k : Int) : Int := if K (29 + x) = k then K (39 + x) else if K (39 + x) = k then K (29 + x) else -1
/-- by a fuse, how much is left then -/
def lbV (K : Int → Int) (cl : List Cla) (S : Int) (L : Int → Int) (k x : Int) : Int := if oe K x k = -1 ∨ ¬ bt S x then 1000000 else min 1000000 (hld K cl k + brn K cl x + L (oe K x k))
def lfS (K : Int → Int) (cl : List Cla) (S k x : Int) (L : Int → Int) : Int → Int := iu L k (min (L k) (lbV K cl S L k x))
def lfN (K : Int → Int) (cl : List Cla) (S k : Int) (L : Int → Int) : Nat → Int → Int
  | 0 => L
  | m + 1 => lfS K cl S k m (lfN K cl S k L m)
def lfK (K : Int → Int) (cl : List Cla) (S : Int) (L : Int → Int) : Nat → Int → Int
  | 0 => L
  | m + 1 => lfN K cl S m (lfK K cl S L m) (K 76).toNat
def lfR (K : Int → Int) (cl : List Cla) (S : Int) (L : Int → Int) : Nat → Int → Int
  | 0 => L
  | m + 1 => lfK K cl S (lfR K cl S L m) 8
def LOK (L : Int → Int) : Prop := ∀ k : Int, 0 ≤ k → k ≤ 7 → 0 ≤ L k ∧ L k ≤ 1000000
theorem oe_in {K : Int → Int} {x k : Int} (h : KOK K) (h0 : 0 ≤ x) (h1 : x < K 76) : oe K x k = -1 ∨ ((0 ≤ oe K x k ∧ oe K x k ≤ 7) ∧ ((k = K (29 + x) ∧ oe K x k = K (39 + x)) ∨ (k = K (39 + x) ∧ oe K x k = K (29 + x)))) := by
  have q := h.2.1 x h0 h1
  unfold oe
  split
  · rename_i e; exact Or.inr ⟨q.2.2.2.1, Or.inl ⟨e.symm, rfl⟩⟩
  · split
    · rename_i e; exact Or.inr ⟨q.2.2.1, Or.inr ⟨e.symm, rfl⟩⟩
    · exact Or.inl rfl
theorem lbV_in {K : Int → Int} {cl : List Cla} {S k x : Int} {L : Int → Int} (h : KOK K) (hL : LOK L) (h0 : 0 ≤ x) (h1 : x < K 76) : 0 ≤ lbV K cl S L k x ∧ lbV K cl S L k x ≤ 1000000 := by
  have hb := brn_in (cl := cl) h h0 h1
  have hh := hld_in (K := K) (cl := cl) (k := k)
  unfold lbV
  split
  · omega
  · rename_i hn
    rcases oe_in (k := k) h h0 h1 with e | e
    · exact absurd (Or.inl e) hn
    · have := hL _ e.1.1 e.1.2
      omega
theorem lfS_ok {K : Int → Int} {cl : List Cla} {S k x : Int} {L : Int → Int} (h : KOK K) (hL : LOK L) (h0 : 0 ≤ x) (h1 : x < K 76) : LOK (lfS K cl S k x L) ∧ (∀ t, lfS K cl S k x L t ≤ L t) ∧ lfS K cl S k x L k ≤ lbV K cl S L k x := by
  have b := lbV_in (cl := cl) (S := S) (k := k) h hL h0 h1
  unfold lfS
  refine ⟨fun t t0 t7 => ?_, fun t => ?_, by rw [iu_self]; omega⟩
  · unfold iu
    split
    · rename_i e; subst e; have := hL t t0 t7; omega
    · exact hL t t0 t7
  · unfold iu
    split
    · rename_i e; subst e; omega
    · omega
theorem lfN_ok {K : Int → Int} {cl : List Cla} {S k : Int} {L : Int → Int} (h : KOK K) (hL : LOK L) : ∀ m : Nat, m ≤ (K 76).toNat → LOK (lfN K cl S k L m) ∧ (∀ t, lfN K cl S k L m t ≤ L t) ∧ ∀ x : Nat, x < m → ∀ L' : Int → Int, L' = lfN K cl S k L x → lfN K cl S k L m k ≤ lbV K cl S L' k x := by
  intro m
  induction m with
  | zero => intro _; exact ⟨hL, fun t => Int.le_refl _, fun x hx => absurd hx (Nat.not_lt_zero x)⟩
  | succ m ih =>
    intro hm
    have hn := h.1
    obtain ⟨i1, i2, i3⟩ := ih (by omega)
    obtain ⟨j1, j2, j3⟩ := lfS_ok (cl := cl) (S := S) (k := k) (x := m) h i1 (by omega) (by omega)
    refine ⟨j1, fun t => Int.le_trans (j2 t) (i2 t), fun x hx L' e => ?_⟩
    show lfS K cl S k m (lfN K cl S k L m) k ≤ _
    by_cases ex : x = m
    · subst ex; rw [e]; exact j3
    · exact Int.le_trans (j2 k) (i3 x (by omega) L' e)
theorem lfK_ok {K : Int → Int} {cl : List Cla} {S : Int} {L : Int → Int} (h : KOK K) (hL : LOK L) : ∀ m : Nat, LOK (lfK K cl S L m) ∧ ∀ t, lfK K cl S L m t ≤ L t := by
  intro m
  induction m with
  | zero => exact ⟨hL, fun t => Int.le_refl _⟩
  | succ m ih =>
    have a := lfN_ok (cl := cl) (S := S) (k := m) h ih.1 (K 76).toNat (Nat.le_refl _)
    exact ⟨a.1, fun t => Int.le_trans (a.2.1 t) (ih.2 t)⟩
theorem lfR_ok {K : Int → Int} {cl : List Cla} {S : Int} {L : Int → Int} (h : KOK K) (hL : LOK L) : ∀ m : Nat, LOK (lfR K cl S L m) ∧ ∀ t, lfR K cl S L m t ≤ L t := by
  intro m
  induction m with
  | zero => exact ⟨hL, fun t => Int.le_refl _⟩
  | succ m ih =>
    have a := lfK_ok (cl := cl) (S := S) h ih.1 8
    exact ⟨a.1, fun t => Int.le_trans (a.2 t) (ih.2 t)⟩
theorem lbV_mono {K : Int → Int} {cl : List Cla} {S k x : Int} {L L' : Int → Int} (hle : ∀ t, L t ≤ L' t) : lbV K cl S L k x ≤ lbV K cl S L' k x := by
  unfold lbV
  split
  · omega
  · have := hle (oe K x k); omega
/-- a round brings each knot what its fuses brought from what was -/
theorem lfK_le {K : Int → Int} {cl : List Cla} {S : Int} {L : Int → Int} (h : KOK K) (hL : LOK L) : ∀ (m : Nat) (k x : Nat), k < m → x < (K 76).toNat → lfK K cl S L m k ≤ lbV K cl S L k x := by
  intro m
  induction m with
  | zero => intro k x hk; exact absurd hk (Nat.not_lt_zero k)
  | succ m ih =>
    intro k x hk hx
    have a := lfK_ok (cl := cl) (S := S) h hL m
    have b := lfN_ok (cl := cl) (S := S) (k := m) h a.1 (K 76).toNat (Nat.le_refl _)
    by_cases e : k = m
    · subst e
      refine Int.le_trans (b.2.2 x hx _ rfl) (lbV_mono (fun t => ?_))
      exact Int.le_trans ((lfN_ok (cl := cl) (S := S) (k := k) h a.1 x (by omega)).2.1 t) (a.2 t)
    · exact Int.le_trans (b.2.1 k) (ih k x (by omega) hx)
def wK (K : Int → Int) (cl : List Cla) (S k v : Int) : Int := dK K cl S (src (zshl 1 k)) v
theorem wK_dd {K : Int → Int} {cl : List Cla} {S k v : Int} : wK K cl S k v = dd (frK K) (toK K) (brn K cl) (hld K cl) S (K 76).toNat k v := rfl
theorem lf_lo {K : Int → Int} {cl : List Cla} {S g : Int} {L : Int → Int} (h : KOK K) (g0 : 0 ≤ g) (g7 : g ≤ 7) (hL : LOK L) (hlo : ∀ k : Int, 0 ≤ k → k ≤ 7 → wK K cl S k g ≤ L k) : ∀ m : Nat, ∀ k : Int, 0 ≤ k → k ≤ 7 → wK K cl S k g ≤ lfR K cl S L m k := by
  have hF := h.fr (cl := cl)
  have hn := h.1
  have step : ∀ (L : Int → Int) (k x : Int), LOK L → 0 ≤ x → x < K 76 → 0 ≤ k → k ≤ 7 → (∀ k : Int, 0 ≤ k → k ≤ 7 → wK K cl S k g ≤ L k) → ∀ t : Int, 0 ≤ t → t ≤ 7 → wK K cl S t g ≤ lfS K cl S k x L t := by
    intro L k x hL x0 x1 k0 k7 hlo t t0 t7
    unfold lfS iu
    split
    · rename_i e
      subst e
      have a := hlo t t0 t7
      have b := dd_bd (S := S) hF (k := t) g0 g7
      rw [← wK_dd] at b
      have hc : wK K cl S t g ≤ lbV K cl S L t x := by
        unfold lbV
        split
        · omega
        · rename_i hn2
          rcases oe_in (k := t) h x0 x1 with e | e
          · exact absurd (Or.inl e) hn2
          · have hbs : bt S x := Decidable.byContradiction (fun z => hn2 (Or.inr z))
            have lu := hlo _ e.1.1 e.1.2
            have lu2 := hL _ e.1.1 e.1.2
            have hb := brn_in (cl := cl) h x0 x1
            have hh := hld_in (K := K) (cl := cl) (k := t)
            by_cases ef : wK K cl S (oe K x t) g = 1000000
            · omega
            · have he : Edg (frK K) (toK K) S (K 76).toNat x.toNat t (oe K x t) := by
                refine ⟨by omega, ?_, ?_⟩
                · rw [Int.toNat_of_nonneg x0]; exact hbs
                · rw [Int.toNat_of_nonneg x0]; exact e.2
              have tr := dd_tri hF he g0 g7 ef
              rw [← wK_dd, ← wK_dd, Int.toNat_of_nonneg x0] at tr
              omega
      omega
    · exact hlo t t0 t7
  intro m
  induction m with
  | zero => exact hlo
  | succ m ih =>
    have kk : ∀ j : Nat, j ≤ 8 → ∀ t : Int, 0 ≤ t → t ≤ 7 → wK K cl S t g ≤ lfK K cl S (lfR K cl S L m) j t := by
      intro j
      induction j with
      | zero => intro _; exact ih
      | succ j ihj =>
        intro hj
        have o1 := (lfK_ok (cl := cl) (S := S) h (lfR_ok (cl := cl) (S := S) h hL m).1 j).1
        have nn : ∀ q : Nat, q ≤ (K 76).toNat → ∀ t : Int, 0 ≤ t → t ≤ 7 → wK K cl S t g ≤ lfN K cl S j (lfK K cl S (lfR K cl S L m) j) q t := by
          intro q
          induction q with
          | zero => intro _; exact ihj (by omega)
          | succ q ihq =>
            intro hq
            exact step _ j q (lfN_ok (cl := cl) (S := S) (k := j) h o1 q (by omega)).1 (by omega) (by omega) (by omega) (by omega) (ihq (by omega))
        exact nn _ (Nat.le_refl _)
    exact kk 8 (Nat.le_refl _)
def gl0 (g k : Int) : Int := if k = g then 0 else 1000000
theorem lf_eq {K : Int → Int} {cl : List Cla} {S g : Int} {L : Int → Int} (h : KOK K) (g0 : 0 ≤ g) (g7 : g ≤ 7) (hL : ∀ k : Int, 0 ≤ k → k ≤ 7 → L k = gl0 g k) : ∀ k : Int, 0 ≤ k → k ≤ 7 → lfR K cl S L 7 k = wK K cl S k g := by
  have hF := h.fr (cl := cl)
  have hn := h.1
  have oL : LOK L := fun k k0 k7 => by rw [hL k k0 k7]; unfold gl0; split <;> omega
  have lo := lf_lo (cl := cl) (S := S) h g0 g7 oL (fun k k0 k7 => by
    rw [hL k k0 k7]
    have b := dd_bd (S := S) hF (k := k) g0 g7
    unfold gl0
    split
    · rename_i e; subst e; rw [wK_dd, dd_0 hF g0 g7]; decide
    · rw [wK_dd]; omega)
  have hi : ∀ (m : Nat) (k : Int), 0 ≤ k → k ≤ 7 → rank (fun t => wK K cl S t g) k ≤ m → lfR K cl S L m k ≤ wK K cl S k g := by
    intro m
    induction m with
    | zero =>
      intro k k0 k7 hr
      by_cases ek : k = g
      · subst ek
        show L k ≤ _
        rw [hL k k0 k7, wK_dd, dd_0 hF k0 k7]
        unfold gl0
        rw [if_pos rfl]
        decide
      · by_cases ef : wK K cl S k g = 1000000
        · rw [ef]; exact (oL k k0 k7).2
        · exfalso
          rw [wK_dd] at ef
          have b := dd_bd (S := S) hF (k := k) g0 g7
          obtain ⟨f, u, he, h1, h2⟩ := dd_first hF k0 k7 1000001 g g0 g7 (fun z => ek z.symm) ef (by omega)
          obtain ⟨a7, u7, hb, hh⟩ := he.fa hF
          have r := rank_lt (F := fun t => wK K cl S t g) (u := u) (v := k) (by simp only [wK_dd]; omega) u7.1 u7.2
          have := rank_7 (F := fun t => wK K cl S t g) u7.1 u7.2
          omega
    | succ m ih =>
      intro k k0 k7 hr
      by_cases ek : k = g
      · subst ek
        have a := (lfR_ok (cl := cl) (S := S) h oL (m + 1)).2 k
        rw [hL k k0 k7] at a
        unfold gl0 at a
        rw [if_pos rfl] at a
        rw [wK_dd, dd_0 hF k0 k7]
        exact a
      · by_cases ef : wK K cl S k g = 1000000
        · rw [ef]; exact ((lfR_ok (cl := cl) (S := S) h oL (m + 1)).1 k k0 k7).2
        · rw [wK_dd] at ef
          have b := dd_bd (S := S) hF (k := k) g0 g7
          obtain ⟨f, u, he, h1, h2⟩ := dd_first hF k0 k7 1000001 g g0 g7 (fun z => ek z.symm) ef (by omega)
          obtain ⟨a7, u7, hb, hh⟩ := he.fa hF
          have r := rank_lt (F := fun t => wK K cl S t g) (u := u) (v := k) (by simp only [wK_dd]; omega) u7.1 u7.2
          have i := ih u u7.1 u7.2 (by omega)
          have l := lfK_le (cl := cl) (S := S) h (lfR_ok (cl := cl) (S := S) h oL m).1 8 k.toNat f (by omega) he.1
          rw [Int.toNat_of_nonneg k0] at l
          have q := h.2.1 f (by omega) (by have := he.1; omega)
          have eo : oe K f k = u := by
            unfold oe
            rcases he.2.2 with ⟨e1, e2⟩ | ⟨e1, e2⟩
            · simp only [frK, toK] at e1 e2
              rw [if_pos e1.symm, e2]
            · simp only [frK, toK] at e1 e2
              rw [if_neg (by omega), if_pos e1.symm, e2]
          unfold lbV at l
          rw [eo, if_neg (fun z => z.elim (fun q => by omega) (fun q => q he.2.1))] at l
          rw [wK_dd] at i ⊢
          show lfK K cl S (lfR K cl S L m) 8 k ≤ _
          omega
  intro k k0 k7
  have a := hi 7 k k0 k7 (rank_7 k0 k7).2
  have b := lo 7 k k0 k7
  omega
/-- the first of which p holds -/
def fstP (p : Int → Bool) : Nat → Int
  | 0 => -1
  | m + 1 => if fstP p m ≠ -1 then fstP p m else if p m = true then (m : Int) else -1
theorem fstP_none {p : Int → Bool} : ∀ n : Nat, (∀ t : Int, 0 ≤ t → t < n → ¬ p t = true) → fstP p n = -1 := by
  intro n
  induction n with
  | zero => intro _; rfl
  | succ n ih => intro h; simp only [fstP]; rw [ih (fun t h0 h1 => h t h0 (by omega)), if_neg (by omega), if_neg (h n (by omega) (by omega))]
theorem fstP_at {p : Int → Bool} {x : Int} (x0 : 0 ≤ x) (hp : p x = true) : ∀ n : Nat, (∀ t : Int, 0 ≤ t → t < x → ¬ p t = true) → x < n → fstP p n = x := by
  intro n
  induction n with
  | zero => intro _ hx; omega
  | succ n ih =>
    intro h hx
    simp only [fstP]
    by_cases e : x < n
    · rw [ih h e, if_pos (by omega)]
    · have e2 : x = n := by omega
      rw [fstP_none n (fun t h0 h1 => h t h0 (by omega)), if_neg (by omega), ← e2, if_pos hp]
theorem fstP_cg {p p' : Int → Bool} : ∀ n : Nat, (∀ t : Int, 0 ≤ t → t < n → p t = p' t) → fstP p n = fstP p' n := by
  intro n
  induction n with
  | zero => intro _; rfl
  | succ n ih => intro h; simp only [fstP]; rw [ih (fun t h0 h1 => h t h0 (by omega)), h n (by omega) (by omega)]
def nxt (K : Int → Int) (cl : List Cla) (S : Int) (lw : Int → Int) (k : Int) : Int := fstP (fun x => decide (lbV K cl S lw k x = lw k)) (K 76).toNat
def wayG (K : Int → Int) (cl : List Cla) (S : Int) (lw : Int → Int) (g : Int) : Nat → Int → Int → Int
  | 0, _, x => x
  | m + 1, k, _ => if k = g then -1 else wayG K cl S lw g m (oe K (nxt K cl S lw k) k) (nxt K cl S lw k)
/-- on a way there is a next fuse -/
theorem nxt_ok {K : Int → Int} {cl : List Cla} {S g k : Int} (h : KOK K) (g0 : 0 ≤ g) (g7 : g ≤ 7) (k0 : 0 ≤ k) (k7 : k ≤ 7) (hk : k ≠ g) (hf : wK K cl S k g ≠ 1000000) : ∃ y : Int, 0 ≤ y ∧ y < K 76 ∧ bt S y ∧ (0 ≤ oe K y k ∧ oe K y k ≤ 7) ∧ wK K cl S (oe K y k) g ≠ 1000000 ∧ hld K cl k + brn K cl y + wK K cl S (oe K y k) g = wK K cl S k g ∧ lbV K cl S (fun t => wK K cl S t g) k y = wK K cl S k g := by
  have hF := h.fr (cl := cl)
  have hn := h.1
  rw [wK_dd] at hf
  have b := dd_bd (S := S) hF (k := k) g0 g7
  obtain ⟨f, u, he, h1, h2⟩ := dd_first hF k0 k7 1000001 g g0 g7 (fun z => hk z.symm) hf (by omega)
  obtain ⟨a7, u7, hb, hh⟩ := he.fa hF
  have tr := dd_tri hF he g0 g7 h1
  have q := h.2.1 f (by omega) (by have := he.1; omega)
  have eo : oe K f k = u := by
    unfold oe
    rcases he.2.2 with ⟨e1, e2⟩ | ⟨e1, e2⟩
    · simp only [frK, toK] at e1 e2
      rw [if_pos e1.symm, e2]
    · simp only [frK, toK] at e1 e2
      rw [if_neg (by omega), if_pos e1.symm, e2]
  refine ⟨f, by omega, by have := he.1; omega, he.2.1, by rw [eo]; exact u7, by rw [eo, wK_dd]; exact h1, by rw [eo, wK_dd, wK_dd]; omega, ?_⟩
  unfold lbV
  rw [eo, if_neg (fun z => z.elim (fun q => by omega) (fun q => q he.2.1))]
  simp only [wK_dd]
  omega
/-- what a fuse of which the rest is just right is -/
theorem lbV_fin {K : Int → Int} {cl : List Cla} {S g k y : Int} (h : KOK K) (g0 : 0 ≤ g) (g7 : g ≤ 7) (y0 : 0 ≤ y) (y1 : y < K 76) (hf : wK K cl S k g ≠ 1000000) (he : lbV K cl S (fun t => wK K cl S t g) k y = wK K cl S k g) : bt S y ∧ (0 ≤ oe K y k ∧ oe K y k ≤ 7) ∧ wK K cl S (oe K y k) g ≠ 1000000 ∧ hld K cl k + brn K cl y + wK K cl S (oe K y k) g = wK K cl S k g := by
  have hF := h.fr (cl := cl)
  have b := dd_bd (S := S) hF (k := k) g0 g7
  rw [← wK_dd] at b
  have hb := brn_in (cl := cl) h y0 y1
  have hh := hld_in (K := K) (cl := cl) (k := k)
  unfold lbV at he
  split at he
  · omega
  · rename_i hn
    rcases oe_in (k := k) h y0 y1 with e | e
    · exact absurd (Or.inl e) hn
    · simp only at he
      refine ⟨Decidable.byContradiction (fun z => hn (Or.inr z)), e.1, ?_, ?_⟩ <;> omega
