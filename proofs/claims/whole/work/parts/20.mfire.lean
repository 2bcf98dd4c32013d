/-! ===== the reference's fire ===== -/
abbrev frK (K : Int → Int) : Int → Int := fun i => K (29 + i)
abbrev toK (K : Int → Int) : Int → Int := fun i => K (39 + i)
/-- alike at the knots -/
def ag8 (C C' : Int → Int) : Prop := ∀ t : Int, 0 ≤ t → t ≤ 7 → C t = C' t
section Cg
variable {fr to B Hd : Int → Int} {S : Int} {n : Nat}
theorem gC_cg {C C' : Int → Int} {f a b : Int} (h : ag8 C C') (ha : 0 ≤ a ∧ a ≤ 7) (hb : 0 ≤ b ∧ b ≤ 7) : ag8 (gC C B Hd f a b) (gC C' B Hd f a b) := by
  intro t h0 h7
  by_cases e : t = b
  · subst e; rw [gC_at, gC_at, h t h0 h7, gIs_cg (C' := C) (C := C') (h a ha.1 ha.2)]
  · rw [gC_far e, gC_far e, h t h0 h7]
theorem rdN_cg {C C' : Int → Int} {y : Int} (hF : FrOK fr to B Hd n) (h : ag8 C C') : ∀ m : Nat, m ≤ n → ag8 (rdN fr to B Hd S (C, y) m).1 (rdN fr to B Hd S (C', y) m).1 ∧ (rdN fr to B Hd S (C, y) m).2 = (rdN fr to B Hd S (C', y) m).2 := by
  intro m
  induction m with
  | zero => intro _; exact ⟨h, rfl⟩
  | succ m ih =>
    intro hm
    obtain ⟨i1, i2⟩ := ih (by omega)
    obtain ⟨h1, h2, -, -⟩ := hF.2.1 m (by omega) (by omega)
    have g1 := gC_cg (B := B) (Hd := Hd) (f := m) i1 h1 h2
    simp only [rdN, rdS]
    split
    · refine ⟨gC_cg g1 h2 h1, ?_⟩
      simp only
      rw [gIs_cg (C' := gC (rdN fr to B Hd S (C, y) m).1 B Hd m (fr m) (to m)) (C := gC (rdN fr to B Hd S (C', y) m).1 B Hd m (fr m) (to m)) (g1 _ h2.1 h2.2), g1 _ h1.1 h1.2, gIs_cg (C' := (rdN fr to B Hd S (C, y) m).1) (C := (rdN fr to B Hd S (C', y) m).1) (i1 _ h1.1 h1.2), i1 _ h2.1 h2.2, i2]
    · exact ⟨i1, i2⟩
theorem rdI_cg {C C' : Int → Int} (hF : FrOK fr to B Hd n) (h : ag8 C C') : ∀ k : Nat, ag8 (rdI fr to B Hd S n C k) (rdI fr to B Hd S n C' k) := by
  intro k
  induction k with
  | zero => exact h
  | succ k ih => exact (rdN_cg (y := 0) hF ih n (Nat.le_refl n)).1
theorem dist_cg {C C' : Int → Int} (hF : FrOK fr to B Hd n) (h : ag8 C C') : ag8 (dist fr to B Hd S n C) (dist fr to B Hd S n C') := rdI_cg hF h 8
theorem COK_cg {C C' : Int → Int} (h : ag8 C C') (hC : COK C') : COK C := by
  have e : fin C = fin C' := sm_cg (fun t h0 h1 => by simp only [h t h0 (by omega)])
  intro k h0 h7
  rw [h k h0 h7, e]
  exact hC k h0 h7
end Cg
theorem fin_pos {C : Int → Int} {k : Int} (h0 : 0 ≤ k) (h7 : k ≤ 7) (h : C k ≠ 1000000) : 1 ≤ fin C := by
  have a := smN_lt (p := fun _ => 0) (q := fun k => b2i (C k ≠ 1000000)) (v := k) 8 (fun t _ _ => by have := b2i_01 (C t ≠ 1000000); omega) h0 (by omega) (by rw [b2i_t h]; decide)
  have b : smN (fun _ => (0 : Int)) 8 = 0 := by decide
  show 1 ≤ smN (fun k => b2i (C k ≠ 1000000)) 8
  omega
/-- matches on paper -/
def src (kn : Int) (t : Int) : Int := if bt kn t then 0 else 1000000
theorem COK_src (kn : Int) : COK (src kn) := by
  intro k h0 h7
  have f := fin_in (src kn)
  have e : src kn k = 0 ∨ src kn k = 1000000 := by unfold src; split <;> simp
  omega
/-- matches lit -/
def lit (K : Int → Int) (t : Int) : Int := if K (20 + t) = -1 then 1000000 else K (20 + t)
theorem COK_lit {K : Int → Int} (h : ∀ k, 0 ≤ k → k ≤ 7 → -1 ≤ K (20 + k) ∧ K (20 + k) ≤ 999) : COK (lit K) := by
  intro k h0 h7
  have f := fin_in (lit K)
  have a := h k h0 h7
  have e : lit K k = 1000000 ∨ (K (20 + k) ≠ -1 ∧ lit K k = K (20 + k)) := by
    unfold lit; split
    · exact Or.inl rfl
    · exact Or.inr ⟨by assumption, rfl⟩
  omega
theorem rd_skip {fr to B Hd C : Int → Int} {S i mo : Int} {p : (Int → Int) × Int} {m : Nat} (e : (C, mo) = rdN fr to B Hd S p m) (hi : i = (m : Int)) (hs : ¬ bt S i) : (C, mo) = rdN fr to B Hd S p (m + 1) := by
  subst hi; rw [rdN, ← e, rdS, if_neg hs]
theorem rd_take {fr to B Hd C : Int → Int} {S i mo mo2 a b : Int} {p : (Int → Int) × Int} {m : Nat} (e : (C, mo) = rdN fr to B Hd S p m) (hi : i = (m : Int)) (hs : bt S i) (ha : a = fr i) (hb : b = to i) (h2 : mo2 = if gIs (gC C B Hd i a b) B Hd i b < gC C B Hd i a b a then 1 else if gIs C B Hd i a < C b then 1 else mo) : (gC (gC C B Hd i a b) B Hd i b a, mo2) = rdN fr to B Hd S p (m + 1) := by
  subst hi; subst ha; subst hb
  rw [rdN, ← e, rdS, if_pos hs, h2]
set_option maxHeartbeats 4000000 in
set_option maxRecDepth 100000 in
theorem s_isIn {l : Launch} {s k : Int} (hs : z31 s) (k0 : 0 ≤ k) (k1 : k ≤ 31) : SI l MX8_isIn 0 [vI s, vI k] (b2i (bt s k)) := by
  refine SI.intro [some (vI s), some (vI k)] (b2i_in _) (by decide) (Nat.le_of_ble_eq_true rfl) rfl (fun d hd h => ?_)
  refine z_ild_0 (TX8_isIn.at 0 rfl) ?_
  refine z_ild_1 (TX8_isIn.at 1 rfl) ?_
  refine z_ishr (TX8_isIn.at 2 rfl) ?_
  refine z_iconst (TX8_isIn.at 3 rfl) ?_
  refine z_iand (TX8_isIn.at 4 rfl) ?_
  rw [z_bit hs k0 k1]
  refine z_iconst (TX8_isIn.at 5 rfl) ?_
  refine z_icmp_ne (tgt := 13) (TX8_isIn.at 6 rfl) rfl (by exact b2i_in _) (by omega) (fun c1 => ?_) (fun c1 => ?_)
  · skip
    refine z_iconst (TX8_isIn.at 9 rfl) ?_
    exact zs_zret (TX8_isIn.at 10 rfl) rfl (by first | omega | exact b2i_01 _) (by have := b2i_01 (bt s k); omega)
  · skip
    refine z_iconst (TX8_isIn.at 7 rfl) ?_
    refine z_goto (tgt := 14) (TX8_isIn.at 8 rfl) rfl ?_
    exact zs_zret (TX8_isIn.at 10 rfl) rfl (by first | omega | exact b2i_01 _) (by have := b2i_01 (bt s k); omega)

set_option maxHeartbeats 4000000 in
set_option maxRecDepth 100000 in
theorem m_goesOn {l : Launch} {o : Nat} {ar : Nat → Nat} {f : mF} {g j : mA} {B : Int → Int} {Hd : Int → Int} {C : Int → Int} {x a b : Int}  (eg30 : g 30 = B) (eg31 : g 31 = Hd) (eg32 : g 32 = C) (hx : zIn x) (ha : zIn a) (hb : zIn b) (x0 : 0 ≤ x) (x1 : x ≤ 9) (a0 : 0 ≤ a ∧ a ≤ 7) (b0 : 0 ≤ b ∧ b ≤ 7) (hC : COK C) (hB : 1 ≤ B x ∧ B x ≤ 99) (hh : 0 ≤ Hd a ∧ Hd a ≤ 9) : MM l o ar MX8_goesOn 1 [.ref o, vI x, vI a, vI b] f g j (PI (fun r f' g' j' => (r = b2i (gIs C B Hd x a < C b) ∧ g' 32 = gC C B Hd x a b) ∧ eqx [] f f' ∧ eqx [32] g g' ∧ j' = j)) := by
  refine MM.intro [some (.ref o), some (vI x), some (vI a), some (vI b), none, none] (by decide) (Nat.le_of_ble_eq_true rfl) rfl (fun d hd h0 h hH hA => ?_)
  have hfE : eqx [] f f := eqx.rf
  have hgE : eqx [32] g g := eqx.rf
  have ca := hC.bd a0.1 a0.2
  have cb := hC.bd b0.1 b0.2
  refine z_ald_0 (TX8_goesOn.at 0 rfl) ?_
  refine zm_getA (TX8_goesOn.at 1 rfl) fl8_72 hH (by decide) (by decide) ?_
  refine z_ild_2 (TX8_goesOn.at 2 rfl) ?_
  refine zm_ialdE eg32 (TX8_goesOn.at 3 rfl) hH rfl (by omega) (show _ < ((8 : Nat) : Int) by omega) (fun r5 => ?_)
  refine z_ldc (v := 1000000) (TX8_goesOn.at 4 rfl) k8_169 (by decide) ?_
  refine z_icmp_ne (tgt := 16) (TX8_goesOn.at 5 rfl) rfl (by omega) (by omega) (fun c1 => ?_) (fun c1 => ?_)
  · skip
    refine z_ald_0 (TX8_goesOn.at 8 rfl) ?_
    refine zm_getA (TX8_goesOn.at 9 rfl) fl8_72 hH (by decide) (by decide) ?_
    refine z_ild_2 (TX8_goesOn.at 10 rfl) ?_
    refine zm_ialdE eg32 (TX8_goesOn.at 11 rfl) hH rfl (by omega) (show _ < ((8 : Nat) : Int) by omega) (fun r21 => ?_)
    refine z_ald_0 (TX8_goesOn.at 12 rfl) ?_
    refine zm_getA (TX8_goesOn.at 13 rfl) fl8_69 hH (by decide) (by decide) ?_
    refine z_ild_2 (TX8_goesOn.at 14 rfl) ?_
    refine zm_ialdE eg31 (TX8_goesOn.at 15 rfl) hH rfl (by omega) (show _ < ((8 : Nat) : Int) by omega) (fun r27 => ?_)
    refine z_iadd (TX8_goesOn.at 16 rfl) ?_
    refine z_ald_0 (TX8_goesOn.at 17 rfl) ?_
    refine zm_getA (TX8_goesOn.at 18 rfl) fl8_66 hH (by decide) (by decide) ?_
    refine z_ild_1 (TX8_goesOn.at 19 rfl) ?_
    refine zm_ialdE eg30 (TX8_goesOn.at 20 rfl) hH rfl (by omega) (show _ < ((10 : Nat) : Int) by omega) (fun r34 => ?_)
    refine z_iadd (TX8_goesOn.at 21 rfl) ?_
    refine z_ist_4 (TX8_goesOn.at 22 rfl) (Nat.le_of_ble_eq_true rfl) rfl ?_
    refine z_ild_4 (TX8_goesOn.at 23 rfl) ?_
    refine z_ald_0 (TX8_goesOn.at 24 rfl) ?_
    refine zm_getA (TX8_goesOn.at 25 rfl) fl8_72 hH (by decide) (by decide) ?_
    refine z_ild_3 (TX8_goesOn.at 26 rfl) ?_
    refine zm_ialdE eg32 (TX8_goesOn.at 27 rfl) hH rfl (by omega) (show _ < ((8 : Nat) : Int) by omega) (fun r45 => ?_)
    refine z_icmp_ge (tgt := 53) (TX8_goesOn.at 28 rfl) rfl (by omega) (by omega) (fun c2 => ?_) (fun c2 => ?_)
    · skip
      refine z_iconst (TX8_goesOn.at 31 rfl) ?_
      refine z_ist_5 (TX8_goesOn.at 32 rfl) (Nat.le_of_ble_eq_true rfl) rfl ?_
      refine z_ald_0 (TX8_goesOn.at 33 rfl) ?_
      refine zm_getA (TX8_goesOn.at 34 rfl) fl8_72 hH (by decide) (by decide) ?_
      refine z_ild_3 (TX8_goesOn.at 35 rfl) ?_
      refine z_ald_0 (TX8_goesOn.at 36 rfl) ?_
      refine zm_getA (TX8_goesOn.at 37 rfl) fl8_72 hH (by decide) (by decide) ?_
      refine z_ild_3 (TX8_goesOn.at 38 rfl) ?_
      refine zm_ialdE eg32 (TX8_goesOn.at 39 rfl) hH rfl (by omega) (show _ < ((8 : Nat) : Int) by omega) (fun r66 => ?_)
      refine z_ild_4 (TX8_goesOn.at 40 rfl) ?_
      refine zs_call2 (s_lesser (by omega) (by omega)) (TX8_goesOn.at 41 rfl) c8_336 rfl (by omega) (Nat.le_of_ble_eq_true rfl) (fun r69 => ?_)
      refine zm_iastE (TX8_goesOn.at 42 rfl) hH hA rfl (by omega) (show _ < ((8 : Nat) : Int) by omega) (by omega) (fun h g72 e1 e2 hH hA => ?_)
      have eg30 := (e1 30 (by decide)).trans eg30
      have eg31 := (e1 31 (by decide)).trans eg31
      rw [eg32] at e2; have eg32 := e2
      have hgE := hgE.put e1 (by decide)
      refine z_ild_5 (TX8_goesOn.at 43 rfl) ?_
      refine zm_zret (TX8_goesOn.at 44 rfl) rfl hH hA (by first | omega | exact b2i_01 _) ?_
      exact ⟨by first | (have hg : gIs C B Hd x a = 1000000 := if_pos (by omega); unfold gC; rw [hg]; exact ⟨by first | (rw [b2i_t (by omega)]; done) | (rw [b2i_f (by omega)]; done), eg32⟩) | (have hg : gIs C B Hd x a = C a + Hd a + B x := if_neg (by omega); unfold gC; rw [hg]; exact ⟨by first | (rw [b2i_t (by omega)]; done) | (rw [b2i_f (by omega)]; done), eg32⟩), hfE, hgE, rfl⟩
    · skip
      refine z_iconst (TX8_goesOn.at 29 rfl) ?_
      refine z_goto (tgt := 54) (TX8_goesOn.at 30 rfl) rfl ?_
      refine z_ist_5 (TX8_goesOn.at 32 rfl) (Nat.le_of_ble_eq_true rfl) rfl ?_
      refine z_ald_0 (TX8_goesOn.at 33 rfl) ?_
      refine zm_getA (TX8_goesOn.at 34 rfl) fl8_72 hH (by decide) (by decide) ?_
      refine z_ild_3 (TX8_goesOn.at 35 rfl) ?_
      refine z_ald_0 (TX8_goesOn.at 36 rfl) ?_
      refine zm_getA (TX8_goesOn.at 37 rfl) fl8_72 hH (by decide) (by decide) ?_
      refine z_ild_3 (TX8_goesOn.at 38 rfl) ?_
      refine zm_ialdE eg32 (TX8_goesOn.at 39 rfl) hH rfl (by omega) (show _ < ((8 : Nat) : Int) by omega) (fun r66 => ?_)
      refine z_ild_4 (TX8_goesOn.at 40 rfl) ?_
      refine zs_call2 (s_lesser (by omega) (by omega)) (TX8_goesOn.at 41 rfl) c8_336 rfl (by omega) (Nat.le_of_ble_eq_true rfl) (fun r69 => ?_)
      refine zm_iastE (TX8_goesOn.at 42 rfl) hH hA rfl (by omega) (show _ < ((8 : Nat) : Int) by omega) (by omega) (fun h g72 e1 e2 hH hA => ?_)
      have eg30 := (e1 30 (by decide)).trans eg30
      have eg31 := (e1 31 (by decide)).trans eg31
      rw [eg32] at e2; have eg32 := e2
      have hgE := hgE.put e1 (by decide)
      refine z_ild_5 (TX8_goesOn.at 43 rfl) ?_
      refine zm_zret (TX8_goesOn.at 44 rfl) rfl hH hA (by first | omega | exact b2i_01 _) ?_
      exact ⟨by first | (have hg : gIs C B Hd x a = 1000000 := if_pos (by omega); unfold gC; rw [hg]; exact ⟨by first | (rw [b2i_t (by omega)]; done) | (rw [b2i_f (by omega)]; done), eg32⟩) | (have hg : gIs C B Hd x a = C a + Hd a + B x := if_neg (by omega); unfold gC; rw [hg]; exact ⟨by first | (rw [b2i_t (by omega)]; done) | (rw [b2i_f (by omega)]; done), eg32⟩), hfE, hgE, rfl⟩
  · skip
    refine z_ldc (v := 1000000) (TX8_goesOn.at 6 rfl) k8_169 (by decide) ?_
    refine z_goto (tgt := 36) (TX8_goesOn.at 7 rfl) rfl ?_
    refine z_ist_4 (TX8_goesOn.at 22 rfl) (Nat.le_of_ble_eq_true rfl) rfl ?_
    refine z_ild_4 (TX8_goesOn.at 23 rfl) ?_
    refine z_ald_0 (TX8_goesOn.at 24 rfl) ?_
    refine zm_getA (TX8_goesOn.at 25 rfl) fl8_72 hH (by decide) (by decide) ?_
    refine z_ild_3 (TX8_goesOn.at 26 rfl) ?_
    refine zm_ialdE eg32 (TX8_goesOn.at 27 rfl) hH rfl (by omega) (show _ < ((8 : Nat) : Int) by omega) (fun r45 => ?_)
    refine z_icmp_ge (tgt := 53) (TX8_goesOn.at 28 rfl) rfl (by omega) (by omega) (fun c3 => ?_) (fun c3 => ?_)
    · skip
      refine z_iconst (TX8_goesOn.at 31 rfl) ?_
      refine z_ist_5 (TX8_goesOn.at 32 rfl) (Nat.le_of_ble_eq_true rfl) rfl ?_
      refine z_ald_0 (TX8_goesOn.at 33 rfl) ?_
      refine zm_getA (TX8_goesOn.at 34 rfl) fl8_72 hH (by decide) (by decide) ?_
      refine z_ild_3 (TX8_goesOn.at 35 rfl) ?_
      refine z_ald_0 (TX8_goesOn.at 36 rfl) ?_
      refine zm_getA (TX8_goesOn.at 37 rfl) fl8_72 hH (by decide) (by decide) ?_
      refine z_ild_3 (TX8_goesOn.at 38 rfl) ?_
      refine zm_ialdE eg32 (TX8_goesOn.at 39 rfl) hH rfl (by omega) (show _ < ((8 : Nat) : Int) by omega) (fun r66 => ?_)
      refine z_ild_4 (TX8_goesOn.at 40 rfl) ?_
      refine zs_call2 (s_lesser (by omega) (by omega)) (TX8_goesOn.at 41 rfl) c8_336 rfl (by omega) (Nat.le_of_ble_eq_true rfl) (fun r69 => ?_)
      refine zm_iastE (TX8_goesOn.at 42 rfl) hH hA rfl (by omega) (show _ < ((8 : Nat) : Int) by omega) (by omega) (fun h g72 e1 e2 hH hA => ?_)
      have eg30 := (e1 30 (by decide)).trans eg30
      have eg31 := (e1 31 (by decide)).trans eg31
      rw [eg32] at e2; have eg32 := e2
      have hgE := hgE.put e1 (by decide)
      refine z_ild_5 (TX8_goesOn.at 43 rfl) ?_
      refine zm_zret (TX8_goesOn.at 44 rfl) rfl hH hA (by first | omega | exact b2i_01 _) ?_
      exact ⟨by first | (have hg : gIs C B Hd x a = 1000000 := if_pos (by omega); unfold gC; rw [hg]; exact ⟨by first | (rw [b2i_t (by omega)]; done) | (rw [b2i_f (by omega)]; done), eg32⟩) | (have hg : gIs C B Hd x a = C a + Hd a + B x := if_neg (by omega); unfold gC; rw [hg]; exact ⟨by first | (rw [b2i_t (by omega)]; done) | (rw [b2i_f (by omega)]; done), eg32⟩), hfE, hgE, rfl⟩
    · skip
      refine z_iconst (TX8_goesOn.at 29 rfl) ?_
      refine z_goto (tgt := 54) (TX8_goesOn.at 30 rfl) rfl ?_
      refine z_ist_5 (TX8_goesOn.at 32 rfl) (Nat.le_of_ble_eq_true rfl) rfl ?_
      refine z_ald_0 (TX8_goesOn.at 33 rfl) ?_
      refine zm_getA (TX8_goesOn.at 34 rfl) fl8_72 hH (by decide) (by decide) ?_
      refine z_ild_3 (TX8_goesOn.at 35 rfl) ?_
      refine z_ald_0 (TX8_goesOn.at 36 rfl) ?_
      refine zm_getA (TX8_goesOn.at 37 rfl) fl8_72 hH (by decide) (by decide) ?_
      refine z_ild_3 (TX8_goesOn.at 38 rfl) ?_
      refine zm_ialdE eg32 (TX8_goesOn.at 39 rfl) hH rfl (by omega) (show _ < ((8 : Nat) : Int) by omega) (fun r66 => ?_)
      refine z_ild_4 (TX8_goesOn.at 40 rfl) ?_
      refine zs_call2 (s_lesser (by omega) (by omega)) (TX8_goesOn.at 41 rfl) c8_336 rfl (by omega) (Nat.le_of_ble_eq_true rfl) (fun r69 => ?_)
      refine zm_iastE (TX8_goesOn.at 42 rfl) hH hA rfl (by omega) (show _ < ((8 : Nat) : Int) by omega) (by omega) (fun h g72 e1 e2 hH hA => ?_)
      have eg30 := (e1 30 (by decide)).trans eg30
      have eg31 := (e1 31 (by decide)).trans eg31
      rw [eg32] at e2; have eg32 := e2
      have hgE := hgE.put e1 (by decide)
      refine z_ild_5 (TX8_goesOn.at 43 rfl) ?_
      refine zm_zret (TX8_goesOn.at 44 rfl) rfl hH hA (by first | omega | exact b2i_01 _) ?_
      exact ⟨by first | (have hg : gIs C B Hd x a = 1000000 := if_pos (by omega); unfold gC; rw [hg]; exact ⟨by first | (rw [b2i_t (by omega)]; done) | (rw [b2i_f (by omega)]; done), eg32⟩) | (have hg : gIs C B Hd x a = C a + Hd a + B x := if_neg (by omega); unfold gC; rw [hg]; exact ⟨by first | (rw [b2i_t (by omega)]; done) | (rw [b2i_f (by omega)]; done), eg32⟩), hfE, hgE, rfl⟩

set_option maxHeartbeats 4000000 in
set_option maxRecDepth 100000 in
theorem lp_fires1 {l : Launch} {o : Nat} {ar : Nat → Nat} {d : Nat} {Pz : Option Value → zH → Prop} {h0 : zH} {f0 : mF} {g0 : mA} {j : mA} (hd : 2 ≤ d) {K B Hd C0 : Int → Int} {S : Int} (hS : z31 S) (n0 : 0 ≤ K 76) (n1 : K 76 ≤ 10) (hF : FrOK (frK K) (toK K) B Hd (K 76).toNat) (hC0 : COK C0) (kx : ∀ (C : Int → Int) (mo : Int) (f : mF) (g : mA) (h : zH), (C, mo) = rdN (frK K) (toK K) B Hd S (C0, 0) (K 76).toNat → g 2 = K → g 30 = B → g 31 = Hd → g 32 = C → eqx [] f0 f → eqx [32] g0 g → HM o ar f g j h → zAg o ar h0 h → Z l MX8_fires d 0 0 Pz 107 [some (.ref o), some (vI S), some (vI mo), some (vI (K 76))] [] h 0 0)  : ∀ (n : Nat) (m : Nat) (i : Int) (mo : Int) (C : Int → Int) (f : mF) (g : mA) (h : zH) (em : i = (m : Int)) (i1 : i ≤ K 76) (i2 : K 76 < i + n) (es : (C, mo) = rdN (frK K) (toK K) B Hd S (C0, 0) m) (eg2 : g 2 = K) (eg30 : g 30 = B) (eg31 : g 31 = Hd) (eg32 : g 32 = C) (hfE : eqx [] f0 f) (hgE : eqx [32] g0 g) (hH : HM o ar f g j h) (hA : zAg o ar h0 h), Z l MX8_fires d 0 0 Pz 10 [some (.ref o), some (vI S), some (vI mo), some (vI i)] [] h 0 0 := by
  intro n
  induction n with
  | zero => intro m i mo C f g h em i1 i2 es eg2 eg30 eg31 eg32 hfE hgE hH hA; exfalso; omega
  | succ n ih =>
    intro m i mo C f g h em i1 i2 es eg2 eg30 eg31 eg32 hfE hgE hH hA
    have hmo0 : zIn mo := by
      have q := rdN_01 (fr := frK K) (to := toK K) (B := B) (Hd := Hd) (S := S) (p := (C0, 0)) (Or.inl rfl) m
      rw [← es] at q
      simp only at q
      omega
    refine z_ild_3 (TX8_fires_0.at 8 rfl) ?_
    refine z_ald_0 (TX8_fires_0.at 9 rfl) ?_
    refine zm_callP0 (m_fuseMany) (TX8_fires_0.at 10 rfl) c8_109 rfl rfl hH hA (by omega) (Nat.le_of_ble_eq_true rfl) (fun h r12 hH hA => ?_)
    rw [eg2] at r12 ⊢
    refine z_icmp_ge (tgt := 107) (TX8_fires_0.at 11 rfl) rfl (by omega) (by omega) (fun c1 => ?_) (fun c1 => ?_)
    · skip
      obtain rfl : m = (K 76).toNat := by omega
      rw [show i = K 76 by omega]
      exact kx C mo _ _ _ es eg2 eg30 eg31 eg32 hfE hgE hH hA
    · skip
      refine z_ild_1 (TX8_fires_0.at 12 rfl) ?_
      refine z_ild_3 (TX8_fires_0.at 13 rfl) ?_
      refine zs_call2 (s_isIn (by omega) (by omega) (by omega)) (TX8_fires_0.at 14 rfl) c8_339 rfl (by omega) (Nat.le_of_ble_eq_true rfl) (fun r20 => ?_)
      refine z_if_neB (tgt := 29) (TX8_fires_0.at 15 rfl) rfl (fun c2 => ?_) (fun c2 => ?_)
      · skip
        have hfi := hF.2.1 i (by omega) (by omega)
        have hCi : COK C := by have q := (rdN_ok (S := S) (p := (C0, 0)) hF hC0 m (by omega)).1; rw [← es] at q; exact q
        have hC1 := gC_ok (C := C) (B := B) (Hd := Hd) (f := i) (a := frK K i) (b := toK K i) hCi hfi.1 hfi.2.1 ⟨hfi.2.2.1, hfi.2.2.2⟩ (hF.2.2 _ hfi.1.1 hfi.1.2)
        have hmo : mo = 0 ∨ mo = 1 := by have q := rdN_01 (fr := frK K) (to := toK K) (B := B) (Hd := Hd) (S := S) (p := (C0, 0)) (Or.inl rfl) m; rw [← es] at q; exact q
        refine z_ald_0 (TX8_fires_0.at 17 rfl) ?_
        refine z_ild_3 (TX8_fires_0.at 18 rfl) ?_
        refine z_ald_0 (TX8_fires_0.at 19 rfl) ?_
        refine zm_getA (TX8_fires_0.at 20 rfl) fl8_28 hH (by decide) (by decide) ?_
        refine z_bipush (by decide) (TX8_fires_0.at 21 rfl) ?_
        refine z_ild_3 (TX8_fires_0.at 22 rfl) ?_
        refine z_iadd (TX8_fires_0.at 23 rfl) ?_
        refine zm_ialdE eg2 (TX8_fires_0.at 24 rfl) hH rfl (by omega) (show _ < ((5688 : Nat) : Int) by omega) (fun r39 => ?_)
        refine z_ald_0 (TX8_fires_0.at 25 rfl) ?_
        refine zm_getA (TX8_fires_0.at 26 rfl) fl8_28 hH (by decide) (by decide) ?_
        refine z_bipush (by decide) (TX8_fires_0.at 27 rfl) ?_
        refine z_ild_3 (TX8_fires_0.at 28 rfl) ?_
        refine z_iadd (TX8_fires_0.at 29 rfl) ?_
        refine zm_ialdE eg2 (TX8_fires_0.at 30 rfl) hH rfl (by omega) (show _ < ((5688 : Nat) : Int) by omega) (fun r48 => ?_)
        refine zm_callI3 (m_goesOn eg30 eg31 eg32 (by omega) (by omega) (by omega) (by omega) (by omega) hfi.1 hfi.2.1 hCi ⟨hfi.2.2.1, hfi.2.2.2⟩ (hF.2.2 _ hfi.1.1 hfi.1.2)) (TX8_fires_0.at 31 rfl) c8_342 rfl rfl hH hA (by omega) (Nat.le_of_ble_eq_true rfl) (fun x49 f49 g49 j49 h r49 q49 hH hA => ?_)
        obtain ⟨q49, xf, xg, xj⟩ := q49
        rw [xj] at hH
        have hfE := hfE.trans xf (by decide)
        have eg2 := (xg 2 (by decide)).trans eg2
        have eg30 := (xg 30 (by decide)).trans eg30
        have eg31 := (xg 31 (by decide)).trans eg31
        have hgE := hgE.trans xg (by decide)
        have qL := q49
        obtain ⟨rfl, eg32⟩ := qL
        refine z_if_neB (tgt := 59) (TX8_fires_0.at 32 rfl) rfl (fun c3 => ?_) (fun c3 => ?_)
        · skip
          refine z_iconst (TX8_fires_0.at 35 rfl) ?_
          refine z_goto (tgt := 64) (TX8_fires_0.at 36 rfl) rfl ?_
          refine z_ist_2 (TX8_fires_0.at 38 rfl) (Nat.le_of_ble_eq_true rfl) rfl ?_
          refine z_ald_0 (TX8_fires_0.at 39 rfl) ?_
          refine z_ild_3 (TX8_fires_1.at 0 rfl) ?_
          refine z_ald_0 (TX8_fires_1.at 1 rfl) ?_
          refine zm_getA (TX8_fires_1.at 2 rfl) fl8_28 hH (by decide) (by decide) ?_
          refine z_bipush (by decide) (TX8_fires_1.at 3 rfl) ?_
          refine z_ild_3 (TX8_fires_1.at 4 rfl) ?_
          refine z_iadd (TX8_fires_1.at 5 rfl) ?_
          refine zm_ialdE eg2 (TX8_fires_1.at 6 rfl) hH rfl (by omega) (show _ < ((5688 : Nat) : Int) by omega) (fun r75 => ?_)
          refine z_ald_0 (TX8_fires_1.at 7 rfl) ?_
          refine zm_getA (TX8_fires_1.at 8 rfl) fl8_28 hH (by decide) (by decide) ?_
          refine z_bipush (by decide) (TX8_fires_1.at 9 rfl) ?_
          refine z_ild_3 (TX8_fires_1.at 10 rfl) ?_
          refine z_iadd (TX8_fires_1.at 11 rfl) ?_
          refine zm_ialdE eg2 (TX8_fires_1.at 12 rfl) hH rfl (by omega) (show _ < ((5688 : Nat) : Int) by omega) (fun r84 => ?_)
          refine zm_callI3 (m_goesOn eg30 eg31 eg32 (by omega) (by omega) (by omega) (by omega) (by omega) hfi.2.1 hfi.1 hC1.1 ⟨hfi.2.2.1, hfi.2.2.2⟩ (hF.2.2 _ hfi.2.1.1 hfi.2.1.2)) (TX8_fires_1.at 13 rfl) c8_342 rfl rfl hH hA (by omega) (Nat.le_of_ble_eq_true rfl) (fun x85 f85 g85 j85 h r85 q85 hH hA => ?_)
          obtain ⟨q85, xf, xg, xj⟩ := q85
          rw [xj] at hH
          have hfE := hfE.trans xf (by decide)
          have eg2 := (xg 2 (by decide)).trans eg2
          have eg30 := (xg 30 (by decide)).trans eg30
          have eg31 := (xg 31 (by decide)).trans eg31
          have hgE := hgE.trans xg (by decide)
          have qL := q85
          obtain ⟨rfl, eg32⟩ := qL
          refine z_if_neB (tgt := 95) (TX8_fires_1.at 14 rfl) rfl (fun c4 => ?_) (fun c4 => ?_)
          · skip
            refine z_iconst (TX8_fires_1.at 17 rfl) ?_
            refine z_goto (tgt := 100) (TX8_fires_1.at 18 rfl) rfl ?_
            refine z_ist_2 (TX8_fires_1.at 20 rfl) (Nat.le_of_ble_eq_true rfl) rfl ?_
            refine z_iinc_3 (TX8_fires_1.at 21 rfl) (Nat.le_of_ble_eq_true rfl) rfl ?_
            refine z_goto (tgt := 10) (TX8_fires_1.at 22 rfl) rfl ?_
            exact ih (m + 1) _ _ _ _ _ _ (by omega) (by omega) (by omega) (by first | exact rd_skip es em (by assumption) | exact rd_take es em (by assumption) rfl rfl (by (repeat split) <;> omega)) eg2 eg30 eg31 eg32 hfE hgE hH hA
          · skip
            refine z_ild_2 (TX8_fires_1.at 15 rfl) ?_
            refine z_if_eq (tgt := 99) (TX8_fires_1.at 16 rfl) rfl (by decide) (fun c5 => absurd c5 (by decide)) (fun c5 => ?_)
            refine z_iconst (TX8_fires_1.at 17 rfl) ?_
            refine z_goto (tgt := 100) (TX8_fires_1.at 18 rfl) rfl ?_
            refine z_ist_2 (TX8_fires_1.at 20 rfl) (Nat.le_of_ble_eq_true rfl) rfl ?_
            refine z_iinc_3 (TX8_fires_1.at 21 rfl) (Nat.le_of_ble_eq_true rfl) rfl ?_
            refine z_goto (tgt := 10) (TX8_fires_1.at 22 rfl) rfl ?_
            exact ih (m + 1) _ _ _ _ _ _ (by omega) (by omega) (by omega) (by first | exact rd_skip es em (by assumption) | exact rd_take es em (by assumption) rfl rfl (by (repeat split) <;> omega)) eg2 eg30 eg31 eg32 hfE hgE hH hA
        · skip
          refine z_ild_2 (TX8_fires_0.at 33 rfl) ?_
          refine z_if_eq (tgt := 63) (TX8_fires_0.at 34 rfl) rfl (by omega) (fun c6 => ?_) (fun c6 => ?_)
          · skip
            refine z_iconst (TX8_fires_0.at 37 rfl) ?_
            refine z_ist_2 (TX8_fires_0.at 38 rfl) (Nat.le_of_ble_eq_true rfl) rfl ?_
            refine z_ald_0 (TX8_fires_0.at 39 rfl) ?_
            refine z_ild_3 (TX8_fires_1.at 0 rfl) ?_
            refine z_ald_0 (TX8_fires_1.at 1 rfl) ?_
            refine zm_getA (TX8_fires_1.at 2 rfl) fl8_28 hH (by decide) (by decide) ?_
            refine z_bipush (by decide) (TX8_fires_1.at 3 rfl) ?_
            refine z_ild_3 (TX8_fires_1.at 4 rfl) ?_
            refine z_iadd (TX8_fires_1.at 5 rfl) ?_
            refine zm_ialdE eg2 (TX8_fires_1.at 6 rfl) hH rfl (by omega) (show _ < ((5688 : Nat) : Int) by omega) (fun r75 => ?_)
            refine z_ald_0 (TX8_fires_1.at 7 rfl) ?_
            refine zm_getA (TX8_fires_1.at 8 rfl) fl8_28 hH (by decide) (by decide) ?_
            refine z_bipush (by decide) (TX8_fires_1.at 9 rfl) ?_
            refine z_ild_3 (TX8_fires_1.at 10 rfl) ?_
            refine z_iadd (TX8_fires_1.at 11 rfl) ?_
            refine zm_ialdE eg2 (TX8_fires_1.at 12 rfl) hH rfl (by omega) (show _ < ((5688 : Nat) : Int) by omega) (fun r84 => ?_)
            refine zm_callI3 (m_goesOn eg30 eg31 eg32 (by omega) (by omega) (by omega) (by omega) (by omega) hfi.2.1 hfi.1 hC1.1 ⟨hfi.2.2.1, hfi.2.2.2⟩ (hF.2.2 _ hfi.2.1.1 hfi.2.1.2)) (TX8_fires_1.at 13 rfl) c8_342 rfl rfl hH hA (by omega) (Nat.le_of_ble_eq_true rfl) (fun x85 f85 g85 j85 h r85 q85 hH hA => ?_)
            obtain ⟨q85, xf, xg, xj⟩ := q85
            rw [xj] at hH
            have hfE := hfE.trans xf (by decide)
            have eg2 := (xg 2 (by decide)).trans eg2
            have eg30 := (xg 30 (by decide)).trans eg30
            have eg31 := (xg 31 (by decide)).trans eg31
            have hgE := hgE.trans xg (by decide)
            have qL := q85
            obtain ⟨rfl, eg32⟩ := qL
            refine z_if_neB (tgt := 95) (TX8_fires_1.at 14 rfl) rfl (fun c7 => ?_) (fun c7 => ?_)
            · skip
              refine z_iconst (TX8_fires_1.at 17 rfl) ?_
              refine z_goto (tgt := 100) (TX8_fires_1.at 18 rfl) rfl ?_
              refine z_ist_2 (TX8_fires_1.at 20 rfl) (Nat.le_of_ble_eq_true rfl) rfl ?_
              refine z_iinc_3 (TX8_fires_1.at 21 rfl) (Nat.le_of_ble_eq_true rfl) rfl ?_
              refine z_goto (tgt := 10) (TX8_fires_1.at 22 rfl) rfl ?_
              exact ih (m + 1) _ _ _ _ _ _ (by omega) (by omega) (by omega) (by first | exact rd_skip es em (by assumption) | exact rd_take es em (by assumption) rfl rfl (by (repeat split) <;> omega)) eg2 eg30 eg31 eg32 hfE hgE hH hA
            · skip
              refine z_ild_2 (TX8_fires_1.at 15 rfl) ?_
              refine z_if_eq (tgt := 99) (TX8_fires_1.at 16 rfl) rfl (by decide) (fun c8 => ?_) (fun c8 => absurd c8 (by decide))
              refine z_iconst (TX8_fires_1.at 19 rfl) ?_
              refine z_ist_2 (TX8_fires_1.at 20 rfl) (Nat.le_of_ble_eq_true rfl) rfl ?_
              refine z_iinc_3 (TX8_fires_1.at 21 rfl) (Nat.le_of_ble_eq_true rfl) rfl ?_
              refine z_goto (tgt := 10) (TX8_fires_1.at 22 rfl) rfl ?_
              exact ih (m + 1) _ _ _ _ _ _ (by omega) (by omega) (by omega) (by first | exact rd_skip es em (by assumption) | exact rd_take es em (by assumption) rfl rfl (by (repeat split) <;> omega)) eg2 eg30 eg31 eg32 hfE hgE hH hA
          · skip
            refine z_iconst (TX8_fires_0.at 35 rfl) ?_
            refine z_goto (tgt := 64) (TX8_fires_0.at 36 rfl) rfl ?_
            refine z_ist_2 (TX8_fires_0.at 38 rfl) (Nat.le_of_ble_eq_true rfl) rfl ?_
            refine z_ald_0 (TX8_fires_0.at 39 rfl) ?_
            refine z_ild_3 (TX8_fires_1.at 0 rfl) ?_
            refine z_ald_0 (TX8_fires_1.at 1 rfl) ?_
            refine zm_getA (TX8_fires_1.at 2 rfl) fl8_28 hH (by decide) (by decide) ?_
            refine z_bipush (by decide) (TX8_fires_1.at 3 rfl) ?_
            refine z_ild_3 (TX8_fires_1.at 4 rfl) ?_
            refine z_iadd (TX8_fires_1.at 5 rfl) ?_
            refine zm_ialdE eg2 (TX8_fires_1.at 6 rfl) hH rfl (by omega) (show _ < ((5688 : Nat) : Int) by omega) (fun r75 => ?_)
            refine z_ald_0 (TX8_fires_1.at 7 rfl) ?_
            refine zm_getA (TX8_fires_1.at 8 rfl) fl8_28 hH (by decide) (by decide) ?_
            refine z_bipush (by decide) (TX8_fires_1.at 9 rfl) ?_
            refine z_ild_3 (TX8_fires_1.at 10 rfl) ?_
            refine z_iadd (TX8_fires_1.at 11 rfl) ?_
            refine zm_ialdE eg2 (TX8_fires_1.at 12 rfl) hH rfl (by omega) (show _ < ((5688 : Nat) : Int) by omega) (fun r84 => ?_)
            refine zm_callI3 (m_goesOn eg30 eg31 eg32 (by omega) (by omega) (by omega) (by omega) (by omega) hfi.2.1 hfi.1 hC1.1 ⟨hfi.2.2.1, hfi.2.2.2⟩ (hF.2.2 _ hfi.2.1.1 hfi.2.1.2)) (TX8_fires_1.at 13 rfl) c8_342 rfl rfl hH hA (by omega) (Nat.le_of_ble_eq_true rfl) (fun x85 f85 g85 j85 h r85 q85 hH hA => ?_)
            obtain ⟨q85, xf, xg, xj⟩ := q85
            rw [xj] at hH
            have hfE := hfE.trans xf (by decide)
            have eg2 := (xg 2 (by decide)).trans eg2
            have eg30 := (xg 30 (by decide)).trans eg30
            have eg31 := (xg 31 (by decide)).trans eg31
            have hgE := hgE.trans xg (by decide)
            have qL := q85
            obtain ⟨rfl, eg32⟩ := qL
            refine z_if_neB (tgt := 95) (TX8_fires_1.at 14 rfl) rfl (fun c9 => ?_) (fun c9 => ?_)
            · skip
              refine z_iconst (TX8_fires_1.at 17 rfl) ?_
              refine z_goto (tgt := 100) (TX8_fires_1.at 18 rfl) rfl ?_
              refine z_ist_2 (TX8_fires_1.at 20 rfl) (Nat.le_of_ble_eq_true rfl) rfl ?_
              refine z_iinc_3 (TX8_fires_1.at 21 rfl) (Nat.le_of_ble_eq_true rfl) rfl ?_
              refine z_goto (tgt := 10) (TX8_fires_1.at 22 rfl) rfl ?_
              exact ih (m + 1) _ _ _ _ _ _ (by omega) (by omega) (by omega) (by first | exact rd_skip es em (by assumption) | exact rd_take es em (by assumption) rfl rfl (by (repeat split) <;> omega)) eg2 eg30 eg31 eg32 hfE hgE hH hA
            · skip
              refine z_ild_2 (TX8_fires_1.at 15 rfl) ?_
              refine z_if_eq (tgt := 99) (TX8_fires_1.at 16 rfl) rfl (by decide) (fun c10 => absurd c10 (by decide)) (fun c10 => ?_)
              refine z_iconst (TX8_fires_1.at 17 rfl) ?_
              refine z_goto (tgt := 100) (TX8_fires_1.at 18 rfl) rfl ?_
              refine z_ist_2 (TX8_fires_1.at 20 rfl) (Nat.le_of_ble_eq_true rfl) rfl ?_
              refine z_iinc_3 (TX8_fires_1.at 21 rfl) (Nat.le_of_ble_eq_true rfl) rfl ?_
              refine z_goto (tgt := 10) (TX8_fires_1.at 22 rfl) rfl ?_
              exact ih (m + 1) _ _ _ _ _ _ (by omega) (by omega) (by omega) (by first | exact rd_skip es em (by assumption) | exact rd_take es em (by assumption) rfl rfl (by (repeat split) <;> omega)) eg2 eg30 eg31 eg32 hfE hgE hH hA
      · skip
        refine z_goto (tgt := 101) (TX8_fires_0.at 16 rfl) rfl ?_
        refine z_iinc_3 (TX8_fires_1.at 21 rfl) (Nat.le_of_ble_eq_true rfl) rfl ?_
        refine z_goto (tgt := 10) (TX8_fires_1.at 22 rfl) rfl ?_
        exact ih (m + 1) _ _ _ _ _ _ (by omega) (by omega) (by omega) (by first | exact rd_skip es em (by assumption) | exact rd_take es em (by assumption) rfl rfl (by (repeat split) <;> omega)) eg2 eg30 eg31 eg32 hfE hgE hH hA

set_option maxHeartbeats 4000000 in
set_option maxRecDepth 100000 in
theorem lp_fires2 {l : Launch} {o : Nat} {ar : Nat → Nat} {d : Nat} {Pz : Option Value → zH → Prop} {h0 : zH} {f0 : mF} {g0 : mA} {j : mA} (hd : 2 ≤ d) {K B Hd C0 : Int → Int} {S : Int} (hS : z31 S) (n0 : 0 ≤ K 76) (n1 : K 76 ≤ 10) (hF : FrOK (frK K) (toK K) B Hd (K 76).toNat) (hC0 : COK C0) (kx : ∀ (o2 o3 : Option Value) (f : mF) (g : mA) (h : zH), g 2 = K → g 30 = B → g 31 = Hd → g 32 = dist (frK K) (toK K) B Hd S (K 76).toNat C0 → eqx [] f0 f → eqx [32] g0 g → HM o ar f g j h → zAg o ar h0 h → Z l MX8_fires d 0 0 Pz 110 [some (.ref o), some (vI S), o2, o3] [] h 0 0)  : ∀ (n : Nat) (k : Nat) (mo : Int) (C : Int → Int) (o3 : Option Value) (f : mF) (g : mA) (h : zH) (k1 : k ≤ 8) (k2 : 10 ≤ k + n) (ec : C = rdI (frK K) (toK K) B Hd S (K 76).toNat C0 k) (em : (mo = 1 ∧ k ≤ 7) ∨ (mo = 0 ∧ rd (frK K) (toK K) B Hd S (K 76).toNat C = C)) (eg2 : g 2 = K) (eg30 : g 30 = B) (eg31 : g 31 = Hd) (eg32 : g 32 = C) (hfE : eqx [] f0 f) (hgE : eqx [32] g0 g) (hH : HM o ar f g j h) (hA : zAg o ar h0 h), Z l MX8_fires d 0 0 Pz 2 [some (.ref o), some (vI S), some (vI mo), o3] [] h 0 0 := by
  intro n
  induction n with
  | zero => intro k mo C o3 f g h k1 k2 ec em eg2 eg30 eg31 eg32 hfE hgE hH hA; exfalso; omega
  | succ n ih =>
    intro k mo C o3 f g h k1 k2 ec em eg2 eg30 eg31 eg32 hfE hgE hH hA
    refine z_ild_2 (TX8_fires_0.at 2 rfl) ?_
    refine z_if_eq (tgt := 110) (TX8_fires_0.at 3 rfl) rfl (by omega) (fun c1 => ?_) (fun c1 => ?_)
    · skip
      have hk : rd (frK K) (toK K) B Hd S (K 76).toNat (rdI (frK K) (toK K) B Hd S (K 76).toNat C0 k) = rdI (frK K) (toK K) B Hd S (K 76).toNat C0 k := by
        rcases em with q | q
        · omega
        · rw [← ec]; exact q.2
      exact kx _ _ _ _ _ eg2 eg30 eg31 (by rw [eg32, ec]; exact dist_eq hF hC0 hk) hfE hgE hH hA
    · skip
      refine z_iconst (TX8_fires_0.at 4 rfl) ?_
      refine z_ist_2 (TX8_fires_0.at 5 rfl) (Nat.le_of_ble_eq_true rfl) rfl ?_
      refine z_iconst (TX8_fires_0.at 6 rfl) ?_
      refine z_ist_3 (TX8_fires_0.at 7 rfl) (Nat.le_of_ble_eq_true rfl) rfl ?_
      refine lp_fires1 (C0 := C) hd hS n0 n1 hF (by rw [ec]; exact (rdI_ok hF hC0 k).1) (fun C2 mo2 f3 g3 h3 es eg2 eg30 eg31 eg32 xf xg hH hA => ?_) 12 0 0 0 C _ _ _ (by omega) (by omega) (by omega) rfl eg2 eg30 eg31 eg32 eqx.rf eqx.rf hH hA
      refine z_goto (tgt := 2) (TX8_fires_1.at 23 rfl) rfl ?_
      have hk1 : k + 1 ≤ 8 := by omega
      have hk2 : 10 ≤ k + 1 + n := by omega
      have e01 := rdN_01 (fr := frK K) (to := toK K) (B := B) (Hd := Hd) (S := S) (p := (C, 0)) (Or.inl rfl) (K 76).toNat
      have e0 := rdN_0 (fr := frK K) (to := toK K) (B := B) (Hd := Hd) (S := S) (p := (C, 0)) (K 76).toNat
      have hCk : COK C := by rw [ec]; exact (rdI_ok hF hC0 k).1
      have e1 := rdN_1 (S := S) (p := (C, 0)) hF hCk rfl (K 76).toNat (Nat.le_refl _)
      have ec2 : C2 = rdI (frK K) (toK K) B Hd S (K 76).toNat C0 (k + 1) := by
        show C2 = (rdN (frK K) (toK K) B Hd S (rdI (frK K) (toK K) B Hd S (K 76).toNat C0 k, 0) (K 76).toNat).1
        rw [← ec, ← es]
      rw [← es] at e01 e0 e1
      simp only at e01 e0 e1
      refine ih (k + 1) mo2 C2 _ _ _ _ hk1 hk2 ec2 ?_ eg2 eg30 eg31 eg32 (hfE.trans xf (by decide)) (hgE.trans xg (by decide)) hH hA
      rcases e01 with q | q
      · have q2 := (e0 q).2
        refine Or.inr ⟨q, ?_⟩
        have q3 : rd (frK K) (toK K) B Hd S (K 76).toNat C = C2 := by show (rdN (frK K) (toK K) B Hd S (C, 0) (K 76).toNat).1 = C2; rw [← es]
        rw [q2] at q3 ⊢
        exact q3
      · refine Or.inl ⟨q, ?_⟩
        obtain ⟨v, hv⟩ := e1 (by rw [q]; decide)
        clear e1 e0
        rcases Nat.lt_or_ge k 7 with h7 | h7
        · omega
        · exfalso
          obtain ⟨t, rfl⟩ : ∃ t, k = 7 + t := ⟨k - 7, by omega⟩
          have q4 := rdI_ge7 (S := S) hF hC0 t
          have q5 := rdI_ge7 (S := S) hF hC0 (t + 1)
          have : C2 = C := by rw [ec2, ec, q4, ← q5]; rfl
          rw [this] at hv
          omega

set_option maxHeartbeats 4000000 in
set_option maxRecDepth 100000 in
theorem m_fires {l : Launch} {o : Nat} {ar : Nat → Nat} {f : mF} {g j : mA} {K : Int → Int} {B : Int → Int} {Hd : Int → Int} {C : Int → Int} {S : Int}  (eg2 : g 2 = K) (eg30 : g 30 = B) (eg31 : g 31 = Hd) (eg32 : g 32 = C) (hS : zIn S) (hS : z31 S) (n0 : 0 ≤ K 76) (n1 : K 76 ≤ 10) (hF : FrOK (frK K) (toK K) B Hd (K 76).toNat) (hC : COK C) : MM l o ar MX8_fires 2 [.ref o, vI S] f g j (PV (fun f' g' j' => (g' 32 = dist (frK K) (toK K) B Hd S (K 76).toNat C) ∧ eqx [] f f' ∧ eqx [32] g g' ∧ j' = j)) := by
  refine MM.intro [some (.ref o), some (vI S), none, none] (by decide) (Nat.le_of_ble_eq_true rfl) rfl (fun d hd h0 h hH hA => ?_)
  have hfE : eqx [] f f := eqx.rf
  have hgE : eqx [32] g g := eqx.rf
  refine z_iconst (TX8_fires_0.at 0 rfl) ?_
  refine z_ist_2 (TX8_fires_0.at 1 rfl) (Nat.le_of_ble_eq_true rfl) rfl ?_
  refine lp_fires2 (C0 := C) hd hS n0 n1 hF hC (fun o2 o3 f3 g3 h3 eg2 eg30 eg31 eg32 hfE hgE hH hA => ?_) 10 0 1 C _ _ _ _ (by omega) (by omega) rfl (Or.inl ⟨rfl, by omega⟩) eg2 eg30 eg31 eg32 hfE hgE hH hA
  refine zm_vret (TX8_fires_1.at 24 rfl) rfl hH hA ?_
  exact ⟨eg32, hfE, hgE, rfl⟩

set_option maxHeartbeats 4000000 in
set_option maxRecDepth 100000 in
theorem lp_firesFrom {l : Launch} {o : Nat} {ar : Nat → Nat} {d : Nat} {Pz : Option Value → zH → Prop} {h0 : zH} {f0 : mF} {g0 : mA} {j : mA} (hd : 1 ≤ d) {X32 : Int → Int} {q S : Int} (hq : z31 q) (kx : ∀ (f : mF) (g : mA) (h : zH), g 32 = cpF X32 (src q) 0 8 → eqx [] f0 f → eqx [32] g0 g → HM o ar f g j h → zAg o ar h0 h → Z l MX8_firesFrom d 0 0 Pz 34 [some (.ref o), some (vI q), some (vI S), some (vI 8)] [] h 0 0)  : ∀ (n : Nat) (i : Int) (f : mF) (g : mA) (h : zH) (i0 : 0 ≤ i) (i1 : i ≤ 8) (i2 : 8 < i + n) (eg32 : g 32 = cpF X32 (src q) 0 i) (hfE : eqx [] f0 f) (hgE : eqx [32] g0 g) (hH : HM o ar f g j h) (hA : zAg o ar h0 h), Z l MX8_firesFrom d 0 0 Pz 2 [some (.ref o), some (vI q), some (vI S), some (vI i)] [] h 0 0 := by
  intro n
  induction n with
  | zero => intro i f g h i0 i1 i2 eg32 hfE hgE hH hA; exfalso; omega
  | succ n ih =>
    intro i f g h i0 i1 i2 eg32 hfE hgE hH hA
    refine z_ild_3 (TX8_firesFrom.at 2 rfl) ?_
    refine z_bipush (by decide) (TX8_firesFrom.at 3 rfl) ?_
    refine z_icmp_ge (tgt := 34) (TX8_firesFrom.at 4 rfl) rfl (by omega) (by omega) (fun c1 => ?_) (fun c1 => ?_)
    · skip
      obtain rfl : i = 8 := by omega
      exact kx _ _ _ eg32 hfE hgE hH hA
    · skip
      refine z_ald_0 (TX8_firesFrom.at 5 rfl) ?_
      refine zm_getA (TX8_firesFrom.at 6 rfl) fl8_72 hH (by decide) (by decide) ?_
      refine z_ild_3 (TX8_firesFrom.at 7 rfl) ?_
      refine z_ild_1 (TX8_firesFrom.at 8 rfl) ?_
      refine z_ild_3 (TX8_firesFrom.at 9 rfl) ?_
      refine zs_call2 (s_isIn (by omega) (by omega) (by omega)) (TX8_firesFrom.at 10 rfl) c8_339 rfl (by omega) (Nat.le_of_ble_eq_true rfl) (fun r15 => ?_)
      refine z_if_eqB (tgt := 25) (TX8_firesFrom.at 11 rfl) rfl (fun c2 => ?_) (fun c2 => ?_)
      · skip
        refine z_ldc (v := 1000000) (TX8_firesFrom.at 14 rfl) k8_169 (by decide) ?_
        refine zm_iastE (TX8_firesFrom.at 15 rfl) hH hA rfl (by omega) (show _ < ((8 : Nat) : Int) by omega) (by omega) (fun h g27 e1 e2 hH hA => ?_)
        rw [eg32] at e2; have eg32 := e2
        have hgE := hgE.put e1 (by decide)
        refine z_iinc_3 (TX8_firesFrom.at 16 rfl) (Nat.le_of_ble_eq_true rfl) rfl ?_
        refine z_goto (tgt := 2) (TX8_firesFrom.at 17 rfl) rfl ?_
        exact ih (i + 1) _ _ _ (by omega) (by omega) (by omega) (eg32.trans (cpF_s i0 (by omega) (by unfold src; first | rw [if_pos (by assumption)] | rw [if_neg (by assumption)]))) hfE hgE hH hA
      · skip
        refine z_iconst (TX8_firesFrom.at 12 rfl) ?_
        refine z_goto (tgt := 27) (TX8_firesFrom.at 13 rfl) rfl ?_
        refine zm_iastE (TX8_firesFrom.at 15 rfl) hH hA rfl (by omega) (show _ < ((8 : Nat) : Int) by omega) (by omega) (fun h g27 e1 e2 hH hA => ?_)
        rw [eg32] at e2; have eg32 := e2
        have hgE := hgE.put e1 (by decide)
        refine z_iinc_3 (TX8_firesFrom.at 16 rfl) (Nat.le_of_ble_eq_true rfl) rfl ?_
        refine z_goto (tgt := 2) (TX8_firesFrom.at 17 rfl) rfl ?_
        exact ih (i + 1) _ _ _ (by omega) (by omega) (by omega) (eg32.trans (cpF_s i0 (by omega) (by unfold src; first | rw [if_pos (by assumption)] | rw [if_neg (by assumption)]))) hfE hgE hH hA

theorem ag8_src (X : Int → Int) (q : Int) : ag8 (cpF X (src q) 0 8) (src q) := fun t h0 h7 => by unfold cpF; rw [if_pos (by omega), show t - 0 = t by omega]
set_option maxHeartbeats 4000000 in
set_option maxRecDepth 100000 in
theorem m_firesFrom {l : Launch} {o : Nat} {ar : Nat → Nat} {f : mF} {g j : mA} {K : Int → Int} {B : Int → Int} {Hd : Int → Int} {C : Int → Int} {q S : Int}  (eg2 : g 2 = K) (eg30 : g 30 = B) (eg31 : g 31 = Hd) (eg32 : g 32 = C) (hq : zIn q) (hS : zIn S) (hq : z31 q) (hS : z31 S) (n0 : 0 ≤ K 76) (n1 : K 76 ≤ 10) (hF : FrOK (frK K) (toK K) B Hd (K 76).toNat) : MM l o ar MX8_firesFrom 3 [.ref o, vI q, vI S] f g j (PV (fun f' g' j' => (ag8 (g' 32) (dist (frK K) (toK K) B Hd S (K 76).toNat (src q))) ∧ eqx [] f f' ∧ eqx [32] g g' ∧ j' = j)) := by
  refine MM.intro [some (.ref o), some (vI q), some (vI S), none] (by decide) (Nat.le_of_ble_eq_true rfl) rfl (fun d hd h0 h hH hA => ?_)
  have hfE : eqx [] f f := eqx.rf
  have hgE : eqx [32] g g := eqx.rf
  refine z_iconst (TX8_firesFrom.at 0 rfl) ?_
  refine z_ist_3 (TX8_firesFrom.at 1 rfl) (Nat.le_of_ble_eq_true rfl) rfl ?_
  refine lp_firesFrom (by omega) hq (fun f2 g2 h eg32 xf xg hH hA => ?_) 9 0 _ _ _ (by omega) (by omega) (by omega) (eg32.trans (cpF_0 _ _ _).symm) eqx.rf eqx.rf hH hA
  have hfE := hfE.trans xf (by decide)
  have eg2 := (xg 2 (by decide)).trans eg2
  have eg30 := (xg 30 (by decide)).trans eg30
  have eg31 := (xg 31 (by decide)).trans eg31
  have hgE := hgE.trans xg (by decide)
  have hC8 := COK_cg (ag8_src C q) (COK_src q)
  refine z_ald_0 (TX8_firesFrom.at 18 rfl) ?_
  refine z_ild_2 (TX8_firesFrom.at 19 rfl) ?_
  refine zm_callV1 (m_fires eg2 eg30 eg31 eg32 (by omega) hS n0 n1 hF hC8) (TX8_firesFrom.at 20 rfl) c8_345 rfl rfl hH hA (by omega) (Nat.le_of_ble_eq_true rfl) (fun f36 g36 j36 h q36 hH hA => ?_)
  obtain ⟨q36, xf, xg, xj⟩ := q36
  rw [xj] at hH
  have hfE := hfE.trans xf (by decide)
  have eg2 := (xg 2 (by decide)).trans eg2
  have eg30 := (xg 30 (by decide)).trans eg30
  have eg31 := (xg 31 (by decide)).trans eg31
  have hgE := hgE.trans xg (by decide)
  have qL := q36
  have eg32 := qL
  refine zm_vret (TX8_firesFrom.at 21 rfl) rfl hH hA ?_
  exact ⟨by rw [eg32]; exact dist_cg hF (ag8_src _ _), hfE, hgE, rfl⟩

