/-! ===== the class: one order ===== -/
def soV (q : Option Den) (φ : Int → Int) : Int := match q with
  | none => 0
  | some kk => brk (kk φ)
def onV (t : Int) (d : Den) (φ : Int → Int) : Int := if t = -1 then -2000000000 else brk (d φ)
theorem Dl.wk {k : Den} (h : Dl 8 31 k) : Dl 0 31 k := fun φ ψ e => h φ ψ (fun i i0 i1 => e i (by omega) i1)
theorem SmZ.ask {C φ : Int → Int} {N s : Int} {k : Den} (h : SmZ C N s k) (hN : N ≤ 400) (h1 : Dl 8 31 k) (h2 : Nb k) : (0 ≤ s ∧ s ≤ 400) ∧ Ask C N φ s [] (brk (k φ)) :=
  have q := h.sumR hN h1.wk h2
  ⟨q.1, q.2.1 φ⟩
theorem SmZ.nn {C : Int → Int} {N s : Int} {k : Den} (h : SmZ C N s k) : 0 ≤ s := by
  obtain ⟨e, w, h1, -⟩ := h
  exact h1.1
theorem so_ask {C φ : Int → Int} {N t : Int} {q : Option Den} (h : TeR C N t q) (hN : N ≤ 400) (hg : ∀ kk, q = some kk → Dl 8 31 kk ∧ Nb kk) : t ≠ -1 → (0 ≤ t ∧ t ≤ 400) ∧ Ask C N φ t [] (soV q φ) := by
  intro ht
  rcases h with ⟨h1, h2⟩ | ⟨kk, rfl, h2, h3⟩
  · exact absurd h1 ht
  · exact h2.ask hN (hg kk rfl).1 (hg kk rfl).2
theorem so_eq {C φ : Int → Int} {N t : Int} {q : Option Den} (h : TeR C N t q) : (t = -1 ∨ (soV q φ ≠ -2000000000 ∧ soV q φ ≠ 0)) ↔ tellF.isSoB q φ = true := by
  rcases h with ⟨h1, rfl⟩ | ⟨kk, rfl, h2, h3⟩
  · exact ⟨fun _ => rfl, fun _ => Or.inl h1⟩
  · have h0 := h2.nn
    show (t = -1 ∨ (brk (kk φ) ≠ -2000000000 ∧ brk (kk φ) ≠ 0)) ↔ (kk φ == some (1 : Int)) = true
    cases hk : kk φ with
    | none =>
      refine ⟨fun z => ?_, fun z => by cases z⟩
      rcases z with z | z
      · omega
      · exact absurd rfl z.1
    | some x =>
      have hx := h3 φ x hk
      show (t = -1 ∨ (x ≠ -2000000000 ∧ x ≠ 0)) ↔ (some x == some (1 : Int)) = true
      rcases hx with rfl | rfl
      · refine ⟨fun z => ?_, fun z => by cases z⟩
        rcases z with z | z
        · omega
        · exact absurd rfl z.2
      · exact ⟨fun _ => rfl, fun _ => Or.inr ⟨by decide, by decide⟩⟩
theorem on_ask {C φ : Int → Int} {N t vb : Int} {d : Den} (h : OnR C N vb t d ∨ OtR C N vb t d) (hN : N ≤ 400) (h1 : Dl 8 31 d) (h2 : Nb d) : t ≠ -1 → (0 ≤ t ∧ t ≤ 400) ∧ Ask C N φ t [] (onV t d φ) := by
  intro ht
  unfold onV
  rw [if_neg ht]
  rcases h with (⟨-, q, -⟩ | ⟨-, q⟩) | (⟨-, q⟩ | ⟨-, q, -⟩)
  · exact absurd q ht
  · exact q.ask hN h1 h2
  · exact q.ask hN h1 h2
  · exact absurd q ht
theorem onV_n {t : Int} {d : Den} {φ : Int → Int} (h : t = -1) : onV t d φ = -2000000000 := if_pos h
theorem den_eq {k : Den} {φ ψ : Int → Int} {ag : Int} (hD : Dl 8 31 k) (hN : ag = 0 → Ng k) (ha : in01 ag) (h : ∀ i : Int, 8 ≤ i → i < 31 → i ≠ 10 → i ≠ 11 → φ i = ψ i) (h1 : ag = 1 → φ 10 = ψ 10 ∧ φ 11 = ψ 11) : k φ = k ψ := by
  rcases ha with ha | ha
  · have e := hN ha φ (fun i => if i = 10 then ψ 10 else if i = 11 then ψ 11 else φ i) (fun i i0 i1 => by show φ i = if i = 10 then ψ 10 else if i = 11 then ψ 11 else φ i; rw [if_neg i0, if_neg i1])
    rw [e]
    refine hD _ _ (fun i i0 i1 => ?_)
    show (if i = 10 then ψ 10 else if i = 11 then ψ 11 else φ i) = ψ i
    by_cases e0 : i = 10
    · rw [if_pos e0, e0]
    · by_cases e1 : i = 11
      · rw [if_neg e0, if_pos e1, e1]
      · rw [if_neg e0, if_neg e1]; exact h i i0 i1 e0 e1
  · obtain ⟨p, q⟩ := h1 ha
    refine hD _ _ (fun i i0 i1 => ?_)
    by_cases e0 : i = 10
    · rw [e0]; exact p
    · by_cases e1 : i = 11
      · rw [e1]; exact q
      · exact h i i0 i1 e0 e1
/-- what is told of orders done -/
def FcT (Φ : Int → Int) (ag dn lt gn : Int) : Prop := Φ 9 = dn ∧ (ag = 1 → Φ 10 = lt ∧ Φ 11 = gn)
theorem tel_at {Φ Tm Mt Ln : Int → Int} {bc n i : Int} (h : i < 13) (h8 : i ≠ 8) (h12 : i ≠ 12) : telF Φ Tm Mt Ln bc n i = Φ i := by
  unfold telF runF
  rw [if_neg (by omega), if_neg (by omega), iu_ne h12, iu_ne h8]
theorem tel_phi {K : Int → Int} {n lt sn lw fo dp : Int} {Fr To Ln Kd Mt Lt Sk Ss Tm : Int → Int} {Φ : Int → Int} {dn l9 : Int} {cl : List Cla} (h : FrV K n lt sn lw fo Fr To Ln Kd dp Mt Lt Sk Ss Tm) (h9 : Φ 9 = dn) : ∀ i : Int, 8 ≤ i → i < 31 → i ≠ 10 → i ≠ 11 → telF Φ Tm Mt Ln (cnt dp 10) n i = phiO K cl dn l9 i := by
  intro i i0 i1 i2 i3
  have hn := h.1.1
  have he := h.2.1.1
  by_cases e8 : i = 8
  · subst e8
    unfold telF runF phiO
    rw [if_neg (by omega), if_neg (by omega), iu_ne (by decide), iu_self, if_pos rfl]
    exact h.2.2.2.2.2.2.2.1
  · by_cases e9 : i = 9
    · subst e9
      rw [tel_at (by decide) (by decide) (by decide)]
      unfold phiO
      rw [if_neg (by decide), if_pos rfl]; exact h9
    · unfold phiO
      rw [if_neg e8, if_neg e9, if_neg i2, if_neg i3]
      unfold telF runF lnV
      by_cases e12 : i = 12
      · subst e12
        rw [if_neg (by omega), if_neg (by omega), iu_self, if_pos rfl]
        exact cnt_dp h.1 h.2.2.1 h.2.2.2.1
      · rw [if_neg e12]
        by_cases e13 : 13 ≤ i ∧ i ≤ 20
        · rw [if_neg (by omega), if_pos (by omega), if_pos e13]
          exact h.2.2.2.2.1 _ (by omega) (by omega)
        · rw [if_pos (by omega), if_neg e13]
          by_cases e : i - 21 < n
          · rw [if_pos e, if_pos (by omega)]
            exact (h.2.2.1.2 _ (by omega) (by omega)).2.2.1
          · rw [if_neg e, if_neg (by omega)]
theorem vz_ran {vb v : Int} (h : v = vz vb) (hv : vbR false vb) : (vb = 22 ∧ v = 3) ∨ (vb = 23 ∧ v = 4) ∨ (vb = 24 ∧ v = 5) ∨ (vb = 26 ∧ v = 6) := by
  unfold vbR at hv
  rw [if_neg (by decide)] at hv
  unfold vz at h
  rcases hv with hv | hv
  · rw [if_neg (by omega), if_pos (by omega)] at h
    omega
  · rw [if_neg (by omega), if_neg (by omega)] at h
    omega
theorem sml_in {z : Int} (h0 : 0 ≤ z) (h1 : z ≤ 1000000) : sml z = z := by unfold sml; rw [if_neg (by omega)]
theorem sml_c (z : Int) : sml z = -1 ∨ (sml z = z ∧ 0 ≤ z) := by unfold sml; split <;> omega
theorem gone_01 {K : Int → Int} {cl : List Cla} (hK : KOK K) : 0 ≤ gone K cl ∧ gone K cl ≤ 10 := by
  have hn := hK.1
  have := sm_in (p := gonK K cl) (i := K 76) hn.1 (fun t _ _ => by unfold gonK; have := b2i_01 (oK K cl (ctS K cl) (mtD K cl) t ≤ 2 * K 28); omega)
  unfold gone
  omega
theorem exch_2 {K : Int → Int} {a b : Int} (h : a ≠ b) : exchK (exchK K a b) a b = K := by
  funext q
  unfold exchK
  by_cases e1 : q = 10 + b
  · subst e1
    rw [iu_self, iu_ne (by omega), iu_self]
  · rw [iu_ne e1]
    by_cases e2 : q = 10 + a
    · subst e2
      rw [iu_self, iu_self]
    · rw [iu_ne e2, iu_ne e1, iu_ne e2]
theorem neg_l {a : Int} {q : (Int → Int) × (Int → Int) × Int} (h : a < 0) : ((a, q) : DS).1 < 0 := h
/-- a deed of the class against the reference's -/
theorem deed_sim {K : Int → Int} {n lt sn lw fo dp : Int} {Fr To Ln Kd Mt Lt Sk Ss Tm : Int → Int} {cl : List Cla} {D O1 O2 X : Int → Int} {u vb v s1 s2 a b r : Int} {f' : mF} {g' : mA} (hF : FrV K n lt sn lw fo Fr To Ln Kd dp Mt Lt Sk Ss Tm) (hG : LogK D O1 O2 u X K) (hv : (vb = 22 ∧ v = 3) ∨ (vb = 23 ∧ v = 4) ∨ (vb = 24 ∧ v = 5) ∨ (vb = 26 ∧ v = 6)) (h1 : vb ≠ 26 → a = s1) (h2 : vb = 24 → b = s2) (hq : (v = 3 ∧ LmQ Mt Tm D O1 O2 u a r f' g' ∧ f' 37 = dp ∧ g' 44 = Tm ∧ g' 35 = Ln) ∨ (v = 4 ∧ SkQ D O1 O2 n dp u a r f' g' ∧ g' 38 = Mt ∧ g' 44 = Tm ∧ g' 35 = Ln) ∨ (v = 5 ∧ SwQ Ln D O1 O2 n u a b r f' g' ∧ f' 37 = dp ∧ g' 38 = Mt ∧ g' 44 = Tm) ∨ (v = 6 ∧ PsQ Tm D O1 O2 u r f' g' ∧ f' 37 = dp ∧ g' 38 = Mt ∧ g' 35 = Ln)) :
    (r < 0 ∧ (deed cl vb s1 s2 K X u).1 < 0) ∨ (0 ≤ r ∧ ∃ (ρ : Int) (K2 X2 : Int → Int) (u2 : Int), (ρ, K2, X2, u2) = deed cl vb s1 s2 K X u ∧ 0 ≤ ρ ∧ FrV K2 n lt sn lw fo Fr To (g' 35) Kd (f' 37) (g' 38) Lt Sk Ss (g' 44) ∧ LogK (g' 193) (g' 194) (g' 195) u2 X2 K2 ∧ f' 192 = u2 ∧ (vb = 26 → ρ = gone K2 cl)) := by
  have hn := hF.1.1
  have he := hF.2.1.1
  have hT0 := hF.2.2.2.2.2.2.2.1
  have h28 := hF.1.2.2.2.1
  rcases hv with ⟨e1, e2⟩ | ⟨e1, e2⟩ | ⟨e1, e2⟩ | ⟨e1, e2⟩ <;> subst e1 <;> subst e2
  · have hs := h1 (by decide)
    subst hs
    obtain ⟨q, q37, q44, q35⟩ : LmQ Mt Tm D O1 O2 u a r f' g' ∧ f' 37 = dp ∧ g' 44 = Tm ∧ g' 35 = Ln := by
      rcases hq with h | h | h | h
      · exact h.2
      · exact absurd h.1 (by decide)
      · exact absurd h.1 (by decide)
      · exact absurd h.1 (by decide)
    have ed : deed cl 22 a s2 K X u = dLit K X u (sml a) := rfl
    rw [ed]
    unfold dLit
    have hsc := sml_c a
    rcases q with ⟨c1, rfl, -⟩ | ⟨c1, c2, rfl, -⟩ | ⟨c1, c2, hr, q38, qu, q3, q4, q5⟩
    · refine Or.inl ⟨by decide, ?_⟩
      rw [if_pos (by omega)]; exact neg_l (by decide)
    · have hm := hF.2.2.2.2.1 a c1.1 c1.2
      refine Or.inl ⟨by decide, ?_⟩
      rw [sml_in c1.1 (by omega), if_neg (by omega), if_pos (by omega)]; exact neg_l (by decide)
    · have hm := hF.2.2.2.2.1 a c1.1 c1.2
      refine Or.inr ⟨by omega, K 28, iu K (20 + a) (K 28), kpR X K u 0, kpU u + 1, ?_, by omega, ?_, ?_, qu, fun z => absurd z (by decide)⟩
      · rw [sml_in c1.1 (by omega), if_neg (by omega), if_neg (by omega)]
      · rw [q35, q37, q38, q44, hT0]; exact hF.mt c1.1 c1.2 (KOK_lit hF.1 c1.1 c1.2)
      · rw [q3, q4, q5]
        refine hG.push hF.1 (Or.inl ⟨rfl, c1⟩) (fun q hq => iu_ne (by omega)) ?_
        show K = iu (iu K (20 + a) (K 28)) (20 + a) (-1)
        rw [iu_iu, show (-1 : Int) = K (20 + a) by omega, iu_same]
  · have hs := h1 (by decide)
    subst hs
    obtain ⟨q, q38, q44, q35⟩ : SkQ D O1 O2 n dp u a r f' g' ∧ g' 38 = Mt ∧ g' 44 = Tm ∧ g' 35 = Ln := by
      rcases hq with h | h | h | h
      · exact absurd h.1 (by decide)
      · exact h.2
      · exact absurd h.1 (by decide)
      · exact absurd h.1 (by decide)
    have ed : deed cl 23 a s2 K X u = dSoak K X u (sml a) := rfl
    rw [ed]
    unfold dSoak
    have hsc := sml_c a
    rcases q with ⟨c1, rfl, -⟩ | ⟨c1, hr, q37, qu, q3, q4, q5⟩
    · refine Or.inl ⟨by decide, ?_⟩
      rw [if_pos (by omega)]; exact neg_l (by decide)
    · have hk := (hF.1.2.1 a c1.1 (by omega)).1
      have hb := b2i_01 (bt (zxor dp (zshl 1 a)) a)
      refine Or.inr ⟨by omega, 1 - K a, iu K a (1 - K a), kpR X K u 1, kpU u + 1, ?_, by omega, ?_, ?_, qu, fun z => absurd z (by decide)⟩
      · rw [sml_in c1.1 (by omega), if_neg (by omega)]
      · rw [q35, q37, q38, q44]; exact hF.dp c1.1 (by omega)
      · rw [q3, q4, q5]
        refine hG.push hF.1 (Or.inr (Or.inl ⟨rfl, by omega, by omega⟩)) (fun q hq => iu_ne (by omega)) ?_
        show K = iu (iu K a (1 - K a)) a (1 - iu K a (1 - K a) a)
        rw [iu_self, iu_iu, show 1 - (1 - K a) = K a by omega, iu_same]
  · have hs := h1 (by decide)
    have hs2 := h2 rfl
    subst hs
    subst hs2
    obtain ⟨q, q37, q38, q44⟩ : SwQ Ln D O1 O2 n u a b r f' g' ∧ f' 37 = dp ∧ g' 38 = Mt ∧ g' 44 = Tm := by
      rcases hq with h | h | h | h
      · exact absurd h.1 (by decide)
      · exact absurd h.1 (by decide)
      · exact h.2
      · exact absurd h.1 (by decide)
    have ed : deed cl 24 a b K X u = dSwap K X u (sml a) (sml b) := rfl
    rw [ed]
    unfold dSwap
    have hsa := sml_c a
    have hsb := sml_c b
    rcases q with ⟨c1, rfl, -⟩ | ⟨c1, c2, rfl, -⟩ | ⟨c1, c2, hr, q35, qu, q3, q4, q5⟩
    · refine Or.inl ⟨by decide, ?_⟩
      subst c1
      rw [if_pos rfl]; exact neg_l (by decide)
    · refine Or.inl ⟨by decide, ?_⟩
      by_cases z : sml a = sml b
      · rw [if_pos z]; exact neg_l (by decide)
      · rw [if_neg z, if_pos (by omega)]; exact neg_l (by decide)
    · have hla := hF.1.2.1 a c2.1.1 (by omega)
      have hlb := hF.1.2.1 b c2.2.1 (by omega)
      have hxa := (hF.2.2.1.2 a c2.1.1 (by omega)).2.2.1
      have hxb := (hF.2.2.1.2 b c2.2.1 (by omega)).2.2.1
      have hr2 : r = Ln b := by rw [hr, iu_ne c1, iu_self]
      refine Or.inr ⟨by omega, K (10 + b), exchK K a b, kpR X K u 2, kpU u + 1, ?_, by omega, ?_, ?_, qu, fun z => absurd z (by decide)⟩
      · rw [sml_in c2.1.1 (by omega), sml_in c2.2.1 (by omega), if_neg c1, if_neg (by omega)]
      · rw [q35, q37, q38, q44]; exact hF.sw c2.1.1 (by omega) c2.2.1 (by omega)
      · rw [q3, q4, q5]
        refine hG.push hF.1 (Or.inr (Or.inr (Or.inl ⟨rfl, ⟨by omega, by omega⟩, by omega, by omega⟩))) (fun q hq => by unfold exchK; rw [iu_ne (by omega), iu_ne (by omega)]) ?_
        exact (exch_2 c1).symm
  · obtain ⟨q, q37, q38, q35⟩ : PsQ Tm D O1 O2 u r f' g' ∧ f' 37 = dp ∧ g' 38 = Mt ∧ g' 35 = Ln := by
      rcases hq with h | h | h | h
      · exact absurd h.1 (by decide)
      · exact absurd h.1 (by decide)
      · exact absurd h.1 (by decide)
      · exact h.2
    have ed : deed cl 26 s1 s2 K X u = dPass K X u cl := rfl
    rw [ed]
    unfold dPass
    rcases q with ⟨c1, rfl, -⟩ | ⟨c1, rfl, q44, qu, q3, q4, q5⟩
    · refine Or.inl ⟨by decide, ?_⟩
      rw [if_pos (by omega)]; exact neg_l (by decide)
    · have hK2 : KOK (iu K 28 (K 28 + 1)) := KOK_28 hF.1 (by omega) (by omega)
      refine Or.inr ⟨by decide, gone (iu K 28 (K 28 + 1)) cl, iu K 28 (K 28 + 1), kpR X K u 3, kpU u + 1, ?_, (gone_01 hK2).1, ?_, ?_, qu, fun _ => rfl⟩
      · rw [if_neg (by omega)]
      · rw [q35, q37, q38, q44, hT0]; exact hF.tm (by omega) (by omega)
      · rw [q3, q4, q5]
        refine hG.push hF.1 (Or.inr (Or.inr (Or.inr rfl))) (fun q hq => iu_ne (by omega)) ?_
        show K = iu (iu K 28 (K 28 + 1)) 28 (iu K 28 (K 28 + 1) 28 - 1)
        rw [iu_self, iu_iu, show K 28 + 1 - 1 = K 28 by omega, iu_same]
theorem deed_brk {Mt Tm D O1 O2 Ln : Int → Int} {n dp u vb v a b r : Int} {f' : mF} {g' : mA} (hv : (vb = 22 ∧ v = 3) ∨ (vb = 23 ∧ v = 4) ∨ (vb = 24 ∧ v = 5) ∨ (vb = 26 ∧ v = 6)) (hb : (vb ≠ 26 ∧ a = -2000000000) ∨ (vb = 24 ∧ b = -2000000000)) (hq : (v = 3 ∧ LmQ Mt Tm D O1 O2 u a r f' g' ∧ f' 37 = dp ∧ g' 44 = Tm ∧ g' 35 = Ln) ∨ (v = 4 ∧ SkQ D O1 O2 n dp u a r f' g' ∧ g' 38 = Mt ∧ g' 44 = Tm ∧ g' 35 = Ln) ∨ (v = 5 ∧ SwQ Ln D O1 O2 n u a b r f' g' ∧ f' 37 = dp ∧ g' 38 = Mt ∧ g' 44 = Tm) ∨ (v = 6 ∧ PsQ Tm D O1 O2 u r f' g' ∧ f' 37 = dp ∧ g' 38 = Mt ∧ g' 35 = Ln)) : r < 0 := by
  rcases hq with ⟨e, h, -⟩ | ⟨e, h, -⟩ | ⟨e, h, -⟩ | ⟨e, h, -⟩
  · have : a = -2000000000 := by omega
    rcases h with ⟨-, rfl, -⟩ | ⟨c, -⟩ | ⟨c, -⟩ <;> omega
  · have : a = -2000000000 := by omega
    rcases h with ⟨-, rfl, -⟩ | ⟨c, -⟩ <;> omega
  · have : a = -2000000000 ∨ b = -2000000000 := by omega
    rcases h with ⟨-, rfl, -⟩ | ⟨-, -, rfl, -⟩ | ⟨-, c, -⟩ <;> omega
  · omega
/-- one order of the class against the reference's -/
def ORS (cl : List Cla) (k : Cla) (K X : Int → Int) (u dn l9 n lt sn lw fo : Int) (Fr To Kd Lt Sk Ss : Int → Int) (r : Int) (f' : mF) (g' : mA) : Prop :=
  (r < 0 ∧ ordO cl k (K, X, u, dn, l9) = none) ∨ (0 ≤ r ∧ ∃ (K2 X2 : Int → Int) (u2 l2 : Int), ordO cl k (K, X, u, dn, l9) = some (K2, X2, u2, dn + 1, l2) ∧ FrV K2 n lt sn lw fo Fr To (g' 35) Kd (f' 37) (g' 38) Lt Sk Ss (g' 44) ∧ LogK (g' 193) (g' 194) (g' 195) u2 X2 K2 ∧ f' 192 = u2 ∧ l2 = if k.1 = 26 then gone K2 cl else l9)
theorem ORS.neg {cl : List Cla} {k : Cla} {K X : Int → Int} {u dn l9 n lt sn lw fo : Int} {Fr To Kd Lt Sk Ss : Int → Int} {r : Int} {f' : mF} {g' : mA} (h : ORS cl k K X u dn l9 n lt sn lw fo Fr To Kd Lt Sk Ss r f' g') (hr : r < 0) : ordO cl k (K, X, u, dn, l9) = none := by
  rcases h with h | h
  · exact h.2
  · exact absurd h.1 (by omega)
theorem ORS.pos {cl : List Cla} {k : Cla} {K X : Int → Int} {u dn l9 n lt sn lw fo : Int} {Fr To Kd Lt Sk Ss : Int → Int} {r : Int} {f' : mF} {g' : mA} (h : ORS cl k K X u dn l9 n lt sn lw fo Fr To Kd Lt Sk Ss r f' g') (hr : 0 ≤ r) : ∃ (K2 X2 : Int → Int) (u2 l2 : Int), ordO cl k (K, X, u, dn, l9) = some (K2, X2, u2, dn + 1, l2) ∧ FrV K2 n lt sn lw fo Fr To (g' 35) Kd (f' 37) (g' 38) Lt Sk Ss (g' 44) ∧ LogK (g' 193) (g' 194) (g' 195) u2 X2 K2 ∧ f' 192 = u2 ∧ l2 = if k.1 = 26 then gone K2 cl else l9 := by
  rcases h with h | h
  · exact absurd h.1 (by omega)
  · exact h.2
theorem ord_sim {K : Int → Int} {n lt sn lw fo dp : Int} {Fr To Ln Kd Mt Lt Sk Ss Tm : Int → Int} {cl : List Cla} {k : Cla} {D O1 O2 X : Int → Int} {u dn l9 v a b r : Int} {f' : mF} {g' : mA} (hF : FrV K n lt sn lw fo Fr To Ln Kd dp Mt Lt Sk Ss Tm) (hG : LogK D O1 O2 u X K) (hv : (k.1 = 22 ∧ v = 3) ∨ (k.1 = 23 ∧ v = 4) ∨ (k.1 = 24 ∧ v = 5) ∨ (k.1 = 26 ∧ v = 6)) (hso : tellF.isSoB k.2.2.2.2 (phiO K cl dn l9) = true) (h1 : k.1 ≠ 26 → a = brk (k.2.1 (phiO K cl dn l9))) (h2 : k.1 = 24 → b = brk (k.2.2.1 (phiO K cl dn l9))) (hq : (v = 3 ∧ LmQ Mt Tm D O1 O2 u a r f' g' ∧ f' 37 = dp ∧ g' 44 = Tm ∧ g' 35 = Ln) ∨ (v = 4 ∧ SkQ D O1 O2 n dp u a r f' g' ∧ g' 38 = Mt ∧ g' 44 = Tm ∧ g' 35 = Ln) ∨ (v = 5 ∧ SwQ Ln D O1 O2 n u a b r f' g' ∧ f' 37 = dp ∧ g' 38 = Mt ∧ g' 44 = Tm) ∨ (v = 6 ∧ PsQ Tm D O1 O2 u r f' g' ∧ f' 37 = dp ∧ g' 38 = Mt ∧ g' 35 = Ln)) : ORS cl k K X u dn l9 n lt sn lw fo Fr To Kd Lt Sk Ss r f' g' := by
  by_cases hk : sOK k.1 k.2.1 k.2.2.1 (phiO K cl dn l9)
  · have g1 : k.1 ≠ 26 → a = (k.2.1 (phiO K cl dn l9)).getD 0 := by
      intro z
      rw [h1 z]
      rcases hk.1 with y | y
      · exact absurd y z
      · cases hx : k.2.1 (phiO K cl dn l9) with
        | none => rw [hx] at y; cases y
        | some x => rfl
    have g2 : k.1 = 24 → b = (k.2.2.1 (phiO K cl dn l9)).getD 0 := by
      intro z
      rw [h2 z]
      rcases hk.2 with y | y
      · exact absurd z y
      · cases hx : k.2.2.1 (phiO K cl dn l9) with
        | none => rw [hx] at y; cases y
        | some x => rfl
    rcases deed_sim (cl := cl) hF hG hv g1 g2 hq with ⟨p1, p2⟩ | ⟨p1, ρ, K2, X2, u2, p2, p3, p4, p5, p6, p7⟩
    · exact Or.inl ⟨p1, ordO_f2 hso hk p2⟩
    · refine Or.inr ⟨p1, K2, X2, u2, _, ordO_t hso hk p2 p3, p4, p5, p6, ?_⟩
      by_cases z : k.1 = 26
      · rw [if_pos z, if_pos z, p7 z]
      · rw [if_neg z, if_neg z]
  · refine Or.inl ⟨deed_brk hv ?_ hq, ordO_f1 hso hk⟩
    by_cases z : k.1 ≠ 26 ∧ ¬ (k.2.1 (phiO K cl dn l9)).isSome = true
    · left
      refine ⟨z.1, ?_⟩
      rw [h1 z.1]
      cases hx : k.2.1 (phiO K cl dn l9) with
      | none => rfl
      | some x => rw [hx] at z; exact absurd rfl z.2
    · by_cases y : k.1 = 24 ∧ ¬ (k.2.2.1 (phiO K cl dn l9)).isSome = true
      · right
        refine ⟨y.1, ?_⟩
        rw [h2 y.1]
        cases hx : k.2.2.1 (phiO K cl dn l9) with
        | none => rfl
        | some x => rw [hx] at y; exact absurd rfl y.2
      · exfalso
        apply hk
        refine ⟨?_, ?_⟩
        · by_cases e : k.1 = 26
          · exact Or.inl e
          · right
            by_cases e2 : (k.2.1 (phiO K cl dn l9)).isSome = true
            · exact e2
            · exact absurd ⟨e, e2⟩ z
        · by_cases e : k.1 = 24
          · right
            by_cases e2 : (k.2.2.1 (phiO K cl dn l9)).isSome = true
            · exact e2
            · exact absurd ⟨e, e2⟩ y
          · exact Or.inl e
theorem eT_s {cl : List Cla} {k : Cla} {w0 w w' : OS} {T i : Int} (e : ordT cl k T.toNat w0 = ordT cl k (T - i).toNat w) (hi : i < T) (ho : ordO cl k w = some w') : ordT cl k T.toNat w0 = ordT cl k (T - (i + 1)).toNat w' := by
  rw [e, show (T - i).toNat = (T - (i + 1)).toNat + 1 by omega, ordT_s ho]
theorem eT_n {cl : List Cla} {k : Cla} {w0 w : OS} {T i : Int} (e : ordT cl k T.toNat w0 = ordT cl k (T - i).toNat w) (hi : i < T) (ho : ordO cl k w = none) : ordT cl k T.toNat w0 = none := by
  rw [e, show (T - i).toNat = (T - (i + 1)).toNat + 1 by omega]
  show (match ordO cl k w with | none => none | some w' => ordT cl k (T - (i + 1)).toNat w') = none
  rw [ho]
theorem eT_e {cl : List Cla} {k : Cla} {w0 w : OS} {T i : Int} (e : ordT cl k T.toNat w0 = ordT cl k (T - i).toNat w) (hi : T ≤ i) : ordT cl k T.toNat w0 = some w := by
  rw [e, show (T - i).toNat = 0 by omega]
  rfl
/-- the class's state in the middle of orders -/
def ORe (K0 : Int → Int) (B : Int) (cl : List Cla) (ag x6 x7 x8 x9 x0 : Int) (Fr To Kd Lt Sk Ss : Int → Int) (w : OS) (f' : mF) (g' : mA) : Prop :=
  OSok K0 B w ∧ FrV w.1 x6 x7 x8 x9 x0 Fr To (g' 35) Kd (f' 37) (g' 38) Lt Sk Ss (g' 44) ∧ LogK (g' 193) (g' 194) (g' 195) w.2.2.1 w.2.1 w.1 ∧ f' 192 = w.2.2.1 ∧ FcT (g' 10) ag w.2.2.2.1 w.2.2.2.2 (gone w.1 cl)
