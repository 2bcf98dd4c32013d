/-! ===== the class and the reference alike: orders, law, image ===== -/
theorem eqL1 {α : Type} {k : Nat} {a b : Nat → α} (e : b k = a k) : eqL [k] a b := fun q hq => by rw [List.mem_singleton.mp hq]; exact e
set_option maxHeartbeats 1000000 in
theorem s_orders {l : Launch} {o : Nat} {ar : Nat → Nat} {E : cE} {f : mF} {g j : mA} {f2 : mF} {g2 j2 : mA} {n : Nat} {h : zH} (hn : n ≤ 1000) (S : Sim E f g f2 g2 n) (B : BH E f g j o ar f2 g2 j2 h) : Cal l o ar E f2 g2 j2 n h MX7_orders MX8_orders [] vI zIn := by
  obtain ⟨cl, hLK, hLN⟩ := S.law
  obtain ⟨⟨hV, hG, hu⟩, sL, sI, sV, sT, sW, sG, sR, sN⟩ := id S
  obtain ⟨hK, ⟨e76, e77, e78, e79, e80⟩, hP, hz, hMt, hLt, hsk, t0, t1, t2⟩ := id hV
  have hS : z31 (f 354) := ⟨B.1.2.2.2.2.2.2.1.2, (B.1.2.2.2.2.2.2.1.1 354).2⟩
  have hbR : ∀ i, g 11 i ≤ 100000 := fun i => by have := sR.2.1 i; omega
  have hbX : ∀ i, g2 1 i ≤ 100000 := fun i => by have := sR.2.2 i; omega
  have hu16 := hG.1
  have hV0 : FrV (g2 2) (g2 2 76) (f 39) (f 41) (g2 2 79) (g2 2 80) (g 33) (g 34) (g 35) (g 36) (f 37) (g 38) (g 40) (g 42) (g 43) (g 44) := by rw [← e76, ← e79, ← e80]; exact hV
  refine Cal.of B (c_orders (K0 := g2 2) (X0 := g2 34) (cl := cl) rfl rfl rfl rfl rfl rfl rfl rfl rfl rfl rfl rfl rfl rfl rfl rfl sT.1 e76 rfl rfl e79 e80 rfl hu rfl sT.2.1.1 sT.2.1.2 (fun i i0 i1 => (sT.2.2 i i0 i1).1) hbR hLN hV0 hG sL.1) (m_orders (K := g2 2) (U := g 257) (cl := cl) rfl rfl rfl rfl rfl rfl rfl rfl rfl hbX hu16.1 hu16.2 hK hLK sW sT.2.2 sT.2.1.1 sT.2.1.2) (by decide) (by decide) (fun r f' g' j' r2 f2' g2' j2' p q => ?_)
  obtain ⟨⟨p256, p46, p⟩, xf, xg, -⟩ := p
  obtain ⟨⟨q13, q⟩, yf, yg, -⟩ := q
  have sI2 := sI.eq xf xg (by decide) (by decide) (yg.on (by decide))
  have sV2 := sV.eq (xf.on (by decide)) (xg.on (by decide)) (yf.on (by decide)) (yg.on (by decide))
  have sT2 := sT.mv p256 q13 (by decide) (by decide) (xg.on (by decide)) (yg.on (by decide))
  have sW2 := sW.eq (yg.on (by decide))
  have e13 : f' 13 = f2' 6 := (xf 13 (by decide)).trans (sG.2.1.trans (yf 6 (by decide)).symm)
  rcases p with ⟨e, hx, p1, p16, p11, p14, p15, p78, pF⟩ | ⟨l9, hx, p14, p78, p⟩
  · rcases q with ⟨e2, hx2, ⟨q1, q2, q3⟩, qK, qX, qu, q40, q14⟩ | ⟨l2, K1, hx2, -⟩
    · have hee : e = e2 := Except.error.inj (hx.symm.trans hx2)
      subst hee
      exact ⟨p1.trans q1.symm, by unfold cF; rw [qK, qX, qu]; exact pF, sL.eq xf xg (by decide) (by decide) (eqL1 p46) (eqL1 qK), sI2, sV2, sT2, sW2, ⟨p16.trans q2.symm, e13, p14.trans q14.symm, p15.trans q40.symm⟩, sR.bu p11 q3 (by decide), sN.eq ((xg.dr 46 p46).dr 78 p78) (by decide)⟩
    · rw [hx] at hx2; cases hx2
  · rcases q with ⟨e2, hx2, -⟩ | ⟨l2, K1, hx2, q14, hl, q⟩
    · rw [hx] at hx2; cases hx2
    · have hll : l9 = l2 := Except.ok.inj (hx.symm.trans hx2)
      subst hll
      have hlo := lo_ordL (cl := cl) (K0 := g2 2) l9 0 0 (g2 2, g2 34, f2 36, 0, -1) (K1, g2 34, f2 36, 0, -1) ⟨hl.1, rfl⟩ ⟨hK, fun _ _ => rfl, hu16, ⟨show (0 : Int) ≤ 0 by decide, show (0 : Int) ≤ 0 by decide⟩, show (-1 : Int) ≤ -1 by decide, show (-1 : Int) ≤ 10 by decide⟩
      have h79 := hK.2.2.2.2.2.2.2.2.2.2.1
      have hLw : ∀ K' : Int → Int, (∀ i, 29 ≤ i → K' i = K1 i) → LwR E f' g' (g' 46) K' := by
        intro K' hK'
        refine ⟨by rw [p46]; exact sL.1, fun t t0 t1 => ?_⟩
        rw [hK' 79 (by decide), hl.1 79 (by decide)] at t1
        obtain ⟨c, l1, l2⟩ := sL.2 t t0 t1
        exact ⟨c, LawAt_cg (hl.2 t c t0 (by omega) l1) (hK' _ (by omega)) (fun i i0 i1 => ⟨hK' _ (by omega), hK' _ (by omega)⟩), by rw [p46]; exact LwN_fr l2 xf xg (by decide) (by decide)⟩
      have sN2 := nd_cpy (k0 := 78) (k2 := 46) sN (xg.dr 46 p46) p78 (B.1.2.2.2.1 1 (by decide) (by decide) (by decide)) rfl (by decide)
      rcases p with ⟨w, o1, p1, p16, p11, p15, pO, pF⟩ | ⟨i, o1, p1, p16, p11, p15, pF⟩
      · rcases q with ⟨w1, o2, qO, ⟨q1, q2, q3⟩, qK, qX, qu, q40⟩ | ⟨i, o2, -⟩
        · rcases hlo with ⟨e, a, b⟩ | ⟨v, v', a, b, c⟩
          · rw [o1] at a; cases a
          · have ev : w = v := Except.ok.inj (o1.symm.trans a)
            have ev' : w1 = v' := Except.ok.inj (o2.symm.trans b)
            subst ev
            subst ev'
            obtain ⟨c1, c2⟩ := c
            refine ⟨by rw [p1, q1, c2], ?_, hLw _ (fun i hi => by rw [qK]; exact qO.2.1 i hi), sI2, sV2, sT2, sW2, ⟨p16.trans q2.symm, e13, p14.trans q14.symm, p15.trans q40.symm⟩, sR.ok p11 q3, sN2⟩
            unfold cF
            rw [qK, qX, qu, c2]
            exact ⟨FrV.cg pF.1 (fun q _ q1 => c1 q q1) qO.1, LogK.cg pF.2.1 qO.1 (fun _ _ _ => ⟨rfl, rfl, rfl⟩) (fun _ _ _ => rfl) (fun q _ q1 => c1 q (by omega)) (c1 76 (by decide)), pF.2.2⟩
        · rcases hlo with ⟨e, a, b⟩ | ⟨v, v', a, b, c⟩
          · rw [o1] at a; cases a
          · rw [o2] at b; cases b
      · rcases q with ⟨w1, o2, -⟩ | ⟨i2, o2, ⟨q1, q2, q3⟩, qK, qX, qu, q40⟩
        · rcases hlo with ⟨e, a, b⟩ | ⟨v, v', a, b, c⟩
          · rw [o2] at b; cases b
          · rw [o1] at a; cases a
        · rcases hlo with ⟨e, a, b⟩ | ⟨v, v', a, b, c⟩
          · have ei : i = e := Except.error.inj (o1.symm.trans a)
            have ei2 : i2 = e := Except.error.inj (o2.symm.trans b)
            subst ei
            subst ei2
            have e81 : ∀ q, 0 ≤ q → q < 81 → g2' 2 q = g2 2 q := fun q q0 q1 => (qK q q0).trans (hl.1 q q1)
            have hK9 : KOK (g2' 2) := hK.cg0 e81
            refine ⟨by rw [p1, q1], ?_, hLw _ (fun i hi => qK i (by omega)), sI2, sV2, sT2, sW2, ⟨p16.trans q2.symm, e13, p14.trans q14.symm, p15.trans q40.symm⟩, sR.bu p11 q3 (by decide), sN2⟩
            unfold cF
            rw [qu]
            exact ⟨FrV.cg pF.1 e81 hK9, LogK.cg pF.2.1 hK9 (fun _ _ _ => ⟨rfl, rfl, rfl⟩) qX (fun q q0 q1 => e81 q q0 (by omega)) (e81 76 (by decide) (by decide)), pF.2.2⟩
          · rw [o1] at a; cases a

theorem tg4 (s : Nat) : ¬ (cTg 4 s < 6 ∧ cTg 4 s ≠ 0 ∧ cTg 4 s ≠ 1) := by
  by_cases h : s < 32
  · revert s; decide
  · intro z
    have := z.1
    rw [cTg_17 (by omega)] at this
    omega
theorem LwN.nw {E E' : cE} {f f' : mF} {g g' : mA} {y : Int} {cl : List Cla} {m : Nat} (h : LwN E f g y cl) (hm : E.2.1 m = false) (hv : ∀ x, E.2.1 x = true → E'.2.1 x = true) (hl : ∀ k, k / 32 ≠ m → E'.2.2 k = E.2.2 k) (hf : ∀ k, 512 ≤ k → k / 32 ≠ m → f' k = f k) (hg : ∀ k, 512 ≤ k → k / 32 ≠ m → g' k = g k) : LwN E' f' g' y cl := by
  rcases h with h | ⟨q, h0, h1, h2, h3, h4, h5, h6, h7, h8, h9, h10, h11⟩
  · exact Or.inl h
  · have qm : q ≠ m := fun z => by rw [z, hm] at h1; cases h1
    refine Or.inr ⟨q, h0, hv q h1, h2, h3, ?_, ?_, ?_, ?_, ?_, h9, ?_, ?_⟩
    · rw [hf _ (by omega) (by omega), hl _ (by omega)]; exact h4
    · rw [hf _ (by omega) (by omega)]; exact h5
    · rw [hl _ (by omega)]; exact h6
    · rw [hl _ (by omega)]; exact h7
    · rw [hl _ (by omega)]; exact h8
    · rw [hg _ (by omega) (by omega), hg _ (by omega) (by omega), hg _ (by omega) (by omega), hg _ (by omega) (by omega), hf _ (by omega) (by omega)]; exact h10
    · rw [hf _ (by omega) (by omega)]; exact h11
theorem FrV.lw {K : Int → Int} {n lt sn lw fo dp : Int} {Fr To Ln Kd Mt Lt Sk Ss Tm : Int → Int} {K' : Int → Int} (h : FrV K n lt sn lw fo Fr To Ln Kd dp Mt Lt Sk Ss Tm) (R : ∀ i, i < 79 → K' i = K i) (e79 : K' 79 = K 79 + 1) (e80 : K' 80 = K 80) (h6 : K 79 < 6) : FrV K' n lt sn (lw + 1) fo Fr To Ln Kd dp Mt Lt Sk Ss Tm := by
  obtain ⟨hK, ⟨e1, e2, e3, e4, e5⟩, hP, hz, hM, hL, hk, t0, t1, t2⟩ := id h
  have h77 := hK.2.2.2.2.1
  have h78 := hK.2.2.2.2.2.2.1
  have h79 := hK.2.2.2.2.2.2.2.2.2.2.1
  have h80 := hK.2.2.2.2.2.2.2.2.2.2.2
  have k77 := R 77 (by decide)
  have k78 := R 78 (by decide)
  refine h.top ?_ (fun q hq => R q (by omega)) (R 76 (by decide)) ⟨by rw [k77]; exact e2, by rw [k78]; exact e3, by omega, by omega⟩ (fun i i0 i1 => by rw [R _ (by omega)]; exact hL i i0 (by omega)) (fun i i0 i1 => by rw [R (62 + 2 * i) (by omega), R (62 + 2 * i + 1) (by omega)]; exact hk i i0 (by omega)) ⟨by rw [R 28 (by decide)]; exact t0, by rw [R 74 (by decide)]; exact t1, by rw [R 75 (by decide)]; exact t2⟩
  exact KOK.top hK (fun q hq => R q (by omega)) (R 76 (by decide)) (by rw [k77]; exact h77) (fun i i0 i1 => by rw [R _ (by omega)]; exact hK.2.2.2.2.2.1 i i0 (by omega)) (by rw [k78]; exact h78) (fun i i0 i1 => by rw [R (62 + 2 * i) (by omega), R (62 + 2 * i + 1) (by omega)]; exact hK.2.2.2.2.2.2.2.1 i i0 (by omega)) (by rw [R 74 (by decide)]; exact hK.2.2.2.2.2.2.2.2.1) (by rw [R 75 (by decide)]; exact hK.2.2.2.2.2.2.2.2.2.1) (by omega) (by omega)

set_option maxHeartbeats 1000000 in
theorem s_law {l : Launch} {o : Nat} {ar : Nat → Nat} {E : cE} {f : mF} {g j : mA} {f2 : mF} {g2 j2 : mA} {n : Nat} {h : zH} (hn : n ≤ 1000) (S : Sim E f g f2 g2 n) (B : BH E f g j o ar f2 g2 j2 h) : Cal l o ar E f2 g2 j2 n h MX7_law MX8_law [] vI zIn := by
  obtain ⟨⟨hV, hG, hu⟩, sL, sI, sV, sT, sW, sG, sR, sN⟩ := id S
  obtain ⟨hK, ⟨e76, e77, e78, e79, e80⟩, hP, hz, hMt, hLt, hsk, t0, t1, t2⟩ := id hV
  have hS : z31 (f 354) := ⟨B.1.2.2.2.2.2.2.1.2, (B.1.2.2.2.2.2.2.1.1 354).2⟩
  have hbR : ∀ i, g 11 i ≤ 100000 := fun i => by have := sR.2.1 i; omega
  have hbX : ∀ i, g2 1 i ≤ 100000 := fun i => by have := sR.2.2 i; omega
  have hu16 := hG.1
  have h79 := hK.2.2.2.2.2.2.2.2.2.2.1
  have hm0 : E.2.1 (16 + n) = false := by
    cases hq : E.2.1 (16 + n) with
    | false => rfl
    | true => have := sN.1 _ hq; omega
  have hrf : ∀ (k i : Nat), E.2.1 (k / 32) = true → cTag k < 6 → cTag k ≠ 0 → cTag k ≠ 1 → g k i < 0 ∨ (g k i).toNat ≠ 16 + n := by
    intro k i h1 h2 h3 h4
    rcases sN.2 k i h1 h2 h3 h4 with z | z
    · exact Or.inl z
    · right
      intro y
      rw [y, hm0] at z
      cases z
  have hM := m_law (l := l) (o := o) (ar := ar) (f := f2) (g := g2) (j := j2) (K := g2 2) (U := g 257) rfl rfl rfl rfl rfl rfl hbX hK sW sT.2.2 sT.2.1.1 sT.2.1.2
  refine ⟨7, 469, _, ⟨by decide, by decide⟩, (c_law (d := 1000) (m := 16 + n) (n := g2 2 79) (z := f2 13) (by decide) h79.1 h79.2 sT.2.1.1 sT.2.1.2 (fun i i0 i1 => (sT.2.2 i i0 i1).1) hbR (by omega) (by omega) hm0 hrf rfl rfl rfl rfl rfl rfl rfl rfl rfl e79 sT.1 rfl rfl rfl rfl rfl rfl rfl rfl rfl B.1), fun v h' hv => ?_⟩
  obtain ⟨r, ev, rz, hv⟩ := hv
  rcases hv with ⟨f', g', pp, p16, p256, p11, xf, xg, hH, hA⟩ | ⟨pn, pr, cl, E', f', g', j', b, hx, hH, hY, hFr, p14, p16, p45, p256, p46, p11, hLn, pa, pb, pc, pR, pl3, pl8, hfk, hgk, hjk⟩
  · have B' := B.cl hH hA
    refine ⟨r, E, f', g', j, ev, rz, rfl, B', _, hM 1000 (by decide) h' B'.2.1, fun v2 h2 hv2 => ?_⟩
    obtain ⟨f2', g2', j2', H2, A2, r2, ev2, rz2, ⟨q13, q⟩, yf, yg, -⟩ := hv2
    have hrr : r = r2 ∧ g2' 2 = g2 2 ∧ f' 14 = f2' 14 ∧ f2' 0 = r ∧ g2' 1 = bump (g2 1) r ∧ (r = -5 ∨ r = -6) := by
      rcases pp with ⟨p6, p1, p14⟩ | ⟨p6, e, hx, p1, p14⟩ <;> rcases q with ⟨q6, ⟨q1, q2, q3⟩, q4, q5⟩ | ⟨q6, e2, hx2, ⟨q1, q2, q3⟩, q4, q5⟩ | ⟨q6, cl, hx2, -⟩
      · rw [p1]; exact ⟨q1.symm, q4, by rw [p14, q5]; exact sG.2.2.1, q2, q3, Or.inl rfl⟩
      · exfalso; omega
      · exfalso; omega
      · exfalso; omega
      · have hee : e = e2 := Except.error.inj (hx.symm.trans hx2)
        subst hee
        rw [p1]; exact ⟨q1.symm, q4, by rw [p14, q5], q2, q3, Or.inr rfl⟩
      · rw [hx] at hx2; cases hx2
    obtain ⟨er, qK, e14, q2, q3, h56⟩ := hrr
    have yg := yg.dr 2 qK
    refine ⟨by rw [ev2, er], f2', g2', j2', B'.rf H2 A2, ?_⟩
    exact ⟨S.1.eq (xf.on (by decide)) (xg.on (by decide)) (yf.on (by decide)) (yg.on (by decide)), sL.eq xf xg (by decide) (by decide) (xg.on (by decide)) (yg.on (by decide)), sI.eq xf xg (by decide) (by decide) (yg.on (by decide)), sV.eq (xf.on (by decide)) (xg.on (by decide)) (yf.on (by decide)) (yg.on (by decide)), sT.mv p256 q13 (by decide) (by decide) (xg.on (by decide)) (yg.on (by decide)), sW.eq (yg.on (by decide)), ⟨p16.trans q2.symm, (xf 13 (by decide)).trans (sG.2.1.trans (yf 6 (by decide)).symm), e14, (xf 15 (by decide)).trans (sG.2.2.2.trans (yf 40 (by decide)).symm)⟩, sR.bu p11 q3 (by omega), sN.eq xg (by decide)⟩
  · have B' := B.nw hH hY hFr
    refine ⟨r, E', f', g', j', ev, rz, hY.2.2.2.2.1 31 (by omega), B', _, hM 1000 (by decide) h' B'.2.1, fun v2 h2 hv2 => ?_⟩
    obtain ⟨f2', g2', j2', H2, A2, r2, ev2, rz2, ⟨q13, q⟩, yf, yg, -⟩ := hv2
    obtain ⟨q1, q2, q3, q14, L1, L2, L3, L4, L5⟩ : r2 = g2 2 79 ∧ f2' 0 = 0 ∧ g2' 1 = g2 1 ∧ f2' 14 = -1 ∧ lawP (g2 2) (g2' 2) cl := by
      rcases q with ⟨q6, -⟩ | ⟨q6, e2, hx2, -⟩ | ⟨q6, c2, hx2, ⟨q1, q2, q3⟩, q14, q5⟩
      · exfalso; omega
      · rw [hx] at hx2; cases hx2
      · have hee : cl = c2 := Except.ok.inj (hx.symm.trans hx2)
        subst hee
        exact ⟨q1, q2, q3, q14, q5⟩
    have hf9 : ∀ k, k < 512 → k ∉ [45, 14, 16, 256, 289, 293, 294, 295, 296, 416, 417, 418] → f' k = f k := fun k h1 h2 => hfk k (by omega) h2
    have hg9 : ∀ k, k < 512 → k ∉ [46, 11, 290, 291, 292, 419, 420, 421, 422, 423, 424] → g' k = g k := fun k h1 h2 => hgk k (by omega) h2
    have hfL : ∀ k, 512 ≤ k → k / 32 ≠ 16 + n → f' k = f k := fun k h1 h2 => hfk k h2 (by simp only [List.mem_cons, List.not_mem_nil, or_false]; omega)
    have hgL : ∀ k, 512 ≤ k → k / 32 ≠ 16 + n → g' k = g k := fun k h1 h2 => hgk k h2 (by simp only [List.mem_cons, List.not_mem_nil, or_false]; omega)
    have eF : ∀ ks : List Nat, (∀ k ∈ ks, k < 512 ∧ k ∉ [45, 14, 16, 256, 289, 293, 294, 295, 296, 416, 417, 418]) → eqL ks f f' := fun ks hh k hk => hf9 k (hh k hk).1 (hh k hk).2
    have eG : ∀ ks : List Nat, (∀ k ∈ ks, k < 512 ∧ k ∉ [46, 11, 290, 291, 292, 419, 420, 421, 422, 423, 424]) → eqL ks g g' := fun ks hh k hk => hg9 k (hh k hk).1 (hh k hk).2
    have hV2 := hV.lw L1 L2 L3 pn
    have hlw : ∀ (y : Int) (c : List Cla), LwN E f g y c → LwN E' f' g' y c := fun y c hh => hh.nw hm0 hY.2.2.1 hLn hfL hgL
    refine ⟨by rw [ev2, q1, pr], f2', g2', j2', B'.rf H2 A2, ?_⟩
    refine ⟨?_, ?_, ?_, sV.eq (eF _ (by decide)) (eG _ (by decide)) (yf.on (by decide)) (yg.on (by decide)), sT.mv p256 q13 (by decide) (by decide) (eG _ (by decide)) (yg.on (by decide)), sW.eq (yg.on (by decide)), ⟨p16.trans q2.symm, (hf9 13 (by decide) (by decide)).trans (sG.2.1.trans (yf 6 (by decide)).symm), p14.trans q14.symm, (hf9 15 (by decide) (by decide)).trans (sG.2.2.2.trans (yf 40 (by decide)).symm)⟩, sR.ok p11 q3, ?_⟩
    · unfold cF
      rw [yg 34 (by decide), yf 36 (by decide)]
      refine ⟨?_, ?_, (hf9 192 (by decide) (by decide)).trans hu⟩
      · rw [hf9 32 (by decide) (by decide), hf9 39 (by decide) (by decide), hf9 41 (by decide) (by decide), p45, hf9 47 (by decide) (by decide), hf9 37 (by decide) (by decide), hg9 33 (by decide) (by decide), hg9 34 (by decide) (by decide), hg9 35 (by decide) (by decide), hg9 36 (by decide) (by decide), hg9 38 (by decide) (by decide), hg9 40 (by decide) (by decide), hg9 42 (by decide) (by decide), hg9 43 (by decide) (by decide), hg9 44 (by decide) (by decide), ← e79]
        exact hV2
      · rw [hg9 193 (by decide) (by decide), hg9 194 (by decide) (by decide), hg9 195 (by decide) (by decide)]
        exact hG.cg hV2.1 (fun _ _ _ => ⟨rfl, rfl, rfl⟩) (fun _ _ _ => rfl) (fun q q0 q1 => L1 q (by omega)) (L1 76 (by decide))
    · unfold cL
      rw [p46]
      refine ⟨fun q q0 q1 => ?_, fun t t0 t1 => ?_⟩
      · by_cases z : q = g2 2 79
        · rw [z, iu_self]
          refine Or.inr ⟨by omega, ?_, ?_, by omega, by omega⟩
          · rw [show ((16 + n : Nat) : Int).toNat = 16 + n by omega]; exact hY.2.1
          · rw [show ((16 + n : Nat) : Int).toNat = 16 + n by omega]; exact cls16 (by omega)
        · rw [iu_ne z]; exact (sL.1 q q0 q1).mono hY.2.2.1
      · rw [L2] at t1
        by_cases z : t = g2 2 79
        · rw [z, iu_self]
          exact ⟨cl, L4, LwN_new sT.2.1.1 hx (by omega) hY.2.1 pa pb pR pl3 pl8⟩
        · obtain ⟨c, l1, l2⟩ := sL.2 t t0 (by omega)
          refine ⟨c, L5 t c t0 (by omega) z l1, ?_⟩
          rw [iu_ne z]
          exact hlw _ _ l2
    · unfold cI
      rw [yg 3 (by decide), yg 4 (by decide)]
      intro k k0 k1
      rw [hg9 3 (by decide) (by decide)]
      rcases sI k k0 k1 with z | ⟨z1, z2, z3, z4, z5⟩
      · refine Or.inl ⟨z.1, ?_, z.2.2⟩
        cases hq : E'.2.1 (4 + k.toNat) with
        | false => rfl
        | true =>
          rcases hY.1 _ hq with y | y
          · exfalso; omega
          · rw [z.2.1] at y; cases y
      · have nf : ∀ q, 128 ≤ q → q < 192 → f' q = f q := fun q h1 h2 => hf9 q (by omega) (by simp only [List.mem_cons, List.not_mem_nil, or_false]; omega)
        have ng : ∀ q, 128 ≤ q → q < 192 → g' q = g q := fun q h1 h2 => hg9 q (by omega) (by simp only [List.mem_cons, List.not_mem_nil, or_false]; omega)
        refine Or.inr ⟨z1, hY.2.2.1 _ z2, z3, ?_, ?_⟩
        · rw [nf (32 * (4 + k.toNat) + 0) (by omega) (by omega), nf (32 * (4 + k.toNat) + 7) (by omega) (by omega), nf (32 * (4 + k.toNat) + 9) (by omega) (by omega), nf (32 * (4 + k.toNat) + 13) (by omega) (by omega), nf (32 * (4 + k.toNat) + 15) (by omega) (by omega), nf (32 * (4 + k.toNat) + 5) (by omega) (by omega), ng (32 * (4 + k.toNat) + 1) (by omega) (by omega), ng (32 * (4 + k.toNat) + 2) (by omega) (by omega), ng (32 * (4 + k.toNat) + 3) (by omega) (by omega), ng (32 * (4 + k.toNat) + 4) (by omega) (by omega), ng (32 * (4 + k.toNat) + 6) (by omega) (by omega), ng (32 * (4 + k.toNat) + 8) (by omega) (by omega), ng (32 * (4 + k.toNat) + 10) (by omega) (by omega), ng (32 * (4 + k.toNat) + 11) (by omega) (by omega), ng (32 * (4 + k.toNat) + 12) (by omega) (by omega)]
          exact z4
        · rw [ng (32 * (4 + k.toNat) + 14) (by omega) (by omega)]
          refine ⟨fun q q0 q1 => (z5.1 q q0 q1).mono hY.2.2.1, fun t t0 t1 => ?_⟩
          obtain ⟨c, l1, l2⟩ := z5.2 t t0 t1
          exact ⟨c, l1, hlw _ _ l2⟩
    · refine ⟨fun q hq => ?_, fun k i h1 h2 h3 h4 => ?_⟩
      · rcases hY.1 q hq with z | z
        · omega
        · have := sN.1 q z; omega
      · by_cases hkm : k / 32 = 16 + n
        · exfalso
          have hc4 : cCls (k / 32) = 4 := cls16 (by omega)
          unfold cTag at h2 h3 h4
          rw [hc4] at h2 h3 h4
          exact tg4 _ ⟨h2, h3, h4⟩
        · have hkE : E.2.1 (k / 32) = true := by
            rcases hY.1 _ h1 with z | z
            · exact absurd z hkm
            · exact z
          by_cases h46 : k = 46
          · subst h46
            rw [p46]
            by_cases z : (i : Int) = g2 2 79
            · rw [z, iu_self]
              right
              rw [show ((16 + n : Nat) : Int).toNat = 16 + n by omega]; exact hY.2.1
            · rw [iu_ne z]
              rcases sN.2 46 i hkE h2 h3 h4 with y | y
              · exact Or.inl y
              · exact Or.inr (hY.2.2.1 _ y)
          · have hkl : k ∉ [46, 11, 290, 291, 292, 419, 420, 421, 422, 423, 424] := by
              intro hh
              simp only [List.mem_cons, List.not_mem_nil, or_false] at hh
              rcases hh with z | z | z | z | z | z | z | z | z | z | z
              · exact h46 z
              all_goals (rw [z] at h3; exact h3 rfl)
            rw [hgk k hkm hkl]
            rcases sN.2 k i hkE h2 h3 h4 with y | y
            · exact Or.inl y
            · exact Or.inr (hY.2.2.1 _ y)

