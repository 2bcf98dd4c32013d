/-! ===== the class and the reference alike: row, evenings, back, orders ===== -/
set_option maxHeartbeats 1000000 in
theorem s_row {l : Launch} {o : Nat} {ar : Nat → Nat} {E : cE} {f : mF} {g j : mA} {f2 : mF} {g2 j2 : mA} {n : Nat} {h : zH} (hn : n ≤ 1000) (S : Sim E f g f2 g2 n) (B : BH E f g j o ar f2 g2 j2 h) : Cal l o ar E f2 g2 j2 n h MX7_row MX8_row [] vI zIn := by
  obtain ⟨⟨hV, hG, hu⟩, sL, sI, sV, sT, sW, sG, sR, sN⟩ := id S
  obtain ⟨hK, ⟨e76, e77, e78, e79, e80⟩, hP, hz, hMt, hLt, hsk, t0, t1, t2⟩ := id hV
  have hS : z31 (f 354) := ⟨B.1.2.2.2.2.2.2.1.2, (B.1.2.2.2.2.2.2.1.1 354).2⟩
  have hbR : ∀ i, g 11 i ≤ 100000 := fun i => by have := sR.2.1 i; omega
  have hbX : ∀ i, g2 1 i ≤ 100000 := fun i => by have := sR.2.2 i; omega
  have hu16 := hG.1
  have h10 := hK.1
  refine Cal.of B (c_row (K := g2 2) (tp := g2 11) (dp := f 37) rfl rfl rfl rfl rfl rfl e76 sT.1 sG.2.1 rfl hu hbR sT.2.1.1 sT.2.1.2 h10.1 h10.2 sT.2.2 hP hz) (m_row rfl rfl rfl rfl rfl rfl hbX h10.1 h10.2 sT.2.1.1 sT.2.1.2) (by decide) (by decide) (fun r f' g' j' r2 f2' g2' j2' p q => ?_)
  obtain ⟨p, xf, xg, -⟩ := p
  obtain ⟨q, yf, yg, -⟩ := q
  rcases p with ⟨p0, p1, p2, p3, p4, p5, p6, p7, p8, p9, pa, pb⟩ | ⟨p0, p1, p2, p3, p4, p5, p6, p7, p8⟩ <;> rcases q with ⟨q0, ⟨q1, q2, q3⟩, q4, q5, q6, q7⟩ | ⟨q0, q4, q7, ⟨q1, q2, q3⟩, q5, q6⟩ <;> first | exact absurd p0 q0 | exact absurd q0 p0 | skip
  · have xf := ((xf.dr 32 (p5.trans e76.symm)).dr 13 (pa.trans sG.2.1.symm)).dr 192 (pb.trans hu.symm)
    have xg := (((xg.dr 33 p6).dr 34 p7).dr 35 p8).dr 36 p9
    have yf := (yf.dr 6 q6).dr 36 q7
    have yg := yg.dr 2 q5
    exact ⟨p1.trans q1.symm, S.1.eq (xf.on (by decide)) (xg.on (by decide)) (yf.on (by decide)) (yg.on (by decide)), sL.eq xf xg (by decide) (by decide) (xg.on (by decide)) (yg.on (by decide)), sI.eq xf xg (by decide) (by decide) (yg.on (by decide)), sV.eq (xf.on (by decide)) (xg.on (by decide)) (yf.on (by decide)) (yg.on (by decide)), sT.mv p4 q4 (by decide) (by decide) (xg.on (by decide)) (yg.on (by decide)), sW.eq (yg.on (by decide)), sG.st p2 q2 (xf.on (by decide)) (yf.on (by decide)), sR.bu p3 q3 (by decide), sN.eq xg (by decide)⟩
  · have hrt := rowN_top (tp := g2 11) (y := if f2 13 % 4 = 0 then 0 else 1) hK (f2 13 / 4).toNat
    have hr6 := (rowN_76 (tp := g2 11) (c := 0) (s := if f2 13 % 4 = 0 then 0 else 1) h10.1 h10.2 (f2 13 / 4).toNat).1
    refine ⟨p1.trans q1.symm, ?_, sL.mv xf xg (by decide) (by decide) (xg.on (by decide)) (by rw [q5]; exact hrt.2 79 (by decide)) (fun i hi => by rw [q5]; exact hrt.2 i (by omega)), sI.eq xf xg (by decide) (by decide) (yg.on (by decide)), sV.eq (xf.on (by decide)) (xg.on (by decide)) (yf.on (by decide)) (yg.on (by decide)), sT.mv p4 q4 (by decide) (by decide) (xg.on (by decide)) (yg.on (by decide)), sW.eq (yg.on (by decide)), ⟨by rw [p2, q2], by rw [p7, q6], (xf 14 (by decide)).trans (sG.2.2.1.trans (yf 14 (by decide)).symm), (xf 15 (by decide)).trans (sG.2.2.2.trans (yf 40 (by decide)).symm)⟩, sR.ok p3 q3, sN.eq xg (by decide)⟩
    unfold cF
    rw [q5, q7, yg 34 (by decide)]
    refine ⟨?_, LogK.nil, p5⟩
    have top : ∀ q, (20 ≤ q ∧ q < 29) ∨ (59 ≤ q ∧ q ≠ 76) → (rowN (g2 11) (g2 2, 0, if f2 13 % 4 = 0 then 0 else 1) (f2 13 / 4).toNat).1 q = g2 2 q := hrt.2
    have hk9 : KOK (rowN (g2 11) (g2 2, 0, if f2 13 % 4 = 0 then 0 else 1) (f2 13 / 4).toNat).1 := hrt.1
    have hr7 : g2 2 76 ≤ (rowN (g2 11) (g2 2, 0, if f2 13 % 4 = 0 then 0 else 1) (f2 13 / 4).toNat).1 76 := hr6
    have h77 := hK.2.2.2.2.1
    have h78 := hK.2.2.2.2.2.2.1
    generalize (rowN (g2 11) (g2 2, 0, if f2 13 % 4 = 0 then 0 else 1) (f2 13 / 4).toNat).1 = K9 at *
    refine ⟨hk9, ⟨p6, by rw [xf 39 (by decide), top 77 (by decide)]; exact e77, by rw [xf 41 (by decide), top 78 (by decide)]; exact e78, by rw [xf 45 (by decide), top 79 (by decide)]; exact e79, by rw [xf 47 (by decide), top 80 (by decide)]; exact e80⟩, by rw [xf 37 (by decide)]; exact p8, by rw [xf 37 (by decide)]; exact fun i i0 i1 => hz i (by omega) i1, fun k k0 k1 => by rw [xg 38 (by decide), top (20 + k) (by omega)]; exact hMt k k0 k1, fun i i0 i1 => ?_, fun i i0 i1 => ?_, by rw [xg 44 (by decide), top 28 (by decide)]; exact t0, by rw [xg 44 (by decide), top 74 (by decide)]; exact t1, by rw [xg 44 (by decide), top 75 (by decide)]; exact t2⟩
    · rw [top 77 (by decide)] at i1
      rw [xg 40 (by decide), top (59 + i) (by omega)]; exact hLt i i0 i1
    · rw [top 78 (by decide)] at i1
      rw [xg 42 (by decide), xg 43 (by decide), top (62 + 2 * i) (by omega), top (62 + 2 * i + 1) (by omega)]; exact hsk i i0 i1
theorem nd_cpy {gm : List Nat} {E : cE} {g g' : mA} {n : Nat} {k0 k2 : Nat} (h : NdR E g n) (xg : eqx gm g g') (e : g' k0 = cpy (g k0) (g k2) 0 0 6) (h2 : E.2.1 (k2 / 32) = true) (t2 : tgR k2 = true) (hg : ∀ k ∈ gm, tgR k = false ∨ k = k0) : NdR E g' (n + 1) := by
  refine h.cp xg (fun k hk => ?_)
  rcases hg k hk with z | z
  · exact Or.inl z
  · right
    intro i
    subst z
    rw [e]
    unfold cpy
    split
    · exact Or.inr ⟨k2, h2, t2, by rw [show (i : Int) - 0 + 0 = i by omega]⟩
    · exact Or.inl rfl
set_option maxHeartbeats 1000000 in
theorem s_evenings {l : Launch} {o : Nat} {ar : Nat → Nat} {E : cE} {f : mF} {g j : mA} {f2 : mF} {g2 j2 : mA} {n : Nat} {h : zH} {sd m : Int} (hsd : zIn sd) (hm : zIn m) (hn : n ≤ 1000) (S : Sim E f g f2 g2 n) (B : BH E f g j o ar f2 g2 j2 h) : Cal l o ar E f2 g2 j2 n h MX7_evenings MX8_evenings [vI sd, vI m] vI zIn := by
  obtain ⟨cl, hLK, hLN⟩ := S.law
  obtain ⟨⟨hV, hG, hu⟩, sL, sI, sV, sT, sW, sG, sR, sN⟩ := id S
  obtain ⟨hK, ⟨e76, e77, e78, e79, e80⟩, hP, hz, hMt, hLt, hsk, t0, t1, t2⟩ := id hV
  have hS : z31 (f 354) := ⟨B.1.2.2.2.2.2.2.1.2, (B.1.2.2.2.2.2.2.1.1 354).2⟩
  have hbR : ∀ i, g 11 i ≤ 100000 := fun i => by have := sR.2.1 i; omega
  have hbX : ∀ i, g2 1 i ≤ 100000 := fun i => by have := sR.2.2 i; omega
  have hu16 := hG.1
  have h10 := hK.1
  refine Cal.of B (c_evenings (K := g2 2) (cl := cl) rfl rfl rfl rfl rfl rfl rfl rfl rfl rfl rfl rfl rfl e76 rfl rfl rfl e79 e80 rfl rfl rfl rfl hsd hm hLN hK hP hS t0 t2 hMt hbR hz sL.1) (m_evenings (K := g2 2) (cl := cl) rfl rfl rfl rfl rfl hsd hm hbX hK hLK) (by decide) (by decide) (fun r f' g' j' r2 f2' g2' j2' p q => ?_)
  obtain ⟨p, xf, xg, -⟩ := p
  obtain ⟨⟨q, qK⟩, yf, yg, -⟩ := q
  have yg := yg.dr 2 qK
  have same : cF f' g' f2' g2' := S.1.eq (xf.on (by decide)) (xg.on (by decide)) (yf.on (by decide)) (yg.on (by decide))
  have sL2 := sL.eq xf xg (by decide) (by decide) (xg.on (by decide)) (yg.on (by decide))
  have sI2 := sI.eq xf xg (by decide) (by decide) (yg.on (by decide))
  have sT2 := sT.eq (xf.on (by decide)) (xg.on (by decide)) (yf.on (by decide)) (yg.on (by decide))
  have sW2 := sW.eq (yg.on (by decide))
  rcases p with ⟨p0, p1, p2, p3, p4, p5, p6, p7⟩ | ⟨p0, pn, p1, p2, p3, p4, p5, p6, p7⟩ | ⟨p0, pn, p1, p2, p3, p4, p7, Tm9, p5⟩ <;> rcases q with ⟨q0, ⟨q1, q2, q3⟩, q4, q5⟩ | ⟨q0, qn, ⟨q1, q2, q3⟩, q4, q5⟩ | ⟨q0, qn, ⟨q1, q2, q3⟩, q4, q5⟩ <;> first | exact absurd p0 q0 | exact absurd q0 p0 | exact absurd pn qn | exact absurd qn pn | skip
  · exact ⟨p1.trans q1.symm, same, sL2, sI2, by unfold cV; rw [p4, p5, p6, q4, q5]; exact sV, sT2, sW2, sG.st p2 q2 (xf.on (by decide)) (yf.on (by decide)), sR.bu p3 q3 (by decide), sN.eq (xg.dr 110 p7) (by decide)⟩
  · exact ⟨p1.trans q1.symm, same, sL2, sI2, by unfold cV; rw [p4, p5, p6, q4, q5]; exact sV, sT2, sW2, sG.st p2 q2 (xf.on (by decide)) (yf.on (by decide)), sR.bu p3 q3 (by decide), sN.eq (xg.dr 110 p7) (by decide)⟩
  · refine ⟨p1.trans q1.symm, same, sL2, sI2, ?_, sT2, sW2, sG.st p2 q2 (xf.on (by decide)) (yf.on (by decide)), sR.ok p3 q3, nd_cpy sN xg p7 (B.1.2.2.2.1 1 (by decide) (by decide) (by decide)) rfl (by decide)⟩
    have hev := evN_ok (s := sd) hK pn (by omega) (by omega) m.toNat
    have h76 := hev.2.1 76 (by decide)
    obtain ⟨v1, v2, v3, v4, v5⟩ := p5
    have hk9 := hev.1
    unfold cV
    refine ⟨v1, Or.inr ⟨by rw [q5, p4], by rw [p4]; exact h10, fun i i0 i1 => ?_, fun k k0 k1 => ?_⟩⟩
    · rw [p4] at i1
      rw [q4 i i0 (by omega)]
      have hx := v2 i i0 (by omega)
      have hy := (hk9.2.1 i i0 (by omega)).1
      unfold b2i
      split
      · rename_i hh; exact hx.mp hh
      · rename_i hh
        rcases hy with z | z
        · exact z
        · exact absurd (hx.mpr z) hh
    · rw [q4 (20 + k) (by omega) (by omega)]
      exact v3 k k0 k1

set_option maxHeartbeats 1000000 in
theorem s_back {l : Launch} {o : Nat} {ar : Nat → Nat} {E : cE} {f : mF} {g j : mA} {f2 : mF} {g2 j2 : mA} {n : Nat} {h : zH} {k : Int} (hk : zIn k) (hn : n ≤ 1000) (S : Sim E f g f2 g2 n) (B : BH E f g j o ar f2 g2 j2 h) : Cal l o ar E f2 g2 j2 n h MX7_back MX8_back [vI k] vI zIn := by
  obtain ⟨⟨hV, hG, hu⟩, sL, sI, sV, sT, sW, sG, sR, sN⟩ := id S
  obtain ⟨hK, ⟨e76, e77, e78, e79, e80⟩, hP, hz, hMt, hLt, hsk, t0, t1, t2⟩ := id hV
  have hS : z31 (f 354) := ⟨B.1.2.2.2.2.2.2.1.2, (B.1.2.2.2.2.2.2.1.1 354).2⟩
  have hbR : ∀ i, g 11 i ≤ 100000 := fun i => by have := sR.2.1 i; omega
  have hbX : ∀ i, g2 1 i ≤ 100000 := fun i => by have := sR.2.2 i; omega
  have hu16 := hG.1
  have hX : ∀ k : Int, 0 ≤ k → k ≤ 1 → (g 3 k = -1 ∧ True) ∨ (g 3 k = 4 + k ∧ E.2.1 (4 + k.toNat) = true ∧ ∀ q : Int, 0 ≤ q → q < 6 → okR E 4 (g (32 * (4 + k.toNat) + 14) q)) := by
    intro k k0 k1
    rcases sI k k0 k1 with z | z
    · exact Or.inl ⟨z.1, trivial⟩
    · exact Or.inr ⟨z.1, z.2.1, z.2.2.2.2.1⟩
  refine Cal.of B (c_back rfl rfl rfl hk hbR hX) (m_back rfl rfl rfl rfl rfl hk hbX) (by decide) (by decide) (fun r f' g' j' r2 f2' g2' j2' p q => ?_)
  obtain ⟨p, xf, xg, -⟩ := p
  obtain ⟨q, yf, yg, -⟩ := q
  have hone : 0 ≤ k ∧ k ≤ 1 → (g 3 k = -1 ∧ g2 4 k = 0) ∨ (g 3 k = 4 + k ∧ g2 4 k ≠ 0) := by
    intro hk9
    rcases sI k hk9.1 hk9.2 with z | z
    · exact Or.inl ⟨z.1, z.2.2⟩
    · exact Or.inr ⟨z.1, z.2.2.1⟩
  rcases p with ⟨pp, p2, p3, zf, zg⟩ | ⟨p0, pn, p1, p2, p4, p3, pb⟩
  · rcases q with ⟨q0, ⟨q1, q2, q3⟩, q4, q5⟩ | ⟨q0, qn, ⟨q1, q2, q3⟩, q4, q5⟩ | ⟨q0, q7, ⟨q1, q2, q3⟩, q4, q5⟩
    · have p1 : r = -1 := by rcases pp with z | z <;> omega
      rw [p1] at p2 p3
      have yf := yf.dr 36 q5
      have yg := yg.dr 2 q4
      exact ⟨p1.trans q1.symm, S.mk0 zf zg yf yg (S.1.eq (zf.on (by decide)) (zg.on (by decide)) (yf.on (by decide)) (yg.on (by decide))) (zg 46 (by decide)) (congrFun (yg 2 (by decide)) 79) (fun i _ => congrFun (yg 2 (by decide)) i) (sG.st p2 q2 (zf.on (by decide)) (yf.on (by decide))) (sR.bu p3 q3 (by decide)) (by decide) (by decide) (by decide) (by decide)⟩
    · have p1 : r = -2 := by rcases pp with z | z <;> omega
      rw [p1] at p2 p3
      have yf := yf.dr 36 q5
      have yg := yg.dr 2 q4
      exact ⟨p1.trans q1.symm, S.mk0 zf zg yf yg (S.1.eq (zf.on (by decide)) (zg.on (by decide)) (yf.on (by decide)) (yg.on (by decide))) (zg 46 (by decide)) (congrFun (yg 2 (by decide)) 79) (fun i _ => congrFun (yg 2 (by decide)) i) (sG.st p2 q2 (zf.on (by decide)) (yf.on (by decide))) (sR.bu p3 q3 (by decide)) (by decide) (by decide) (by decide) (by decide)⟩
    · exfalso
      have := hone q0
      rcases pp with z | z <;> omega
  · have h9 := hone p0
    rcases q with ⟨q0, ⟨q1, q2, q3⟩, q4, q5⟩ | ⟨q0, qn, ⟨q1, q2, q3⟩, q4, q5⟩ | ⟨q0, q7, ⟨q1, q2, q3⟩, q4, q5⟩
    · exact absurd p0 q0
    · exfalso; omega
    rcases (show k = 0 ∨ k = 1 by omega) with hkk | hkk
    · subst hkk
      obtain ⟨i1, i2, i3, iV, iL⟩ : g 3 0 = 4 + 0 ∧ E.2.1 4 = true ∧ g2 4 0 ≠ 0 ∧ FrK E f g 4 (fun i => g2 3 (5688 * 0 + i)) := by
        rcases sI 0 (by decide) (by decide) with z | z
        · exact absurd z.2.2 (by first | exact q7 | exact qn)
        · exact z
      obtain ⟨b0, b5, b7, b9, b13, b15, b1, b2, b3, b4, b6, b8, b10, b11, b12, b14⟩ : f' 32 = f 128 ∧ f' 37 = f 133 ∧ f' 39 = f 135 ∧ f' 41 = f 137 ∧ f' 45 = f 141 ∧ f' 47 = f 143 ∧ g' 33 = cpy (g 33) (g 129) 0 0 10 ∧ g' 34 = cpy (g 34) (g 130) 0 0 10 ∧ g' 35 = cpy (g 35) (g 131) 0 0 10 ∧ g' 36 = cpy (g 36) (g 132) 0 0 10 ∧ g' 38 = cpy (g 38) (g 134) 0 0 8 ∧ g' 40 = cpy (g 40) (g 136) 0 0 3 ∧ g' 42 = cpy (g 42) (g 138) 0 0 6 ∧ g' 43 = cpy (g 43) (g 139) 0 0 6 ∧ g' 44 = cpy (g 44) (g 140) 0 0 3 ∧ g' 46 = cpy (g 46) (g 142) 0 0 6 := pb
      have eK : ∀ q, 0 ≤ q → q < 5688 → g2' 2 q = g2 3 (5688 * 0 + q) := by
        intro q q0 q1
        rw [q4]
        unfold cpy
        rw [if_pos (by omega), show q - 0 + 5688 * 0 = 5688 * 0 + q by omega]
      have hK9 : KOK (g2' 2) := KOK.cg0 iV.1 (fun q q0 q1 => eK q q0 (by omega))
      have h79 := iV.1.2.2.2.2.2.2.2.2.2.2.1
      refine ⟨p1.trans q1.symm, ?_, ?_, sI.eq xf xg (by decide) (by decide) (yg.on (by decide)), sV.eq (xf.on (by decide)) (xg.on (by decide)) (yf.on (by decide)) (yg.on (by decide)), sT.eq (xf.on (by decide)) (xg.on (by decide)) (yf.on (by decide)) (yg.on (by decide)), sW.eq (yg.on (by decide)), sG.st p2 q2 (xf.on (by decide)) (yf.on (by decide)), sR.ok p3 q3, nd_cpy sN xg b14 i2 rfl (by decide)⟩
      · unfold cF
        rw [q5, yg 34 (by decide)]
        refine ⟨?_, LogK.nil, p4⟩
        rw [b0, b5, b7, b9, b13, b15, b1, b2, b3, b4, b6, b8, b10, b11, b12]
        exact FrV.cg (FrV.cp iV) (fun q q0 q1 => eK q q0 (by omega)) hK9
      · unfold cL
        rw [b14]
        refine ⟨fun q q0 q1 => by rw [cpy_at q0 q1]; exact iL.1 q q0 q1, fun t t0 t1 => ?_⟩
        rw [eK 79 (by decide) (by decide)] at t1
        obtain ⟨cl, l1, l2⟩ := iL.2 t t0 t1
        have h79 : g2 3 (5688 * 0 + 79) ≤ 6 := h79.2
        refine ⟨cl, LawAt_cg l1 (eK _ (by omega) (by omega)) (fun i i0 i1 => ⟨eK _ (by omega) (by omega), eK _ (by omega) (by omega)⟩), ?_⟩
        rw [cpy_at t0 (by omega)]
        exact LwN_fr l2 xf xg (by decide) (by decide)
    · subst hkk
      obtain ⟨i1, i2, i3, iV, iL⟩ : g 3 1 = 4 + 1 ∧ E.2.1 5 = true ∧ g2 4 1 ≠ 0 ∧ FrK E f g 5 (fun i => g2 3 (5688 * 1 + i)) := by
        rcases sI 1 (by decide) (by decide) with z | z
        · exact absurd z.2.2 (by first | exact q7 | exact qn)
        · exact z
      obtain ⟨b0, b5, b7, b9, b13, b15, b1, b2, b3, b4, b6, b8, b10, b11, b12, b14⟩ : f' 32 = f 160 ∧ f' 37 = f 165 ∧ f' 39 = f 167 ∧ f' 41 = f 169 ∧ f' 45 = f 173 ∧ f' 47 = f 175 ∧ g' 33 = cpy (g 33) (g 161) 0 0 10 ∧ g' 34 = cpy (g 34) (g 162) 0 0 10 ∧ g' 35 = cpy (g 35) (g 163) 0 0 10 ∧ g' 36 = cpy (g 36) (g 164) 0 0 10 ∧ g' 38 = cpy (g 38) (g 166) 0 0 8 ∧ g' 40 = cpy (g 40) (g 168) 0 0 3 ∧ g' 42 = cpy (g 42) (g 170) 0 0 6 ∧ g' 43 = cpy (g 43) (g 171) 0 0 6 ∧ g' 44 = cpy (g 44) (g 172) 0 0 3 ∧ g' 46 = cpy (g 46) (g 174) 0 0 6 := pb
      have eK : ∀ q, 0 ≤ q → q < 5688 → g2' 2 q = g2 3 (5688 * 1 + q) := by
        intro q q0 q1
        rw [q4]
        unfold cpy
        rw [if_pos (by omega), show q - 0 + 5688 * 1 = 5688 * 1 + q by omega]
      have hK9 : KOK (g2' 2) := KOK.cg0 iV.1 (fun q q0 q1 => eK q q0 (by omega))
      have h79 := iV.1.2.2.2.2.2.2.2.2.2.2.1
      refine ⟨p1.trans q1.symm, ?_, ?_, sI.eq xf xg (by decide) (by decide) (yg.on (by decide)), sV.eq (xf.on (by decide)) (xg.on (by decide)) (yf.on (by decide)) (yg.on (by decide)), sT.eq (xf.on (by decide)) (xg.on (by decide)) (yf.on (by decide)) (yg.on (by decide)), sW.eq (yg.on (by decide)), sG.st p2 q2 (xf.on (by decide)) (yf.on (by decide)), sR.ok p3 q3, nd_cpy sN xg b14 i2 rfl (by decide)⟩
      · unfold cF
        rw [q5, yg 34 (by decide)]
        refine ⟨?_, LogK.nil, p4⟩
        rw [b0, b5, b7, b9, b13, b15, b1, b2, b3, b4, b6, b8, b10, b11, b12]
        exact FrV.cg (FrV.cp iV) (fun q q0 q1 => eK q q0 (by omega)) hK9
      · unfold cL
        rw [b14]
        refine ⟨fun q q0 q1 => by rw [cpy_at q0 q1]; exact iL.1 q q0 q1, fun t t0 t1 => ?_⟩
        rw [eK 79 (by decide) (by decide)] at t1
        obtain ⟨cl, l1, l2⟩ := iL.2 t t0 t1
        have h79 : g2 3 (5688 * 1 + 79) ≤ 6 := h79.2
        refine ⟨cl, LawAt_cg l1 (eK _ (by omega) (by omega)) (fun i i0 i1 => ⟨eK _ (by omega) (by omega), eK _ (by omega) (by omega)⟩), ?_⟩
        rw [cpy_at t0 (by omega)]
        exact LwN_fr l2 xf xg (by decide) (by decide)

