/-! ===== the class and the reference alike: deeds, row, evenings, back, orders ===== -/
theorem KOK.cg0 {K K' : Int → Int} (h : KOK K) (e : ∀ q, 0 ≤ q → q < 81 → K' q = K q) : KOK K' := by
  obtain ⟨hn, hf, hm, hs, hl0, hl, hs0, hs1, h74, h75, h79, h80⟩ := h
  have e76 := e 76 (by decide) (by decide)
  have e77 := e 77 (by decide) (by decide)
  have e78 := e 78 (by decide) (by decide)
  refine ⟨by rw [e76]; exact hn, fun i i0 i1 => ?_, fun k k0 k1 => by rw [e (20 + k) (by omega) (by omega)]; exact hm k k0 k1, by rw [e 28 (by decide) (by decide)]; exact hs, by rw [e77]; exact hl0, fun i i0 i1 => ?_, by rw [e78]; exact hs0, fun i i0 i1 => ?_, by rw [e 74 (by decide) (by decide)]; exact h74, by rw [e 75 (by decide) (by decide)]; exact h75, by rw [e 79 (by decide) (by decide)]; exact h79, by rw [e 80 (by decide) (by decide), e 79 (by decide) (by decide)]; exact h80⟩
  · rw [e76] at i1
    rw [e i (by omega) (by omega), e (10 + i) (by omega) (by omega), e (29 + i) (by omega) (by omega), e (39 + i) (by omega) (by omega), e (49 + i) (by omega) (by omega)]
    exact hf i i0 i1
  · rw [e77] at i1
    rw [e (59 + i) (by omega) (by omega)]; exact hl i i0 i1
  · rw [e78] at i1
    rw [e (62 + 2 * i) (by omega) (by omega), e (62 + 2 * i + 1) (by omega) (by omega)]; exact hs1 i i0 i1
theorem if_n {a b : Int} (h : a < 0) : (if a < 0 then a else b) = a := if_pos h
theorem gneg {v r : Int} {f' : mF} {g' : mA} {X1 : Int → Int} (h : mGood v r f' g' X1) (hv : v < 0) : r = v ∧ f' 0 = v ∧ g' 1 = bump X1 v := by
  rcases h with h | h
  · exact h.2
  · exact absurd h.1 (by omega)
theorem gpos {v r : Int} {f' : mF} {g' : mA} {X1 : Int → Int} (h : mGood v r f' g' X1) (hv : 0 ≤ v) : r = v ∧ f' 0 = 0 ∧ g' 1 = X1 := by
  rcases h with h | h
  · exact absurd h.1 (by omega)
  · exact h.2

set_option maxHeartbeats 1000000 in
theorem s_light {l : Launch} {o : Nat} {ar : Nat → Nat} {E : cE} {f : mF} {g j : mA} {f2 : mF} {g2 j2 : mA} {n : Nat} {h : zH} {k : Int} (hk : zIn k) (hn : n ≤ 1000) (S : Sim E f g f2 g2 n) (B : BH E f g j o ar f2 g2 j2 h) : Cal l o ar E f2 g2 j2 n h MX7_light MX8_light [vI k] vI zIn := by
  obtain ⟨⟨hV, hG, hu⟩, sL, sI, sV, sT, sW, sG, sR, sN⟩ := id S
  obtain ⟨hK, ⟨e76, e77, e78, e79, e80⟩, hP, hz, hMt, hLt, hsk, t0, t1, t2⟩ := id hV
  have hS : z31 (f 354) := ⟨B.1.2.2.2.2.2.2.1.2, (B.1.2.2.2.2.2.2.1.1 354).2⟩
  have hbR : ∀ i, g 11 i ≤ 100000 := fun i => by have := sR.2.1 i; omega
  have hbX : ∀ i, g2 1 i ≤ 100000 := fun i => by have := sR.2.2 i; omega
  have hu16 := hG.1
  refine Cal.of B (c_light rfl rfl rfl rfl rfl rfl hu rfl hk hu16.1 hu16.2 (by rw [t0]; exact hK.2.2.2.1.1) hbR) (m_light rfl rfl rfl rfl hk hbX hu16.1 hu16.2 hK.2.2.2.1) (by decide) (by decide) (fun r f' g' j' r2 f2' g2' j2' p q => ?_)
  obtain ⟨p, xf, xg, -⟩ := p
  obtain ⟨q, yf, yg, -⟩ := q
  obtain ⟨p, e16, e11⟩ := p
  obtain ⟨v, q, hg⟩ := q
  have hm := hMt k
  have h28 := hK.2.2.2.1
  rcases p with ⟨p0, p1, p4, p5, p6, p7, p8⟩ | ⟨p0, pm, p1, p4, p5, p6, p7, p8⟩ | ⟨p0, pm, p1, p4, p5, p6, p7, p8⟩ <;> rcases q with ⟨q0, q1, q2, q3, q4⟩ | ⟨q0, qm, q1, q2, q3, q4⟩ | ⟨q0, qm, q1, q2, q3, q4⟩ <;> first | (exfalso; clear e16 e11 hg; omega) | (exfalso; have := hm p0.1 p0.2; clear e16 e11 hg; omega) | skip
  ·
    have hg := gneg hg (by omega)
    have e16 := e16.trans (if_pos (by omega))
    have e11 := e11.trans (if_pos (by omega))
    rw [q1] at hg
    rw [p1] at e16 e11
    have xf := xf.dr 192 (p5.trans hu.symm)
    have xg := (((xg.dr 38 p4).dr 193 p6).dr 194 p7).dr 195 p8
    have yf := yf.dr 36 q4
    have yg := (yg.dr 2 q2).dr 34 q3
    exact ⟨p1.trans hg.1.symm, S.mk0 xf xg yf yg (S.1.eq (xf.on (by decide)) (xg.on (by decide)) (yf.on (by decide)) (yg.on (by decide))) (xg 46 (by decide)) (congrFun (yg 2 (by decide)) 79) (fun i _ => congrFun (yg 2 (by decide)) i) (sG.st e16 hg.2.1 (xf.on (by decide)) (yf.on (by decide))) (sR.bu e11 hg.2.2 (by decide)) (by decide) (by decide) (by decide) (by decide)⟩
  ·
    have hg := gneg hg (by omega)
    have e16 := e16.trans (if_pos (by omega))
    have e11 := e11.trans (if_pos (by omega))
    rw [q1] at hg
    rw [p1] at e16 e11
    have xf := xf.dr 192 (p5.trans hu.symm)
    have xg := (((xg.dr 38 p4).dr 193 p6).dr 194 p7).dr 195 p8
    have yf := yf.dr 36 q4
    have yg := (yg.dr 2 q2).dr 34 q3
    exact ⟨p1.trans hg.1.symm, S.mk0 xf xg yf yg (S.1.eq (xf.on (by decide)) (xg.on (by decide)) (yf.on (by decide)) (yg.on (by decide))) (xg 46 (by decide)) (congrFun (yg 2 (by decide)) 79) (fun i _ => congrFun (yg 2 (by decide)) i) (sG.st e16 hg.2.1 (xf.on (by decide)) (yf.on (by decide))) (sR.bu e11 hg.2.2 (by decide)) (by decide) (by decide) (by decide) (by decide)⟩
  ·
    have hg := gpos hg (by omega)
    have e16 := e16.trans (if_neg (by omega))
    have e11 := e11.trans (if_neg (by omega))
    refine ⟨by rw [p1, hg.1, q1, t0], S.mk0 xf xg yf yg (?_) (xg 46 (by decide)) (by rw [q2]; exact iu_ne (by omega)) (fun i hi => by rw [q2]; exact iu_ne (by omega)) (sG.st e16 hg.2.1 (xf.on (by decide)) (yf.on (by decide))) (sR.ok e11 hg.2.2) (by decide) (by decide) (by decide) (by decide)⟩
    unfold cF
    rw [q2, q3, q4]
    refine ⟨?_, ?_, p5⟩
    · rw [xf 32 (by decide), xf 39 (by decide), xf 41 (by decide), xf 45 (by decide), xf 47 (by decide), xf 37 (by decide), xg 33 (by decide), xg 34 (by decide), xg 35 (by decide), xg 36 (by decide), p4, t0, xg 40 (by decide), xg 42 (by decide), xg 43 (by decide), xg 44 (by decide)]
      exact hV.mt p0.1 p0.2 (KOK_lit hK p0.1 p0.2)
    · rw [p6, p7, p8]
      exact hG.push hK (Or.inl ⟨rfl, p0⟩) (fun q hq => iu_ne (by omega)) (by show g2 2 = iu (iu (g2 2) (20 + k) (g2 2 28)) (20 + k) (-1); rw [iu_iu, show (-1 : Int) = g2 2 (20 + k) by omega, iu_same])

set_option maxHeartbeats 1000000 in
theorem s_soak {l : Launch} {o : Nat} {ar : Nat → Nat} {E : cE} {f : mF} {g j : mA} {f2 : mF} {g2 j2 : mA} {n : Nat} {h : zH} {x : Int} (hx : zIn x) (hn : n ≤ 1000) (S : Sim E f g f2 g2 n) (B : BH E f g j o ar f2 g2 j2 h) : Cal l o ar E f2 g2 j2 n h MX7_soak MX8_soak [vI x] vI zIn := by
  obtain ⟨⟨hV, hG, hu⟩, sL, sI, sV, sT, sW, sG, sR, sN⟩ := id S
  obtain ⟨hK, ⟨e76, e77, e78, e79, e80⟩, hP, hz, hMt, hLt, hsk, t0, t1, t2⟩ := id hV
  have hS : z31 (f 354) := ⟨B.1.2.2.2.2.2.2.1.2, (B.1.2.2.2.2.2.2.1.1 354).2⟩
  have hbR : ∀ i, g 11 i ≤ 100000 := fun i => by have := sR.2.1 i; omega
  have hbX : ∀ i, g2 1 i ≤ 100000 := fun i => by have := sR.2.2 i; omega
  have hu16 := hG.1
  refine Cal.of B (c_soak rfl rfl rfl rfl rfl rfl hu rfl hx hu16.1 hu16.2 (by have := hK.1; omega) hP.1 hbR) (m_soak rfl rfl rfl rfl hx hbX hu16.1 hu16.2 hK.1.1 hK.1.2 (fun i i0 i1 => (hK.2.1 i i0 i1).1)) (by decide) (by decide) (fun r f' g' j' r2 f2' g2' j2' p q => ?_)
  obtain ⟨p, xf, xg, -⟩ := p
  obtain ⟨q, yf, yg, -⟩ := q
  obtain ⟨p, e16, e11⟩ := p
  obtain ⟨v, q, hg⟩ := q
  have h10 := hK.1
  rcases p with ⟨p0, p1, p4, p5, p6, p7, p8⟩ | ⟨p0, p1, p4, p5, p6, p7, p8⟩ <;> rcases q with ⟨q0, q1, q2, q3, q4⟩ | ⟨q0, q1, q2, q3, q4⟩ <;> first | (exfalso; clear e16 e11 hg p1; omega) | skip
  ·
    have hg := gneg hg (by omega)
    have e16 := e16.trans (if_pos (by omega))
    have e11 := e11.trans (if_pos (by omega))
    rw [q1] at hg
    rw [p1] at e16 e11
    have xf := (xf.dr 192 (p5.trans hu.symm)).dr 37 p4
    have xg := ((xg.dr 193 p6).dr 194 p7).dr 195 p8
    have yf := yf.dr 36 q4
    have yg := (yg.dr 2 q2).dr 34 q3
    exact ⟨p1.trans hg.1.symm, S.mk0 xf xg yf yg (S.1.eq (xf.on (by decide)) (xg.on (by decide)) (yf.on (by decide)) (yg.on (by decide))) (xg 46 (by decide)) (congrFun (yg 2 (by decide)) 79) (fun i _ => congrFun (yg 2 (by decide)) i) (sG.st e16 hg.2.1 (xf.on (by decide)) (yf.on (by decide))) (sR.bu e11 hg.2.2 (by decide)) (by decide) (by decide) (by decide) (by decide)⟩
  · have hk2 := (hK.2.1 x q0.1 (by omega)).1
    have hV2 := hV.dp q0.1 (show x < g2 2 76 by omega)
    have hb2 := (hV2.2.2.1.2 x q0.1 (by rw [iu_ne (by omega)]; omega)).2.2.2.2
    rw [iu_self] at hb2
    have hrr : r = 1 - g2 2 x := by
      rw [p1]
      unfold b2i
      split
      · rename_i hh; have := hb2.mp hh; omega
      · rename_i hh
        rcases hk2 with z | z
        · exact absurd (hb2.mpr (by omega)) hh
        · omega
    clear hb2 p1
    have hg := gpos hg (by omega)
    have e16 := e16.trans (if_neg (by omega))
    have e11 := e11.trans (if_neg (by omega))
    refine ⟨by rw [hrr, hg.1, q1], S.mk0 xf xg yf yg (?_) (xg 46 (by decide)) (by rw [q2]; exact iu_ne (by omega)) (fun i hi => by rw [q2]; exact iu_ne (by omega)) (sG.st e16 hg.2.1 (xf.on (by decide)) (yf.on (by decide))) (sR.ok e11 hg.2.2) (by decide) (by decide) (by decide) (by decide)⟩
    unfold cF
    rw [q2, q3, q4]
    refine ⟨?_, ?_, p5⟩
    · rw [xf 32 (by decide), xf 39 (by decide), xf 41 (by decide), xf 45 (by decide), xf 47 (by decide), p4, xg 33 (by decide), xg 34 (by decide), xg 35 (by decide), xg 36 (by decide), xg 38 (by decide), xg 40 (by decide), xg 42 (by decide), xg 43 (by decide), xg 44 (by decide)]
      exact hV2
    · rw [p6, p7, p8]
      exact hG.push hK (Or.inr (Or.inl ⟨rfl, q0.1, by omega⟩)) (fun q hq => iu_ne (by omega)) (by show g2 2 = iu (iu (g2 2) x (1 - g2 2 x)) x (1 - iu (g2 2) x (1 - g2 2 x) x); rw [iu_self, iu_iu, show 1 - (1 - g2 2 x) = g2 2 x by omega, iu_same])

set_option maxHeartbeats 1000000 in
theorem s_swap {l : Launch} {o : Nat} {ar : Nat → Nat} {E : cE} {f : mF} {g j : mA} {f2 : mF} {g2 j2 : mA} {n : Nat} {h : zH} {a b : Int} (ha : zIn a) (hb : zIn b) (hn : n ≤ 1000) (S : Sim E f g f2 g2 n) (B : BH E f g j o ar f2 g2 j2 h) : Cal l o ar E f2 g2 j2 n h MX7_swap MX8_swap [vI a, vI b] vI zIn := by
  obtain ⟨⟨hV, hG, hu⟩, sL, sI, sV, sT, sW, sG, sR, sN⟩ := id S
  obtain ⟨hK, ⟨e76, e77, e78, e79, e80⟩, hP, hz, hMt, hLt, hsk, t0, t1, t2⟩ := id hV
  have hS : z31 (f 354) := ⟨B.1.2.2.2.2.2.2.1.2, (B.1.2.2.2.2.2.2.1.1 354).2⟩
  have hbR : ∀ i, g 11 i ≤ 100000 := fun i => by have := sR.2.1 i; omega
  have hbX : ∀ i, g2 1 i ≤ 100000 := fun i => by have := sR.2.2 i; omega
  have hu16 := hG.1
  refine Cal.of B (c_swap rfl rfl rfl rfl rfl rfl hu rfl ha hb hu16.1 hu16.2 (by have := hK.1; omega) (fun i i0 i1 => by have h1 := hP.2 i i0 (by omega); have h2 := hK.2.1 i i0 (by omega); have h3 := h1.2.2.1; omega) hbR) (m_swap rfl rfl rfl rfl ha hb hbX hu16.1 hu16.2 hK.1.1 hK.1.2 (fun i i0 i1 => (hK.2.1 i i0 i1).2.1.1)) (by decide) (by decide) (fun r f' g' j' r2 f2' g2' j2' p q => ?_)
  obtain ⟨p, xf, xg, -⟩ := p
  obtain ⟨q, yf, yg, -⟩ := q
  obtain ⟨p, e16, e11⟩ := p
  obtain ⟨v, q, hg⟩ := q
  have h10 := hK.1
  rcases p with ⟨p0, p1, p4, p5, p6, p7, p8⟩ | ⟨p0, pn, p1, p4, p5, p6, p7, p8⟩ | ⟨p0, pn, p1, p4, p5, p6, p7, p8⟩ <;> rcases q with ⟨q0, q1, q2, q3, q4⟩ | ⟨q0, qn, q1, q2, q3, q4⟩ | ⟨q0, qn, q1, q2, q3, q4⟩ <;> first | exact absurd p0 q0 | exact absurd q0 p0 | (exfalso; clear e16 e11 hg p1; omega) | skip
  ·
    have hg := gneg hg (by omega)
    have e16 := e16.trans (if_pos (by omega))
    have e11 := e11.trans (if_pos (by omega))
    rw [q1] at hg
    rw [p1] at e16 e11
    have xf := xf.dr 192 (p5.trans hu.symm)
    have xg := (((xg.dr 35 p4).dr 193 p6).dr 194 p7).dr 195 p8
    have yf := yf.dr 36 q4
    have yg := (yg.dr 2 q2).dr 34 q3
    exact ⟨p1.trans hg.1.symm, S.mk0 xf xg yf yg (S.1.eq (xf.on (by decide)) (xg.on (by decide)) (yf.on (by decide)) (yg.on (by decide))) (xg 46 (by decide)) (congrFun (yg 2 (by decide)) 79) (fun i _ => congrFun (yg 2 (by decide)) i) (sG.st e16 hg.2.1 (xf.on (by decide)) (yf.on (by decide))) (sR.bu e11 hg.2.2 (by decide)) (by decide) (by decide) (by decide) (by decide)⟩
  ·
    have hg := gneg hg (by omega)
    have e16 := e16.trans (if_pos (by omega))
    have e11 := e11.trans (if_pos (by omega))
    rw [q1] at hg
    rw [p1] at e16 e11
    have xf := xf.dr 192 (p5.trans hu.symm)
    have xg := (((xg.dr 35 p4).dr 193 p6).dr 194 p7).dr 195 p8
    have yf := yf.dr 36 q4
    have yg := (yg.dr 2 q2).dr 34 q3
    exact ⟨p1.trans hg.1.symm, S.mk0 xf xg yf yg (S.1.eq (xf.on (by decide)) (xg.on (by decide)) (yf.on (by decide)) (yg.on (by decide))) (xg 46 (by decide)) (congrFun (yg 2 (by decide)) 79) (fun i _ => congrFun (yg 2 (by decide)) i) (sG.st e16 hg.2.1 (xf.on (by decide)) (yf.on (by decide))) (sR.bu e11 hg.2.2 (by decide)) (by decide) (by decide) (by decide) (by decide)⟩
  · have hlb := hK.2.1 b qn.2.1 (by omega)
    have hxb := (hP.2 b qn.2.1 (by omega)).2.2.1
    have hrr : r = g2 2 (10 + b) := by rw [p1, iu_ne q0, iu_self, hxb]
    clear p1
    have hg := gpos hg (by omega)
    have e16 := e16.trans (if_neg (by omega))
    have e11 := e11.trans (if_neg (by omega))
    refine ⟨by rw [hrr, hg.1, q1], S.mk0 xf xg yf yg (?_) (xg 46 (by decide)) (by rw [q2, iu_ne (by omega), iu_ne (by omega)]) (fun i hi => by rw [q2, iu_ne (by omega), iu_ne (by omega)]) (sG.st e16 hg.2.1 (xf.on (by decide)) (yf.on (by decide))) (sR.ok e11 hg.2.2) (by decide) (by decide) (by decide) (by decide)⟩
    unfold cF
    rw [q2, q3, q4]
    refine ⟨?_, ?_, p5⟩
    · rw [xf 32 (by decide), xf 39 (by decide), xf 41 (by decide), xf 45 (by decide), xf 47 (by decide), xf 37 (by decide), xg 33 (by decide), xg 34 (by decide), p4, xg 36 (by decide), xg 38 (by decide), xg 40 (by decide), xg 42 (by decide), xg 43 (by decide), xg 44 (by decide)]
      exact hV.sw qn.1.1 (by omega) qn.2.1 (by omega)
    · rw [p6, p7, p8]
      exact hG.push hK (Or.inr (Or.inr (Or.inl ⟨rfl, ⟨qn.1.1, by omega⟩, qn.2.1, by omega⟩))) (fun q hq => by rw [iu_ne (by omega), iu_ne (by omega)]) (exch_2 q0).symm

set_option maxHeartbeats 1000000 in
theorem s_undo {l : Launch} {o : Nat} {ar : Nat → Nat} {E : cE} {f : mF} {g j : mA} {f2 : mF} {g2 j2 : mA} {n : Nat} {h : zH} (hn : n ≤ 1000) (S : Sim E f g f2 g2 n) (B : BH E f g j o ar f2 g2 j2 h) : Cal l o ar E f2 g2 j2 n h MX7_undo MX8_undo [] vI zIn := by
  obtain ⟨⟨hV, hG, hu⟩, sL, sI, sV, sT, sW, sG, sR, sN⟩ := id S
  obtain ⟨hK, ⟨e76, e77, e78, e79, e80⟩, hP, hz, hMt, hLt, hsk, t0, t1, t2⟩ := id hV
  have hS : z31 (f 354) := ⟨B.1.2.2.2.2.2.2.1.2, (B.1.2.2.2.2.2.2.1.1 354).2⟩
  have hbR : ∀ i, g 11 i ≤ 100000 := fun i => by have := sR.2.1 i; omega
  have hbX : ∀ i, g2 1 i ≤ 100000 := fun i => by have := sR.2.2 i; omega
  have hu16 := hG.1
  have hD : 0 < f2 36 → (0 ≤ g 193 (f2 36 - 1) ∧ g 193 (f2 36 - 1) ≤ 3) ∧ (g 193 (f2 36 - 1) = 0 → 0 ≤ g 194 (f2 36 - 1) ∧ g 194 (f2 36 - 1) ≤ 7) ∧ (g 193 (f2 36 - 1) = 1 → 0 ≤ g 194 (f2 36 - 1) ∧ g 194 (f2 36 - 1) ≤ 9) ∧ (g 193 (f2 36 - 1) = 2 → (0 ≤ g 194 (f2 36 - 1) ∧ g 194 (f2 36 - 1) ≤ 9) ∧ 0 ≤ g 195 (f2 36 - 1) ∧ g 195 (f2 36 - 1) ≤ 9) := by
    intro hp
    have h10 := hK.1
    have ho := (hG.pop hp).2.1
    unfold rowOK at ho
    omega
  refine Cal.of B (c_undo rfl rfl rfl rfl rfl rfl rfl rfl rfl hu hbR hu16.2 hP.1 (by rw [t0]; exact hK.2.2.2.1.1) hD) (m_undo rfl rfl rfl rfl hbX hu16.1 hu16.2) (by decide) (by decide) (fun r f' g' j' r2 f2' g2' j2' p q => ?_)
  obtain ⟨p, xf, xg, -⟩ := p
  obtain ⟨q, yf, yg, -⟩ := q
  rcases p with ⟨p0, p1, p2, p3, p4, p5, p6, p7, p8⟩ | ⟨p0, p1, p2, p3, p4, p5, p6, p7, p8⟩ <;> rcases q with ⟨q0, ⟨q1, q2, q3⟩, q4, q5⟩ | ⟨q0, ⟨q1, q2, q3⟩, q4, q5⟩ <;> first | (exfalso; clear p1 q1; omega) | skip
  · have xf := (xf.dr 192 (p4.trans hu.symm)).dr 37 p5
    have xg := ((xg.dr 38 p6).dr 35 p7).dr 44 p8
    have yf := yf.dr 36 q5
    have yg := yg.dr 2 q4
    exact ⟨p1.trans q1.symm, S.mk0 xf xg yf yg (S.1.eq (xf.on (by decide)) (xg.on (by decide)) (yf.on (by decide)) (yg.on (by decide))) (xg 46 (by decide)) (congrFun (yg 2 (by decide)) 79) (fun i _ => congrFun (yg 2 (by decide)) i) (sG.st p2 q2 (xf.on (by decide)) (yf.on (by decide))) (sR.bu p3 q3 (by decide)) (by decide) (by decide) (by decide) (by decide)⟩
  · obtain ⟨w1, w2, w3, w4, w5⟩ := hG.pop p0
    have h10 := hK.1
    have hV2 := hV.un w2 (by rw [← w3]; exact w4)
    refine ⟨by rw [p1, q1, w1], S.mk0 xf xg yf yg (?_) (xg 46 (by decide)) (by rw [q4, w3]; exact unK_out w2 h10.2 (Or.inr (by decide))) (fun i hi => by rw [q4, w3]; exact unK_out w2 h10.2 (Or.inr (by omega))) (sG.st p2 q2 (xf.on (by decide)) (yf.on (by decide))) (sR.ok p3 q3) (by decide) (by decide) (by decide) (by decide)⟩
    unfold cF
    rw [q4, q5, yg 34 (by decide)]
    refine ⟨?_, ?_, p4⟩
    · rw [xf 32 (by decide), xf 39 (by decide), xf 41 (by decide), xf 45 (by decide), xf 47 (by decide), p5, xg 33 (by decide), xg 34 (by decide), p7, xg 36 (by decide), p6, xg 40 (by decide), xg 42 (by decide), xg 43 (by decide), p8]
      rw [w3]
      exact hV2
    · rw [xg 193 (by decide), xg 194 (by decide), xg 195 (by decide)]
      exact w5

set_option maxHeartbeats 1000000 in
theorem s_pass {l : Launch} {o : Nat} {ar : Nat → Nat} {E : cE} {f : mF} {g j : mA} {f2 : mF} {g2 j2 : mA} {n : Nat} {h : zH} (hn : n ≤ 1000) (S : Sim E f g f2 g2 n) (B : BH E f g j o ar f2 g2 j2 h) : Cal l o ar E f2 g2 j2 n h MX7_pass MX8_pass [] vI zIn := by
  obtain ⟨cl, hLK, hLN⟩ := S.law
  obtain ⟨⟨hV, hG, hu⟩, sL, sI, sV, sT, sW, sG, sR, sN⟩ := id S
  obtain ⟨hK, ⟨e76, e77, e78, e79, e80⟩, hP, hz, hMt, hLt, hsk, t0, t1, t2⟩ := id hV
  have hS : z31 (f 354) := ⟨B.1.2.2.2.2.2.2.1.2, (B.1.2.2.2.2.2.2.1.1 354).2⟩
  have hbR : ∀ i, g 11 i ≤ 100000 := fun i => by have := sR.2.1 i; omega
  have hbX : ∀ i, g2 1 i ≤ 100000 := fun i => by have := sR.2.2 i; omega
  have hu16 := hG.1
  have h28 := hK.2.2.2.1
  have h10 := hK.1
  by_cases h9 : g2 2 28 < 999
  · have hV3 := hV.tm (v := g2 2 28 + 1) (by omega) (by omega)
    refine Cal.of B (c_pass (K := iu (g2 2) 28 (g2 2 28 + 1)) (cl := cl) rfl rfl rfl rfl rfl rfl rfl rfl rfl rfl rfl (by rw [iu_ne (by decide)]; exact e76) rfl rfl (by rw [iu_ne (by decide)]; exact e79) (by rw [iu_ne (by decide)]; exact e80) rfl hu (by rw [iu_ne (by decide), iu_ne (by decide)]; exact hLN) hV3.1 hV3.2.2.1 hS (by rw [iu_ne (by decide)]; exact t2) hV3.2.2.2.2.1 hbR (fun _ => by rw [iu_self, t0]) hu16.1 hu16.2) (m_pass (K := g2 2) (cl := cl) rfl rfl rfl rfl hbX hu16.1 hu16.2 hK hLK) (by decide) (by decide) (fun r f' g' j' r2 f2' g2' j2' p q => ?_)
    obtain ⟨p, xf, xg, -⟩ := p
    obtain ⟨q, yf, yg, -⟩ := q
    obtain ⟨v, q, hg⟩ := q
    rcases p with ⟨p0, p1, e16, e11, p4, p5, p6, p7, p8⟩ | ⟨p0, p1, e16, e11, p4, p5, p6, p7, p8⟩ <;> rcases q with ⟨q0, q1, q2, q3, q4⟩ | ⟨q0, q1, q2, q3, q4⟩ <;> first | (exfalso; clear p1 q1 hg; omega) | skip
    · have hK2 : KOK (iu (g2 2) 28 (g2 2 28 + 1)) := KOK_28 hK (by omega) (by omega)
      have hg9 := gone_01 (cl := cl) hK2
      have hg := gpos hg (by omega)
      refine ⟨by rw [p1, hg.1, q1], S.mk0 xf xg yf yg (?_) (xg 46 (by decide)) (by rw [q2]; exact iu_ne (by omega)) (fun i hi => by rw [q2]; exact iu_ne (by omega)) (sG.st e16 hg.2.1 (xf.on (by decide)) (yf.on (by decide))) (sR.ok e11 hg.2.2) (by decide) (by decide) (by decide) (by decide)⟩
      unfold cF
      rw [q2, q3, q4]
      refine ⟨?_, ?_, p5⟩
      · rw [xf 32 (by decide), xf 39 (by decide), xf 41 (by decide), xf 45 (by decide), xf 47 (by decide), xf 37 (by decide), xg 33 (by decide), xg 34 (by decide), xg 35 (by decide), xg 36 (by decide), xg 38 (by decide), xg 40 (by decide), xg 42 (by decide), xg 43 (by decide), p4, t0]
        exact hV.tm (by omega) (by omega)
      · rw [p6, p7, p8]
        exact hG.push hK (Or.inr (Or.inr (Or.inr rfl))) (fun q hq => iu_ne (by omega)) (by show g2 2 = iu (iu (g2 2) 28 (g2 2 28 + 1)) 28 (iu (g2 2) 28 (g2 2 28 + 1) 28 - 1); rw [iu_self, iu_iu, show g2 2 28 + 1 - 1 = g2 2 28 by omega, iu_same])

  · refine Cal.of B (c_pass (K := g2 2) (cl := cl) rfl rfl rfl rfl rfl rfl rfl rfl rfl rfl rfl e76 rfl rfl e79 e80 rfl hu hLN hK hP hS t2 hMt hbR (fun z => absurd z (by omega)) hu16.1 hu16.2) (m_pass (K := g2 2) (cl := cl) rfl rfl rfl rfl hbX hu16.1 hu16.2 hK hLK) (by decide) (by decide) (fun r f' g' j' r2 f2' g2' j2' p q => ?_)
    obtain ⟨p, xf, xg, -⟩ := p
    obtain ⟨q, yf, yg, -⟩ := q
    obtain ⟨v, q, hg⟩ := q
    rcases p with ⟨p0, p1, e16, e11, p4, p5, p6, p7, p8⟩ | ⟨p0, p1, e16, e11, p4, p5, p6, p7, p8⟩ <;> rcases q with ⟨q0, q1, q2, q3, q4⟩ | ⟨q0, q1, q2, q3, q4⟩ <;> first | (exfalso; clear p1 q1 hg; omega) | skip
    have hg := gneg hg (by omega)
    rw [q1] at hg
    have xf := xf.dr 192 (p5.trans hu.symm)
    have xg := (((xg.dr 44 p4).dr 193 p6).dr 194 p7).dr 195 p8
    have yf := yf.dr 36 q4
    have yg := (yg.dr 2 q2).dr 34 q3
    exact ⟨p1.trans hg.1.symm, S.mk0 xf xg yf yg (S.1.eq (xf.on (by decide)) (xg.on (by decide)) (yf.on (by decide)) (yg.on (by decide))) (xg 46 (by decide)) (congrFun (yg 2 (by decide)) 79) (fun i _ => congrFun (yg 2 (by decide)) i) (sG.st e16 hg.2.1 (xf.on (by decide)) (yf.on (by decide))) (sR.bu e11 hg.2.2 (by decide)) (by decide) (by decide) (by decide) (by decide)⟩

