/-! ===== the class and the reference alike: calls that only ask ===== -/
def Cal (l : Launch) (o : Nat) (ar : Nat → Nat) (E : cE) (f2 : mF) (g2 j2 : mA) (n : Nat) (h : zH) (M1 M2 : zM) (as : List Value) (mk : Int → Value) (zi : Int → Prop) : Prop :=
  ∃ (mc ms : Nat) (P1 : Option Value → zH → Prop), (mc ≤ 11 ∧ ms ≤ 469) ∧ MZ l M1 1000 mc ms (.ref (E.1 31) :: as) h P1 ∧ ∀ v h', P1 v h' → ∃ (r : Int) (E' : cE) (f' : mF) (g' j' : mA), v = some (mk r) ∧ zi r ∧ E'.1 31 = E.1 31 ∧ BH E' f' g' j' o ar f2 g2 j2 h' ∧ ∃ P2 : Option Value → zH → Prop, MZ l M2 1000 0 0 (.ref o :: as) h' P2 ∧ ∀ v2 h2, P2 v2 h2 → v2 = some (mk r) ∧ ∃ (f2' : mF) (g2' j2' : mA), BH E' f' g' j' o ar f2' g2' j2' h2 ∧ Sim E' f' g' f2' g2' (n + 1)
theorem Cal.of {l : Launch} {o : Nat} {ar : Nat → Nat} {E : cE} {f : mF} {g j : mA} {f2 : mF} {g2 j2 : mA} {n n1 n2 : Nat} {h : zH} {M1 M2 : zM} {as : List Value} {P1 P2 : Int → mF → mA → mA → Prop} (B : BH E f g j o ar f2 g2 j2 h) (hc : CM l E M1 n1 (.ref (E.1 31) :: as) f g j (PI P1)) (hm : MM l o ar M2 n2 (.ref o :: as) f2 g2 j2 (PI P2)) (b1 : n1 ≤ 1000) (b2 : n2 ≤ 1000)
    (k : ∀ r f' g' j' r2 f2' g2' j2', P1 r f' g' j' → P2 r2 f2' g2' j2' → r = r2 ∧ Sim E f' g' f2' g2' (n + 1)) : Cal l o ar E f2 g2 j2 n h M1 M2 as vI zIn := by
  refine ⟨0, 0, CP E h (PI P1), ⟨by decide, by decide⟩, hc 1000 b1 h B.1, fun v h' hv => ?_⟩
  obtain ⟨f', g', j', H, A, r, ev, rz, q⟩ := hv
  have B' := B.cl H A
  refine ⟨r, E, f', g', j', ev, rz, rfl, B', MP o ar h' (PI P2), hm 1000 b2 h' B'.2.1, fun v2 h2 hv2 => ?_⟩
  obtain ⟨f2', g2', j2', H2, A2, r2, ev2, rz2, q2⟩ := hv2
  obtain ⟨e, S⟩ := k r f' g' j' r2 f2' g2' j2' q q2
  subst e
  exact ⟨ev2, f2', g2', j2', B'.rf H2 A2, S⟩
theorem Cal.ofL {l : Launch} {o : Nat} {ar : Nat → Nat} {E : cE} {f : mF} {g j : mA} {f2 : mF} {g2 j2 : mA} {n n1 n2 : Nat} {h : zH} {M1 M2 : zM} {as : List Value} {P1 P2 : Int → mF → mA → mA → Prop} (B : BH E f g j o ar f2 g2 j2 h) (hc : CM l E M1 n1 (.ref (E.1 31) :: as) f g j (PL P1)) (hm : MM l o ar M2 n2 (.ref o :: as) f2 g2 j2 (PL P2)) (b1 : n1 ≤ 1000) (b2 : n2 ≤ 1000)
    (k : ∀ r f' g' j' r2 f2' g2' j2', P1 r f' g' j' → P2 r2 f2' g2' j2' → r = r2 ∧ Sim E f' g' f2' g2' (n + 1)) : Cal l o ar E f2 g2 j2 n h M1 M2 as vL zInL := by
  refine ⟨0, 0, CP E h (PL P1), ⟨by decide, by decide⟩, hc 1000 b1 h B.1, fun v h' hv => ?_⟩
  obtain ⟨f', g', j', H, A, r, ev, rz, q⟩ := hv
  have B' := B.cl H A
  refine ⟨r, E, f', g', j', ev, rz, rfl, B', MP o ar h' (PL P2), hm 1000 b2 h' B'.2.1, fun v2 h2 hv2 => ?_⟩
  obtain ⟨f2', g2', j2', H2, A2, r2, ev2, rz2, q2⟩ := hv2
  obtain ⟨e, S⟩ := k r f' g' j' r2 f2' g2' j2' q q2
  subst e
  exact ⟨ev2, f2', g2', j2', B'.rf H2 A2, S⟩

theorem s_when {l : Launch} {o : Nat} {ar : Nat → Nat} {E : cE} {f : mF} {g j : mA} {f2 : mF} {g2 j2 : mA} {n : Nat} {h : zH} {q k : Int} (hq : zIn q) (hk : zIn k) (S : Sim E f g f2 g2 n) (B : BH E f g j o ar f2 g2 j2 h) : Cal l o ar E f2 g2 j2 n h MX7_when MX8_when [vI q, vI k] vI zIn := by
  obtain ⟨cl, hLK, hLN⟩ := S.law
  obtain ⟨⟨hV, hG, hu⟩, sL, sI, sV, sT, sW, sG, sR, sN⟩ := id S
  obtain ⟨hK, ⟨e76, e77, e78, e79, e80⟩, hP, hz, hMt, hLt, hsk, t0, t1, t2⟩ := id hV
  have hS : z31 (f 354) := ⟨B.1.2.2.2.2.2.2.1.2, (B.1.2.2.2.2.2.2.1.1 354).2⟩
  exact Cal.of B (c_when (K := g2 2) (cl := cl) rfl rfl rfl rfl rfl rfl  e76 rfl rfl e79 e80  hq hk hLN hK hP hS t0 t2 ) (m_when (K := g2 2) (cl := cl) rfl hq hk hK hLK) (by decide) (by decide) (fun r f' g' j' r2 f2' g2' j2' p q => ⟨p.1.trans q.1.symm, S.qu p.2.1 p.2.2.1 q.2.1 q.2.2.1 (by decide) (by decide) (by decide) (by decide)⟩)

theorem s_out {l : Launch} {o : Nat} {ar : Nat → Nat} {E : cE} {f : mF} {g j : mA} {f2 : mF} {g2 j2 : mA} {n : Nat} {h : zH} {q x : Int} (hq : zIn q) (hx : zIn x) (S : Sim E f g f2 g2 n) (B : BH E f g j o ar f2 g2 j2 h) : Cal l o ar E f2 g2 j2 n h MX7_out MX8_out [vI q, vI x] vI zIn := by
  obtain ⟨cl, hLK, hLN⟩ := S.law
  obtain ⟨⟨hV, hG, hu⟩, sL, sI, sV, sT, sW, sG, sR, sN⟩ := id S
  obtain ⟨hK, ⟨e76, e77, e78, e79, e80⟩, hP, hz, hMt, hLt, hsk, t0, t1, t2⟩ := id hV
  have hS : z31 (f 354) := ⟨B.1.2.2.2.2.2.2.1.2, (B.1.2.2.2.2.2.2.1.1 354).2⟩
  exact Cal.of B (c_out (K := g2 2) (cl := cl) rfl rfl rfl rfl rfl rfl  e76 rfl rfl e79 e80  hq hx hLN hK hP hS t0 t2 ) (m_out (K := g2 2) (cl := cl) rfl hq hx hK hLK) (by decide) (by decide) (fun r f' g' j' r2 f2' g2' j2' p q => ⟨p.1.trans q.1.symm, S.qu p.2.1 p.2.2.1 q.2.1 q.2.2.1 (by decide) (by decide) (by decide) (by decide)⟩)

theorem s_stands {l : Launch} {o : Nat} {ar : Nat → Nat} {E : cE} {f : mF} {g j : mA} {f2 : mF} {g2 j2 : mA} {n : Nat} {h : zH} {q t : Int} (hq : zIn q) (ht : zIn t) (S : Sim E f g f2 g2 n) (B : BH E f g j o ar f2 g2 j2 h) : Cal l o ar E f2 g2 j2 n h MX7_stands MX8_stands [vI q, vI t] vI zIn := by
  obtain ⟨cl, hLK, hLN⟩ := S.law
  obtain ⟨⟨hV, hG, hu⟩, sL, sI, sV, sT, sW, sG, sR, sN⟩ := id S
  obtain ⟨hK, ⟨e76, e77, e78, e79, e80⟩, hP, hz, hMt, hLt, hsk, t0, t1, t2⟩ := id hV
  have hS : z31 (f 354) := ⟨B.1.2.2.2.2.2.2.1.2, (B.1.2.2.2.2.2.2.1.1 354).2⟩
  exact Cal.of B (c_stands (K := g2 2) (cl := cl) rfl rfl rfl rfl rfl rfl rfl e76 rfl rfl e79 e80 e77 hq ht hLN hK hP hS t0 t2 hLt) (m_stands (K := g2 2) (cl := cl) rfl hq ht hK hLK) (by decide) (by decide) (fun r f' g' j' r2 f2' g2' j2' p q => ⟨p.1.trans q.1.symm, S.qu p.2.1 p.2.2.1 q.2.1 q.2.2.1 (by decide) (by decide) (by decide) (by decide)⟩)

theorem s_best {l : Launch} {o : Nat} {ar : Nat → Nat} {E : cE} {f : mF} {g j : mA} {f2 : mF} {g2 j2 : mA} {n : Nat} {h : zH} {m w : Int} (hm : zIn m) (hw : zIn w) (S : Sim E f g f2 g2 n) (B : BH E f g j o ar f2 g2 j2 h) : Cal l o ar E f2 g2 j2 n h MX7_best MX8_best [vI m, vI w] vI zIn := by
  obtain ⟨cl, hLK, hLN⟩ := S.law
  obtain ⟨⟨hV, hG, hu⟩, sL, sI, sV, sT, sW, sG, sR, sN⟩ := id S
  obtain ⟨hK, ⟨e76, e77, e78, e79, e80⟩, hP, hz, hMt, hLt, hsk, t0, t1, t2⟩ := id hV
  have hS : z31 (f 354) := ⟨B.1.2.2.2.2.2.2.1.2, (B.1.2.2.2.2.2.2.1.1 354).2⟩
  exact Cal.of B (c_best (K := g2 2) (cl := cl) rfl rfl rfl rfl rfl rfl  e76 rfl rfl e79 e80  hm hw hLN hK hP hS t0 t2 ) (m_best (K := g2 2) (cl := cl) rfl hm hw hK hLK) (by decide) (by decide) (fun r f' g' j' r2 f2' g2' j2' p q => ⟨p.1.trans q.1.symm, S.qu p.2.1 p.2.2.1 q.2.1 q.2.2.1 (by decide) (by decide) (by decide) (by decide)⟩)

theorem s_even {l : Launch} {o : Nat} {ar : Nat → Nat} {E : cE} {f : mF} {g j : mA} {f2 : mF} {g2 j2 : mA} {n : Nat} {h : zH} {w : Int} (hw : zIn w) (S : Sim E f g f2 g2 n) (B : BH E f g j o ar f2 g2 j2 h) : Cal l o ar E f2 g2 j2 n h MX7_even MX8_even [vI w] vI zIn := by
  obtain ⟨cl, hLK, hLN⟩ := S.law
  obtain ⟨⟨hV, hG, hu⟩, sL, sI, sV, sT, sW, sG, sR, sN⟩ := id S
  obtain ⟨hK, ⟨e76, e77, e78, e79, e80⟩, hP, hz, hMt, hLt, hsk, t0, t1, t2⟩ := id hV
  have hS : z31 (f 354) := ⟨B.1.2.2.2.2.2.2.1.2, (B.1.2.2.2.2.2.2.1.1 354).2⟩
  exact Cal.of B (c_even (K := g2 2) (cl := cl) rfl rfl rfl rfl rfl rfl rfl e76 rfl rfl e79 e80 e77 hw hLN hK hP hS t0 t2 hLt) (m_even (K := g2 2) (cl := cl) rfl hw hK hLK) (by decide) (by decide) (fun r f' g' j' r2 f2' g2' j2' p q => ⟨p.1.trans q.1.symm, S.qu p.2.1 p.2.2.1 q.2.1 q.2.2.1 (by decide) (by decide) (by decide) (by decide)⟩)

theorem s_centre {l : Launch} {o : Nat} {ar : Nat → Nat} {E : cE} {f : mF} {g j : mA} {f2 : mF} {g2 j2 : mA} {n : Nat} {h : zH} {w : Int} (hw : zIn w) (S : Sim E f g f2 g2 n) (B : BH E f g j o ar f2 g2 j2 h) : Cal l o ar E f2 g2 j2 n h MX7_centre MX8_centre [vI w] vI zIn := by
  obtain ⟨cl, hLK, hLN⟩ := S.law
  obtain ⟨⟨hV, hG, hu⟩, sL, sI, sV, sT, sW, sG, sR, sN⟩ := id S
  obtain ⟨hK, ⟨e76, e77, e78, e79, e80⟩, hP, hz, hMt, hLt, hsk, t0, t1, t2⟩ := id hV
  have hS : z31 (f 354) := ⟨B.1.2.2.2.2.2.2.1.2, (B.1.2.2.2.2.2.2.1.1 354).2⟩
  exact Cal.of B (c_centre (K := g2 2) (cl := cl) rfl rfl rfl rfl rfl rfl  e76 rfl rfl e79 e80  hw hLN hK hP hS t0 t2 ) (m_centre (K := g2 2) (cl := cl) rfl hw hK hLK) (by decide) (by decide) (fun r f' g' j' r2 f2' g2' j2' p q => ⟨p.1.trans q.1.symm, S.qu p.2.1 p.2.2.1 q.2.1 q.2.2.1 (by decide) (by decide) (by decide) (by decide)⟩)

theorem s_measured {l : Launch} {o : Nat} {ar : Nat → Nat} {E : cE} {f : mF} {g j : mA} {f2 : mF} {g2 j2 : mA} {n : Nat} {h : zH} {m w : Int} (hm : zIn m) (hw : zIn w) (S : Sim E f g f2 g2 n) (B : BH E f g j o ar f2 g2 j2 h) : Cal l o ar E f2 g2 j2 n h MX7_measured MX8_measured [vI m, vI w] vI zIn := by
  obtain ⟨cl, hLK, hLN⟩ := S.law
  obtain ⟨⟨hV, hG, hu⟩, sL, sI, sV, sT, sW, sG, sR, sN⟩ := id S
  obtain ⟨hK, ⟨e76, e77, e78, e79, e80⟩, hP, hz, hMt, hLt, hsk, t0, t1, t2⟩ := id hV
  have hS : z31 (f 354) := ⟨B.1.2.2.2.2.2.2.1.2, (B.1.2.2.2.2.2.2.1.1 354).2⟩
  exact Cal.of B (c_measured (K := g2 2) (cl := cl) rfl rfl rfl rfl rfl rfl  e76 rfl rfl e79 e80  hm hw hLN hK hP hS t0 t2 ) (m_measured (K := g2 2) (cl := cl) rfl hm hw hK hLK) (by decide) (by decide) (fun r f' g' j' r2 f2' g2' j2' p q => ⟨p.1.trans q.1.symm, S.qu p.2.1 p.2.2.1 q.2.1 q.2.2.1 (by decide) (by decide) (by decide) (by decide)⟩)

theorem s_was {l : Launch} {o : Nat} {ar : Nat → Nat} {E : cE} {f : mF} {g j : mA} {f2 : mF} {g2 j2 : mA} {n : Nat} {h : zH} (S : Sim E f g f2 g2 n) (B : BH E f g j o ar f2 g2 j2 h) : Cal l o ar E f2 g2 j2 n h MX7_was MX8_was [] vI zIn := by
  obtain ⟨cl, hLK, hLN⟩ := S.law
  obtain ⟨⟨hV, hG, hu⟩, sL, sI, sV, sT, sW, sG, sR, sN⟩ := id S
  obtain ⟨hK, ⟨e76, e77, e78, e79, e80⟩, hP, hz, hMt, hLt, hsk, t0, t1, t2⟩ := id hV
  have hS : z31 (f 354) := ⟨B.1.2.2.2.2.2.2.1.2, (B.1.2.2.2.2.2.2.1.1 354).2⟩
  exact Cal.of B (c_was (K := g2 2) (cl := cl) rfl rfl rfl rfl rfl rfl rfl rfl e76 rfl rfl e79 e80 e78  hLN hK hP hS t0 t2 hsk) (m_was (K := g2 2) (cl := cl) rfl  hK hLK) (by decide) (by decide) (fun r f' g' j' r2 f2' g2' j2' p q => ⟨p.1.trans q.1.1.symm, S.qu p.2.1 p.2.2.1 q.2.1 q.2.2.1 (by decide) (by decide) (by decide) (by decide)⟩)

theorem s_look {l : Launch} {o : Nat} {ar : Nat → Nat} {E : cE} {f : mF} {g j : mA} {f2 : mF} {g2 j2 : mA} {n : Nat} {h : zH} {w : Int} (hw : zIn w) (S : Sim E f g f2 g2 n) (B : BH E f g j o ar f2 g2 j2 h) : Cal l o ar E f2 g2 j2 n h MX7_look MX8_look [vI w] vI zIn := by
  obtain ⟨cl, hLK, hLN⟩ := S.law
  obtain ⟨⟨hV, hG, hu⟩, sL, sI, sV, sT, sW, sG, sR, sN⟩ := id S
  obtain ⟨hK, ⟨e76, e77, e78, e79, e80⟩, hP, hz, hMt, hLt, hsk, t0, t1, t2⟩ := id hV
  have hS : z31 (f 354) := ⟨B.1.2.2.2.2.2.2.1.2, (B.1.2.2.2.2.2.2.1.1 354).2⟩
  exact Cal.of B (c_look (K := g2 2) (cl := cl) rfl rfl rfl rfl rfl rfl rfl rfl e76 rfl rfl e79 e80 e78 hw hLN hK hP hS t0 t2 hsk) (m_look (K := g2 2) (cl := cl) rfl hw hK hLK) (by decide) (by decide) (fun r f' g' j' r2 f2' g2' j2' p q => ⟨p.1.trans q.1.symm, S.qu p.2.1 p.2.2.1 q.2.1 q.2.2.1 (by decide) (by decide) (by decide) (by decide)⟩)

theorem s_of {l : Launch} {o : Nat} {ar : Nat → Nat} {E : cE} {f : mF} {g j : mA} {f2 : mF} {g2 j2 : mA} {n : Nat} {h : zH} {x w : Int} (hx : zIn x) (hw : zIn w) (S : Sim E f g f2 g2 n) (B : BH E f g j o ar f2 g2 j2 h) : Cal l o ar E f2 g2 j2 n h MX7_of MX8_of [vI x, vI w] vI zIn := by
  obtain ⟨cl, hLK, hLN⟩ := S.law
  obtain ⟨⟨hV, hG, hu⟩, sL, sI, sV, sT, sW, sG, sR, sN⟩ := id S
  obtain ⟨hK, ⟨e76, e77, e78, e79, e80⟩, hP, hz, hMt, hLt, hsk, t0, t1, t2⟩ := id hV
  have hS : z31 (f 354) := ⟨B.1.2.2.2.2.2.2.1.2, (B.1.2.2.2.2.2.2.1.1 354).2⟩
  exact Cal.of B (c_of (K := g2 2) (cl := cl) rfl rfl rfl rfl rfl rfl rfl e76 rfl rfl e79 e80  hx hw hLN hK hP hS t0 t2 hMt) (m_of (K := g2 2) (cl := cl) rfl hx hw hK hLK) (by decide) (by decide) (fun r f' g' j' r2 f2' g2' j2' p q => ⟨p.1.trans q.1.symm, S.qu p.2.1 p.2.2.1 q.2.1 q.2.2.1 (by decide) (by decide) (by decide) (by decide)⟩)

theorem s_at {l : Launch} {o : Nat} {ar : Nat → Nat} {E : cE} {f : mF} {g j : mA} {f2 : mF} {g2 j2 : mA} {n : Nat} {h : zH} {k w : Int} (hk : zIn k) (hw : zIn w) (S : Sim E f g f2 g2 n) (B : BH E f g j o ar f2 g2 j2 h) : Cal l o ar E f2 g2 j2 n h MX7_at MX8_at [vI k, vI w] vI zIn := by
  obtain ⟨cl, hLK, hLN⟩ := S.law
  obtain ⟨⟨hV, hG, hu⟩, sL, sI, sV, sT, sW, sG, sR, sN⟩ := id S
  obtain ⟨hK, ⟨e76, e77, e78, e79, e80⟩, hP, hz, hMt, hLt, hsk, t0, t1, t2⟩ := id hV
  have hS : z31 (f 354) := ⟨B.1.2.2.2.2.2.2.1.2, (B.1.2.2.2.2.2.2.1.1 354).2⟩
  exact Cal.of B (c_at (K := g2 2) (cl := cl) rfl rfl rfl rfl rfl rfl rfl e76 rfl rfl e79 e80  hk hw hLN hK hP hS t0 t2 hMt) (m_at (K := g2 2) (cl := cl) rfl hk hw hK hLK) (by decide) (by decide) (fun r f' g' j' r2 f2' g2' j2' p q => ⟨p.1.trans q.1.symm, S.qu p.2.1 p.2.2.1 q.2.1 q.2.2.1 (by decide) (by decide) (by decide) (by decide)⟩)

theorem s_wet {l : Launch} {o : Nat} {ar : Nat → Nat} {E : cE} {f : mF} {g j : mA} {f2 : mF} {g2 j2 : mA} {n : Nat} {h : zH} {a b s : Int} (ha : zIn a) (hb : zIn b) (hs : zIn s) (S : Sim E f g f2 g2 n) (B : BH E f g j o ar f2 g2 j2 h) : Cal l o ar E f2 g2 j2 n h MX7_wet MX8_wet [vI a, vI b, vI s] vI zIn := by
  obtain ⟨cl, hLK, hLN⟩ := S.law
  obtain ⟨⟨hV, hG, hu⟩, sL, sI, sV, sT, sW, sG, sR, sN⟩ := id S
  obtain ⟨hK, ⟨e76, e77, e78, e79, e80⟩, hP, hz, hMt, hLt, hsk, t0, t1, t2⟩ := id hV
  have hS : z31 (f 354) := ⟨B.1.2.2.2.2.2.2.1.2, (B.1.2.2.2.2.2.2.1.1 354).2⟩
  exact Cal.of B (c_wet (K := g2 2) (cl := cl) rfl rfl rfl rfl rfl rfl  e76 rfl rfl e79 e80  ha hb hs hLN hK hP hS t0 t2 ) (m_wet (K := g2 2) (cl := cl) rfl ha hb hs hK hLK) (by decide) (by decide) (fun r f' g' j' r2 f2' g2' j2' p q => ⟨p.1.trans q.1.symm, S.qu p.2.1 p.2.2.1 q.2.1 q.2.2.1 (by decide) (by decide) (by decide) (by decide)⟩)

theorem s_way {l : Launch} {o : Nat} {ar : Nat → Nat} {E : cE} {f : mF} {g j : mA} {f2 : mF} {g2 j2 : mA} {n : Nat} {h : zH} {a b i : Int} (ha : zIn a) (hb : zIn b) (hi : zIn i) (S : Sim E f g f2 g2 n) (B : BH E f g j o ar f2 g2 j2 h) : Cal l o ar E f2 g2 j2 n h MX7_way MX8_way [vI a, vI b, vI i] vI zIn := by
  obtain ⟨cl, hLK, hLN⟩ := S.law
  obtain ⟨⟨hV, hG, hu⟩, sL, sI, sV, sT, sW, sG, sR, sN⟩ := id S
  obtain ⟨hK, ⟨e76, e77, e78, e79, e80⟩, hP, hz, hMt, hLt, hsk, t0, t1, t2⟩ := id hV
  have hS : z31 (f 354) := ⟨B.1.2.2.2.2.2.2.1.2, (B.1.2.2.2.2.2.2.1.1 354).2⟩
  exact Cal.of B (c_way (K := g2 2) (cl := cl) rfl rfl rfl rfl rfl rfl  e76 rfl rfl e79 e80  ha hb hi hLN hK hP hS t0 t2 ) (m_way (K := g2 2) (cl := cl) rfl ha hb hi hK hLK) (by decide) (by decide) (fun r f' g' j' r2 f2' g2' j2' p q => ⟨p.1.trans q.1.symm, S.qu p.2.1 p.2.2.1 q.2.1 q.2.2.1 (by decide) (by decide) (by decide) (by decide)⟩)

theorem s_cut {l : Launch} {o : Nat} {ar : Nat → Nat} {E : cE} {f : mF} {g j : mA} {f2 : mF} {g2 j2 : mA} {n : Nat} {h : zH} {a b w : Int} (ha : zIn a) (hb : zIn b) (hw : zIn w) (S : Sim E f g f2 g2 n) (B : BH E f g j o ar f2 g2 j2 h) : Cal l o ar E f2 g2 j2 n h MX7_cut MX8_cut [vI a, vI b, vI w] vI zIn := by
  obtain ⟨cl, hLK, hLN⟩ := S.law
  obtain ⟨⟨hV, hG, hu⟩, sL, sI, sV, sT, sW, sG, sR, sN⟩ := id S
  obtain ⟨hK, ⟨e76, e77, e78, e79, e80⟩, hP, hz, hMt, hLt, hsk, t0, t1, t2⟩ := id hV
  have hS : z31 (f 354) := ⟨B.1.2.2.2.2.2.2.1.2, (B.1.2.2.2.2.2.2.1.1 354).2⟩
  exact Cal.of B (c_cut (K := g2 2) (cl := cl) rfl rfl rfl rfl rfl rfl  e76 rfl rfl e79 e80  ha hb hw hLN hK hP hS t0 t2 ) (m_cut (K := g2 2) (cl := cl) rfl ha hb hw hK hLK) (by decide) (by decide) (fun r f' g' j' r2 f2' g2' j2' p q => ⟨p.1.trans q.1.symm, S.qu p.2.1 p.2.2.1 q.2.1 q.2.2.1 (by decide) (by decide) (by decide) (by decide)⟩)

theorem s_exchanged {l : Launch} {o : Nat} {ar : Nat → Nat} {E : cE} {f : mF} {g j : mA} {f2 : mF} {g2 j2 : mA} {n : Nat} {h : zH} {k w : Int} (hk : zIn k) (hw : zIn w) (S : Sim E f g f2 g2 n) (B : BH E f g j o ar f2 g2 j2 h) : Cal l o ar E f2 g2 j2 n h MX7_exchanged MX8_exchanged [vI k, vI w] vI zIn := by
  obtain ⟨cl, hLK, hLN⟩ := S.law
  obtain ⟨⟨hV, hG, hu⟩, sL, sI, sV, sT, sW, sG, sR, sN⟩ := id S
  obtain ⟨hK, ⟨e76, e77, e78, e79, e80⟩, hP, hz, hMt, hLt, hsk, t0, t1, t2⟩ := id hV
  have hS : z31 (f 354) := ⟨B.1.2.2.2.2.2.2.1.2, (B.1.2.2.2.2.2.2.1.1 354).2⟩
  exact Cal.of B (c_exch (K := g2 2) (cl := cl) rfl rfl rfl rfl rfl rfl  e76 rfl rfl e79 e80  hk hw hLN hK hP hS t0 t2 ) (m_exchanged (K := g2 2) (cl := cl) rfl hk hw hK hLK) (by decide) (by decide) (fun r f' g' j' r2 f2' g2' j2' p q => ⟨p.1.1.trans q.1.1.symm, S.qu p.2.1 (p.2.2.1.dr 35 p.1.2) q.2.1 (q.2.2.1.dr 2 q.1.2) (by decide) (by decide) (by decide) (by decide)⟩)

theorem s_count {l : Launch} {o : Nat} {ar : Nat → Nat} {E : cE} {f : mF} {g j : mA} {f2 : mF} {g2 j2 : mA} {n : Nat} {h : zH} {w : Int} (hw : zIn w) (S : Sim E f g f2 g2 n) (B : BH E f g j o ar f2 g2 j2 h) : Cal l o ar E f2 g2 j2 n h MX7_count MX8_count [vI w] vI zIn := by
  obtain ⟨cl, hLK, hLN⟩ := S.law
  obtain ⟨⟨hV, hG, hu⟩, sL, sI, sV, sT, sW, sG, sR, sN⟩ := id S
  obtain ⟨hK, ⟨e76, e77, e78, e79, e80⟩, hP, hz, hMt, hLt, hsk, t0, t1, t2⟩ := id hV
  have hS : z31 (f 354) := ⟨B.1.2.2.2.2.2.2.1.2, (B.1.2.2.2.2.2.2.1.1 354).2⟩
  exact Cal.of B (c_count (K := g2 2) (X1 := g2 1) (cl := cl) rfl rfl rfl rfl rfl rfl rfl rfl e76 rfl rfl e79 e80 e77 e78 hu sT.1 hw hLN hK hP hS t0 t2 hMt sR.1 hz t1) (m_count (K := g2 2) (cl := cl) rfl rfl rfl rfl hw hK hLK) (by decide) (by decide) (fun r f' g' j' r2 f2' g2' j2' p q => ⟨p.1.trans q.1.symm, S.qu p.2.1 p.2.2.1 q.2.1 q.2.2.1 (by decide) (by decide) (by decide) (by decide)⟩)
theorem s_few {l : Launch} {o : Nat} {ar : Nat → Nat} {E : cE} {f : mF} {g j : mA} {f2 : mF} {g2 j2 : mA} {n : Nat} {h : zH} {k m : Int} (hk : zIn k) (hm : zIn m) (S : Sim E f g f2 g2 n) (B : BH E f g j o ar f2 g2 j2 h) : Cal l o ar E f2 g2 j2 n h MX7_few MX8_few [vI k, vI m] vL zInL := by
  obtain ⟨⟨hV, hG, hu⟩, sL, sI, sV, sT, sW, sG, sR, sN⟩ := id S
  obtain ⟨hK, ⟨e76, e77, e78, e79, e80⟩, hP, hz, hMt, hLt, hsk, t0, t1, t2⟩ := id hV
  have hS : z31 (f 354) := ⟨B.1.2.2.2.2.2.2.1.2, (B.1.2.2.2.2.2.2.1.1 354).2⟩
  have h74 := hK.2.2.2.2.2.2.2.2.1
  exact Cal.ofL B (c_few (K := g2 2) rfl rfl hk hm h74.1 h74.2 t1) (m_few (K := g2 2) rfl rfl hk hm h74.1 h74.2) (by decide) (by decide) (fun r f' g' j' r2 f2' g2' j2' p q => ⟨p.1.trans q.1.symm, S.qu p.2.1 p.2.2.1 q.2.1 q.2.2.1 (by decide) (by decide) (by decide) (by decide)⟩)
theorem Sim.law_of {E : cE} {f f2 : mF} {g g2 : mA} {n : Nat} (S : Sim E f g f2 g2 n) (x : Int) : ∃ cl, ((-1 ≤ x ∧ x ≤ g2 2 79 - 1) → LawK (iu (g2 2) 80 x) cl) ∧ LwN E f g (if 0 ≤ x ∧ x < g2 2 79 then g 46 x else -1) cl := by
  have hK : KOK (g2 2) := S.1.1.1
  have h79 := hK.2.2.2.2.2.2.2.2.2.2.1
  by_cases hq : 0 ≤ x ∧ x < g2 2 79
  · obtain ⟨cl, h1, h2⟩ := S.2.1.2 x hq.1 hq.2
    refine ⟨cl, fun _ => Or.inr ?_, by rw [if_pos hq]; exact h2⟩
    rw [iu_self]
    exact ⟨hq.1, by omega, LawAt_cg h1 (iu_ne (by omega)) (fun i i0 i1 => ⟨iu_ne (by omega), iu_ne (by omega)⟩)⟩
  · refine ⟨[], fun hx => Or.inl ⟨by rw [iu_self]; omega, rfl⟩, ?_⟩
    rw [if_neg hq]
    exact Or.inl ⟨rfl, rfl⟩
theorem s_compare {l : Launch} {o : Nat} {ar : Nat → Nat} {E : cE} {f : mF} {g j : mA} {f2 : mF} {g2 j2 : mA} {n : Nat} {h : zH} {x k : Int} (hx : zIn x) (hk : zIn k) (S : Sim E f g f2 g2 n) (B : BH E f g j o ar f2 g2 j2 h) : Cal l o ar E f2 g2 j2 n h MX7_compare MX8_compare [vI x, vI k] vI zIn := by
  obtain ⟨cl, hLK, hLN⟩ := S.law_of x
  obtain ⟨⟨hV, hG, hu⟩, sL, sI, sV, sT, sW, sG, sR, sN⟩ := id S
  obtain ⟨hK, ⟨e76, e77, e78, e79, e80⟩, hP, hz, hMt, hLt, hsk, t0, t1, t2⟩ := id hV
  have hS : z31 (f 354) := ⟨B.1.2.2.2.2.2.2.1.2, (B.1.2.2.2.2.2.2.1.1 354).2⟩
  exact Cal.of B (c_compare (K := g2 2) (cl := cl) rfl rfl rfl rfl rfl rfl e76 rfl rfl e79 e80 hx hk hLN hK hP hS t0 t2) (m_compare (K := g2 2) (cl := cl) rfl hx hk hK hLK) (by decide) (by decide) (fun r f' g' j' r2 f2' g2' j2' p q => ⟨p.1.trans q.1.1.symm, S.qu p.2.1 p.2.2.1 q.2.1 (q.2.2.1.dr 2 q.1.2) (by decide) (by decide) (by decide) (by decide)⟩)

theorem s_ash {l : Launch} {o : Nat} {ar : Nat → Nat} {E : cE} {f : mF} {g j : mA} {f2 : mF} {g2 j2 : mA} {n : Nat} {h : zH} (S : Sim E f g f2 g2 n) (B : BH E f g j o ar f2 g2 j2 h) : Cal l o ar E f2 g2 j2 n h MX7_ash MX8_ash [] vI zIn := by
  obtain ⟨⟨hV, hG, hu⟩, sL, sI, sV, sT, sW, sG, sR, sN⟩ := id S
  obtain ⟨hK, ⟨e76, e77, e78, e79, e80⟩, hP, hz, hMt, hLt, hsk, t0, t1, t2⟩ := id hV
  have hS : z31 (f 354) := ⟨B.1.2.2.2.2.2.2.1.2, (B.1.2.2.2.2.2.2.1.1 354).2⟩
  exact Cal.of B (c_g_ash sG.2.1) (m_ash rfl) (by decide) (by decide) (fun r f' g' j' r2 f2' g2' j2' p q => ⟨p.1.trans q.1.symm, S.qu p.2.1 p.2.2.1 q.2.1 q.2.2.1 (by decide) (by decide) (by decide) (by decide)⟩)

theorem s_fault {l : Launch} {o : Nat} {ar : Nat → Nat} {E : cE} {f : mF} {g j : mA} {f2 : mF} {g2 j2 : mA} {n : Nat} {h : zH} (S : Sim E f g f2 g2 n) (B : BH E f g j o ar f2 g2 j2 h) : Cal l o ar E f2 g2 j2 n h MX7_fault MX8_fault [] vI zIn := by
  obtain ⟨⟨hV, hG, hu⟩, sL, sI, sV, sT, sW, sG, sR, sN⟩ := id S
  obtain ⟨hK, ⟨e76, e77, e78, e79, e80⟩, hP, hz, hMt, hLt, hsk, t0, t1, t2⟩ := id hV
  have hS : z31 (f 354) := ⟨B.1.2.2.2.2.2.2.1.2, (B.1.2.2.2.2.2.2.1.1 354).2⟩
  exact Cal.of B (c_g_fault sG.2.2.1) (m_fault rfl) (by decide) (by decide) (fun r f' g' j' r2 f2' g2' j2' p q => ⟨p.1.trans q.1.symm, S.qu p.2.1 p.2.2.1 q.2.1 q.2.2.1 (by decide) (by decide) (by decide) (by decide)⟩)

theorem s_stopped {l : Launch} {o : Nat} {ar : Nat → Nat} {E : cE} {f : mF} {g j : mA} {f2 : mF} {g2 j2 : mA} {n : Nat} {h : zH} (S : Sim E f g f2 g2 n) (B : BH E f g j o ar f2 g2 j2 h) : Cal l o ar E f2 g2 j2 n h MX7_stopped MX8_stopped [] vI zIn := by
  obtain ⟨⟨hV, hG, hu⟩, sL, sI, sV, sT, sW, sG, sR, sN⟩ := id S
  obtain ⟨hK, ⟨e76, e77, e78, e79, e80⟩, hP, hz, hMt, hLt, hsk, t0, t1, t2⟩ := id hV
  have hS : z31 (f 354) := ⟨B.1.2.2.2.2.2.2.1.2, (B.1.2.2.2.2.2.2.1.1 354).2⟩
  exact Cal.of B (c_g_stopped sG.2.2.2) (m_stopped rfl) (by decide) (by decide) (fun r f' g' j' r2 f2' g2' j2' p q => ⟨p.1.trans q.1.symm, S.qu p.2.1 p.2.2.1 q.2.1 q.2.2.1 (by decide) (by decide) (by decide) (by decide)⟩)

theorem s_status {l : Launch} {o : Nat} {ar : Nat → Nat} {E : cE} {f : mF} {g j : mA} {f2 : mF} {g2 j2 : mA} {n : Nat} {h : zH} (S : Sim E f g f2 g2 n) (B : BH E f g j o ar f2 g2 j2 h) : Cal l o ar E f2 g2 j2 n h MX7_status MX8_status [] vI zIn := by
  obtain ⟨⟨hV, hG, hu⟩, sL, sI, sV, sT, sW, sG, sR, sN⟩ := id S
  obtain ⟨hK, ⟨e76, e77, e78, e79, e80⟩, hP, hz, hMt, hLt, hsk, t0, t1, t2⟩ := id hV
  have hS : z31 (f 354) := ⟨B.1.2.2.2.2.2.2.1.2, (B.1.2.2.2.2.2.2.1.1 354).2⟩
  exact Cal.of B (c_g_status sG.1) (m_status rfl) (by decide) (by decide) (fun r f' g' j' r2 f2' g2' j2' p q => ⟨p.1.trans q.1.symm, S.qu p.2.1 p.2.2.1 q.2.1 q.2.2.1 (by decide) (by decide) (by decide) (by decide)⟩)

theorem s_drawn {l : Launch} {o : Nat} {ar : Nat → Nat} {E : cE} {f : mF} {g j : mA} {f2 : mF} {g2 j2 : mA} {n : Nat} {h : zH} {k w : Int} (hk : zIn k) (hw : zIn w) (S : Sim E f g f2 g2 n) (B : BH E f g j o ar f2 g2 j2 h) : Cal l o ar E f2 g2 j2 n h MX7_drawn MX8_drawn [vI k, vI w] vI zIn := by
  obtain ⟨⟨hV, hG, hu⟩, sL, sI, sV, sT, sW, sG, sR, sN⟩ := id S
  obtain ⟨hK, ⟨e76, e77, e78, e79, e80⟩, hP, hz, hMt, hLt, hsk, t0, t1, t2⟩ := id hV
  have hS : z31 (f 354) := ⟨B.1.2.2.2.2.2.2.1.2, (B.1.2.2.2.2.2.2.1.1 354).2⟩
  have v1 := sV.1
  have v2 := sV.2
  have n10 : f 96 ≤ 10 := by rcases v2 with q | q <;> omega
  have x10 : f2 48 ≤ 10 ∧ -1 ≤ f2 48 := by rcases v2 with q | q <;> omega
  refine Cal.of B (c_drawn rfl rfl rfl hk hw v1 n10) (m_drawn rfl rfl hk hw x10.1 x10.2) (by decide) (by decide) (fun r f' g' j' r2 f2' g2' j2' p q => ⟨?_, S.qu p.2.1 p.2.2.1 q.2.1 q.2.2.1 (by decide) (by decide) (by decide) (by decide)⟩)
  rw [p.1, q.1]
  rcases v2 with ⟨a, b, c⟩ | ⟨a, b, c, d⟩
  · rw [if_neg (by omega), if_neg (show ¬ (f2 48 ≠ -1 ∧ w = 0 ∧ 0 ≤ k ∧ k ≤ f2 48 - 1) by omega), if_neg (show ¬ (f2 48 ≠ -1 ∧ w = 1 ∧ 0 ≤ k ∧ k ≤ 7) by omega)]
    split
    · rename_i hh; exact c k hh.2.1 hh.2.2
    · rfl
  · by_cases h1 : w = 0 ∧ 0 ≤ k ∧ k < f 96
    · rw [if_pos h1, if_pos (by omega)]; exact (c k h1.2.1 h1.2.2).symm
    · rw [if_neg h1, if_neg (show ¬ (f2 48 ≠ -1 ∧ w = 0 ∧ 0 ≤ k ∧ k ≤ f2 48 - 1) by omega)]
      by_cases h2 : w = 1 ∧ 0 ≤ k ∧ k ≤ 7
      · rw [if_pos h2, if_pos (by omega)]; exact d k h2.2.1 h2.2.2
      · rw [if_neg h2, if_neg (fun z => h2 z.2)]

