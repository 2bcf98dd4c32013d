/-! ===== the reference: a text is read ===== -/
theorem tN_in {U : Int → Int} {z : Int} (z0 : 0 ≤ z) : 0 ≤ tN U z ∧ tN U z ≤ z := by
  have h := tkN_in (U := U) z0 400
  unfold tN
  omega
theorem rdh_of {U X15 X16 X17 C V Q : Int → Int} {z : Int} (z0 : 0 ≤ z) (z4 : z ≤ 400) (h : ∀ i : Int, 0 ≤ i → i < tN U z → Q i = tP U z i ∧ C i = codeT U z (tP U z i) ∧ V i = valT U z (tP U z i)) (e15 : X15 = iu C (tN U z) 0) (e16 : X16 = iu V (tN U z) 0) (e17 : X17 = iu Q (tN U z) z) : RdH (tN U z) (cT U z) (vT U z) (pT U z) X15 X16 X17 := by
  have hn := tN_in (U := U) z0
  have h4 := (tkN_in (U := U) z0 400).2.2.2
  refine ⟨⟨hn.1, by omega⟩, fun i i0 i1 => ?_, fun i hi => by unfold cT; rw [if_neg (by omega)]⟩
  subst e15; subst e16; subst e17
  unfold cT vT pT
  by_cases e : i = tN U z
  · subst e
    rw [iu_self, iu_self, iu_self, if_neg (by omega), if_neg (by omega), if_neg (by omega)]
    exact ⟨rfl, rfl, rfl, z0⟩
  · rw [iu_ne e, iu_ne e, iu_ne e, if_pos (by omega), if_pos (by omega), if_pos (by omega)]
    have q := h i i0 (by omega)
    exact ⟨q.2.1, q.2.2, q.1, (h4 i i0 (by have e2 : (tkN U z 400).2.1 = tN U z := rfl; omega)).1⟩
set_option maxHeartbeats 4000000 in
set_option maxRecDepth 100000 in
theorem m_splits {l : Launch} {o : Nat} {ar : Nat → Nat} {f : mF} {g j : mA} {X7 : Int → Int} {X11 : Int → Int} {z : Int} {U : Int → Int} (eg7 : g 7 = X7) (eg11 : g 11 = X11) (hz : zIn z) (hW : WdH X7) (hU : TpU X11 U) (z0 : 0 ≤ z) (z4 : z ≤ 400) : MM l o ar MX8_splits 1 [.ref o, vI z] f g j (PV (fun f' g' j' => (f' 18 = tN U z ∧ RdH (tN U z) (cT U z) (vT U z) (pT U z) (g' 15) (g' 16) (g' 17)) ∧ eqx [18] f f' ∧ eqx [15, 16, 17] g g' ∧ j' = j)) := by
  refine MM.intro [some (.ref o), some (vI z), none, none, none, none] (by decide) (Nat.le_of_ble_eq_true rfl) rfl (fun d hd h0 h hH hA => ?_)
  have hfE : eqx [18] f f := eqx.rf
  have hgE : eqx [15, 16, 17] g g := eqx.rf
  refine z_ald_0 (TX8_splits_0.at 0 rfl) ?_
  refine z_iconst (TX8_splits_0.at 1 rfl) ?_
  refine zm_putIE (TX8_splits_0.at 2 rfl) fp8_156 hH hA rfl (by decide) (by first | omega | exact b2i_01 _) (fun h f2 e1 e2 hH hA => ?_)
  have hfE := hfE.put e1 (by decide)
  refine z_iconst (TX8_splits_0.at 3 rfl) ?_
  refine z_ist_2 (TX8_splits_0.at 4 rfl) (Nat.le_of_ble_eq_true rfl) rfl ?_
  refine lp_sp4 (U := U) hd hW hU z0 z4 (fun nn P C V Q o2 o3 o4 o5 f7 g7 h hnP hAr eg11 eg15 eg16 eg17 ef18 xf xg hH hA => ?_) 401 0 0 0 (fun _ => 0) _ _ _ none none none _ _ _ rfl (by omega) (by omega) (fun i h0 h1 => by omega) eg7 eg11 rfl rfl rfl e2 eqx.rf eqx.rf hH hA
  have hfE := hfE.trans xf (by decide)
  have eg7 := (xg 7 (by decide)).trans eg7
  have hgE := hgE.trans xg (by decide)
  obtain ⟨hn1, hn2⟩ := hnP
  subst hn1
  subst hn2
  have hnz := tN_in (U := U) z0
  refine z_ald_0 (TX8_splits_3.at 16 rfl) ?_
  refine zm_getA (TX8_splits_3.at 17 rfl) fl8_60 hH (by decide) (by decide) ?_
  refine z_ald_0 (TX8_splits_3.at 18 rfl) ?_
  refine zm_getIE ef18 (TX8_splits_3.at 19 rfl) fl8_156 hH rfl (by decide) (fun r268 => ?_)
  refine z_ild_1 (TX8_splits_3.at 20 rfl) ?_
  refine zm_iastE (TX8_splits_3.at 21 rfl) hH hA rfl (by omega) (show _ < ((401 : Nat) : Int) by omega) (by omega) (fun h g272 e1 e2 hH hA => ?_)
  have eg15 := (e1 15 (by decide)).trans eg15
  have eg16 := (e1 16 (by decide)).trans eg16
  rw [eg17] at e2; have eg17 := e2
  have eg7 := (e1 7 (by decide)).trans eg7
  have eg11 := (e1 11 (by decide)).trans eg11
  have hgE := hgE.put e1 (by decide)
  refine z_ald_0 (TX8_splits_3.at 22 rfl) ?_
  refine zm_getA (TX8_splits_3.at 23 rfl) fl8_54 hH (by decide) (by decide) ?_
  refine z_ald_0 (TX8_splits_3.at 24 rfl) ?_
  refine zm_getIE ef18 (TX8_splits_3.at 25 rfl) fl8_156 hH rfl (by decide) (fun r278 => ?_)
  refine z_iconst (TX8_splits_3.at 26 rfl) ?_
  refine zm_iastE (TX8_splits_3.at 27 rfl) hH hA rfl (by omega) (show _ < ((401 : Nat) : Int) by omega) (by omega) (fun h g282 e1 e2 hH hA => ?_)
  rw [eg15] at e2; have eg15 := e2
  have eg16 := (e1 16 (by decide)).trans eg16
  have eg17 := (e1 17 (by decide)).trans eg17
  have eg7 := (e1 7 (by decide)).trans eg7
  have eg11 := (e1 11 (by decide)).trans eg11
  have hgE := hgE.put e1 (by decide)
  refine z_ald_0 (TX8_splits_3.at 28 rfl) ?_
  refine zm_getA (TX8_splits_3.at 29 rfl) fl8_57 hH (by decide) (by decide) ?_
  refine z_ald_0 (TX8_splits_3.at 30 rfl) ?_
  refine zm_getIE ef18 (TX8_splits_3.at 31 rfl) fl8_156 hH rfl (by decide) (fun r288 => ?_)
  refine z_iconst (TX8_splits_3.at 32 rfl) ?_
  refine zm_iastE (TX8_splits_3.at 33 rfl) hH hA rfl (by omega) (show _ < ((401 : Nat) : Int) by omega) (by omega) (fun h g292 e1 e2 hH hA => ?_)
  have eg15 := (e1 15 (by decide)).trans eg15
  rw [eg16] at e2; have eg16 := e2
  have eg17 := (e1 17 (by decide)).trans eg17
  have eg7 := (e1 7 (by decide)).trans eg7
  have eg11 := (e1 11 (by decide)).trans eg11
  have hgE := hgE.put e1 (by decide)
  refine zm_vret (TX8_splits_3.at 34 rfl) rfl hH hA ?_
  exact ⟨⟨ef18, rdh_of z0 z4 hAr eg15 eg16 eg17⟩, hfE, hgE, rfl⟩

def cvC (pl : Int → Int) (r : Except Nat (Nat × Nat × Cla)) : RS := match r with
  | .error e => .error (pl e)
  | .ok (t, p, _) => .ok (t, p)
def ifS (lw : Bool) (c v pl : Int → Int) (s : RS) : RS := if tkB c s 4 = true then bdR pl (tkS s) (pTestD lw c v 8) else s
def tiS (c v pl : Int → Int) (s : RS) : RS := if tkB c s 27 = true then mnS c v pl (tkS s) 1 20 else s
theorem ok_if {lw : Bool} {c v pl : Int → Int} {N : Int} {s : RS} (hz : ∀ i : Int, N ≤ i → c i = 0) (h : SOK N s) : SOK N (ifS lw c v pl s) := by
  unfold ifS
  split
  · rename_i q; exact ok_bd hz (ok_tk hz h (by decide) q) (Adv_test lw c v 8) (Pk_test lw c v 8)
  · exact h
theorem ok_ti {c v pl : Int → Int} {N : Int} {s : RS} (hz : ∀ i : Int, N ≤ i → c i = 0) (h : SOK N s) : SOK N (tiS c v pl s) := by
  unfold tiS
  split
  · rename_i q; exact ok_mn hz (ok_tk hz h (by decide) q)
  · exact h
/-- behind the sums -/
def finC (lw : Bool) (c v : Int → Int) (vb : Int) (d1 d2 : Den) (tm : Int) (t p : Nat) : Except Nat (Nat × Nat × Cla) := match pIf lw c v t p with
  | .error e => .error e
  | .ok (t', p', q) => .ok (t', p', (vb, d1, d2, tm, q))
def timC (lw : Bool) (c v : Int → Int) (vb : Int) (d1 d2 : Den) (t p : Nat) : Except Nat (Nat × Nat × Cla) := if c t = 27 then (if c (t + 1) = 50 ∧ 1 ≤ v (t + 1) ∧ v (t + 1) ≤ 20 then finC lw c v vb d1 d2 (v (t + 1)) (t + 2) p else .error (t + 1)) else finC lw c v vb d1 d2 1 t p
theorem fin_if {lw : Bool} {c v pl : Int → Int} {vb tm : Int} {d1 d2 : Den} {t p : Nat} : cvC pl (finC lw c v vb d1 d2 tm t p) = ifS lw c v pl (.ok (t, p)) := by
  unfold finC pIf ifS
  have hd : tkB c (.ok (t, p)) 4 = true ↔ c t = 4 := decide_eq_true_iff
  by_cases h : c t = 4
  · rw [if_pos h, if_pos (hd.mpr h)]
    show _ = cvR pl (pTestD lw c v 8 (t + 1) p)
    cases hg : pTestD lw c v 8 (t + 1) p with
    | error e => rfl
    | ok r => rfl
  · rw [if_neg h, if_neg (fun q => h (hd.mp q))]; rfl
theorem tim_ti {lw : Bool} {c v pl : Int → Int} {vb : Int} {d1 d2 : Den} {t p : Nat} : cvC pl (timC lw c v vb d1 d2 t p) = ifS lw c v pl (tiS c v pl (.ok (t, p))) := by
  unfold timC tiS
  have hd : tkB c (.ok (t, p)) 27 = true ↔ c t = 27 := decide_eq_true_iff
  by_cases h : c t = 27
  · rw [if_pos h, if_pos (hd.mpr h)]
    show _ = ifS lw c v pl (if c ((t + 1 : Nat) : Int) = 50 ∧ 1 ≤ v ((t + 1 : Nat) : Int) ∧ v ((t + 1 : Nat) : Int) ≤ 20 then .ok (t + 1 + 1, p) else .error (pl ((t + 1 : Nat) : Int)))
    rw [show ((t + 1 : Nat) : Int) = (t : Int) + 1 by omega]
    by_cases q : c ((t : Int) + 1) = 50 ∧ 1 ≤ v ((t : Int) + 1) ∧ v ((t : Int) + 1) ≤ 20
    · rw [if_pos q, if_pos q, fin_if]
    · rw [if_neg q, if_neg q]
      show Except.error (pl ((t + 1 : Nat) : Int)) = _
      rw [show ((t + 1 : Nat) : Int) = (t : Int) + 1 by omega]
      rfl
  · rw [if_neg h, if_neg (fun q => h (hd.mp q)), fin_if]
theorem cla_A {c v pl : Int → Int} {t p : Nat} (h : c t = 1 ∨ c t = 2) : ifS true c v pl (bdR pl (.ok (t + 1, p)) (pSumD true c v 8)) = cvC pl (pCla true c v t p) := by
  unfold pCla
  simp only [reduceIte]
  rw [if_pos h]
  show ifS true c v pl (cvR pl (pSumD true c v 8 (t + 1) p)) = _
  cases hg : pSumD true c v 8 (t + 1) p with
  | error e => rfl
  | ok r =>
    obtain ⟨t', p', k⟩ := r
    exact (fin_if (vb := c t) (d1 := k) (d2 := dOne) (tm := 1)).symm
theorem cla_B {c v pl : Int → Int} {t p : Nat} (h : ¬ (c t = 1 ∨ c t = 2)) : ifS true c v pl (msS c pl (.ok (t, p)) 3) = cvC pl (pCla true c v t p) := by
  unfold pCla
  simp only [reduceIte]
  rw [if_neg h]
  show ifS true c v pl (if c t = 3 then .ok (t + 1, p) else .error (pl t)) = _
  by_cases q : c t = 3
  · rw [if_pos q, if_pos q]
    exact (fin_if (vb := 3) (d1 := dOne) (d2 := dOne) (tm := 1)).symm
  · rw [if_neg q, if_neg q]; rfl
theorem ord_A {c v pl : Int → Int} {t p : Nat} (h : c t = 24) : ifS false c v pl (tiS c v pl (bdR pl (msS c pl (bdR pl (tkS (.ok (t, p))) (pSumD false c v 8)) 25) (pSumD false c v 8))) = cvC pl (pCla false c v t p) := by
  unfold pCla
  simp only [Bool.false_eq_true, reduceIte]
  rw [if_pos h]
  show ifS false c v pl (tiS c v pl (bdR pl (msS c pl (cvR pl (pSumD false c v 8 (t + 1) p)) 25) (pSumD false c v 8))) = _
  cases hg : pSumD false c v 8 (t + 1) p with
  | error e => rfl
  | ok r =>
    obtain ⟨t', p', k⟩ := r
    show ifS false c v pl (tiS c v pl (bdR pl (if c t' = 25 then .ok (t' + 1, p') else .error (pl t')) (pSumD false c v 8))) = _
    simp only
    by_cases q : c t' = 25
    · rw [if_pos q, if_pos q]
      show ifS false c v pl (tiS c v pl (cvR pl (pSumD false c v 8 (t' + 1) p'))) = _
      cases hg2 : pSumD false c v 8 (t' + 1) p' with
      | error e => rfl
      | ok r =>
        obtain ⟨t2, p2, k2⟩ := r
        exact (tim_ti (vb := 24) (d1 := k) (d2 := k2)).symm
    · rw [if_neg q, if_neg q]; rfl
theorem ord_B {c v pl : Int → Int} {t p : Nat} (h : c t = 22 ∨ c t = 23) : ifS false c v pl (tiS c v pl (bdR pl (tkS (.ok (t, p))) (pSumD false c v 8))) = cvC pl (pCla false c v t p) := by
  unfold pCla
  simp only [Bool.false_eq_true, reduceIte]
  rw [if_neg (show ¬ c t = 24 by omega), if_pos h]
  show ifS false c v pl (tiS c v pl (cvR pl (pSumD false c v 8 (t + 1) p))) = _
  cases hg : pSumD false c v 8 (t + 1) p with
  | error e => rfl
  | ok r =>
    obtain ⟨t', p', k⟩ := r
    exact (tim_ti (vb := c t) (d1 := k) (d2 := dOne)).symm
theorem ord_C {c v pl : Int → Int} {t p : Nat} (h : ¬ c t = 24) (h2 : ¬ (c t = 22 ∨ c t = 23)) : ifS false c v pl (tiS c v pl (msS c pl (.ok (t, p)) 26)) = cvC pl (pCla false c v t p) := by
  unfold pCla
  simp only [Bool.false_eq_true, reduceIte]
  rw [if_neg h, if_neg h2]
  show ifS false c v pl (tiS c v pl (if c t = 26 then .ok (t + 1, p) else .error (pl t))) = _
  by_cases q : c t = 26
  · rw [if_pos q, if_pos q]
    exact (tim_ti (vb := 26) (d1 := dOne) (d2 := dOne)).symm
  · rw [if_neg q, if_neg q]; rfl
theorem ok_cla {lw : Bool} {c v pl : Int → Int} {N : Int} {t p : Nat} (hz : ∀ i : Int, N ≤ i → c i = 0) (h : SOK N (.ok (t, p))) : SOK N (cvC pl (pCla lw c v t p)) := by
  have nx : ∀ x : Int, x ≠ 0 → c t = x → SOK N (.ok (t + 1, p)) := fun x hx e => ok_tk (s := .ok (t, p)) hz h hx (decide_eq_true e)
  cases lw with
  | true =>
    by_cases q : c t = 1 ∨ c t = 2
    · rw [← cla_A q]
      refine ok_if hz (ok_bd hz ?_ (Adv_sum true c v 8) (Pk_sum true c v 8))
      rcases q with q | q
      · exact nx 1 (by decide) q
      · exact nx 2 (by decide) q
    · rw [← cla_B q]; exact ok_if hz (ok_ms hz h (by decide))
  | false =>
    by_cases q : c t = 24
    · rw [← ord_A q]
      exact ok_if hz (ok_ti hz (ok_bd hz (ok_ms hz (ok_bd hz (nx 24 (by decide) q) (Adv_sum false c v 8) (Pk_sum false c v 8)) (by decide)) (Adv_sum false c v 8) (Pk_sum false c v 8)))
    · by_cases q2 : c t = 22 ∨ c t = 23
      · rw [← ord_B q2]
        refine ok_if hz (ok_ti hz (ok_bd hz ?_ (Adv_sum false c v 8) (Pk_sum false c v 8)))
        rcases q2 with q | q
        · exact nx 22 (by decide) q
        · exact nx 23 (by decide) q
      · rw [← ord_C q q2]; exact ok_if hz (ok_ti hz (ok_ms hz h (by decide)))
theorem tkc {c : Int → Int} {t p : Nat} {x : Int} : tkB c (.ok (t, p)) x = true ↔ c t = x := decide_eq_true_iff
theorem if_t {lw : Bool} {c v pl : Int → Int} {s : RS} (h : tkB c s 4 = true) : ifS lw c v pl s = bdR pl (tkS s) (pTestD lw c v 8) := if_pos h
theorem if_f {lw : Bool} {c v pl : Int → Int} {s : RS} (h : ¬ tkB c s 4 = true) : ifS lw c v pl s = s := if_neg h
theorem ti_t {c v pl : Int → Int} {s : RS} (h : tkB c s 27 = true) : tiS c v pl s = mnS c v pl (tkS s) 1 20 := if_pos h
theorem ti_f {c v pl : Int → Int} {s : RS} (h : ¬ tkB c s 27 = true) : tiS c v pl s = s := if_neg h
set_option maxHeartbeats 4000000 in
set_option maxRecDepth 100000 in
theorem r_readClause {l : Launch} {o : Nat} {ar : Nat → Nat} {f : mF} {g j : mA} {N : Int} {c v pl X15 X16 X17 : Int → Int} {w8 w9 io : Int} (hR : RdH N c v pl X15 X16 X17) {t p : Nat} (e8 : w8 = wLo true) (e9 : w9 = wHi true) (e10 : io = inL true) (eg15 : g 15 = X15) (eg16 : g 16 = X16) (eg17 : g 17 = X17) (ef8 : f 8 = w8) (ef9 : f 9 = w9) (ef10 : f 10 = io) (hSt : St f (.ok (t, p))) (hOK : SOK N (.ok (t, p))) : MM l o ar MX8_readClause 62 [.ref o] f g j (PV (fun f' g' j' => St f' (cvC pl (pCla true c v t p)) ∧ eqx [19, 20, 21] f f' ∧ eqx [] g g' ∧ j' = j)) := by
  refine MM.intro [some (.ref o)] (by decide) (Nat.le_of_ble_eq_true rfl) rfl (fun d hd h0 h hH hA => ?_)
  have hfE : eqx [19, 20, 21] f f := eqx.rf
  have hgE : eqx [] g g := eqx.rf
  refine z_ald_0 (TX8_readClause.at 0 rfl) ?_
  refine z_iconst (TX8_readClause.at 1 rfl) ?_
  refine zm_callI1 (m_takes0 eg15 rfl rfl (by omega) (st_b hSt hOK hR.1.2)) (TX8_readClause.at 2 rfl) c8_180 rfl rfl hH hA (by omega) (Nat.le_of_ble_eq_true rfl) (fun x2 f2 g2 j2 h r2 q2 hH hA => ?_)
  obtain ⟨q2, xf, xg, xj⟩ := q2
  rw [xj] at hH
  have ef8 := (xf 8 (by decide)).trans ef8
  have ef9 := (xf 9 (by decide)).trans ef9
  have ef10 := (xf 10 (by decide)).trans ef10
  have hfE := hfE.trans xf (by decide)
  have eg15 := (xg 15 (by decide)).trans eg15
  have eg16 := (xg 16 (by decide)).trans eg16
  have eg17 := (xg 17 (by decide)).trans eg17
  have hgE := hgE.trans xg (by decide)
  have qL := q2
  have hT2 := sv_takes hR hSt hOK qL xf
  rw [hT2.1] at r2 ⊢
  refine z_if_neB (tgt := 16) (TX8_readClause.at 3 rfl) rfl (fun c1 => ?_) (fun c1 => ?_)
  · skip
    have hSt := hT2.2.1 c1
    have hOK := ok_tk hR.2.2 hOK (by decide) c1
    have hcc : c t = 1 ∨ c t = 2 := Or.inl (tkc.mp c1)
    refine z_ald_0 (TX8_readClause.at 8 rfl) ?_
    refine z_iconst (TX8_readClause.at 9 rfl) ?_
    refine zm_callV1 ((rd_sum hR e8 e9 e10 8 (by decide)) _ _ _ _ eg15 eg16 eg17 ef8 ef9 ef10 hSt hOK) (TX8_readClause.at 10 rfl) c8_189 rfl rfl hH hA (by omega) (Nat.le_of_ble_eq_true rfl) (fun f18 g18 j18 h q18 hH hA => ?_)
    obtain ⟨q18, xf, xg, xj⟩ := q18
    rw [xj] at hH
    have ef8 := (xf 8 (by decide)).trans ef8
    have ef9 := (xf 9 (by decide)).trans ef9
    have ef10 := (xf 10 (by decide)).trans ef10
    have hfE := hfE.trans xf (by decide)
    have eg15 := (xg 15 (by decide)).trans eg15
    have eg16 := (xg 16 (by decide)).trans eg16
    have eg17 := (xg 17 (by decide)).trans eg17
    have hgE := hgE.trans xg (by decide)
    have qL := q18
    have hSt := qL
    have hOK := ok_bd (pl := pl) hR.2.2 hOK (Adv_sum true c v 8) (Pk_sum true c v 8)
    refine z_goto (tgt := 29) (TX8_readClause.at 11 rfl) rfl ?_
    refine z_ald_0 (TX8_readClause.at 15 rfl) ?_
    refine z_iconst (TX8_readClause.at 16 rfl) ?_
    refine zm_callI1 (m_takes0 eg15 rfl rfl (by omega) (st_b hSt hOK hR.1.2)) (TX8_readClause.at 17 rfl) c8_180 rfl rfl hH hA (by omega) (Nat.le_of_ble_eq_true rfl) (fun x31 f31 g31 j31 h r31 q31 hH hA => ?_)
    obtain ⟨q31, xf, xg, xj⟩ := q31
    rw [xj] at hH
    have ef8 := (xf 8 (by decide)).trans ef8
    have ef9 := (xf 9 (by decide)).trans ef9
    have ef10 := (xf 10 (by decide)).trans ef10
    have hfE := hfE.trans xf (by decide)
    have eg15 := (xg 15 (by decide)).trans eg15
    have eg16 := (xg 16 (by decide)).trans eg16
    have eg17 := (xg 17 (by decide)).trans eg17
    have hgE := hgE.trans xg (by decide)
    have qL := q31
    have hT31 := sv_takes hR hSt hOK qL xf
    rw [hT31.1] at r31 ⊢
    refine z_if_eqB (tgt := 42) (TX8_readClause.at 18 rfl) rfl (fun c2 => ?_) (fun c2 => ?_)
    · skip
      refine zm_vret (TX8_readClause.at 22 rfl) rfl hH hA ?_
      first
      | exact ⟨(if_t c2).symm.trans (cla_A hcc) ▸ hSt, hfE, hgE, rfl⟩
      | exact ⟨(if_t c2).symm.trans (cla_B hcc) ▸ hSt, hfE, hgE, rfl⟩
      | exact ⟨(if_f c2).symm.trans (cla_A hcc) ▸ (hT31.2.2 c2), hfE, hgE, rfl⟩
      | exact ⟨(if_f c2).symm.trans (cla_B hcc) ▸ (hT31.2.2 c2), hfE, hgE, rfl⟩
    · skip
      have hSt := hT31.2.1 c2
      have hOK := ok_tk hR.2.2 hOK (by decide) c2
      refine z_ald_0 (TX8_readClause.at 19 rfl) ?_
      refine z_iconst (TX8_readClause.at 20 rfl) ?_
      refine zm_callV1 ((rd_test hR e8 e9 e10 8 (by decide)) _ _ _ _ eg15 eg16 eg17 ef8 ef9 ef10 hSt hOK) (TX8_readClause.at 21 rfl) c8_196 rfl rfl hH hA (by omega) (Nat.le_of_ble_eq_true rfl) (fun f39 g39 j39 h q39 hH hA => ?_)
      obtain ⟨q39, xf, xg, xj⟩ := q39
      rw [xj] at hH
      have ef8 := (xf 8 (by decide)).trans ef8
      have ef9 := (xf 9 (by decide)).trans ef9
      have ef10 := (xf 10 (by decide)).trans ef10
      have hfE := hfE.trans xf (by decide)
      have eg15 := (xg 15 (by decide)).trans eg15
      have eg16 := (xg 16 (by decide)).trans eg16
      have eg17 := (xg 17 (by decide)).trans eg17
      have hgE := hgE.trans xg (by decide)
      have qL := q39
      have hSt := qL
      have hOK := ok_bd (pl := pl) hR.2.2 hOK (Adv_test true c v 8) (Pk_test true c v 8)
      refine zm_vret (TX8_readClause.at 22 rfl) rfl hH hA ?_
      first
      | exact ⟨(if_t c2).symm.trans (cla_A hcc) ▸ hSt, hfE, hgE, rfl⟩
      | exact ⟨(if_t c2).symm.trans (cla_B hcc) ▸ hSt, hfE, hgE, rfl⟩
      | exact ⟨(if_f c2).symm.trans (cla_A hcc) ▸ (hT31.2.2 c2), hfE, hgE, rfl⟩
      | exact ⟨(if_f c2).symm.trans (cla_B hcc) ▸ (hT31.2.2 c2), hfE, hgE, rfl⟩
  · skip
    have hSt := hT2.2.2 c1
    refine z_ald_0 (TX8_readClause.at 4 rfl) ?_
    refine z_iconst (TX8_readClause.at 5 rfl) ?_
    refine zm_callI1 (m_takes0 eg15 rfl rfl (by omega) (st_b hSt hOK hR.1.2)) (TX8_readClause.at 6 rfl) c8_180 rfl rfl hH hA (by omega) (Nat.le_of_ble_eq_true rfl) (fun x10 f10 g10 j10 h r10 q10 hH hA => ?_)
    obtain ⟨q10, xf, xg, xj⟩ := q10
    rw [xj] at hH
    have ef8 := (xf 8 (by decide)).trans ef8
    have ef9 := (xf 9 (by decide)).trans ef9
    have ef10 := (xf 10 (by decide)).trans ef10
    have hfE := hfE.trans xf (by decide)
    have eg15 := (xg 15 (by decide)).trans eg15
    have eg16 := (xg 16 (by decide)).trans eg16
    have eg17 := (xg 17 (by decide)).trans eg17
    have hgE := hgE.trans xg (by decide)
    have qL := q10
    have hT10 := sv_takes hR hSt hOK qL xf
    rw [hT10.1] at r10 ⊢
    refine z_if_eqB (tgt := 24) (TX8_readClause.at 7 rfl) rfl (fun c3 => ?_) (fun c3 => ?_)
    · skip
      have hSt := hT10.2.2 c3
      have hcc : ¬ (c t = 1 ∨ c t = 2) := fun q => q.elim (fun z => c1 (tkc.mpr z)) (fun z => c3 (tkc.mpr z))
      refine z_ald_0 (TX8_readClause.at 12 rfl) ?_
      refine z_iconst (TX8_readClause.at 13 rfl) ?_
      refine zm_callV1 (m_must eg15 eg17 rfl rfl (by omega) (st_b hSt hOK hR.1.2)) (TX8_readClause.at 14 rfl) c8_193 rfl rfl hH hA (by omega) (Nat.le_of_ble_eq_true rfl) (fun f26 g26 j26 h q26 hH hA => ?_)
      obtain ⟨q26, xf, xg, xj⟩ := q26
      rw [xj] at hH
      have ef8 := (xf 8 (by decide)).trans ef8
      have ef9 := (xf 9 (by decide)).trans ef9
      have ef10 := (xf 10 (by decide)).trans ef10
      have hfE := hfE.trans xf (by decide)
      have eg15 := (xg 15 (by decide)).trans eg15
      have eg16 := (xg 16 (by decide)).trans eg16
      have eg17 := (xg 17 (by decide)).trans eg17
      have hgE := hgE.trans xg (by decide)
      have qL := q26
      have hSt := sv_must hR hSt hOK qL xf
      have hOK := ok_ms (pl := pl) (x := 3) hR.2.2 hOK (by decide)
      refine z_ald_0 (TX8_readClause.at 15 rfl) ?_
      refine z_iconst (TX8_readClause.at 16 rfl) ?_
      refine zm_callI1 (m_takes0 eg15 rfl rfl (by omega) (st_b hSt hOK hR.1.2)) (TX8_readClause.at 17 rfl) c8_180 rfl rfl hH hA (by omega) (Nat.le_of_ble_eq_true rfl) (fun x31 f31 g31 j31 h r31 q31 hH hA => ?_)
      obtain ⟨q31, xf, xg, xj⟩ := q31
      rw [xj] at hH
      have ef8 := (xf 8 (by decide)).trans ef8
      have ef9 := (xf 9 (by decide)).trans ef9
      have ef10 := (xf 10 (by decide)).trans ef10
      have hfE := hfE.trans xf (by decide)
      have eg15 := (xg 15 (by decide)).trans eg15
      have eg16 := (xg 16 (by decide)).trans eg16
      have eg17 := (xg 17 (by decide)).trans eg17
      have hgE := hgE.trans xg (by decide)
      have qL := q31
      have hT31 := sv_takes hR hSt hOK qL xf
      rw [hT31.1] at r31 ⊢
      refine z_if_eqB (tgt := 42) (TX8_readClause.at 18 rfl) rfl (fun c4 => ?_) (fun c4 => ?_)
      · skip
        refine zm_vret (TX8_readClause.at 22 rfl) rfl hH hA ?_
        first
        | exact ⟨(if_t c4).symm.trans (cla_A hcc) ▸ hSt, hfE, hgE, rfl⟩
        | exact ⟨(if_t c4).symm.trans (cla_B hcc) ▸ hSt, hfE, hgE, rfl⟩
        | exact ⟨(if_f c4).symm.trans (cla_A hcc) ▸ (hT31.2.2 c4), hfE, hgE, rfl⟩
        | exact ⟨(if_f c4).symm.trans (cla_B hcc) ▸ (hT31.2.2 c4), hfE, hgE, rfl⟩
      · skip
        have hSt := hT31.2.1 c4
        have hOK := ok_tk hR.2.2 hOK (by decide) c4
        refine z_ald_0 (TX8_readClause.at 19 rfl) ?_
        refine z_iconst (TX8_readClause.at 20 rfl) ?_
        refine zm_callV1 ((rd_test hR e8 e9 e10 8 (by decide)) _ _ _ _ eg15 eg16 eg17 ef8 ef9 ef10 hSt hOK) (TX8_readClause.at 21 rfl) c8_196 rfl rfl hH hA (by omega) (Nat.le_of_ble_eq_true rfl) (fun f39 g39 j39 h q39 hH hA => ?_)
        obtain ⟨q39, xf, xg, xj⟩ := q39
        rw [xj] at hH
        have ef8 := (xf 8 (by decide)).trans ef8
        have ef9 := (xf 9 (by decide)).trans ef9
        have ef10 := (xf 10 (by decide)).trans ef10
        have hfE := hfE.trans xf (by decide)
        have eg15 := (xg 15 (by decide)).trans eg15
        have eg16 := (xg 16 (by decide)).trans eg16
        have eg17 := (xg 17 (by decide)).trans eg17
        have hgE := hgE.trans xg (by decide)
        have qL := q39
        have hSt := qL
        have hOK := ok_bd (pl := pl) hR.2.2 hOK (Adv_test true c v 8) (Pk_test true c v 8)
        refine zm_vret (TX8_readClause.at 22 rfl) rfl hH hA ?_
        first
        | exact ⟨(if_t c4).symm.trans (cla_A hcc) ▸ hSt, hfE, hgE, rfl⟩
        | exact ⟨(if_t c4).symm.trans (cla_B hcc) ▸ hSt, hfE, hgE, rfl⟩
        | exact ⟨(if_f c4).symm.trans (cla_A hcc) ▸ (hT31.2.2 c4), hfE, hgE, rfl⟩
        | exact ⟨(if_f c4).symm.trans (cla_B hcc) ▸ (hT31.2.2 c4), hfE, hgE, rfl⟩
    · skip
      have hSt := hT10.2.1 c3
      have hOK := ok_tk hR.2.2 hOK (by decide) c3
      have hcc : c t = 1 ∨ c t = 2 := Or.inr (tkc.mp c3)
      refine z_ald_0 (TX8_readClause.at 8 rfl) ?_
      refine z_iconst (TX8_readClause.at 9 rfl) ?_
      refine zm_callV1 ((rd_sum hR e8 e9 e10 8 (by decide)) _ _ _ _ eg15 eg16 eg17 ef8 ef9 ef10 hSt hOK) (TX8_readClause.at 10 rfl) c8_189 rfl rfl hH hA (by omega) (Nat.le_of_ble_eq_true rfl) (fun f18 g18 j18 h q18 hH hA => ?_)
      obtain ⟨q18, xf, xg, xj⟩ := q18
      rw [xj] at hH
      have ef8 := (xf 8 (by decide)).trans ef8
      have ef9 := (xf 9 (by decide)).trans ef9
      have ef10 := (xf 10 (by decide)).trans ef10
      have hfE := hfE.trans xf (by decide)
      have eg15 := (xg 15 (by decide)).trans eg15
      have eg16 := (xg 16 (by decide)).trans eg16
      have eg17 := (xg 17 (by decide)).trans eg17
      have hgE := hgE.trans xg (by decide)
      have qL := q18
      have hSt := qL
      have hOK := ok_bd (pl := pl) hR.2.2 hOK (Adv_sum true c v 8) (Pk_sum true c v 8)
      refine z_goto (tgt := 29) (TX8_readClause.at 11 rfl) rfl ?_
      refine z_ald_0 (TX8_readClause.at 15 rfl) ?_
      refine z_iconst (TX8_readClause.at 16 rfl) ?_
      refine zm_callI1 (m_takes0 eg15 rfl rfl (by omega) (st_b hSt hOK hR.1.2)) (TX8_readClause.at 17 rfl) c8_180 rfl rfl hH hA (by omega) (Nat.le_of_ble_eq_true rfl) (fun x31 f31 g31 j31 h r31 q31 hH hA => ?_)
      obtain ⟨q31, xf, xg, xj⟩ := q31
      rw [xj] at hH
      have ef8 := (xf 8 (by decide)).trans ef8
      have ef9 := (xf 9 (by decide)).trans ef9
      have ef10 := (xf 10 (by decide)).trans ef10
      have hfE := hfE.trans xf (by decide)
      have eg15 := (xg 15 (by decide)).trans eg15
      have eg16 := (xg 16 (by decide)).trans eg16
      have eg17 := (xg 17 (by decide)).trans eg17
      have hgE := hgE.trans xg (by decide)
      have qL := q31
      have hT31 := sv_takes hR hSt hOK qL xf
      rw [hT31.1] at r31 ⊢
      refine z_if_eqB (tgt := 42) (TX8_readClause.at 18 rfl) rfl (fun c5 => ?_) (fun c5 => ?_)
      · skip
        refine zm_vret (TX8_readClause.at 22 rfl) rfl hH hA ?_
        first
        | exact ⟨(if_t c5).symm.trans (cla_A hcc) ▸ hSt, hfE, hgE, rfl⟩
        | exact ⟨(if_t c5).symm.trans (cla_B hcc) ▸ hSt, hfE, hgE, rfl⟩
        | exact ⟨(if_f c5).symm.trans (cla_A hcc) ▸ (hT31.2.2 c5), hfE, hgE, rfl⟩
        | exact ⟨(if_f c5).symm.trans (cla_B hcc) ▸ (hT31.2.2 c5), hfE, hgE, rfl⟩
      · skip
        have hSt := hT31.2.1 c5
        have hOK := ok_tk hR.2.2 hOK (by decide) c5
        refine z_ald_0 (TX8_readClause.at 19 rfl) ?_
        refine z_iconst (TX8_readClause.at 20 rfl) ?_
        refine zm_callV1 ((rd_test hR e8 e9 e10 8 (by decide)) _ _ _ _ eg15 eg16 eg17 ef8 ef9 ef10 hSt hOK) (TX8_readClause.at 21 rfl) c8_196 rfl rfl hH hA (by omega) (Nat.le_of_ble_eq_true rfl) (fun f39 g39 j39 h q39 hH hA => ?_)
        obtain ⟨q39, xf, xg, xj⟩ := q39
        rw [xj] at hH
        have ef8 := (xf 8 (by decide)).trans ef8
        have ef9 := (xf 9 (by decide)).trans ef9
        have ef10 := (xf 10 (by decide)).trans ef10
        have hfE := hfE.trans xf (by decide)
        have eg15 := (xg 15 (by decide)).trans eg15
        have eg16 := (xg 16 (by decide)).trans eg16
        have eg17 := (xg 17 (by decide)).trans eg17
        have hgE := hgE.trans xg (by decide)
        have qL := q39
        have hSt := qL
        have hOK := ok_bd (pl := pl) hR.2.2 hOK (Adv_test true c v 8) (Pk_test true c v 8)
        refine zm_vret (TX8_readClause.at 22 rfl) rfl hH hA ?_
        first
        | exact ⟨(if_t c5).symm.trans (cla_A hcc) ▸ hSt, hfE, hgE, rfl⟩
        | exact ⟨(if_t c5).symm.trans (cla_B hcc) ▸ hSt, hfE, hgE, rfl⟩
        | exact ⟨(if_f c5).symm.trans (cla_A hcc) ▸ (hT31.2.2 c5), hfE, hgE, rfl⟩
        | exact ⟨(if_f c5).symm.trans (cla_B hcc) ▸ (hT31.2.2 c5), hfE, hgE, rfl⟩

set_option maxHeartbeats 4000000 in
set_option maxRecDepth 100000 in
theorem r_readOrder {l : Launch} {o : Nat} {ar : Nat → Nat} {f : mF} {g j : mA} {N : Int} {c v pl X15 X16 X17 : Int → Int} {w8 w9 io : Int} (hR : RdH N c v pl X15 X16 X17) {t p : Nat} (e8 : w8 = wLo false) (e9 : w9 = wHi false) (e10 : io = inL false) (eg15 : g 15 = X15) (eg16 : g 16 = X16) (eg17 : g 17 = X17) (ef8 : f 8 = w8) (ef9 : f 9 = w9) (ef10 : f 10 = io) (hSt : St f (.ok (t, p))) (hOK : SOK N (.ok (t, p))) : MM l o ar MX8_readOrder 62 [.ref o] f g j (PV (fun f' g' j' => St f' (cvC pl (pCla false c v t p)) ∧ eqx [19, 20, 21] f f' ∧ eqx [] g g' ∧ j' = j)) := by
  refine MM.intro [some (.ref o)] (by decide) (Nat.le_of_ble_eq_true rfl) rfl (fun d hd h0 h hH hA => ?_)
  have hfE : eqx [19, 20, 21] f f := eqx.rf
  have hgE : eqx [] g g := eqx.rf
  refine z_ald_0 (TX8_readOrder.at 0 rfl) ?_
  refine z_bipush (by decide) (TX8_readOrder.at 1 rfl) ?_
  refine zm_callI1 (m_takes0 eg15 rfl rfl (by omega) (st_b hSt hOK hR.1.2)) (TX8_readOrder.at 2 rfl) c8_180 rfl rfl hH hA (by omega) (Nat.le_of_ble_eq_true rfl) (fun x3 f3 g3 j3 h r3 q3 hH hA => ?_)
  obtain ⟨q3, xf, xg, xj⟩ := q3
  rw [xj] at hH
  have ef8 := (xf 8 (by decide)).trans ef8
  have ef9 := (xf 9 (by decide)).trans ef9
  have ef10 := (xf 10 (by decide)).trans ef10
  have hfE := hfE.trans xf (by decide)
  have eg15 := (xg 15 (by decide)).trans eg15
  have eg16 := (xg 16 (by decide)).trans eg16
  have eg17 := (xg 17 (by decide)).trans eg17
  have hgE := hgE.trans xg (by decide)
  have qL := q3
  have hT3 := sv_takes hR hSt hOK qL xf
  rw [hT3.1] at r3 ⊢
  refine z_if_eqB (tgt := 28) (TX8_readOrder.at 3 rfl) rfl (fun c1 => ?_) (fun c1 => ?_)
  · skip
    have hSt := hT3.2.2 c1
    have hB1 : ¬ c t = 24 := fun z => c1 (tkc.mpr z)
    refine z_ald_0 (TX8_readOrder.at 14 rfl) ?_
    refine z_bipush (by decide) (TX8_readOrder.at 15 rfl) ?_
    refine zm_callI1 (m_takes0 eg15 rfl rfl (by omega) (st_b hSt hOK hR.1.2)) (TX8_readOrder.at 16 rfl) c8_180 rfl rfl hH hA (by omega) (Nat.le_of_ble_eq_true rfl) (fun x31 f31 g31 j31 h r31 q31 hH hA => ?_)
    obtain ⟨q31, xf, xg, xj⟩ := q31
    rw [xj] at hH
    have ef8 := (xf 8 (by decide)).trans ef8
    have ef9 := (xf 9 (by decide)).trans ef9
    have ef10 := (xf 10 (by decide)).trans ef10
    have hfE := hfE.trans xf (by decide)
    have eg15 := (xg 15 (by decide)).trans eg15
    have eg16 := (xg 16 (by decide)).trans eg16
    have eg17 := (xg 17 (by decide)).trans eg17
    have hgE := hgE.trans xg (by decide)
    have qL := q31
    have hT31 := sv_takes hR hSt hOK qL xf
    rw [hT31.1] at r31 ⊢
    refine z_if_neB (tgt := 46) (TX8_readOrder.at 17 rfl) rfl (fun c2 => ?_) (fun c2 => ?_)
    · skip
      have hSt := hT31.2.1 c2
      have hOK := ok_tk hR.2.2 hOK (by decide) c2
      have hB2 : c t = 22 ∨ c t = 23 := Or.inl (tkc.mp c2)
      refine z_ald_0 (TX8_readOrder.at 22 rfl) ?_
      refine z_iconst (TX8_readOrder.at 23 rfl) ?_
      refine zm_callV1 ((rd_sum hR e8 e9 e10 8 (by decide)) _ _ _ _ eg15 eg16 eg17 ef8 ef9 ef10 hSt hOK) (TX8_readOrder.at 24 rfl) c8_189 rfl rfl hH hA (by omega) (Nat.le_of_ble_eq_true rfl) (fun f48 g48 j48 h q48 hH hA => ?_)
      obtain ⟨q48, xf, xg, xj⟩ := q48
      rw [xj] at hH
      have ef8 := (xf 8 (by decide)).trans ef8
      have ef9 := (xf 9 (by decide)).trans ef9
      have ef10 := (xf 10 (by decide)).trans ef10
      have hfE := hfE.trans xf (by decide)
      have eg15 := (xg 15 (by decide)).trans eg15
      have eg16 := (xg 16 (by decide)).trans eg16
      have eg17 := (xg 17 (by decide)).trans eg17
      have hgE := hgE.trans xg (by decide)
      have qL := q48
      have hSt := qL
      have hOK := ok_bd (pl := pl) hR.2.2 hOK (Adv_sum false c v 8) (Pk_sum false c v 8)
      refine z_goto (tgt := 60) (TX8_readOrder.at 25 rfl) rfl ?_
      have hfin := ord_B (v := v) (pl := pl) (p := p) hB2
      refine z_ald_0 (TX8_readOrder.at 29 rfl) ?_
      refine z_bipush (by decide) (TX8_readOrder.at 30 rfl) ?_
      refine zm_callI1 (m_takes0 eg15 rfl rfl (by omega) (st_b hSt hOK hR.1.2)) (TX8_readOrder.at 31 rfl) c8_180 rfl rfl hH hA (by omega) (Nat.le_of_ble_eq_true rfl) (fun x63 f63 g63 j63 h r63 q63 hH hA => ?_)
      obtain ⟨q63, xf, xg, xj⟩ := q63
      rw [xj] at hH
      have ef8 := (xf 8 (by decide)).trans ef8
      have ef9 := (xf 9 (by decide)).trans ef9
      have ef10 := (xf 10 (by decide)).trans ef10
      have hfE := hfE.trans xf (by decide)
      have eg15 := (xg 15 (by decide)).trans eg15
      have eg16 := (xg 16 (by decide)).trans eg16
      have eg17 := (xg 17 (by decide)).trans eg17
      have hgE := hgE.trans xg (by decide)
      have qL := q63
      have hT63 := sv_takes hR hSt hOK qL xf
      rw [hT63.1] at r63 ⊢
      refine z_if_eqB (tgt := 76) (TX8_readOrder.at 32 rfl) rfl (fun c3 => ?_) (fun c3 => ?_)
      · skip
        have hSt := hT63.2.2 c3
        rw [ti_f c3] at hfin
        refine z_ald_0 (TX8_readOrder.at 37 rfl) ?_
        refine z_iconst (TX8_readOrder.at 38 rfl) ?_
        refine zm_callI1 (m_takes0 eg15 rfl rfl (by omega) (st_b hSt hOK hR.1.2)) (TX8_readOrder.at 39 rfl) c8_180 rfl rfl hH hA (by omega) (Nat.le_of_ble_eq_true rfl) (fun x78 f78 g78 j78 h r78 q78 hH hA => ?_)
        obtain ⟨q78, xf, xg, xj⟩ := q78
        rw [xj] at hH
        have ef8 := (xf 8 (by decide)).trans ef8
        have ef9 := (xf 9 (by decide)).trans ef9
        have ef10 := (xf 10 (by decide)).trans ef10
        have hfE := hfE.trans xf (by decide)
        have eg15 := (xg 15 (by decide)).trans eg15
        have eg16 := (xg 16 (by decide)).trans eg16
        have eg17 := (xg 17 (by decide)).trans eg17
        have hgE := hgE.trans xg (by decide)
        have qL := q78
        have hT78 := sv_takes hR hSt hOK qL xf
        rw [hT78.1] at r78 ⊢
        refine z_if_eqB (tgt := 89) (TX8_readOrder.at 40 rfl) rfl (fun c4 => ?_) (fun c4 => ?_)
        · skip
          refine zm_vret (TX8_readOrder.at 44 rfl) rfl hH hA ?_
          first
          | exact ⟨(if_t c4).symm.trans hfin ▸ hSt, hfE, hgE, rfl⟩
          | exact ⟨(if_f c4).symm.trans hfin ▸ (hT78.2.2 c4), hfE, hgE, rfl⟩
        · skip
          have hSt := hT78.2.1 c4
          have hOK := ok_tk hR.2.2 hOK (by decide) c4
          refine z_ald_0 (TX8_readOrder.at 41 rfl) ?_
          refine z_iconst (TX8_readOrder.at 42 rfl) ?_
          refine zm_callV1 ((rd_test hR e8 e9 e10 8 (by decide)) _ _ _ _ eg15 eg16 eg17 ef8 ef9 ef10 hSt hOK) (TX8_readOrder.at 43 rfl) c8_196 rfl rfl hH hA (by omega) (Nat.le_of_ble_eq_true rfl) (fun f86 g86 j86 h q86 hH hA => ?_)
          obtain ⟨q86, xf, xg, xj⟩ := q86
          rw [xj] at hH
          have ef8 := (xf 8 (by decide)).trans ef8
          have ef9 := (xf 9 (by decide)).trans ef9
          have ef10 := (xf 10 (by decide)).trans ef10
          have hfE := hfE.trans xf (by decide)
          have eg15 := (xg 15 (by decide)).trans eg15
          have eg16 := (xg 16 (by decide)).trans eg16
          have eg17 := (xg 17 (by decide)).trans eg17
          have hgE := hgE.trans xg (by decide)
          have qL := q86
          have hSt := qL
          have hOK := ok_bd (pl := pl) hR.2.2 hOK (Adv_test false c v 8) (Pk_test false c v 8)
          refine zm_vret (TX8_readOrder.at 44 rfl) rfl hH hA ?_
          first
          | exact ⟨(if_t c4).symm.trans hfin ▸ hSt, hfE, hgE, rfl⟩
          | exact ⟨(if_f c4).symm.trans hfin ▸ (hT78.2.2 c4), hfE, hgE, rfl⟩
      · skip
        have hSt := hT63.2.1 c3
        have hOK := ok_tk hR.2.2 hOK (by decide) c3
        refine z_ald_0 (TX8_readOrder.at 33 rfl) ?_
        refine z_iconst (TX8_readOrder.at 34 rfl) ?_
        refine z_bipush (by decide) (TX8_readOrder.at 35 rfl) ?_
        refine zm_callV2 (m_mustNum eg15 eg16 eg17 rfl rfl (by omega) (by omega) (st_b hSt hOK hR.1.2) (sv_pl hR hSt hOK)) (TX8_readOrder.at 36 rfl) c8_199 rfl rfl hH hA (by omega) (Nat.le_of_ble_eq_true rfl) (fun f73 g73 j73 h q73 hH hA => ?_)
        obtain ⟨q73, xf, xg, xj⟩ := q73
        rw [xj] at hH
        have ef8 := (xf 8 (by decide)).trans ef8
        have ef9 := (xf 9 (by decide)).trans ef9
        have ef10 := (xf 10 (by decide)).trans ef10
        have hfE := hfE.trans xf (by decide)
        have eg15 := (xg 15 (by decide)).trans eg15
        have eg16 := (xg 16 (by decide)).trans eg16
        have eg17 := (xg 17 (by decide)).trans eg17
        have hgE := hgE.trans xg (by decide)
        have qL := q73
        have hSt := sv_mn hR hSt hOK qL xf
        have hOK := ok_mn (v := v) (pl := pl) (lo := 1) (hi := 20) hR.2.2 hOK
        rw [ti_t c3] at hfin
        refine z_ald_0 (TX8_readOrder.at 37 rfl) ?_
        refine z_iconst (TX8_readOrder.at 38 rfl) ?_
        refine zm_callI1 (m_takes0 eg15 rfl rfl (by omega) (st_b hSt hOK hR.1.2)) (TX8_readOrder.at 39 rfl) c8_180 rfl rfl hH hA (by omega) (Nat.le_of_ble_eq_true rfl) (fun x78 f78 g78 j78 h r78 q78 hH hA => ?_)
        obtain ⟨q78, xf, xg, xj⟩ := q78
        rw [xj] at hH
        have ef8 := (xf 8 (by decide)).trans ef8
        have ef9 := (xf 9 (by decide)).trans ef9
        have ef10 := (xf 10 (by decide)).trans ef10
        have hfE := hfE.trans xf (by decide)
        have eg15 := (xg 15 (by decide)).trans eg15
        have eg16 := (xg 16 (by decide)).trans eg16
        have eg17 := (xg 17 (by decide)).trans eg17
        have hgE := hgE.trans xg (by decide)
        have qL := q78
        have hT78 := sv_takes hR hSt hOK qL xf
        rw [hT78.1] at r78 ⊢
        refine z_if_eqB (tgt := 89) (TX8_readOrder.at 40 rfl) rfl (fun c5 => ?_) (fun c5 => ?_)
        · skip
          refine zm_vret (TX8_readOrder.at 44 rfl) rfl hH hA ?_
          first
          | exact ⟨(if_t c5).symm.trans hfin ▸ hSt, hfE, hgE, rfl⟩
          | exact ⟨(if_f c5).symm.trans hfin ▸ (hT78.2.2 c5), hfE, hgE, rfl⟩
        · skip
          have hSt := hT78.2.1 c5
          have hOK := ok_tk hR.2.2 hOK (by decide) c5
          refine z_ald_0 (TX8_readOrder.at 41 rfl) ?_
          refine z_iconst (TX8_readOrder.at 42 rfl) ?_
          refine zm_callV1 ((rd_test hR e8 e9 e10 8 (by decide)) _ _ _ _ eg15 eg16 eg17 ef8 ef9 ef10 hSt hOK) (TX8_readOrder.at 43 rfl) c8_196 rfl rfl hH hA (by omega) (Nat.le_of_ble_eq_true rfl) (fun f86 g86 j86 h q86 hH hA => ?_)
          obtain ⟨q86, xf, xg, xj⟩ := q86
          rw [xj] at hH
          have ef8 := (xf 8 (by decide)).trans ef8
          have ef9 := (xf 9 (by decide)).trans ef9
          have ef10 := (xf 10 (by decide)).trans ef10
          have hfE := hfE.trans xf (by decide)
          have eg15 := (xg 15 (by decide)).trans eg15
          have eg16 := (xg 16 (by decide)).trans eg16
          have eg17 := (xg 17 (by decide)).trans eg17
          have hgE := hgE.trans xg (by decide)
          have qL := q86
          have hSt := qL
          have hOK := ok_bd (pl := pl) hR.2.2 hOK (Adv_test false c v 8) (Pk_test false c v 8)
          refine zm_vret (TX8_readOrder.at 44 rfl) rfl hH hA ?_
          first
          | exact ⟨(if_t c5).symm.trans hfin ▸ hSt, hfE, hgE, rfl⟩
          | exact ⟨(if_f c5).symm.trans hfin ▸ (hT78.2.2 c5), hfE, hgE, rfl⟩
    · skip
      have hSt := hT31.2.2 c2
      refine z_ald_0 (TX8_readOrder.at 18 rfl) ?_
      refine z_bipush (by decide) (TX8_readOrder.at 19 rfl) ?_
      refine zm_callI1 (m_takes0 eg15 rfl rfl (by omega) (st_b hSt hOK hR.1.2)) (TX8_readOrder.at 20 rfl) c8_180 rfl rfl hH hA (by omega) (Nat.le_of_ble_eq_true rfl) (fun x40 f40 g40 j40 h r40 q40 hH hA => ?_)
      obtain ⟨q40, xf, xg, xj⟩ := q40
      rw [xj] at hH
      have ef8 := (xf 8 (by decide)).trans ef8
      have ef9 := (xf 9 (by decide)).trans ef9
      have ef10 := (xf 10 (by decide)).trans ef10
      have hfE := hfE.trans xf (by decide)
      have eg15 := (xg 15 (by decide)).trans eg15
      have eg16 := (xg 16 (by decide)).trans eg16
      have eg17 := (xg 17 (by decide)).trans eg17
      have hgE := hgE.trans xg (by decide)
      have qL := q40
      have hT40 := sv_takes hR hSt hOK qL xf
      rw [hT40.1] at r40 ⊢
      refine z_if_eqB (tgt := 54) (TX8_readOrder.at 21 rfl) rfl (fun c6 => ?_) (fun c6 => ?_)
      · skip
        have hSt := hT40.2.2 c6
        have hC2 : ¬ (c t = 22 ∨ c t = 23) := fun q => q.elim (fun z => c2 (tkc.mpr z)) (fun z => c6 (tkc.mpr z))
        refine z_ald_0 (TX8_readOrder.at 26 rfl) ?_
        refine z_bipush (by decide) (TX8_readOrder.at 27 rfl) ?_
        refine zm_callV1 (m_must eg15 eg17 rfl rfl (by omega) (st_b hSt hOK hR.1.2)) (TX8_readOrder.at 28 rfl) c8_193 rfl rfl hH hA (by omega) (Nat.le_of_ble_eq_true rfl) (fun f57 g57 j57 h q57 hH hA => ?_)
        obtain ⟨q57, xf, xg, xj⟩ := q57
        rw [xj] at hH
        have ef8 := (xf 8 (by decide)).trans ef8
        have ef9 := (xf 9 (by decide)).trans ef9
        have ef10 := (xf 10 (by decide)).trans ef10
        have hfE := hfE.trans xf (by decide)
        have eg15 := (xg 15 (by decide)).trans eg15
        have eg16 := (xg 16 (by decide)).trans eg16
        have eg17 := (xg 17 (by decide)).trans eg17
        have hgE := hgE.trans xg (by decide)
        have qL := q57
        have hSt := sv_must hR hSt hOK qL xf
        have hOK := ok_ms (pl := pl) (x := 26) hR.2.2 hOK (by decide)
        have hfin := ord_C (v := v) (pl := pl) (p := p) hB1 hC2
        refine z_ald_0 (TX8_readOrder.at 29 rfl) ?_
        refine z_bipush (by decide) (TX8_readOrder.at 30 rfl) ?_
        refine zm_callI1 (m_takes0 eg15 rfl rfl (by omega) (st_b hSt hOK hR.1.2)) (TX8_readOrder.at 31 rfl) c8_180 rfl rfl hH hA (by omega) (Nat.le_of_ble_eq_true rfl) (fun x63 f63 g63 j63 h r63 q63 hH hA => ?_)
        obtain ⟨q63, xf, xg, xj⟩ := q63
        rw [xj] at hH
        have ef8 := (xf 8 (by decide)).trans ef8
        have ef9 := (xf 9 (by decide)).trans ef9
        have ef10 := (xf 10 (by decide)).trans ef10
        have hfE := hfE.trans xf (by decide)
        have eg15 := (xg 15 (by decide)).trans eg15
        have eg16 := (xg 16 (by decide)).trans eg16
        have eg17 := (xg 17 (by decide)).trans eg17
        have hgE := hgE.trans xg (by decide)
        have qL := q63
        have hT63 := sv_takes hR hSt hOK qL xf
        rw [hT63.1] at r63 ⊢
        refine z_if_eqB (tgt := 76) (TX8_readOrder.at 32 rfl) rfl (fun c7 => ?_) (fun c7 => ?_)
        · skip
          have hSt := hT63.2.2 c7
          rw [ti_f c7] at hfin
          refine z_ald_0 (TX8_readOrder.at 37 rfl) ?_
          refine z_iconst (TX8_readOrder.at 38 rfl) ?_
          refine zm_callI1 (m_takes0 eg15 rfl rfl (by omega) (st_b hSt hOK hR.1.2)) (TX8_readOrder.at 39 rfl) c8_180 rfl rfl hH hA (by omega) (Nat.le_of_ble_eq_true rfl) (fun x78 f78 g78 j78 h r78 q78 hH hA => ?_)
          obtain ⟨q78, xf, xg, xj⟩ := q78
          rw [xj] at hH
          have ef8 := (xf 8 (by decide)).trans ef8
          have ef9 := (xf 9 (by decide)).trans ef9
          have ef10 := (xf 10 (by decide)).trans ef10
          have hfE := hfE.trans xf (by decide)
          have eg15 := (xg 15 (by decide)).trans eg15
          have eg16 := (xg 16 (by decide)).trans eg16
          have eg17 := (xg 17 (by decide)).trans eg17
          have hgE := hgE.trans xg (by decide)
          have qL := q78
          have hT78 := sv_takes hR hSt hOK qL xf
          rw [hT78.1] at r78 ⊢
          refine z_if_eqB (tgt := 89) (TX8_readOrder.at 40 rfl) rfl (fun c8 => ?_) (fun c8 => ?_)
          · skip
            refine zm_vret (TX8_readOrder.at 44 rfl) rfl hH hA ?_
            first
            | exact ⟨(if_t c8).symm.trans hfin ▸ hSt, hfE, hgE, rfl⟩
            | exact ⟨(if_f c8).symm.trans hfin ▸ (hT78.2.2 c8), hfE, hgE, rfl⟩
          · skip
            have hSt := hT78.2.1 c8
            have hOK := ok_tk hR.2.2 hOK (by decide) c8
            refine z_ald_0 (TX8_readOrder.at 41 rfl) ?_
            refine z_iconst (TX8_readOrder.at 42 rfl) ?_
            refine zm_callV1 ((rd_test hR e8 e9 e10 8 (by decide)) _ _ _ _ eg15 eg16 eg17 ef8 ef9 ef10 hSt hOK) (TX8_readOrder.at 43 rfl) c8_196 rfl rfl hH hA (by omega) (Nat.le_of_ble_eq_true rfl) (fun f86 g86 j86 h q86 hH hA => ?_)
            obtain ⟨q86, xf, xg, xj⟩ := q86
            rw [xj] at hH
            have ef8 := (xf 8 (by decide)).trans ef8
            have ef9 := (xf 9 (by decide)).trans ef9
            have ef10 := (xf 10 (by decide)).trans ef10
            have hfE := hfE.trans xf (by decide)
            have eg15 := (xg 15 (by decide)).trans eg15
            have eg16 := (xg 16 (by decide)).trans eg16
            have eg17 := (xg 17 (by decide)).trans eg17
            have hgE := hgE.trans xg (by decide)
            have qL := q86
            have hSt := qL
            have hOK := ok_bd (pl := pl) hR.2.2 hOK (Adv_test false c v 8) (Pk_test false c v 8)
            refine zm_vret (TX8_readOrder.at 44 rfl) rfl hH hA ?_
            first
            | exact ⟨(if_t c8).symm.trans hfin ▸ hSt, hfE, hgE, rfl⟩
            | exact ⟨(if_f c8).symm.trans hfin ▸ (hT78.2.2 c8), hfE, hgE, rfl⟩
        · skip
          have hSt := hT63.2.1 c7
          have hOK := ok_tk hR.2.2 hOK (by decide) c7
          refine z_ald_0 (TX8_readOrder.at 33 rfl) ?_
          refine z_iconst (TX8_readOrder.at 34 rfl) ?_
          refine z_bipush (by decide) (TX8_readOrder.at 35 rfl) ?_
          refine zm_callV2 (m_mustNum eg15 eg16 eg17 rfl rfl (by omega) (by omega) (st_b hSt hOK hR.1.2) (sv_pl hR hSt hOK)) (TX8_readOrder.at 36 rfl) c8_199 rfl rfl hH hA (by omega) (Nat.le_of_ble_eq_true rfl) (fun f73 g73 j73 h q73 hH hA => ?_)
          obtain ⟨q73, xf, xg, xj⟩ := q73
          rw [xj] at hH
          have ef8 := (xf 8 (by decide)).trans ef8
          have ef9 := (xf 9 (by decide)).trans ef9
          have ef10 := (xf 10 (by decide)).trans ef10
          have hfE := hfE.trans xf (by decide)
          have eg15 := (xg 15 (by decide)).trans eg15
          have eg16 := (xg 16 (by decide)).trans eg16
          have eg17 := (xg 17 (by decide)).trans eg17
          have hgE := hgE.trans xg (by decide)
          have qL := q73
          have hSt := sv_mn hR hSt hOK qL xf
          have hOK := ok_mn (v := v) (pl := pl) (lo := 1) (hi := 20) hR.2.2 hOK
          rw [ti_t c7] at hfin
          refine z_ald_0 (TX8_readOrder.at 37 rfl) ?_
          refine z_iconst (TX8_readOrder.at 38 rfl) ?_
          refine zm_callI1 (m_takes0 eg15 rfl rfl (by omega) (st_b hSt hOK hR.1.2)) (TX8_readOrder.at 39 rfl) c8_180 rfl rfl hH hA (by omega) (Nat.le_of_ble_eq_true rfl) (fun x78 f78 g78 j78 h r78 q78 hH hA => ?_)
          obtain ⟨q78, xf, xg, xj⟩ := q78
          rw [xj] at hH
          have ef8 := (xf 8 (by decide)).trans ef8
          have ef9 := (xf 9 (by decide)).trans ef9
          have ef10 := (xf 10 (by decide)).trans ef10
          have hfE := hfE.trans xf (by decide)
          have eg15 := (xg 15 (by decide)).trans eg15
          have eg16 := (xg 16 (by decide)).trans eg16
          have eg17 := (xg 17 (by decide)).trans eg17
          have hgE := hgE.trans xg (by decide)
          have qL := q78
          have hT78 := sv_takes hR hSt hOK qL xf
          rw [hT78.1] at r78 ⊢
          refine z_if_eqB (tgt := 89) (TX8_readOrder.at 40 rfl) rfl (fun c9 => ?_) (fun c9 => ?_)
          · skip
            refine zm_vret (TX8_readOrder.at 44 rfl) rfl hH hA ?_
            first
            | exact ⟨(if_t c9).symm.trans hfin ▸ hSt, hfE, hgE, rfl⟩
            | exact ⟨(if_f c9).symm.trans hfin ▸ (hT78.2.2 c9), hfE, hgE, rfl⟩
          · skip
            have hSt := hT78.2.1 c9
            have hOK := ok_tk hR.2.2 hOK (by decide) c9
            refine z_ald_0 (TX8_readOrder.at 41 rfl) ?_
            refine z_iconst (TX8_readOrder.at 42 rfl) ?_
            refine zm_callV1 ((rd_test hR e8 e9 e10 8 (by decide)) _ _ _ _ eg15 eg16 eg17 ef8 ef9 ef10 hSt hOK) (TX8_readOrder.at 43 rfl) c8_196 rfl rfl hH hA (by omega) (Nat.le_of_ble_eq_true rfl) (fun f86 g86 j86 h q86 hH hA => ?_)
            obtain ⟨q86, xf, xg, xj⟩ := q86
            rw [xj] at hH
            have ef8 := (xf 8 (by decide)).trans ef8
            have ef9 := (xf 9 (by decide)).trans ef9
            have ef10 := (xf 10 (by decide)).trans ef10
            have hfE := hfE.trans xf (by decide)
            have eg15 := (xg 15 (by decide)).trans eg15
            have eg16 := (xg 16 (by decide)).trans eg16
            have eg17 := (xg 17 (by decide)).trans eg17
            have hgE := hgE.trans xg (by decide)
            have qL := q86
            have hSt := qL
            have hOK := ok_bd (pl := pl) hR.2.2 hOK (Adv_test false c v 8) (Pk_test false c v 8)
            refine zm_vret (TX8_readOrder.at 44 rfl) rfl hH hA ?_
            first
            | exact ⟨(if_t c9).symm.trans hfin ▸ hSt, hfE, hgE, rfl⟩
            | exact ⟨(if_f c9).symm.trans hfin ▸ (hT78.2.2 c9), hfE, hgE, rfl⟩
      · skip
        have hSt := hT40.2.1 c6
        have hOK := ok_tk hR.2.2 hOK (by decide) c6
        have hB2 : c t = 22 ∨ c t = 23 := Or.inr (tkc.mp c6)
        refine z_ald_0 (TX8_readOrder.at 22 rfl) ?_
        refine z_iconst (TX8_readOrder.at 23 rfl) ?_
        refine zm_callV1 ((rd_sum hR e8 e9 e10 8 (by decide)) _ _ _ _ eg15 eg16 eg17 ef8 ef9 ef10 hSt hOK) (TX8_readOrder.at 24 rfl) c8_189 rfl rfl hH hA (by omega) (Nat.le_of_ble_eq_true rfl) (fun f48 g48 j48 h q48 hH hA => ?_)
        obtain ⟨q48, xf, xg, xj⟩ := q48
        rw [xj] at hH
        have ef8 := (xf 8 (by decide)).trans ef8
        have ef9 := (xf 9 (by decide)).trans ef9
        have ef10 := (xf 10 (by decide)).trans ef10
        have hfE := hfE.trans xf (by decide)
        have eg15 := (xg 15 (by decide)).trans eg15
        have eg16 := (xg 16 (by decide)).trans eg16
        have eg17 := (xg 17 (by decide)).trans eg17
        have hgE := hgE.trans xg (by decide)
        have qL := q48
        have hSt := qL
        have hOK := ok_bd (pl := pl) hR.2.2 hOK (Adv_sum false c v 8) (Pk_sum false c v 8)
        refine z_goto (tgt := 60) (TX8_readOrder.at 25 rfl) rfl ?_
        have hfin := ord_B (v := v) (pl := pl) (p := p) hB2
        refine z_ald_0 (TX8_readOrder.at 29 rfl) ?_
        refine z_bipush (by decide) (TX8_readOrder.at 30 rfl) ?_
        refine zm_callI1 (m_takes0 eg15 rfl rfl (by omega) (st_b hSt hOK hR.1.2)) (TX8_readOrder.at 31 rfl) c8_180 rfl rfl hH hA (by omega) (Nat.le_of_ble_eq_true rfl) (fun x63 f63 g63 j63 h r63 q63 hH hA => ?_)
        obtain ⟨q63, xf, xg, xj⟩ := q63
        rw [xj] at hH
        have ef8 := (xf 8 (by decide)).trans ef8
        have ef9 := (xf 9 (by decide)).trans ef9
        have ef10 := (xf 10 (by decide)).trans ef10
        have hfE := hfE.trans xf (by decide)
        have eg15 := (xg 15 (by decide)).trans eg15
        have eg16 := (xg 16 (by decide)).trans eg16
        have eg17 := (xg 17 (by decide)).trans eg17
        have hgE := hgE.trans xg (by decide)
        have qL := q63
        have hT63 := sv_takes hR hSt hOK qL xf
        rw [hT63.1] at r63 ⊢
        refine z_if_eqB (tgt := 76) (TX8_readOrder.at 32 rfl) rfl (fun c10 => ?_) (fun c10 => ?_)
        · skip
          have hSt := hT63.2.2 c10
          rw [ti_f c10] at hfin
          refine z_ald_0 (TX8_readOrder.at 37 rfl) ?_
          refine z_iconst (TX8_readOrder.at 38 rfl) ?_
          refine zm_callI1 (m_takes0 eg15 rfl rfl (by omega) (st_b hSt hOK hR.1.2)) (TX8_readOrder.at 39 rfl) c8_180 rfl rfl hH hA (by omega) (Nat.le_of_ble_eq_true rfl) (fun x78 f78 g78 j78 h r78 q78 hH hA => ?_)
          obtain ⟨q78, xf, xg, xj⟩ := q78
          rw [xj] at hH
          have ef8 := (xf 8 (by decide)).trans ef8
          have ef9 := (xf 9 (by decide)).trans ef9
          have ef10 := (xf 10 (by decide)).trans ef10
          have hfE := hfE.trans xf (by decide)
          have eg15 := (xg 15 (by decide)).trans eg15
          have eg16 := (xg 16 (by decide)).trans eg16
          have eg17 := (xg 17 (by decide)).trans eg17
          have hgE := hgE.trans xg (by decide)
          have qL := q78
          have hT78 := sv_takes hR hSt hOK qL xf
          rw [hT78.1] at r78 ⊢
          refine z_if_eqB (tgt := 89) (TX8_readOrder.at 40 rfl) rfl (fun c11 => ?_) (fun c11 => ?_)
          · skip
            refine zm_vret (TX8_readOrder.at 44 rfl) rfl hH hA ?_
            first
            | exact ⟨(if_t c11).symm.trans hfin ▸ hSt, hfE, hgE, rfl⟩
            | exact ⟨(if_f c11).symm.trans hfin ▸ (hT78.2.2 c11), hfE, hgE, rfl⟩
          · skip
            have hSt := hT78.2.1 c11
            have hOK := ok_tk hR.2.2 hOK (by decide) c11
            refine z_ald_0 (TX8_readOrder.at 41 rfl) ?_
            refine z_iconst (TX8_readOrder.at 42 rfl) ?_
            refine zm_callV1 ((rd_test hR e8 e9 e10 8 (by decide)) _ _ _ _ eg15 eg16 eg17 ef8 ef9 ef10 hSt hOK) (TX8_readOrder.at 43 rfl) c8_196 rfl rfl hH hA (by omega) (Nat.le_of_ble_eq_true rfl) (fun f86 g86 j86 h q86 hH hA => ?_)
            obtain ⟨q86, xf, xg, xj⟩ := q86
            rw [xj] at hH
            have ef8 := (xf 8 (by decide)).trans ef8
            have ef9 := (xf 9 (by decide)).trans ef9
            have ef10 := (xf 10 (by decide)).trans ef10
            have hfE := hfE.trans xf (by decide)
            have eg15 := (xg 15 (by decide)).trans eg15
            have eg16 := (xg 16 (by decide)).trans eg16
            have eg17 := (xg 17 (by decide)).trans eg17
            have hgE := hgE.trans xg (by decide)
            have qL := q86
            have hSt := qL
            have hOK := ok_bd (pl := pl) hR.2.2 hOK (Adv_test false c v 8) (Pk_test false c v 8)
            refine zm_vret (TX8_readOrder.at 44 rfl) rfl hH hA ?_
            first
            | exact ⟨(if_t c11).symm.trans hfin ▸ hSt, hfE, hgE, rfl⟩
            | exact ⟨(if_f c11).symm.trans hfin ▸ (hT78.2.2 c11), hfE, hgE, rfl⟩
        · skip
          have hSt := hT63.2.1 c10
          have hOK := ok_tk hR.2.2 hOK (by decide) c10
          refine z_ald_0 (TX8_readOrder.at 33 rfl) ?_
          refine z_iconst (TX8_readOrder.at 34 rfl) ?_
          refine z_bipush (by decide) (TX8_readOrder.at 35 rfl) ?_
          refine zm_callV2 (m_mustNum eg15 eg16 eg17 rfl rfl (by omega) (by omega) (st_b hSt hOK hR.1.2) (sv_pl hR hSt hOK)) (TX8_readOrder.at 36 rfl) c8_199 rfl rfl hH hA (by omega) (Nat.le_of_ble_eq_true rfl) (fun f73 g73 j73 h q73 hH hA => ?_)
          obtain ⟨q73, xf, xg, xj⟩ := q73
          rw [xj] at hH
          have ef8 := (xf 8 (by decide)).trans ef8
          have ef9 := (xf 9 (by decide)).trans ef9
          have ef10 := (xf 10 (by decide)).trans ef10
          have hfE := hfE.trans xf (by decide)
          have eg15 := (xg 15 (by decide)).trans eg15
          have eg16 := (xg 16 (by decide)).trans eg16
          have eg17 := (xg 17 (by decide)).trans eg17
          have hgE := hgE.trans xg (by decide)
          have qL := q73
          have hSt := sv_mn hR hSt hOK qL xf
          have hOK := ok_mn (v := v) (pl := pl) (lo := 1) (hi := 20) hR.2.2 hOK
          rw [ti_t c10] at hfin
          refine z_ald_0 (TX8_readOrder.at 37 rfl) ?_
          refine z_iconst (TX8_readOrder.at 38 rfl) ?_
          refine zm_callI1 (m_takes0 eg15 rfl rfl (by omega) (st_b hSt hOK hR.1.2)) (TX8_readOrder.at 39 rfl) c8_180 rfl rfl hH hA (by omega) (Nat.le_of_ble_eq_true rfl) (fun x78 f78 g78 j78 h r78 q78 hH hA => ?_)
          obtain ⟨q78, xf, xg, xj⟩ := q78
          rw [xj] at hH
          have ef8 := (xf 8 (by decide)).trans ef8
          have ef9 := (xf 9 (by decide)).trans ef9
          have ef10 := (xf 10 (by decide)).trans ef10
          have hfE := hfE.trans xf (by decide)
          have eg15 := (xg 15 (by decide)).trans eg15
          have eg16 := (xg 16 (by decide)).trans eg16
          have eg17 := (xg 17 (by decide)).trans eg17
          have hgE := hgE.trans xg (by decide)
          have qL := q78
          have hT78 := sv_takes hR hSt hOK qL xf
          rw [hT78.1] at r78 ⊢
          refine z_if_eqB (tgt := 89) (TX8_readOrder.at 40 rfl) rfl (fun c12 => ?_) (fun c12 => ?_)
          · skip
            refine zm_vret (TX8_readOrder.at 44 rfl) rfl hH hA ?_
            first
            | exact ⟨(if_t c12).symm.trans hfin ▸ hSt, hfE, hgE, rfl⟩
            | exact ⟨(if_f c12).symm.trans hfin ▸ (hT78.2.2 c12), hfE, hgE, rfl⟩
          · skip
            have hSt := hT78.2.1 c12
            have hOK := ok_tk hR.2.2 hOK (by decide) c12
            refine z_ald_0 (TX8_readOrder.at 41 rfl) ?_
            refine z_iconst (TX8_readOrder.at 42 rfl) ?_
            refine zm_callV1 ((rd_test hR e8 e9 e10 8 (by decide)) _ _ _ _ eg15 eg16 eg17 ef8 ef9 ef10 hSt hOK) (TX8_readOrder.at 43 rfl) c8_196 rfl rfl hH hA (by omega) (Nat.le_of_ble_eq_true rfl) (fun f86 g86 j86 h q86 hH hA => ?_)
            obtain ⟨q86, xf, xg, xj⟩ := q86
            rw [xj] at hH
            have ef8 := (xf 8 (by decide)).trans ef8
            have ef9 := (xf 9 (by decide)).trans ef9
            have ef10 := (xf 10 (by decide)).trans ef10
            have hfE := hfE.trans xf (by decide)
            have eg15 := (xg 15 (by decide)).trans eg15
            have eg16 := (xg 16 (by decide)).trans eg16
            have eg17 := (xg 17 (by decide)).trans eg17
            have hgE := hgE.trans xg (by decide)
            have qL := q86
            have hSt := qL
            have hOK := ok_bd (pl := pl) hR.2.2 hOK (Adv_test false c v 8) (Pk_test false c v 8)
            refine zm_vret (TX8_readOrder.at 44 rfl) rfl hH hA ?_
            first
            | exact ⟨(if_t c12).symm.trans hfin ▸ hSt, hfE, hgE, rfl⟩
            | exact ⟨(if_f c12).symm.trans hfin ▸ (hT78.2.2 c12), hfE, hgE, rfl⟩
  · skip
    have hSt := hT3.2.1 c1
    have hOK := ok_tk hR.2.2 hOK (by decide) c1
    have hA1 : c t = 24 := tkc.mp c1
    refine z_ald_0 (TX8_readOrder.at 4 rfl) ?_
    refine z_iconst (TX8_readOrder.at 5 rfl) ?_
    refine zm_callV1 ((rd_sum hR e8 e9 e10 8 (by decide)) _ _ _ _ eg15 eg16 eg17 ef8 ef9 ef10 hSt hOK) (TX8_readOrder.at 6 rfl) c8_189 rfl rfl hH hA (by omega) (Nat.le_of_ble_eq_true rfl) (fun f11 g11 j11 h q11 hH hA => ?_)
    obtain ⟨q11, xf, xg, xj⟩ := q11
    rw [xj] at hH
    have ef8 := (xf 8 (by decide)).trans ef8
    have ef9 := (xf 9 (by decide)).trans ef9
    have ef10 := (xf 10 (by decide)).trans ef10
    have hfE := hfE.trans xf (by decide)
    have eg15 := (xg 15 (by decide)).trans eg15
    have eg16 := (xg 16 (by decide)).trans eg16
    have eg17 := (xg 17 (by decide)).trans eg17
    have hgE := hgE.trans xg (by decide)
    have qL := q11
    have hSt := qL
    have hOK := ok_bd (pl := pl) hR.2.2 hOK (Adv_sum false c v 8) (Pk_sum false c v 8)
    refine z_ald_0 (TX8_readOrder.at 7 rfl) ?_
    refine z_bipush (by decide) (TX8_readOrder.at 8 rfl) ?_
    refine zm_callV1 (m_must eg15 eg17 rfl rfl (by omega) (st_b hSt hOK hR.1.2)) (TX8_readOrder.at 9 rfl) c8_193 rfl rfl hH hA (by omega) (Nat.le_of_ble_eq_true rfl) (fun f17 g17 j17 h q17 hH hA => ?_)
    obtain ⟨q17, xf, xg, xj⟩ := q17
    rw [xj] at hH
    have ef8 := (xf 8 (by decide)).trans ef8
    have ef9 := (xf 9 (by decide)).trans ef9
    have ef10 := (xf 10 (by decide)).trans ef10
    have hfE := hfE.trans xf (by decide)
    have eg15 := (xg 15 (by decide)).trans eg15
    have eg16 := (xg 16 (by decide)).trans eg16
    have eg17 := (xg 17 (by decide)).trans eg17
    have hgE := hgE.trans xg (by decide)
    have qL := q17
    have hSt := sv_must hR hSt hOK qL xf
    have hOK := ok_ms (pl := pl) (x := 25) hR.2.2 hOK (by decide)
    refine z_ald_0 (TX8_readOrder.at 10 rfl) ?_
    refine z_iconst (TX8_readOrder.at 11 rfl) ?_
    refine zm_callV1 ((rd_sum hR e8 e9 e10 8 (by decide)) _ _ _ _ eg15 eg16 eg17 ef8 ef9 ef10 hSt hOK) (TX8_readOrder.at 12 rfl) c8_189 rfl rfl hH hA (by omega) (Nat.le_of_ble_eq_true rfl) (fun f22 g22 j22 h q22 hH hA => ?_)
    obtain ⟨q22, xf, xg, xj⟩ := q22
    rw [xj] at hH
    have ef8 := (xf 8 (by decide)).trans ef8
    have ef9 := (xf 9 (by decide)).trans ef9
    have ef10 := (xf 10 (by decide)).trans ef10
    have hfE := hfE.trans xf (by decide)
    have eg15 := (xg 15 (by decide)).trans eg15
    have eg16 := (xg 16 (by decide)).trans eg16
    have eg17 := (xg 17 (by decide)).trans eg17
    have hgE := hgE.trans xg (by decide)
    have qL := q22
    have hSt := qL
    have hOK := ok_bd (pl := pl) hR.2.2 hOK (Adv_sum false c v 8) (Pk_sum false c v 8)
    refine z_goto (tgt := 60) (TX8_readOrder.at 13 rfl) rfl ?_
    have hfin := ord_A (v := v) (pl := pl) (p := p) hA1
    refine z_ald_0 (TX8_readOrder.at 29 rfl) ?_
    refine z_bipush (by decide) (TX8_readOrder.at 30 rfl) ?_
    refine zm_callI1 (m_takes0 eg15 rfl rfl (by omega) (st_b hSt hOK hR.1.2)) (TX8_readOrder.at 31 rfl) c8_180 rfl rfl hH hA (by omega) (Nat.le_of_ble_eq_true rfl) (fun x63 f63 g63 j63 h r63 q63 hH hA => ?_)
    obtain ⟨q63, xf, xg, xj⟩ := q63
    rw [xj] at hH
    have ef8 := (xf 8 (by decide)).trans ef8
    have ef9 := (xf 9 (by decide)).trans ef9
    have ef10 := (xf 10 (by decide)).trans ef10
    have hfE := hfE.trans xf (by decide)
    have eg15 := (xg 15 (by decide)).trans eg15
    have eg16 := (xg 16 (by decide)).trans eg16
    have eg17 := (xg 17 (by decide)).trans eg17
    have hgE := hgE.trans xg (by decide)
    have qL := q63
    have hT63 := sv_takes hR hSt hOK qL xf
    rw [hT63.1] at r63 ⊢
    refine z_if_eqB (tgt := 76) (TX8_readOrder.at 32 rfl) rfl (fun c13 => ?_) (fun c13 => ?_)
    · skip
      have hSt := hT63.2.2 c13
      rw [ti_f c13] at hfin
      refine z_ald_0 (TX8_readOrder.at 37 rfl) ?_
      refine z_iconst (TX8_readOrder.at 38 rfl) ?_
      refine zm_callI1 (m_takes0 eg15 rfl rfl (by omega) (st_b hSt hOK hR.1.2)) (TX8_readOrder.at 39 rfl) c8_180 rfl rfl hH hA (by omega) (Nat.le_of_ble_eq_true rfl) (fun x78 f78 g78 j78 h r78 q78 hH hA => ?_)
      obtain ⟨q78, xf, xg, xj⟩ := q78
      rw [xj] at hH
      have ef8 := (xf 8 (by decide)).trans ef8
      have ef9 := (xf 9 (by decide)).trans ef9
      have ef10 := (xf 10 (by decide)).trans ef10
      have hfE := hfE.trans xf (by decide)
      have eg15 := (xg 15 (by decide)).trans eg15
      have eg16 := (xg 16 (by decide)).trans eg16
      have eg17 := (xg 17 (by decide)).trans eg17
      have hgE := hgE.trans xg (by decide)
      have qL := q78
      have hT78 := sv_takes hR hSt hOK qL xf
      rw [hT78.1] at r78 ⊢
      refine z_if_eqB (tgt := 89) (TX8_readOrder.at 40 rfl) rfl (fun c14 => ?_) (fun c14 => ?_)
      · skip
        refine zm_vret (TX8_readOrder.at 44 rfl) rfl hH hA ?_
        first
        | exact ⟨(if_t c14).symm.trans hfin ▸ hSt, hfE, hgE, rfl⟩
        | exact ⟨(if_f c14).symm.trans hfin ▸ (hT78.2.2 c14), hfE, hgE, rfl⟩
      · skip
        have hSt := hT78.2.1 c14
        have hOK := ok_tk hR.2.2 hOK (by decide) c14
        refine z_ald_0 (TX8_readOrder.at 41 rfl) ?_
        refine z_iconst (TX8_readOrder.at 42 rfl) ?_
        refine zm_callV1 ((rd_test hR e8 e9 e10 8 (by decide)) _ _ _ _ eg15 eg16 eg17 ef8 ef9 ef10 hSt hOK) (TX8_readOrder.at 43 rfl) c8_196 rfl rfl hH hA (by omega) (Nat.le_of_ble_eq_true rfl) (fun f86 g86 j86 h q86 hH hA => ?_)
        obtain ⟨q86, xf, xg, xj⟩ := q86
        rw [xj] at hH
        have ef8 := (xf 8 (by decide)).trans ef8
        have ef9 := (xf 9 (by decide)).trans ef9
        have ef10 := (xf 10 (by decide)).trans ef10
        have hfE := hfE.trans xf (by decide)
        have eg15 := (xg 15 (by decide)).trans eg15
        have eg16 := (xg 16 (by decide)).trans eg16
        have eg17 := (xg 17 (by decide)).trans eg17
        have hgE := hgE.trans xg (by decide)
        have qL := q86
        have hSt := qL
        have hOK := ok_bd (pl := pl) hR.2.2 hOK (Adv_test false c v 8) (Pk_test false c v 8)
        refine zm_vret (TX8_readOrder.at 44 rfl) rfl hH hA ?_
        first
        | exact ⟨(if_t c14).symm.trans hfin ▸ hSt, hfE, hgE, rfl⟩
        | exact ⟨(if_f c14).symm.trans hfin ▸ (hT78.2.2 c14), hfE, hgE, rfl⟩
    · skip
      have hSt := hT63.2.1 c13
      have hOK := ok_tk hR.2.2 hOK (by decide) c13
      refine z_ald_0 (TX8_readOrder.at 33 rfl) ?_
      refine z_iconst (TX8_readOrder.at 34 rfl) ?_
      refine z_bipush (by decide) (TX8_readOrder.at 35 rfl) ?_
      refine zm_callV2 (m_mustNum eg15 eg16 eg17 rfl rfl (by omega) (by omega) (st_b hSt hOK hR.1.2) (sv_pl hR hSt hOK)) (TX8_readOrder.at 36 rfl) c8_199 rfl rfl hH hA (by omega) (Nat.le_of_ble_eq_true rfl) (fun f73 g73 j73 h q73 hH hA => ?_)
      obtain ⟨q73, xf, xg, xj⟩ := q73
      rw [xj] at hH
      have ef8 := (xf 8 (by decide)).trans ef8
      have ef9 := (xf 9 (by decide)).trans ef9
      have ef10 := (xf 10 (by decide)).trans ef10
      have hfE := hfE.trans xf (by decide)
      have eg15 := (xg 15 (by decide)).trans eg15
      have eg16 := (xg 16 (by decide)).trans eg16
      have eg17 := (xg 17 (by decide)).trans eg17
      have hgE := hgE.trans xg (by decide)
      have qL := q73
      have hSt := sv_mn hR hSt hOK qL xf
      have hOK := ok_mn (v := v) (pl := pl) (lo := 1) (hi := 20) hR.2.2 hOK
      rw [ti_t c13] at hfin
      refine z_ald_0 (TX8_readOrder.at 37 rfl) ?_
      refine z_iconst (TX8_readOrder.at 38 rfl) ?_
      refine zm_callI1 (m_takes0 eg15 rfl rfl (by omega) (st_b hSt hOK hR.1.2)) (TX8_readOrder.at 39 rfl) c8_180 rfl rfl hH hA (by omega) (Nat.le_of_ble_eq_true rfl) (fun x78 f78 g78 j78 h r78 q78 hH hA => ?_)
      obtain ⟨q78, xf, xg, xj⟩ := q78
      rw [xj] at hH
      have ef8 := (xf 8 (by decide)).trans ef8
      have ef9 := (xf 9 (by decide)).trans ef9
      have ef10 := (xf 10 (by decide)).trans ef10
      have hfE := hfE.trans xf (by decide)
      have eg15 := (xg 15 (by decide)).trans eg15
      have eg16 := (xg 16 (by decide)).trans eg16
      have eg17 := (xg 17 (by decide)).trans eg17
      have hgE := hgE.trans xg (by decide)
      have qL := q78
      have hT78 := sv_takes hR hSt hOK qL xf
      rw [hT78.1] at r78 ⊢
      refine z_if_eqB (tgt := 89) (TX8_readOrder.at 40 rfl) rfl (fun c15 => ?_) (fun c15 => ?_)
      · skip
        refine zm_vret (TX8_readOrder.at 44 rfl) rfl hH hA ?_
        first
        | exact ⟨(if_t c15).symm.trans hfin ▸ hSt, hfE, hgE, rfl⟩
        | exact ⟨(if_f c15).symm.trans hfin ▸ (hT78.2.2 c15), hfE, hgE, rfl⟩
      · skip
        have hSt := hT78.2.1 c15
        have hOK := ok_tk hR.2.2 hOK (by decide) c15
        refine z_ald_0 (TX8_readOrder.at 41 rfl) ?_
        refine z_iconst (TX8_readOrder.at 42 rfl) ?_
        refine zm_callV1 ((rd_test hR e8 e9 e10 8 (by decide)) _ _ _ _ eg15 eg16 eg17 ef8 ef9 ef10 hSt hOK) (TX8_readOrder.at 43 rfl) c8_196 rfl rfl hH hA (by omega) (Nat.le_of_ble_eq_true rfl) (fun f86 g86 j86 h q86 hH hA => ?_)
        obtain ⟨q86, xf, xg, xj⟩ := q86
        rw [xj] at hH
        have ef8 := (xf 8 (by decide)).trans ef8
        have ef9 := (xf 9 (by decide)).trans ef9
        have ef10 := (xf 10 (by decide)).trans ef10
        have hfE := hfE.trans xf (by decide)
        have eg15 := (xg 15 (by decide)).trans eg15
        have eg16 := (xg 16 (by decide)).trans eg16
        have eg17 := (xg 17 (by decide)).trans eg17
        have hgE := hgE.trans xg (by decide)
        have qL := q86
        have hSt := qL
        have hOK := ok_bd (pl := pl) hR.2.2 hOK (Adv_test false c v 8) (Pk_test false c v 8)
        refine zm_vret (TX8_readOrder.at 44 rfl) rfl hH hA ?_
        first
        | exact ⟨(if_t c15).symm.trans hfin ▸ hSt, hfE, hgE, rfl⟩
        | exact ⟨(if_f c15).symm.trans hfin ▸ (hT78.2.2 c15), hfE, hgE, rfl⟩

set_option maxHeartbeats 4000000 in
set_option maxRecDepth 100000 in
theorem r_readOne_t {l : Launch} {o : Nat} {ar : Nat → Nat} {f : mF} {g j : mA} {N : Int} {c v pl X15 X16 X17 : Int → Int} {w8 w9 io : Int} (hR : RdH N c v pl X15 X16 X17) {t p : Nat} (e8 : w8 = wLo true) (e9 : w9 = wHi true) (e10 : io = inL true) (eg15 : g 15 = X15) (eg16 : g 16 = X16) (eg17 : g 17 = X17) (ef8 : f 8 = w8) (ef9 : f 9 = w9) (ef10 : f 10 = io) (hSt : St f (.ok (t, p))) (hOK : SOK N (.ok (t, p))) : MM l o ar MX8_readOne 63 [.ref o] f g j (PV (fun f' g' j' => St f' (cvC pl (pCla true c v t p)) ∧ eqx [19, 20, 21] f f' ∧ eqx [] g g' ∧ j' = j)) := by
  refine MM.intro [some (.ref o)] (by decide) (Nat.le_of_ble_eq_true rfl) rfl (fun d hd h0 h hH hA => ?_)
  have hfE : eqx [19, 20, 21] f f := eqx.rf
  have hgE : eqx [] g g := eqx.rf
  refine z_ald_0 (TX8_readOne.at 0 rfl) ?_
  refine zm_getIE ef10 (TX8_readOne.at 1 rfl) fl8_203 hH rfl (by decide) (fun r1 => ?_)
  refine z_if_eq (tgt := 14) (TX8_readOne.at 2 rfl) rfl (by omega) (fun c1 => ?_) (fun c1 => absurd c1 (by rw [e10]; decide))
  refine z_ald_0 (TX8_readOne.at 6 rfl) ?_
  refine zm_callV0 (r_readClause hR e8 e9 e10 eg15 eg16 eg17 ef8 ef9 ef10 hSt hOK) (TX8_readOne.at 7 rfl) c8_210 rfl rfl hH hA (by omega) (Nat.le_of_ble_eq_true rfl) (fun f15 g15 j15 h q15 hH hA => ?_)
  obtain ⟨q15, xf, xg, xj⟩ := q15
  rw [xj] at hH
  have ef8 := (xf 8 (by decide)).trans ef8
  have ef9 := (xf 9 (by decide)).trans ef9
  have ef10 := (xf 10 (by decide)).trans ef10
  have hfE := hfE.trans xf (by decide)
  have eg15 := (xg 15 (by decide)).trans eg15
  have eg16 := (xg 16 (by decide)).trans eg16
  have eg17 := (xg 17 (by decide)).trans eg17
  have hgE := hgE.trans xg (by decide)
  have qL := q15
  have hSt := qL
  refine zm_vret (TX8_readOne.at 8 rfl) rfl hH hA ?_
  exact ⟨hSt, hfE, hgE, rfl⟩

set_option maxHeartbeats 4000000 in
set_option maxRecDepth 100000 in
theorem r_readOne_f {l : Launch} {o : Nat} {ar : Nat → Nat} {f : mF} {g j : mA} {N : Int} {c v pl X15 X16 X17 : Int → Int} {w8 w9 io : Int} (hR : RdH N c v pl X15 X16 X17) {t p : Nat} (e8 : w8 = wLo false) (e9 : w9 = wHi false) (e10 : io = inL false) (eg15 : g 15 = X15) (eg16 : g 16 = X16) (eg17 : g 17 = X17) (ef8 : f 8 = w8) (ef9 : f 9 = w9) (ef10 : f 10 = io) (hSt : St f (.ok (t, p))) (hOK : SOK N (.ok (t, p))) : MM l o ar MX8_readOne 63 [.ref o] f g j (PV (fun f' g' j' => St f' (cvC pl (pCla false c v t p)) ∧ eqx [19, 20, 21] f f' ∧ eqx [] g g' ∧ j' = j)) := by
  refine MM.intro [some (.ref o)] (by decide) (Nat.le_of_ble_eq_true rfl) rfl (fun d hd h0 h hH hA => ?_)
  have hfE : eqx [19, 20, 21] f f := eqx.rf
  have hgE : eqx [] g g := eqx.rf
  refine z_ald_0 (TX8_readOne.at 0 rfl) ?_
  refine zm_getIE ef10 (TX8_readOne.at 1 rfl) fl8_203 hH rfl (by decide) (fun r1 => ?_)
  refine z_if_eq (tgt := 14) (TX8_readOne.at 2 rfl) rfl (by omega) (fun c1 => absurd c1 (by rw [e10]; decide)) (fun c1 => ?_)
  refine z_ald_0 (TX8_readOne.at 3 rfl) ?_
  refine zm_callV0 (r_readOrder hR e8 e9 e10 eg15 eg16 eg17 ef8 ef9 ef10 hSt hOK) (TX8_readOne.at 4 rfl) c8_207 rfl rfl hH hA (by omega) (Nat.le_of_ble_eq_true rfl) (fun f8 g8 j8 h q8 hH hA => ?_)
  obtain ⟨q8, xf, xg, xj⟩ := q8
  rw [xj] at hH
  have ef8 := (xf 8 (by decide)).trans ef8
  have ef9 := (xf 9 (by decide)).trans ef9
  have ef10 := (xf 10 (by decide)).trans ef10
  have hfE := hfE.trans xf (by decide)
  have eg15 := (xg 15 (by decide)).trans eg15
  have eg16 := (xg 16 (by decide)).trans eg16
  have eg17 := (xg 17 (by decide)).trans eg17
  have hgE := hgE.trans xg (by decide)
  have qL := q8
  have hSt := qL
  refine z_goto (tgt := 18) (TX8_readOne.at 5 rfl) rfl ?_
  refine zm_vret (TX8_readOne.at 8 rfl) rfl hH hA ?_
  exact ⟨hSt, hfE, hgE, rfl⟩

theorem r_readOne {l : Launch} {o : Nat} {ar : Nat → Nat} {f : mF} {g j : mA} {N : Int} {c v pl X15 X16 X17 : Int → Int} {w8 w9 io : Int} (hR : RdH N c v pl X15 X16 X17) {lw : Bool} {t p : Nat} (e8 : w8 = wLo lw) (e9 : w9 = wHi lw) (e10 : io = inL lw) (eg15 : g 15 = X15) (eg16 : g 16 = X16) (eg17 : g 17 = X17) (ef8 : f 8 = w8) (ef9 : f 9 = w9) (ef10 : f 10 = io) (hSt : St f (.ok (t, p))) (hOK : SOK N (.ok (t, p))) : MM l o ar MX8_readOne 63 [.ref o] f g j (PV (fun f' g' j' => St f' (cvC pl (pCla lw c v t p)) ∧ eqx [19, 20, 21] f f' ∧ eqx [] g g' ∧ j' = j)) := by
  cases lw with
  | true => exact r_readOne_t hR e8 e9 e10 eg15 eg16 eg17 ef8 ef9 ef10 hSt hOK
  | false => exact r_readOne_f hR e8 e9 e10 eg15 eg16 eg17 ef8 ef9 ef10 hSt hOK
