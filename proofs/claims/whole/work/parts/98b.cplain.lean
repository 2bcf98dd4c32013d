/-! ===== the class: reading terms and sums, closed ===== -/
section RI
variable {Pl c : Int → Int} {wi : Nat} {op : Int → Option Int} {item : Nat → Nat → PR} {t p : Nat} {N ag tk : Int} {C : Int → Int} {f : mF} {g : mA}
theorem row_init (hq : LvQ Pl wi (item t p) t N ag tk C f g) : RwQ Pl (wi + 1) (pRow op c item t p) (pLoop op c item (401 - 0)) 0 t N ag tk C f g := by
  cases hr : item t p with
  | error e =>
    rw [hr] at hq
    exact Or.inl ⟨e, by unfold pRow; rw [hr], hq⟩
  | ok r =>
    obtain ⟨t', p', k⟩ := r
    rw [hr] at hq
    exact Or.inr ⟨t', p', k, by unfold pRow; rw [hr], LvQ.mono hq (by omega), by omega⟩
end RI
set_option maxHeartbeats 4000000 in
set_option maxRecDepth 100000 in
theorem v_term {l : Launch} {E : cE} {f : mF} {g j : mA} {Kd : Int → Int} {Vl : Int → Int} {Pl : Int → Int} {C : Int → Int} {tk : Int} {lf : Int} {N : Int} {ag : Int} {dp : Int} {t p wi ni : Nat} {c v : Int → Int} {item : Nat → Nat → PR} (eg290 : g 290 = Kd) (eg291 : g 291 = Vl) (eg292 : g 292 = Pl) (eg424 : g 424 = C) (ef289 : f 289 = (-1)) (ef293 : f 293 = tk) (ef294 : f 294 = (t : Int)) (ef295 : f 295 = (p : Int)) (ef296 : f 296 = lf) (ef417 : f 417 = N) (ef418 : f 418 = ag) (hdp : zIn dp) (hk : TkH Kd Vl Pl tk c v) (t1 : (t : Int) < tk) (p1 : p ≤ 50) (hN : 0 ≤ N ∧ N ≤ t) (ha : in01 ag) (hwi : 1 ≤ wi) (hitem : LvM l E MX3_part ni [vI dp] Kd Vl Pl tk lf wi item) : CM l E MX3_term (ni + 1) [.ref (E.1 319), vI dp] f g j (PV (fun f' g' j' => (LvQ Pl (wi + 1) (pRow mulOp c item t p) t N ag tk C f' g') ∧ eqx [289, 294, 295, 417, 418] f f' ∧ eqx [424] g g' ∧ j' = j)) := by
  refine CM.intro [some (.ref (E.1 319)), some (vI dp), none, none] (by decide) (Nat.le_of_ble_eq_true rfl) rfl (fun d hd h0 h hH hA => ?_)
  have hfE : eqx [289, 294, 295, 417, 418] f f := eqx.rf
  have hgE : eqx [424] g g := eqx.rf
  have htk := hk.1
  have hp0 := (hk.2.1 t (by omega) t1).2
  have hti := (hk.2.1 t (by omega) t1).1
  refine z_ald_0 (TX3_term.at 0 rfl) ?_
  refine z_ild_1 (TX3_term.at 1 rfl) ?_
  refine zc_callV1 (m := 9) (hitem t p N ag C _ _ _ eg290 eg291 eg292 eg424 ef289 ef293 ef294 ef295 ef296 ef417 ef418 t1 p1 hN ha) (hH.lv (by decide)) (TX3_term.at 2 rfl) c3_235 rfl rfl hH hA (by omega) (Nat.le_of_ble_eq_true rfl) (fun f2 g2 j2 h q2 hH hA => ?_)
  obtain ⟨q2, xf, xg, xj⟩ := q2
  rw [xj] at hH
  have ef293 := (xf 293 (by decide)).trans ef293
  have ef296 := (xf 296 (by decide)).trans ef296
  have hfE := hfE.trans xf (by decide)
  have eg290 := (xg 290 (by decide)).trans eg290
  have eg291 := (xg 291 (by decide)).trans eg291
  have eg292 := (xg 292 (by decide)).trans eg292
  have hgE := hgE.trans xg (by decide)
  have qL := q2
  have hq := qL
  refine z_iconst (TX3_term.at 3 rfl) ?_
  refine z_ist_2 (TX3_term.at 4 rfl) (Nat.le_of_ble_eq_true rfl) rfl ?_
  have hI := row_init (op := mulOp) (c := c) hq
  refine lp_term (wi := wi) (ni := ni) hk hN hwi (by omega) hitem (fun i9 o9 f9 g9 h9 hfin xf xg hH hA => ?_) 401 0 0 _ _ _ _ _ _ none _ _ _ rfl (by omega) (by omega) hI eg290 eg291 eg292 rfl rfl ef293 rfl rfl ef296 rfl rfl eqx.rf eqx.rf hH hA
  refine zc_vret (TX3_term.at 50 rfl) rfl hH hA ?_
  exact ⟨hfin, hfE.trans xf (by decide), hgE.trans xg (by decide), rfl⟩

set_option maxHeartbeats 4000000 in
set_option maxRecDepth 100000 in
theorem v_sum {l : Launch} {E : cE} {f : mF} {g j : mA} {Kd : Int → Int} {Vl : Int → Int} {Pl : Int → Int} {C : Int → Int} {tk : Int} {lf : Int} {N : Int} {ag : Int} {dp : Int} {t p wi ni : Nat} {c v : Int → Int} {item : Nat → Nat → PR} (eg290 : g 290 = Kd) (eg291 : g 291 = Vl) (eg292 : g 292 = Pl) (eg424 : g 424 = C) (ef289 : f 289 = (-1)) (ef293 : f 293 = tk) (ef294 : f 294 = (t : Int)) (ef295 : f 295 = (p : Int)) (ef296 : f 296 = lf) (ef417 : f 417 = N) (ef418 : f 418 = ag) (hdp : zIn dp) (hk : TkH Kd Vl Pl tk c v) (t1 : (t : Int) < tk) (p1 : p ≤ 50) (hN : 0 ≤ N ∧ N ≤ t) (ha : in01 ag) (hwi : 1 ≤ wi) (hitem : LvM l E MX3_term ni [vI dp] Kd Vl Pl tk lf wi item) : CM l E MX3_sum (ni + 1) [.ref (E.1 319), vI dp] f g j (PV (fun f' g' j' => (LvQ Pl (wi + 1) (pRow addOp c item t p) t N ag tk C f' g') ∧ eqx [289, 294, 295, 417, 418] f f' ∧ eqx [424] g g' ∧ j' = j)) := by
  refine CM.intro [some (.ref (E.1 319)), some (vI dp), none, none] (by decide) (Nat.le_of_ble_eq_true rfl) rfl (fun d hd h0 h hH hA => ?_)
  have hfE : eqx [289, 294, 295, 417, 418] f f := eqx.rf
  have hgE : eqx [424] g g := eqx.rf
  have htk := hk.1
  have hp0 := (hk.2.1 t (by omega) t1).2
  have hti := (hk.2.1 t (by omega) t1).1
  refine z_ald_0 (TX3_sum.at 0 rfl) ?_
  refine z_ild_1 (TX3_sum.at 1 rfl) ?_
  refine zc_callV1 (m := 9) (hitem t p N ag C _ _ _ eg290 eg291 eg292 eg424 ef289 ef293 ef294 ef295 ef296 ef417 ef418 t1 p1 hN ha) (hH.lv (by decide)) (TX3_sum.at 2 rfl) c3_232 rfl rfl hH hA (by omega) (Nat.le_of_ble_eq_true rfl) (fun f2 g2 j2 h q2 hH hA => ?_)
  obtain ⟨q2, xf, xg, xj⟩ := q2
  rw [xj] at hH
  have ef293 := (xf 293 (by decide)).trans ef293
  have ef296 := (xf 296 (by decide)).trans ef296
  have hfE := hfE.trans xf (by decide)
  have eg290 := (xg 290 (by decide)).trans eg290
  have eg291 := (xg 291 (by decide)).trans eg291
  have eg292 := (xg 292 (by decide)).trans eg292
  have hgE := hgE.trans xg (by decide)
  have qL := q2
  have hq := qL
  refine z_iconst (TX3_sum.at 3 rfl) ?_
  refine z_ist_2 (TX3_sum.at 4 rfl) (Nat.le_of_ble_eq_true rfl) rfl ?_
  have hI := row_init (op := addOp) (c := c) hq
  refine lp_sum (wi := wi) (ni := ni) hk hN hwi (by omega) hitem (fun i9 o9 f9 g9 h9 hfin xf xg hH hA => ?_) 401 0 0 _ _ _ _ _ _ none _ _ _ rfl (by omega) (by omega) hI eg290 eg291 eg292 rfl rfl ef293 rfl rfl ef296 rfl rfl eqx.rf eqx.rf hH hA
  refine zc_vret (TX3_sum.at 40 rfl) rfl hH hA ?_
  exact ⟨hfin, hfE.trans xf (by decide), hgE.trans xg (by decide), rfl⟩

theorem vv_sum_true {l : Launch} {E : cE} {Kd Vl Pl c v : Int → Int} {tk : Int} (hk : TkH Kd Vl Pl tk c v) : ∀ e : Nat, e ≤ 8 → LvM l E MX3_sum (3 * e + 6) [vI (8 - (e : Int))] Kd Vl Pl tk 1 (2 * e + 3) (pSumD true c v e) := by
  have step : ∀ e : Nat, e ≤ 8 → (∀ e2 : Nat, e = e2 + 1 → LvM l E MX3_sum (3 * e2 + 6) [vI (8 - (e2 : Int))] Kd Vl Pl tk 1 (2 * e2 + 3) (pSumD true c v e2)) → LvM l E MX3_sum (3 * e + 6) [vI (8 - (e : Int))] Kd Vl Pl tk 1 (2 * e + 3) (pSumD true c v e) := by
    intro e e8 hs
    rw [pSumD_eq]
    exact fun t p N ag C f g j a1 a2 a3 a4 b1 b2 b3 b4 b5 b6 b7 t1 p1 hN ha => v_sum (wi := 2 * e + 2) (ni := 3 * e + 5) a1 a2 a3 a4 b1 b2 b3 b4 b5 b6 b7 (by omega) hk t1 p1 hN ha (by omega) (fun t p N ag C f g j a1 a2 a3 a4 b1 b2 b3 b4 b5 b6 b7 t1 p1 hN ha => v_term (wi := 2 * e + 1) (ni := 3 * e + 4) a1 a2 a3 a4 b1 b2 b3 b4 b5 b6 b7 (by omega) hk t1 p1 hN ha (by omega) (fun t p N ag C f g j a1 a2 a3 a4 b1 b2 b3 b4 b5 b6 b7 t1 p1 hN ha => v_part_true a1 a2 a3 a4 b1 b2 b3 b4 b5 b6 b7 (by omega) hk t1 p1 hN ha rfl e8 hs))
  intro e
  induction e with
  | zero => exact fun h => step 0 h (fun e2 q => absurd q (by omega))
  | succ e ih => exact fun h => step (e + 1) h (fun e2 q => (show e = e2 by omega) ▸ ih (by omega))
theorem vv_sum_false {l : Launch} {E : cE} {Kd Vl Pl c v : Int → Int} {tk : Int} (hk : TkH Kd Vl Pl tk c v) : ∀ e : Nat, e ≤ 8 → LvM l E MX3_sum (3 * e + 6) [vI (8 - (e : Int))] Kd Vl Pl tk 0 (2 * e + 3) (pSumD false c v e) := by
  have step : ∀ e : Nat, e ≤ 8 → (∀ e2 : Nat, e = e2 + 1 → LvM l E MX3_sum (3 * e2 + 6) [vI (8 - (e2 : Int))] Kd Vl Pl tk 0 (2 * e2 + 3) (pSumD false c v e2)) → LvM l E MX3_sum (3 * e + 6) [vI (8 - (e : Int))] Kd Vl Pl tk 0 (2 * e + 3) (pSumD false c v e) := by
    intro e e8 hs
    rw [pSumD_eq]
    exact fun t p N ag C f g j a1 a2 a3 a4 b1 b2 b3 b4 b5 b6 b7 t1 p1 hN ha => v_sum (wi := 2 * e + 2) (ni := 3 * e + 5) a1 a2 a3 a4 b1 b2 b3 b4 b5 b6 b7 (by omega) hk t1 p1 hN ha (by omega) (fun t p N ag C f g j a1 a2 a3 a4 b1 b2 b3 b4 b5 b6 b7 t1 p1 hN ha => v_term (wi := 2 * e + 1) (ni := 3 * e + 4) a1 a2 a3 a4 b1 b2 b3 b4 b5 b6 b7 (by omega) hk t1 p1 hN ha (by omega) (fun t p N ag C f g j a1 a2 a3 a4 b1 b2 b3 b4 b5 b6 b7 t1 p1 hN ha => v_part_false a1 a2 a3 a4 b1 b2 b3 b4 b5 b6 b7 (by omega) hk t1 p1 hN ha rfl e8 hs))
  intro e
  induction e with
  | zero => exact fun h => step 0 h (fun e2 q => absurd q (by omega))
  | succ e ih => exact fun h => step (e + 1) h (fun e2 q => (show e = e2 by omega) ▸ ih (by omega))
def mNot (b : Bool) (R : PR) : PR := match R with
  | .error e => .error e
  | .ok (t', p', k) => .ok (t', p', dNot b k)
def pPar (inner : Option (Nat → Nat → PR)) (c : Int → Int) (t p : Nat) : PR := match inner with
  | none => .error t
  | some g => pBr c 141 (g (t + 1) p)
def pCmp (c : Int → Int) (sum : Nat → Nat → PR) (t p : Nat) : PR := match sum t p with
  | .error e => .error e
  | .ok (t2, p2, k1) => match cmpOp (c t2) with
    | none => .error t2
    | some o => match sum (t2 + 1) p2 with
      | .error e => .error e
      | .ok (t3, p3, k2) => .ok (t3, p3, dBin o k1 k2)
theorem pPlain_eq {c : Int → Int} {sum : Nat → Nat → PR} {inner : Option (Nat → Nat → PR)} {t p tq : Nat} {b : Bool} (h : pNots c 401 t false = (tq, b)) : pPlain c sum inner t p = mNot b (if c tq = 140 then pPar inner c tq p else pCmp c sum tq p) := by
  unfold pPlain
  rw [h]
  simp only
  by_cases z : c tq = 140
  · rw [if_pos z, if_pos z]
    unfold pPar
    cases inner with
    | none => rfl
    | some g =>
      simp only [pBr]
      cases g (tq + 1) p with
      | error e => rfl
      | ok r =>
        obtain ⟨t', p', k⟩ := r
        simp only
        split <;> rfl
  · rw [if_neg z, if_neg z]
    unfold pCmp
    cases sum tq p with
    | error e => rfl
    | ok r =>
      obtain ⟨t2, p2, k1⟩ := r
      simp only
      cases cmpOp (c t2) with
      | none => rfl
      | some o =>
        simp only
        cases sum (t2 + 1) p2 with
        | error e => rfl
        | ok r =>
          obtain ⟨t3, p3, k2⟩ := r
          rfl
section LN
variable {Pl : Int → Int} {w : Nat} {R : PR} {t tq : Nat} {N ag tk : Int} {C : Int → Int} {f f' : mF} {g g' : mA}
theorem LvQ_not0 (h : LvQ Pl w R tq N ag tk C f g) (ht : t ≤ tq) : LvQ Pl w (mNot false R) t N ag tk C f g := by
  cases R with
  | error e => exact h
  | ok r =>
    obtain ⟨t', p', k⟩ := r
    obtain ⟨h1, h2, h3, h4, h5, h6, h7, h8, h9, h10, h11, h12, h13⟩ := h
    show LvQ Pl w (.ok (t', p', dNot false k)) t N ag tk C f g
    rw [dNot_f]
    exact ⟨h1, h2, h3, h4, h5, h6, h7, by omega, h9, h10, h11, h12, h13⟩
theorem LvQ_not1 (h : LvQ Pl w R tq N ag tk C f g) (ht : t < tq) (hN : 0 ≤ N ∧ N ≤ t) (htk : tk ≤ 401) (hw : 1 ≤ w) (hb : ∀ t' p' k, R = .ok (t', p', k) → B01 k) (xf : eqx [417] f f') (e417 : f' 417 = (if f 417 < 400 then f 417 + 1 else f 417)) (e424 : g' 424 = (if f 417 < 400 then iu (g 424) (f 417) (11 * 1024 + 0) else g 424)) : LvQ Pl w (mNot true R) t N ag tk C f' g' := by
  cases R with
  | error e => exact DdS.p (show DdS tk (Pl e) ag f from h) xf e417
  | ok r =>
    obtain ⟨t', p', k⟩ := r
    obtain ⟨h1, h2, h3, h4, h5, h6, h7, h8, h9, h10, h11, h12, h13⟩ := h
    rw [if_pos (show f 417 < 400 by omega)] at e417 e424
    have x289 := xf 289 (by decide)
    have x293 := xf 293 (by decide)
    have x294 := xf 294 (by decide)
    have x295 := xf 295 (by decide)
    have x418 := xf 418 (by decide)
    have kp : ∀ q : Int, q < f 417 → g' 424 q = g 424 q := fun q hq => by rw [e424, iu_ne (by omega)]
    refine ⟨x289.trans h1, x293.trans h2, x294.trans h3, x295.trans h4, h5, h6, by omega, by omega, by rw [x418]; exact h9, fun z => by rw [x418]; exact h10 z, fun q hq => by rw [kp q (by omega), h11 q hq], ?_, fun z => ?_⟩
    · rw [e417]
      exact Cod_not (h12.keep (fun q a b => kp q b)) (by omega) (hb _ _ _ rfl) (by rw [e424, iu_self]; omega) hw
    · rw [x418] at z
      exact Ng_not (h13 z)
theorem cmp_step {sum : Nat → Nat → PR} {c C1 : Int → Int} {t2 p2 p : Nat} {k1 : Den} {o N1 ag1 : Int} (hs : sum tq p = .ok (t2, p2, k1)) (ho : cmpOp (c t2) = some o) (o0 : 3 ≤ o) (o1 : o ≤ 10) (h7 : N < N1) (h8 : N1 + tq ≤ t2 + N) (hN : 0 ≤ N ∧ N ≤ tq) (ha1 : in01 ag1) (h10 : ag = 1 → ag1 = 1) (h11 : ∀ q : Int, q < N → C1 q = C q) (h12 : Cod C1 N N1 w k1) (h13 : ag1 = 0 → Ng k1) (hq : LvQ Pl w (sum (t2 + 1) p2) (t2 + 1) N1 ag1 tk C1 f g) (htk : tk ≤ 401) (hw : 1 ≤ w) (xf : eqx [417] f f') (e417 : f' 417 = (if f 417 < 400 then f 417 + 1 else f 417)) (e424 : g' 424 = (if f 417 < 400 then iu (g 424) (f 417) (o * 1024 + 0) else g 424)) : LvQ Pl (w + 1) (pCmp c sum tq p) tq N ag tk C f' g' := by
  unfold pCmp
  rw [hs]
  simp only [ho]
  cases hr : sum (t2 + 1) p2 with
  | error e =>
    rw [hr] at hq
    exact ((show DdS tk (Pl e) ag1 f from hq).p xf e417).agm h10
  | ok r =>
    obtain ⟨t3, p3, k2⟩ := r
    rw [hr] at hq
    obtain ⟨q1, q2, q3, q4, q5, q6, q7, q8, q9, q10, q11, q12, q13⟩ := hq
    rw [if_pos (show f 417 < 400 by omega)] at e417 e424
    have x289 := xf 289 (by decide)
    have x293 := xf 293 (by decide)
    have x294 := xf 294 (by decide)
    have x295 := xf 295 (by decide)
    have x418 := xf 418 (by decide)
    have kp : ∀ q : Int, q < f 417 → g' 424 q = g 424 q := fun q hq => by rw [e424, iu_ne (by omega)]
    refine ⟨x289.trans q1, x293.trans q2, x294.trans q3, x295.trans q4, q5, q6, by omega, by omega, by rw [x418]; exact q9, fun z => by rw [x418]; exact q10 (h10 z), fun q hq => by rw [kp q (by omega), q11 q (by omega), h11 q hq], ?_, fun z => ?_⟩
    · rw [e417]
      exact Cod_bin (h12.keep (fun q a b => by rw [kp q (by omega), q11 q b])) (q12.keep (fun q a b => kp q b)) (by omega) (by omega) o0 o1 (by rw [e424, iu_self]; omega) hw
    · rw [x418] at z
      have a1 : ag1 = 0 := by
        rcases ha1 with y | y
        · exact y
        · exact absurd (q10 y) (by omega)
      exact Ng_bin (h13 a1) (q13 z)
end LN
/-- tests are so or not -/
theorem cmpOp_or {x o : Int} (h : cmpOp x = some o) : o = 8 ∨ o = 9 ∨ o = 10 := by
  unfold cmpOp at h
  split at h
  · exact Or.inl (Option.some.inj h).symm
  · split at h
    · exact Or.inr (Or.inl (Option.some.inj h).symm)
    · split at h
      · exact Or.inr (Or.inr (Option.some.inj h).symm)
      · exact absurd h (by simp)
def B01R (R : PR) : Prop := ∀ t' p' k, R = .ok (t', p', k) → B01 k
theorem B01R_cmp {c : Int → Int} {sum : Nat → Nat → PR} {t p : Nat} : B01R (pCmp c sum t p) := by
  intro t' p' k h
  unfold pCmp at h
  cases h1 : sum t p with
  | error e => rw [h1] at h; exact absurd h (by simp)
  | ok r =>
    obtain ⟨t2, p2, k1⟩ := r
    rw [h1] at h
    simp only at h
    cases h2 : cmpOp (c t2) with
    | none => rw [h2] at h; exact absurd h (by simp)
    | some o =>
      rw [h2] at h
      simp only at h
      cases h3 : sum (t2 + 1) p2 with
      | error e => rw [h3] at h; exact absurd h (by simp)
      | ok r =>
        obtain ⟨t3, p3, k2⟩ := r
        rw [h3] at h
        simp only [Except.ok.injEq, Prod.mk.injEq] at h
        rw [← h.2.2]
        exact B01_cmp (by have := cmpOp_or h2; omega) (by have := cmpOp_or h2; omega)
theorem B01R_br {c : Int → Int} {cc : Int} {R : PR} (h : B01R R) : B01R (pBr c cc R) := by
  intro t' p' k hh
  unfold pBr at hh
  cases R with
  | error e => exact absurd hh (by simp)
  | ok r =>
    obtain ⟨t2, p2, k1⟩ := r
    simp only at hh
    split at hh
    · simp only [Except.ok.injEq, Prod.mk.injEq] at hh
      rw [← hh.2.2]
      exact h _ _ _ rfl
    · exact absurd hh (by simp)
theorem B01R_mn {b : Bool} {R : PR} (h : B01R R) : B01R (mNot b R) := by
  intro t' p' k hh
  cases R with
  | error e => exact absurd hh (by simp [mNot])
  | ok r =>
    obtain ⟨t2, p2, k1⟩ := r
    simp only [mNot, Except.ok.injEq, Prod.mk.injEq] at hh
    rw [← hh.2.2]
    exact B01_not (h _ _ _ rfl)
