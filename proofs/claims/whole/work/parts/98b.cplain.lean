/-! ===== the class: reading terms and sums, closed ===== -/
section RI
variable {Pl c : Int → Int} {wi : Nat} {op : Int → Option Int} {item : Nat → Nat → PR} {t p : Nat} {N ag tk : Int} {C : Int → Int} {f : mF} {g : mA}
theorem row_init (hq : LvQ Pl wi (item t p) t N ag tk C f g) : RwQ Pl (wi + 1) (pRow op c item t p) (pLoop op c item (401 - 0)) 0 t N ag tk C f g := by
  cases hr : item t p with
  | error e =>
    rw [hr] at hq
    exact Or.inl ⟨e, by unfold pRow; rw [hr], hq⟩
  | ok r =>
    obtain ⟨t', p', k⟩ := r
    rw [hr] at hq
    exact Or.inr ⟨t', p', k, by unfold pRow; rw [hr], LvQ.mono hq (by omega), by omega⟩
end RI
set_option maxHeartbeats 4000000 in
set_option maxRecDepth 100000 in
theorem v_term {l : Launch} {E : cE} {f : mF} {g j : mA} {Kd : Int → Int} {Vl : Int → Int} {Pl : Int → Int} {C : Int → Int} {tk : Int} {lf : Int} {N : Int} {ag : Int} {dp : Int} {t p wi ni : Nat} {c v : Int → Int} {item : Nat → Nat → PR} (eg290 : g 290 = Kd) (eg291 : g 291 = Vl) (eg292 : g 292 = Pl) (eg424 : g 424 = C) (ef289 : f 289 = (-1)) (ef293 : f 293 = tk) (ef294 : f 294 = (t : Int)) (ef295 : f 295 = (p : Int)) (ef296 : f 296 = lf) (ef417 : f 417 = N) (ef418 : f 418 = ag) (hdp : zIn dp) (hk : TkH Kd Vl Pl tk c v) (t1 : (t : Int) < tk) (p1 : p ≤ 50) (hN : 0 ≤ N ∧ N ≤ t) (ha : in01 ag) (hwi : 1 ≤ wi) (hitem : LvM l E MX3_part ni [vI dp] Kd Vl Pl tk lf wi item) : CM l E MX3_term (ni + 1) [.ref (E.1 319), vI dp] f g j (PV (fun f' g' j' => (LvQ Pl (wi + 1) (pRow mulOp c item t p) t N ag tk C f' g') ∧ eqx [289, 294, 295, 417, 418] f f' ∧ eqx [424] g g' ∧ j' = j)) := by
  refine CM.intro [some (.ref (E.1 319)), some (vI dp), none, none] (by decide) (Nat.le_of_ble_eq_true rfl) rfl (fun d hd h0 h hH hA => ?_)
  have hfE : eqx [289, 294, 295, 417, 418] f f := eqx.rf
  have hgE : eqx [424] g g := eqx.rf
  have htk := hk.1
  have hp0 := (hk.2.1 t (by omega) t1).2
  have hti := (hk.2.1 t (by omega) t1).1
  refine z_ald_0 (TX3_term.at 0 rfl) ?_
  refine z_ild_1 (TX3_term.at 1 rfl) ?_
  refine zc_callV1 (m := 9) (hitem t p N ag C _ _ _ eg290 eg291 eg292 eg424 ef289 ef293 ef294 ef295 ef296 ef417 ef418 t1 p1 hN ha) (hH.lv (by decide)) (TX3_term.at 2 rfl) c3_235 rfl rfl hH hA (by omega) (Nat.le_of_ble_eq_true rfl) (fun f2 g2 j2 h q2 hH hA => ?_)
  obtain ⟨q2, xf, xg, xj⟩ := q2
  rw [xj] at hH
  have ef293 := (xf 293 (by decide)).trans ef293
  have ef296 := (xf 296 (by decide)).trans ef296
  have hfE := hfE.trans xf (by decide)
  have eg290 := (xg 290 (by decide)).trans eg290
  have eg291 := (xg 291 (by decide)).trans eg291
  have eg292 := (xg 292 (by decide)).trans eg292
  have hgE := hgE.trans xg (by decide)
  have qL := q2
  have hq := qL
  refine z_iconst (TX3_term.at 3 rfl) ?_
  refine z_ist_2 (TX3_term.at 4 rfl) (Nat.le_of_ble_eq_true rfl) rfl ?_
  have hI := row_init (op := mulOp) (c := c) hq
  refine lp_term (wi := wi) (ni := ni) hk hN hwi (by omega) hitem (fun i9 o9 f9 g9 h9 hfin xf xg hH hA => ?_) 401 0 0 _ _ _ _ _ _ none _ _ _ rfl (by omega) (by omega) hI eg290 eg291 eg292 rfl rfl ef293 rfl rfl ef296 rfl rfl eqx.rf eqx.rf hH hA
  refine zc_vret (TX3_term.at 50 rfl) rfl hH hA ?_
  exact ⟨hfin, hfE.trans xf (by decide), hgE.trans xg (by decide), rfl⟩

set_option maxHeartbeats 4000000 in
set_option maxRecDepth 100000 in
theorem v_sum {l : Launch} {E : cE} {f : mF} {g j : mA} {Kd : Int → Int} {Vl : Int → Int} {Pl : Int → Int} {C : Int → Int} {tk : Int} {lf : Int} {N : Int} {ag : Int} {dp : Int} {t p wi ni : Nat} {c v : Int → Int} {item : Nat → Nat → PR} (eg290 : g 290 = Kd) (eg291 : g 291 = Vl) (eg292 : g 292 = Pl) (eg424 : g 424 = C) (ef289 : f 289 = (-1)) (ef293 : f 293 = tk) (ef294 : f 294 = (t : Int)) (ef295 : f 295 = (p : Int)) (ef296 : f 296 = lf) (ef417 : f 417 = N) (ef418 : f 418 = ag) (hdp : zIn dp) (hk : TkH Kd Vl Pl tk c v) (t1 : (t : Int) < tk) (p1 : p ≤ 50) (hN : 0 ≤ N ∧ N ≤ t) (ha : in01 ag) (hwi : 1 ≤ wi) (hitem : LvM l E MX3_term ni [vI dp] Kd Vl Pl tk lf wi item) : CM l E MX3_sum (ni + 1) [.ref (E.1 319), vI dp] f g j (PV (fun f' g' j' => (LvQ Pl (wi + 1) (pRow addOp c item t p) t N ag tk C f' g') ∧ eqx [289, 294, 295, 417, 418] f f' ∧ eqx [424] g g' ∧ j' = j)) := by
  refine CM.intro [some (.ref (E.1 319)), some (vI dp), none, none] (by decide) (Nat.le_of_ble_eq_true rfl) rfl (fun d hd h0 h hH hA => ?_)
  have hfE : eqx [289, 294, 295, 417, 418] f f := eqx.rf
  have hgE : eqx [424] g g := eqx.rf
  have htk := hk.1
  have hp0 := (hk.2.1 t (by omega) t1).2
  have hti := (hk.2.1 t (by omega) t1).1
  refine z_ald_0 (TX3_sum.at 0 rfl) ?_
  refine z_ild_1 (TX3_sum.at 1 rfl) ?_
  refine zc_callV1 (m := 9) (hitem t p N ag C _ _ _ eg290 eg291 eg292 eg424 ef289 ef293 ef294 ef295 ef296 ef417 ef418 t1 p1 hN ha) (hH.lv (by decide)) (TX3_sum.at 2 rfl) c3_232 rfl rfl hH hA (by omega) (Nat.le_of_ble_eq_true rfl) (fun f2 g2 j2 h q2 hH hA => ?_)
  obtain ⟨q2, xf, xg, xj⟩ := q2
  rw [xj] at hH
  have ef293 := (xf 293 (by decide)).trans ef293
  have ef296 := (xf 296 (by decide)).trans ef296
  have hfE := hfE.trans xf (by decide)
  have eg290 := (xg 290 (by decide)).trans eg290
  have eg291 := (xg 291 (by decide)).trans eg291
  have eg292 := (xg 292 (by decide)).trans eg292
  have hgE := hgE.trans xg (by decide)
  have qL := q2
  have hq := qL
  refine z_iconst (TX3_sum.at 3 rfl) ?_
  refine z_ist_2 (TX3_sum.at 4 rfl) (Nat.le_of_ble_eq_true rfl) rfl ?_
  have hI := row_init (op := addOp) (c := c) hq
  refine lp_sum (wi := wi) (ni := ni) hk hN hwi (by omega) hitem (fun i9 o9 f9 g9 h9 hfin xf xg hH hA => ?_) 401 0 0 _ _ _ _ _ _ none _ _ _ rfl (by omega) (by omega) hI eg290 eg291 eg292 rfl rfl ef293 rfl rfl ef296 rfl rfl eqx.rf eqx.rf hH hA
  refine zc_vret (TX3_sum.at 40 rfl) rfl hH hA ?_
  exact ⟨hfin, hfE.trans xf (by decide), hgE.trans xg (by decide), rfl⟩

theorem vv_sum_true {l : Launch} {E : cE} {Kd Vl Pl c v : Int → Int} {tk : Int} (hk : TkH Kd Vl Pl tk c v) : ∀ e : Nat, e ≤ 8 → LvM l E MX3_sum (3 * e + 6) [vI (8 - (e : Int))] Kd Vl Pl tk 1 (2 * e + 3) (pSumD true c v e) := by
  have step : ∀ e : Nat, e ≤ 8 → (∀ e2 : Nat, e = e2 + 1 → LvM l E MX3_sum (3 * e2 + 6) [vI (8 - (e2 : Int))] Kd Vl Pl tk 1 (2 * e2 + 3) (pSumD true c v e2)) → LvM l E MX3_sum (3 * e + 6) [vI (8 - (e : Int))] Kd Vl Pl tk 1 (2 * e + 3) (pSumD true c v e) := by
    intro e e8 hs
    rw [pSumD_eq]
    exact fun t p N ag C f g j a1 a2 a3 a4 b1 b2 b3 b4 b5 b6 b7 t1 p1 hN ha => v_sum (wi := 2 * e + 2) (ni := 3 * e + 5) a1 a2 a3 a4 b1 b2 b3 b4 b5 b6 b7 (by omega) hk t1 p1 hN ha (by omega) (fun t p N ag C f g j a1 a2 a3 a4 b1 b2 b3 b4 b5 b6 b7 t1 p1 hN ha => v_term (wi := 2 * e + 1) (ni := 3 * e + 4) a1 a2 a3 a4 b1 b2 b3 b4 b5 b6 b7 (by omega) hk t1 p1 hN ha (by omega) (fun t p N ag C f g j a1 a2 a3 a4 b1 b2 b3 b4 b5 b6 b7 t1 p1 hN ha => v_part_true a1 a2 a3 a4 b1 b2 b3 b4 b5 b6 b7 (by omega) hk t1 p1 hN ha rfl e8 hs))
  intro e
  induction e with
  | zero => exact fun h => step 0 h (fun e2 q => absurd q (by omega))
  | succ e ih => exact fun h => step (e + 1) h (fun e2 q => (show e = e2 by omega) ▸ ih (by omega))
theorem vv_sum_false {l : Launch} {E : cE} {Kd Vl Pl c v : Int → Int} {tk : Int} (hk : TkH Kd Vl Pl tk c v) : ∀ e : Nat, e ≤ 8 → LvM l E MX3_sum (3 * e + 6) [vI (8 - (e : Int))] Kd Vl Pl tk 0 (2 * e + 3) (pSumD false c v e) := by
  have step : ∀ e : Nat, e ≤ 8 → (∀ e2 : Nat, e = e2 + 1 → LvM l E MX3_sum (3 * e2 + 6) [vI (8 - (e2 : Int))] Kd Vl Pl tk 0 (2 * e2 + 3) (pSumD false c v e2)) → LvM l E MX3_sum (3 * e + 6) [vI (8 - (e : Int))] Kd Vl Pl tk 0 (2 * e + 3) (pSumD false c v e) := by
    intro e e8 hs
    rw [pSumD_eq]
    exact fun t p N ag C f g j a1 a2 a3 a4 b1 b2 b3 b4 b5 b6 b7 t1 p1 hN ha => v_sum (wi := 2 * e + 2) (ni := 3 * e + 5) a1 a2 a3 a4 b1 b2 b3 b4 b5 b6 b7 (by omega) hk t1 p1 hN ha (by omega) (fun t p N ag C f g j a1 a2 a3 a4 b1 b2 b3 b4 b5 b6 b7 t1 p1 hN ha => v_term (wi := 2 * e + 1) (ni := 3 * e + 4) a1 a2 a3 a4 b1 b2 b3 b4 b5 b6 b7 (by omega) hk t1 p1 hN ha (by omega) (fun t p N ag C f g j a1 a2 a3 a4 b1 b2 b3 b4 b5 b6 b7 t1 p1 hN ha => v_part_false a1 a2 a3 a4 b1 b2 b3 b4 b5 b6 b7 (by omega) hk t1 p1 hN ha rfl e8 hs))
  intro e
  induction e with
  | zero => exact fun h => step 0 h (fun e2 q => absurd q (by omega))
  | succ e ih => exact fun h => step (e + 1) h (fun e2 q => (show e = e2 by omega) ▸ ih (by omega))
