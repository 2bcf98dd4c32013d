/-! ===== the class: reading clauses ===== -/
/-- code that begins at s, ends with a stop, and means k -/
def SmZ (C : Int → Int) (N s : Int) (k : Den) : Prop := ∃ (e : Int) (w : Nat), (0 ≤ s ∧ s ≤ e ∧ e < N) ∧ w ≤ 64 ∧ Cod C s e w k ∧ C e = 0
theorem SmZ.keep {C C' : Int → Int} {N N' s : Int} {k : Den} (h : SmZ C N s k) (hC : ∀ q : Int, q < N → C' q = C q) (hN : N ≤ N') : SmZ C' N' s k := by
  obtain ⟨e, w, h1, h2, h3, h4⟩ := h
  exact ⟨e, w, ⟨h1.1, h1.2.1, by omega⟩, h2, h3.keep (fun q a b => hC q (by omega)), by rw [hC e h1.2.2]; exact h4⟩
def WsQ (Pl : Int → Int) (R : PR) (t : Nat) (N ag tk : Int) (C : Int → Int) (f' : mF) (g' : mA) : Prop := match R with
  | .error e => DdS tk (Pl e) ag f'
  | .ok (t', p', k) => f' 289 = -1 ∧ f' 293 = tk ∧ f' 294 = (t' : Int) ∧ f' 295 = (p' : Int) ∧ (t' : Int) < tk ∧ p' ≤ 50 ∧ N < f' 417 ∧ f' 417 + t ≤ t' + N + 1 ∧ in01 (f' 418) ∧ (ag = 1 → f' 418 = 1) ∧ (∀ q : Int, q < N → g' 424 q = C q) ∧ SmZ (g' 424) (f' 417) N k ∧ (f' 418 = 0 → Ng k)
section WS
variable {Pl : Int → Int} {w : Nat} {R : PR} {t : Nat} {N ag tk : Int} {C : Int → Int} {f f' : mF} {g g' : mA}
theorem LvQ_stop (h : LvQ Pl w R t N ag tk C f g) (hN : 0 ≤ N ∧ N + 1 ≤ t) (htk : tk ≤ 401) (hw : w ≤ 64) (xf : eqx [417] f f') (e417 : f' 417 = (if f 417 < 400 then f 417 + 1 else f 417)) (e424 : g' 424 = (if f 417 < 400 then iu (g 424) (f 417) (0 * 1024 + 0) else g 424)) : WsQ Pl R t N ag tk C f' g' := by
  cases R with
  | error e => exact DdS.p (show DdS tk (Pl e) ag f from h) xf e417
  | ok r =>
    obtain ⟨t', p', k⟩ := r
    obtain ⟨h1, h2, h3, h4, h5, h6, h7, h8, h9, h10, h11, h12, h13⟩ := h
    rw [if_pos (show f 417 < 400 by omega)] at e417 e424
    have x418 := xf 418 (by decide)
    have kp : ∀ q : Int, q < f 417 → g' 424 q = g 424 q := fun q hq => by rw [e424, iu_ne (by omega)]
    exact ⟨(xf 289 (by decide)).trans h1, (xf 293 (by decide)).trans h2, (xf 294 (by decide)).trans h3, (xf 295 (by decide)).trans h4, h5, h6, by omega, by omega, by rw [x418]; exact h9, fun z => by rw [x418]; exact h10 z, fun q hq => by rw [kp q (by omega), h11 q hq], ⟨f 417, w, ⟨hN.1, by omega, by omega⟩, hw, h12.keep (fun q a b => kp q b), by rw [e424, iu_self]; rfl⟩, fun z => h13 (by rw [← x418]; exact z)⟩
theorem WsQ.ps (h : WsQ Pl R t N ag tk C f' g') (htk : 1 ≤ tk ∧ tk ≤ 401) (hN : 0 ≤ N ∧ N + 1 ≤ t) : PsS tk ag f' := by
  cases R with
  | error e =>
    obtain ⟨h1, h2, h3, h4, h5, h6, h7, h8, h9⟩ := (show DdS tk (Pl e) ag f' from h)
    exact ⟨h1, h2, h3, h4, h5, h6, h7⟩
  | ok r =>
    obtain ⟨t', p', k⟩ := r
    obtain ⟨h1, h2, h3, h4, h5, h6, h7, h8, h9, h10, -, -, -⟩ := (show _ ∧ _ ∧ _ ∧ _ ∧ _ ∧ _ ∧ _ ∧ _ ∧ _ ∧ _ ∧ _ ∧ _ ∧ _ from h)
    exact ⟨h2, htk, ⟨by omega, by omega⟩, ⟨by omega, by omega⟩, ⟨by omega, by omega⟩, h9, h10⟩
end WS
theorem vI80 : vI (8 - ((8 : Nat) : Int)) = vI 0 := rfl
set_option maxHeartbeats 4000000 in
set_option maxRecDepth 100000 in
theorem v_whole_true {l : Launch} {E : cE} {f : mF} {g j : mA} {Kd : Int → Int} {Vl : Int → Int} {Pl : Int → Int} {C : Int → Int} {tk : Int} {N : Int} {ag : Int} {t p : Nat} {c v : Int → Int} (eg290 : g 290 = Kd) (eg291 : g 291 = Vl) (eg292 : g 292 = Pl) (eg424 : g 424 = C) (ef289 : f 289 = (-1)) (ef293 : f 293 = tk) (ef294 : f 294 = (t : Int)) (ef295 : f 295 = (p : Int)) (ef296 : f 296 = 1) (ef417 : f 417 = N) (ef418 : f 418 = ag) (hk : TkH Kd Vl Pl tk c v) (t1 : (t : Int) < tk) (p1 : p ≤ 50) (hN : 0 ≤ N ∧ N + 1 ≤ t) (ha : in01 ag) : CM l E MX3_wholeSum 31 [.ref (E.1 319)] f g j (PI (fun r f' g' j' => (r = N ∧ WsQ Pl (pSumD true c v 8 t p) t N ag tk C f' g') ∧ eqx [289, 294, 295, 417, 418] f f' ∧ eqx [424] g g' ∧ j' = j)) := by
  refine CM.intro [some (.ref (E.1 319)), none] (by decide) (Nat.le_of_ble_eq_true rfl) rfl (fun d hd h0 h hH hA => ?_)
  have hfE : eqx [289, 294, 295, 417, 418] f f := eqx.rf
  have hgE : eqx [424] g g := eqx.rf
  have htk := hk.1
  refine z_ald_0 (TX3_wholeSum.at 0 rfl) ?_
  refine zc_getO (m := 9) (s := 0) (k := 447) (hH.lv (by decide)) (TX3_wholeSum.at 1 rfl) fl3_14 hH rfl rfl (by decide) (by decide) ?_
  refine zc_getIE (m := 13) (s := 1) (k := 417) (hH.lv (by decide)) ef417 (TX3_wholeSum.at 2 rfl) fl3_209 hH rfl rfl (by decide) (by decide) (fun r4 => ?_)
  refine z_ist_1 (TX3_wholeSum.at 3 rfl) (Nat.le_of_ble_eq_true rfl) rfl ?_
  refine z_ald_0 (TX3_wholeSum.at 4 rfl) ?_
  refine z_iconst (TX3_wholeSum.at 5 rfl) ?_
  rw [← vI80]
  refine zc_callV1 (m := 9) (vv_sum_true hk 8 (by omega) t p N ag C _ _ _ eg290 eg291 eg292 eg424 ef289 ef293 ef294 ef295 ef296 ef417 ef418 t1 p1 (by omega) ha) (hH.lv (by decide)) (TX3_wholeSum.at 6 rfl) c3_217 rfl rfl hH hA (by omega) (Nat.le_of_ble_eq_true rfl) (fun f10 g10 j10 h q10 hH hA => ?_)
  obtain ⟨q10, xf, xg, xj⟩ := q10
  rw [xj] at hH
  have ef293 := (xf 293 (by decide)).trans ef293
  have ef296 := (xf 296 (by decide)).trans ef296
  have hfE := hfE.trans xf (by decide)
  have eg290 := (xg 290 (by decide)).trans eg290
  have eg291 := (xg 291 (by decide)).trans eg291
  have eg292 := (xg 292 (by decide)).trans eg292
  have hgE := hgE.trans xg (by decide)
  have qL := q10
  have hq := qL
  have hps := hq.ps htk (by omega)
  have b5 := hps.2.2.2.2.1
  refine z_ald_0 (TX3_wholeSum.at 7 rfl) ?_
  refine zc_getO (m := 9) (s := 0) (k := 447) (hH.lv (by decide)) (TX3_wholeSum.at 8 rfl) fl3_14 hH rfl rfl (by decide) (by decide) ?_
  refine z_iconst (TX3_wholeSum.at 9 rfl) ?_
  refine z_iconst (TX3_wholeSum.at 10 rfl) ?_
  refine zc_callV2 (m := 13) (c_put rfl rfl (by omega) (by omega) (by omega) (by omega) (by omega) (by omega) (by omega) ) (hH.lv (by decide)) (TX3_wholeSum.at 11 rfl) c3_214 rfl rfl hH hA (by omega) (Nat.le_of_ble_eq_true rfl) (fun f19 g19 j19 h q19 hH hA => ?_)
  obtain ⟨q19, xf, xg, xj⟩ := q19
  rw [xj] at hH
  have ef293 := (xf 293 (by decide)).trans ef293
  have ef296 := (xf 296 (by decide)).trans ef296
  have hfE := hfE.trans xf (by decide)
  have eg290 := (xg 290 (by decide)).trans eg290
  have eg291 := (xg 291 (by decide)).trans eg291
  have eg292 := (xg 292 (by decide)).trans eg292
  have hgE := hgE.trans xg (by decide)
  have qL := q19
  have hfin := LvQ_stop hq hN htk.2 (by omega) xf qL.1 qL.2
  refine z_ild_1 (TX3_wholeSum.at 12 rfl) ?_
  refine zc_iret (TX3_wholeSum.at 13 rfl) rfl hH hA (by omega) ?_
  exact ⟨⟨rfl, hfin⟩, hfE, hgE, rfl⟩

set_option maxHeartbeats 4000000 in
set_option maxRecDepth 100000 in
theorem v_whole_false {l : Launch} {E : cE} {f : mF} {g j : mA} {Kd : Int → Int} {Vl : Int → Int} {Pl : Int → Int} {C : Int → Int} {tk : Int} {N : Int} {ag : Int} {t p : Nat} {c v : Int → Int} (eg290 : g 290 = Kd) (eg291 : g 291 = Vl) (eg292 : g 292 = Pl) (eg424 : g 424 = C) (ef289 : f 289 = (-1)) (ef293 : f 293 = tk) (ef294 : f 294 = (t : Int)) (ef295 : f 295 = (p : Int)) (ef296 : f 296 = 0) (ef417 : f 417 = N) (ef418 : f 418 = ag) (hk : TkH Kd Vl Pl tk c v) (t1 : (t : Int) < tk) (p1 : p ≤ 50) (hN : 0 ≤ N ∧ N + 1 ≤ t) (ha : in01 ag) : CM l E MX3_wholeSum 31 [.ref (E.1 319)] f g j (PI (fun r f' g' j' => (r = N ∧ WsQ Pl (pSumD false c v 8 t p) t N ag tk C f' g') ∧ eqx [289, 294, 295, 417, 418] f f' ∧ eqx [424] g g' ∧ j' = j)) := by
  refine CM.intro [some (.ref (E.1 319)), none] (by decide) (Nat.le_of_ble_eq_true rfl) rfl (fun d hd h0 h hH hA => ?_)
  have hfE : eqx [289, 294, 295, 417, 418] f f := eqx.rf
  have hgE : eqx [424] g g := eqx.rf
  have htk := hk.1
  refine z_ald_0 (TX3_wholeSum.at 0 rfl) ?_
  refine zc_getO (m := 9) (s := 0) (k := 447) (hH.lv (by decide)) (TX3_wholeSum.at 1 rfl) fl3_14 hH rfl rfl (by decide) (by decide) ?_
  refine zc_getIE (m := 13) (s := 1) (k := 417) (hH.lv (by decide)) ef417 (TX3_wholeSum.at 2 rfl) fl3_209 hH rfl rfl (by decide) (by decide) (fun r4 => ?_)
  refine z_ist_1 (TX3_wholeSum.at 3 rfl) (Nat.le_of_ble_eq_true rfl) rfl ?_
  refine z_ald_0 (TX3_wholeSum.at 4 rfl) ?_
  refine z_iconst (TX3_wholeSum.at 5 rfl) ?_
  rw [← vI80]
  refine zc_callV1 (m := 9) (vv_sum_false hk 8 (by omega) t p N ag C _ _ _ eg290 eg291 eg292 eg424 ef289 ef293 ef294 ef295 ef296 ef417 ef418 t1 p1 (by omega) ha) (hH.lv (by decide)) (TX3_wholeSum.at 6 rfl) c3_217 rfl rfl hH hA (by omega) (Nat.le_of_ble_eq_true rfl) (fun f10 g10 j10 h q10 hH hA => ?_)
  obtain ⟨q10, xf, xg, xj⟩ := q10
  rw [xj] at hH
  have ef293 := (xf 293 (by decide)).trans ef293
  have ef296 := (xf 296 (by decide)).trans ef296
  have hfE := hfE.trans xf (by decide)
  have eg290 := (xg 290 (by decide)).trans eg290
  have eg291 := (xg 291 (by decide)).trans eg291
  have eg292 := (xg 292 (by decide)).trans eg292
  have hgE := hgE.trans xg (by decide)
  have qL := q10
  have hq := qL
  have hps := hq.ps htk (by omega)
  have b5 := hps.2.2.2.2.1
  refine z_ald_0 (TX3_wholeSum.at 7 rfl) ?_
  refine zc_getO (m := 9) (s := 0) (k := 447) (hH.lv (by decide)) (TX3_wholeSum.at 8 rfl) fl3_14 hH rfl rfl (by decide) (by decide) ?_
  refine z_iconst (TX3_wholeSum.at 9 rfl) ?_
  refine z_iconst (TX3_wholeSum.at 10 rfl) ?_
  refine zc_callV2 (m := 13) (c_put rfl rfl (by omega) (by omega) (by omega) (by omega) (by omega) (by omega) (by omega) ) (hH.lv (by decide)) (TX3_wholeSum.at 11 rfl) c3_214 rfl rfl hH hA (by omega) (Nat.le_of_ble_eq_true rfl) (fun f19 g19 j19 h q19 hH hA => ?_)
  obtain ⟨q19, xf, xg, xj⟩ := q19
  rw [xj] at hH
  have ef293 := (xf 293 (by decide)).trans ef293
  have ef296 := (xf 296 (by decide)).trans ef296
  have hfE := hfE.trans xf (by decide)
  have eg290 := (xg 290 (by decide)).trans eg290
  have eg291 := (xg 291 (by decide)).trans eg291
  have eg292 := (xg 292 (by decide)).trans eg292
  have hgE := hgE.trans xg (by decide)
  have qL := q19
  have hfin := LvQ_stop hq hN htk.2 (by omega) xf qL.1 qL.2
  refine z_ild_1 (TX3_wholeSum.at 12 rfl) ?_
  refine zc_iret (TX3_wholeSum.at 13 rfl) rfl hH hA (by omega) ?_
  exact ⟨⟨rfl, hfin⟩, hfE, hgE, rfl⟩

set_option maxHeartbeats 4000000 in
set_option maxRecDepth 100000 in
theorem d_whole {l : Launch} {E : cE} {f : mF} {g j : mA} {tk fl ag : Int}  (hS : DdS tk fl ag f) : CM l E MX3_wholeSum 31 [.ref (E.1 319)] f g j (PI (fun r f' g' j' => (DdS tk fl ag f') ∧ eqx [289, 294, 295, 417, 418] f f' ∧ eqx [424] g g' ∧ j' = j)) := by
  refine CM.intro [some (.ref (E.1 319)), none] (by decide) (Nat.le_of_ble_eq_true rfl) rfl (fun d hd h0 h hH hA => ?_)
  have hfE : eqx [289, 294, 295, 417, 418] f f := eqx.rf
  have hgE : eqx [424] g g := eqx.rf
  have s1 := hS.1
  have s2 := hS.2.1
  have s3 := hS.2.2.1
  have s4 := hS.2.2.2.1
  have s5 := hS.2.2.2.2.1
  have s8 := hS.2.2.2.2.2.2.2.1
  have s9 := hS.2.2.2.2.2.2.2.2
  refine z_ald_0 (TX3_wholeSum.at 0 rfl) ?_
  refine zc_getO (m := 9) (s := 0) (k := 447) (hH.lv (by decide)) (TX3_wholeSum.at 1 rfl) fl3_14 hH rfl rfl (by decide) (by decide) ?_
  refine zc_getI (m := 13) (s := 1) (k := 417) (hH.lv (by decide)) (TX3_wholeSum.at 2 rfl) fl3_209 hH rfl rfl (by decide) (by decide) (fun r4 => ?_)
  refine z_ist_1 (TX3_wholeSum.at 3 rfl) (Nat.le_of_ble_eq_true rfl) rfl ?_
  refine z_ald_0 (TX3_wholeSum.at 4 rfl) ?_
  refine z_iconst (TX3_wholeSum.at 5 rfl) ?_
  rw [← vI80]
  refine zc_callV1 (m := 9) (dd_sum 8 (by omega) _ _ _ _ _ hS) (hH.lv (by decide)) (TX3_wholeSum.at 6 rfl) c3_217 rfl rfl hH hA (by omega) (Nat.le_of_ble_eq_true rfl) (fun f10 g10 j10 h q10 hH hA => ?_)
  obtain ⟨q10, xf, xg, xj⟩ := q10
  rw [xj] at hH
  have hfE := hfE.trans xf (by decide)
  have hgE := hgE.trans xg (by decide)
  have qL := q10
  have hS := qL
  have s1 := hS.1
  have s2 := hS.2.1
  have s3 := hS.2.2.1
  have s4 := hS.2.2.2.1
  have s5 := hS.2.2.2.2.1
  have s8 := hS.2.2.2.2.2.2.2.1
  have s9 := hS.2.2.2.2.2.2.2.2
  refine z_ald_0 (TX3_wholeSum.at 7 rfl) ?_
  refine zc_getO (m := 9) (s := 0) (k := 447) (hH.lv (by decide)) (TX3_wholeSum.at 8 rfl) fl3_14 hH rfl rfl (by decide) (by decide) ?_
  refine z_iconst (TX3_wholeSum.at 9 rfl) ?_
  refine z_iconst (TX3_wholeSum.at 10 rfl) ?_
  refine zc_callV2 (m := 13) (c_put rfl rfl (by omega) (by omega) (by omega) (by omega) (by omega) (by omega) (by omega) ) (hH.lv (by decide)) (TX3_wholeSum.at 11 rfl) c3_214 rfl rfl hH hA (by omega) (Nat.le_of_ble_eq_true rfl) (fun f19 g19 j19 h q19 hH hA => ?_)
  obtain ⟨q19, xf, xg, xj⟩ := q19
  rw [xj] at hH
  have hfE := hfE.trans xf (by decide)
  have hgE := hgE.trans xg (by decide)
  have qL := q19
  have hS := hS.p xf qL.1
  have s1 := hS.1
  have s2 := hS.2.1
  have s3 := hS.2.2.1
  have s4 := hS.2.2.2.1
  have s5 := hS.2.2.2.2.1
  have s8 := hS.2.2.2.2.2.2.2.1
  have s9 := hS.2.2.2.2.2.2.2.2
  refine z_ild_1 (TX3_wholeSum.at 12 rfl) ?_
  refine zc_iret (TX3_wholeSum.at 13 rfl) rfl hH hA (by omega) ?_
  exact ⟨hS, hfE, hgE, rfl⟩

theorem DdS.cc {tk fl ag : Int} {f f' : mF} (h : DdS tk fl ag f) (e1 : ∀ q, q ≠ 416 → f' q = f q) : DdS tk fl ag f' := by
  unfold DdS at h ⊢
  rw [e1 293 (by decide), e1 289 (by decide), e1 294 (by decide), e1 417 (by decide), e1 418 (by decide), e1 295 (by decide)]
  exact h
set_option maxHeartbeats 4000000 in
set_option maxRecDepth 100000 in
theorem dd_cl187 {l : Launch} {E : cE} {d : Nat} {Pz : Option Value → zH → Prop} {h0 h : zH} {f0 f : mF} {g0 g j : mA} {u tk fl ag cc lf : Int} {Qx : mF → mA → Prop} (hd : 37 ≤ d) (hzu : zIn u) (hS : DdS tk fl ag f) (q0 : 0 ≤ cc) (q11 : cc ≤ 11) (hQ : ∀ f' g', DdS tk fl ag f' → Qx f' g') (ePz : Pz = CP E h0 (PV (fun f' g' j' => Qx f' g' ∧ eqx [289, 294, 295, 416, 417, 418] f0 f' ∧ eqx [419, 420, 421, 422, 423, 424] g0 g' ∧ j' = j))) (ef416 : f 416 = cc) (ef296 : f 296 = lf) (hfE : eqx [289, 294, 295, 416, 417, 418] f0 f) (hgE : eqx [419, 420, 421, 422, 423, 424] g0 g) (hH : HC E f g j h) (hA : cAg E h0 h) : Z l MX3_clause d 0 0 Pz 187 [some (.ref (E.1 319)), some (vI u)] [] h 0 0 := by
  subst ePz
  have s1 := hS.1
  have s2 := hS.2.1
  have s3 := hS.2.2.1
  have s4 := hS.2.2.2.1
  have s5 := hS.2.2.2.2.1
  have s8 := hS.2.2.2.2.2.2.2.1
  have s9 := hS.2.2.2.2.2.2.2.2
  refine z_ald_0 (TX3_clause_2.at 14 rfl) ?_
  refine z_bipush (by decide) (TX3_clause_2.at 15 rfl) ?_
  refine zc_callI1 (m := 9) (c_isWord rfl rfl rfl (by omega) (by omega) (by omega) ) (hH.lv (by decide)) (TX3_clause_2.at 16 rfl) c3_195 rfl rfl hH hA (by omega) (Nat.le_of_ble_eq_true rfl) (fun x190 f190 g190 j190 h r190 q190 hH hA => ?_)
  obtain ⟨q190, xf, xg, xj⟩ := q190
  rw [xj] at hH
  have ef416 := (xf 416 (by decide)).trans ef416
  have ef296 := (xf 296 (by decide)).trans ef296
  have hfE := hfE.trans xf (by decide)
  have hgE := hgE.trans xg (by decide)
  have qL := q190
  have hS := hS.n xf
  have s1 := hS.1
  have s2 := hS.2.1
  have s3 := hS.2.2.1
  have s4 := hS.2.2.2.1
  have s5 := hS.2.2.2.2.1
  have s8 := hS.2.2.2.2.2.2.2.1
  have s9 := hS.2.2.2.2.2.2.2.2
  refine z_if_eq (tgt := 236) (TX3_clause_2.at 17 rfl) rfl (by omega) (fun c1 => ?_) (fun c1 => ?_)
  · skip
    refine z_ald_0 (TX3_clause_2.at 38 rfl) ?_
    refine zc_getO (m := 9) (s := 0) (k := 447) (hH.lv (by decide)) (TX3_clause_2.at 39 rfl) fl3_14 hH rfl rfl (by decide) (by decide) ?_
    refine z_dup rfl (TX3_clause_3.at 0 rfl) ?_
    refine zc_getIE (m := 13) (s := 0) (k := 416) (hH.lv (by decide)) ef416 (TX3_clause_3.at 1 rfl) fl3_189 hH rfl rfl (by decide) (by decide) (fun r241 => ?_)
    refine z_iconst (TX3_clause_3.at 2 rfl) ?_
    refine z_iadd (TX3_clause_3.at 3 rfl) ?_
    refine zc_putI (m := 13) (s := 0) (k := 416) (hH.lv (by decide)) (TX3_clause_3.at 4 rfl) fp3_189 hH hA rfl rfl (by decide) (by decide) (by first | omega | exact b2i_01 _) (fun h f246 e1 e2 hH hA => ?_)
    have ef416 := e2
    have ef296 := (e1 296 (by decide)).trans ef296
    have hfE := hfE.put e1 (by decide)
    refine zc_vret (TX3_clause_3.at 5 rfl) rfl hH hA ?_
    exact ⟨hQ _ _ (hS.cc e1), hfE, hgE, rfl⟩
  · skip
    refine z_ald_0 (TX3_clause_2.at 18 rfl) ?_
    refine zc_callV0 (m := 9) (c_goOn rfl rfl (by omega) (by omega) (by omega) (by omega) ) (hH.lv (by decide)) (TX3_clause_2.at 19 rfl) c3_179 rfl rfl hH hA (by omega) (Nat.le_of_ble_eq_true rfl) (fun f197 g197 j197 h q197 hH hA => ?_)
    obtain ⟨q197, xf, xg, xj⟩ := q197
    rw [xj] at hH
    have ef416 := (xf 416 (by decide)).trans ef416
    have ef296 := (xf 296 (by decide)).trans ef296
    have hfE := hfE.trans xf (by decide)
    have hgE := hgE.trans xg (by decide)
    have qL := q197
    have hS := hS.b xf qL
    have s1 := hS.1
    have s2 := hS.2.1
    have s3 := hS.2.2.1
    have s4 := hS.2.2.2.1
    have s5 := hS.2.2.2.2.1
    have s8 := hS.2.2.2.2.2.2.2.1
    have s9 := hS.2.2.2.2.2.2.2.2
    refine z_ald_0 (TX3_clause_2.at 20 rfl) ?_
    refine zc_getO (m := 9) (s := 0) (k := 447) (hH.lv (by decide)) (TX3_clause_2.at 21 rfl) fl3_14 hH rfl rfl (by decide) (by decide) ?_
    refine zc_getA (m := 13) (s := 7) (k := 423) (hH.lv (by decide)) (TX3_clause_2.at 22 rfl) fl3_206 hH rfl rfl (by decide) (by decide) ?_
    refine z_ald_0 (TX3_clause_2.at 23 rfl) ?_
    refine zc_getO (m := 9) (s := 0) (k := 447) (hH.lv (by decide)) (TX3_clause_2.at 24 rfl) fl3_14 hH rfl rfl (by decide) (by decide) ?_
    refine zc_getIE (m := 13) (s := 0) (k := 416) (hH.lv (by decide)) ef416 (TX3_clause_2.at 25 rfl) fl3_189 hH rfl rfl (by decide) (by decide) (fun r211 => ?_)
    refine z_ald_0 (TX3_clause_2.at 26 rfl) ?_
    refine zc_getO (m := 9) (s := 0) (k := 447) (hH.lv (by decide)) (TX3_clause_2.at 27 rfl) fl3_14 hH rfl rfl (by decide) (by decide) ?_
    refine zc_getI (m := 13) (s := 1) (k := 417) (hH.lv (by decide)) (TX3_clause_2.at 28 rfl) fl3_209 hH rfl rfl (by decide) (by decide) (fun r218 => ?_)
    refine zcf_iast (k := 423) (N := 12) (hH.lv (by decide)) (by decide) rfl (TX3_clause_2.at 29 rfl) hH hA (by decide) (by omega) (show _ < ((12 : Nat) : Int) by omega) (by omega) (fun h g221 e1 e2 hH hA => ?_)
    have hgE := hgE.put e1 (by decide)
    refine z_ald_0 (TX3_clause_2.at 30 rfl) ?_
    refine z_iconst (TX3_clause_2.at 31 rfl) ?_
    rw [← vI80]
    refine zc_callV1 (m := 9) (dd_test 8 (by omega) _ _ _ _ _ hS) (hH.lv (by decide)) (TX3_clause_2.at 32 rfl) c3_212 rfl rfl hH hA (by omega) (Nat.le_of_ble_eq_true rfl) (fun f224 g224 j224 h q224 hH hA => ?_)
    obtain ⟨q224, xf, xg, xj⟩ := q224
    rw [xj] at hH
    have ef416 := (xf 416 (by decide)).trans ef416
    have ef296 := (xf 296 (by decide)).trans ef296
    have hfE := hfE.trans xf (by decide)
    have hgE := hgE.trans xg (by decide)
    have qL := q224
    have hS := qL
    have s1 := hS.1
    have s2 := hS.2.1
    have s3 := hS.2.2.1
    have s4 := hS.2.2.2.1
    have s5 := hS.2.2.2.2.1
    have s8 := hS.2.2.2.2.2.2.2.1
    have s9 := hS.2.2.2.2.2.2.2.2
    refine z_ald_0 (TX3_clause_2.at 33 rfl) ?_
    refine zc_getO (m := 9) (s := 0) (k := 447) (hH.lv (by decide)) (TX3_clause_2.at 34 rfl) fl3_14 hH rfl rfl (by decide) (by decide) ?_
    refine z_iconst (TX3_clause_2.at 35 rfl) ?_
    refine z_iconst (TX3_clause_2.at 36 rfl) ?_
    refine zc_callV2 (m := 13) (c_put rfl rfl (by omega) (by omega) (by omega) (by omega) (by omega) (by omega) (by omega) ) (hH.lv (by decide)) (TX3_clause_2.at 37 rfl) c3_214 rfl rfl hH hA (by omega) (Nat.le_of_ble_eq_true rfl) (fun f233 g233 j233 h q233 hH hA => ?_)
    obtain ⟨q233, xf, xg, xj⟩ := q233
    rw [xj] at hH
    have ef416 := (xf 416 (by decide)).trans ef416
    have ef296 := (xf 296 (by decide)).trans ef296
    have hfE := hfE.trans xf (by decide)
    have hgE := hgE.trans xg (by decide)
    have qL := q233
    have hS := hS.p xf qL.1
    have s1 := hS.1
    have s2 := hS.2.1
    have s3 := hS.2.2.1
    have s4 := hS.2.2.2.1
    have s5 := hS.2.2.2.2.1
    have s8 := hS.2.2.2.2.2.2.2.1
    have s9 := hS.2.2.2.2.2.2.2.2
    refine z_ald_0 (TX3_clause_2.at 38 rfl) ?_
    refine zc_getO (m := 9) (s := 0) (k := 447) (hH.lv (by decide)) (TX3_clause_2.at 39 rfl) fl3_14 hH rfl rfl (by decide) (by decide) ?_
    refine z_dup rfl (TX3_clause_3.at 0 rfl) ?_
    refine zc_getIE (m := 13) (s := 0) (k := 416) (hH.lv (by decide)) ef416 (TX3_clause_3.at 1 rfl) fl3_189 hH rfl rfl (by decide) (by decide) (fun r241 => ?_)
    refine z_iconst (TX3_clause_3.at 2 rfl) ?_
    refine z_iadd (TX3_clause_3.at 3 rfl) ?_
    refine zc_putI (m := 13) (s := 0) (k := 416) (hH.lv (by decide)) (TX3_clause_3.at 4 rfl) fp3_189 hH hA rfl rfl (by decide) (by decide) (by first | omega | exact b2i_01 _) (fun h f246 e1 e2 hH hA => ?_)
    have ef416 := e2
    have ef296 := (e1 296 (by decide)).trans ef296
    have hfE := hfE.put e1 (by decide)
    refine zc_vret (TX3_clause_3.at 5 rfl) rfl hH hA ?_
    exact ⟨hQ _ _ (hS.cc e1), hfE, hgE, rfl⟩

set_option maxHeartbeats 4000000 in
set_option maxRecDepth 100000 in
theorem dd_cl145 {l : Launch} {E : cE} {d : Nat} {Pz : Option Value → zH → Prop} {h0 h : zH} {f0 f : mF} {g0 g j : mA} {u tk fl ag cc lf : Int} {Qx : mF → mA → Prop} (hd : 37 ≤ d) (hzu : zIn u) (hS : DdS tk fl ag f) (q0 : 0 ≤ cc) (q11 : cc ≤ 11) (hQ : ∀ f' g', DdS tk fl ag f' → Qx f' g') (ePz : Pz = CP E h0 (PV (fun f' g' j' => Qx f' g' ∧ eqx [289, 294, 295, 416, 417, 418] f0 f' ∧ eqx [419, 420, 421, 422, 423, 424] g0 g' ∧ j' = j))) (ef416 : f 416 = cc) (ef296 : f 296 = lf) (hfE : eqx [289, 294, 295, 416, 417, 418] f0 f) (hgE : eqx [419, 420, 421, 422, 423, 424] g0 g) (hH : HC E f g j h) (hA : cAg E h0 h) : Z l MX3_clause d 0 0 Pz 145 [some (.ref (E.1 319)), some (vI u)] [] h 0 0 := by
  subst ePz
  have s1 := hS.1
  have s2 := hS.2.1
  have s3 := hS.2.2.1
  have s4 := hS.2.2.2.1
  have s5 := hS.2.2.2.2.1
  have s8 := hS.2.2.2.2.2.2.2.1
  have s9 := hS.2.2.2.2.2.2.2.2
  refine z_ald_0 (TX3_clause_1.at 34 rfl) ?_
  refine zc_getIE (m := 9) (s := 8) (k := 296) (hH.lv (by decide)) ef296 (TX3_clause_1.at 35 rfl) fl3_43 hH rfl rfl (by decide) (by decide) (fun r146 => ?_)
  refine z_if_ne (tgt := 187) (TX3_clause_1.at 36 rfl) rfl (by omega) (fun c1 => ?_) (fun c1 => ?_)
  · skip
    exact dd_cl187 (u := u) hd hzu hS q0 q11 hQ rfl ef416 ef296 hfE hgE hH hA
  · skip
    refine z_ald_0 (TX3_clause_1.at 37 rfl) ?_
    refine z_bipush (by decide) (TX3_clause_1.at 38 rfl) ?_
    refine zc_callI1 (m := 9) (c_isWord rfl rfl rfl (by omega) (by omega) (by omega) ) (hH.lv (by decide)) (TX3_clause_1.at 39 rfl) c3_195 rfl rfl hH hA (by omega) (Nat.le_of_ble_eq_true rfl) (fun x155 f155 g155 j155 h r155 q155 hH hA => ?_)
    obtain ⟨q155, xf, xg, xj⟩ := q155
    rw [xj] at hH
    have ef416 := (xf 416 (by decide)).trans ef416
    have ef296 := (xf 296 (by decide)).trans ef296
    have hfE := hfE.trans xf (by decide)
    have hgE := hgE.trans xg (by decide)
    have qL := q155
    have hS := hS.n xf
    have s1 := hS.1
    have s2 := hS.2.1
    have s3 := hS.2.2.1
    have s4 := hS.2.2.2.1
    have s5 := hS.2.2.2.2.1
    have s8 := hS.2.2.2.2.2.2.2.1
    have s9 := hS.2.2.2.2.2.2.2.2
    refine z_if_eq (tgt := 187) (TX3_clause_2.at 0 rfl) rfl (by omega) (fun c2 => ?_) (fun c2 => ?_)
    · skip
      exact dd_cl187 (u := u) hd hzu hS q0 q11 hQ rfl ef416 ef296 hfE hgE hH hA
    · skip
      refine z_ald_0 (TX3_clause_2.at 1 rfl) ?_
      refine zc_callV0 (m := 9) (c_goOn rfl rfl (by omega) (by omega) (by omega) (by omega) ) (hH.lv (by decide)) (TX3_clause_2.at 2 rfl) c3_179 rfl rfl hH hA (by omega) (Nat.le_of_ble_eq_true rfl) (fun f162 g162 j162 h q162 hH hA => ?_)
      obtain ⟨q162, xf, xg, xj⟩ := q162
      rw [xj] at hH
      have ef416 := (xf 416 (by decide)).trans ef416
      have ef296 := (xf 296 (by decide)).trans ef296
      have hfE := hfE.trans xf (by decide)
      have hgE := hgE.trans xg (by decide)
      have qL := q162
      have hS := hS.b xf qL
      have s1 := hS.1
      have s2 := hS.2.1
      have s3 := hS.2.2.1
      have s4 := hS.2.2.2.1
      have s5 := hS.2.2.2.2.1
      have s8 := hS.2.2.2.2.2.2.2.1
      have s9 := hS.2.2.2.2.2.2.2.2
      refine z_ald_0 (TX3_clause_2.at 3 rfl) ?_
      refine zc_getO (m := 9) (s := 0) (k := 447) (hH.lv (by decide)) (TX3_clause_2.at 4 rfl) fl3_14 hH rfl rfl (by decide) (by decide) ?_
      refine zc_getA (m := 13) (s := 4) (k := 420) (hH.lv (by decide)) (TX3_clause_2.at 5 rfl) fl3_201 hH rfl rfl (by decide) (by decide) ?_
      refine z_ald_0 (TX3_clause_2.at 6 rfl) ?_
      refine zc_getO (m := 9) (s := 0) (k := 447) (hH.lv (by decide)) (TX3_clause_2.at 7 rfl) fl3_14 hH rfl rfl (by decide) (by decide) ?_
      refine zc_getIE (m := 13) (s := 0) (k := 416) (hH.lv (by decide)) ef416 (TX3_clause_2.at 8 rfl) fl3_189 hH rfl rfl (by decide) (by decide) (fun r176 => ?_)
      refine z_ald_0 (TX3_clause_2.at 9 rfl) ?_
      refine z_iconst (TX3_clause_2.at 10 rfl) ?_
      refine z_bipush (by decide) (TX3_clause_2.at 11 rfl) ?_
      refine zc_callI2 (m := 9) (c_small rfl rfl rfl rfl rfl rfl (by omega) (by omega) (by omega) (by omega) (by omega) (by omega) ) (hH.lv (by decide)) (TX3_clause_2.at 12 rfl) c3_203 rfl rfl hH hA (by omega) (Nat.le_of_ble_eq_true rfl) (fun x183 f183 g183 j183 h r183 q183 hH hA => ?_)
      obtain ⟨q183, xf, xg, xj⟩ := q183
      rw [xj] at hH
      have ef416 := (xf 416 (by decide)).trans ef416
      have ef296 := (xf 296 (by decide)).trans ef296
      have hfE := hfE.trans xf (by decide)
      have hgE := hgE.trans xg (by decide)
      have qL := q183
      have hS := hS.c xf qL.2.1 qL.2.2
      have hr183 := small_in qL.1 (by decide)
      have s1 := hS.1
      have s2 := hS.2.1
      have s3 := hS.2.2.1
      have s4 := hS.2.2.2.1
      have s5 := hS.2.2.2.2.1
      have s8 := hS.2.2.2.2.2.2.2.1
      have s9 := hS.2.2.2.2.2.2.2.2
      refine zcf_iast (k := 420) (N := 12) (hH.lv (by decide)) (by decide) rfl (TX3_clause_2.at 13 rfl) hH hA (by decide) (by omega) (show _ < ((12 : Nat) : Int) by omega) (by omega) (fun h g186 e1 e2 hH hA => ?_)
      have hgE := hgE.put e1 (by decide)
      exact dd_cl187 (u := u) hd hzu hS q0 q11 hQ rfl ef416 ef296 hfE hgE hH hA

set_option maxHeartbeats 4000000 in
set_option maxRecDepth 100000 in
theorem dd_cl122 {l : Launch} {E : cE} {d : Nat} {Pz : Option Value → zH → Prop} {h0 h : zH} {f0 f : mF} {g0 g j : mA} {u tk fl ag cc lf : Int} {Qx : mF → mA → Prop} (hd : 37 ≤ d) (hzu : zIn u) (hS : DdS tk fl ag f) (q0 : 0 ≤ cc) (q11 : cc ≤ 11) (hQ : ∀ f' g', DdS tk fl ag f' → Qx f' g') (ePz : Pz = CP E h0 (PV (fun f' g' j' => Qx f' g' ∧ eqx [289, 294, 295, 416, 417, 418] f0 f' ∧ eqx [419, 420, 421, 422, 423, 424] g0 g' ∧ j' = j))) (ef416 : f 416 = cc) (ef296 : f 296 = lf) (hfE : eqx [289, 294, 295, 416, 417, 418] f0 f) (hgE : eqx [419, 420, 421, 422, 423, 424] g0 g) (hH : HC E f g j h) (hA : cAg E h0 h) : Z l MX3_clause d 0 0 Pz 122 [some (.ref (E.1 319)), some (vI u)] [] h 0 0 := by
  subst ePz
  have s1 := hS.1
  have s2 := hS.2.1
  have s3 := hS.2.2.1
  have s4 := hS.2.2.2.1
  have s5 := hS.2.2.2.2.1
  have s8 := hS.2.2.2.2.2.2.2.1
  have s9 := hS.2.2.2.2.2.2.2.2
  refine z_ald_0 (TX3_clause_1.at 23 rfl) ?_
  refine zc_callV0 (m := 9) (c_goOn rfl rfl (by omega) (by omega) (by omega) (by omega) ) (hH.lv (by decide)) (TX3_clause_1.at 24 rfl) c3_179 rfl rfl hH hA (by omega) (Nat.le_of_ble_eq_true rfl) (fun f123 g123 j123 h q123 hH hA => ?_)
  obtain ⟨q123, xf, xg, xj⟩ := q123
  rw [xj] at hH
  have ef416 := (xf 416 (by decide)).trans ef416
  have ef296 := (xf 296 (by decide)).trans ef296
  have hfE := hfE.trans xf (by decide)
  have hgE := hgE.trans xg (by decide)
  have qL := q123
  have hS := hS.b xf qL
  have s1 := hS.1
  have s2 := hS.2.1
  have s3 := hS.2.2.1
  have s4 := hS.2.2.2.1
  have s5 := hS.2.2.2.2.1
  have s8 := hS.2.2.2.2.2.2.2.1
  have s9 := hS.2.2.2.2.2.2.2.2
  refine z_ald_0 (TX3_clause_1.at 25 rfl) ?_
  refine zc_getO (m := 9) (s := 0) (k := 447) (hH.lv (by decide)) (TX3_clause_1.at 26 rfl) fl3_14 hH rfl rfl (by decide) (by decide) ?_
  refine zc_getA (m := 13) (s := 6) (k := 422) (hH.lv (by decide)) (TX3_clause_1.at 27 rfl) fl3_198 hH rfl rfl (by decide) (by decide) ?_
  refine z_ald_0 (TX3_clause_1.at 28 rfl) ?_
  refine zc_getO (m := 9) (s := 0) (k := 447) (hH.lv (by decide)) (TX3_clause_1.at 29 rfl) fl3_14 hH rfl rfl (by decide) (by decide) ?_
  refine zc_getIE (m := 13) (s := 0) (k := 416) (hH.lv (by decide)) ef416 (TX3_clause_1.at 30 rfl) fl3_189 hH rfl rfl (by decide) (by decide) (fun r137 => ?_)
  refine z_ald_0 (TX3_clause_1.at 31 rfl) ?_
  refine zc_callI0 (m := 9) (d_whole hS) (hH.lv (by decide)) (TX3_clause_1.at 32 rfl) c3_192 rfl rfl hH hA (by omega) (Nat.le_of_ble_eq_true rfl) (fun x141 f141 g141 j141 h r141 q141 hH hA => ?_)
  obtain ⟨q141, xf, xg, xj⟩ := q141
  rw [xj] at hH
  have ef416 := (xf 416 (by decide)).trans ef416
  have ef296 := (xf 296 (by decide)).trans ef296
  have hfE := hfE.trans xf (by decide)
  have hgE := hgE.trans xg (by decide)
  have qL := q141
  have hS := qL
  have s1 := hS.1
  have s2 := hS.2.1
  have s3 := hS.2.2.1
  have s4 := hS.2.2.2.1
  have s5 := hS.2.2.2.2.1
  have s8 := hS.2.2.2.2.2.2.2.1
  have s9 := hS.2.2.2.2.2.2.2.2
  refine zcf_iast (k := 422) (N := 12) (hH.lv (by decide)) (by decide) rfl (TX3_clause_1.at 33 rfl) hH hA (by decide) (by omega) (show _ < ((12 : Nat) : Int) by omega) (by omega) (fun h g144 e1 e2 hH hA => ?_)
  have hgE := hgE.put e1 (by decide)
  exact dd_cl145 (u := u) hd hzu hS q0 q11 hQ rfl ef416 ef296 hfE hgE hH hA

set_option maxHeartbeats 4000000 in
set_option maxRecDepth 100000 in
theorem dd_cl104 {l : Launch} {E : cE} {d : Nat} {Pz : Option Value → zH → Prop} {h0 h : zH} {f0 f : mF} {g0 g j : mA} {u tk fl ag cc lf : Int} {Qx : mF → mA → Prop} (hd : 37 ≤ d) (hzu : zIn u) (hS : DdS tk fl ag f) (q0 : 0 ≤ cc) (q11 : cc ≤ 11) (hQ : ∀ f' g', DdS tk fl ag f' → Qx f' g') (ePz : Pz = CP E h0 (PV (fun f' g' j' => Qx f' g' ∧ eqx [289, 294, 295, 416, 417, 418] f0 f' ∧ eqx [419, 420, 421, 422, 423, 424] g0 g' ∧ j' = j))) (ef416 : f 416 = cc) (ef296 : f 296 = lf) (hfE : eqx [289, 294, 295, 416, 417, 418] f0 f) (hgE : eqx [419, 420, 421, 422, 423, 424] g0 g) (hH : HC E f g j h) (hA : cAg E h0 h) : Z l MX3_clause d 0 0 Pz 104 [some (.ref (E.1 319)), some (vI u)] [] h 0 0 := by
  subst ePz
  have s1 := hS.1
  have s2 := hS.2.1
  have s3 := hS.2.2.1
  have s4 := hS.2.2.2.1
  have s5 := hS.2.2.2.2.1
  have s8 := hS.2.2.2.2.2.2.2.1
  have s9 := hS.2.2.2.2.2.2.2.2
  refine z_ild_1 (TX3_clause_1.at 14 rfl) ?_
  refine z_iconst (TX3_clause_1.at 15 rfl) ?_
  refine z_icmp_ne (tgt := 145) (TX3_clause_1.at 16 rfl) rfl (by omega) (by omega) (fun c1 => ?_) (fun c1 => ?_)
  · skip
    exact dd_cl145 (u := u) hd hzu hS q0 q11 hQ rfl ef416 ef296 hfE hgE hH hA
  · skip
    refine z_ald_0 (TX3_clause_1.at 17 rfl) ?_
    refine z_bipush (by decide) (TX3_clause_1.at 18 rfl) ?_
    refine zc_callI1 (m := 9) (c_isWord rfl rfl rfl (by omega) (by omega) (by omega) ) (hH.lv (by decide)) (TX3_clause_1.at 19 rfl) c3_195 rfl rfl hH hA (by omega) (Nat.le_of_ble_eq_true rfl) (fun x112 f112 g112 j112 h r112 q112 hH hA => ?_)
    obtain ⟨q112, xf, xg, xj⟩ := q112
    rw [xj] at hH
    have ef416 := (xf 416 (by decide)).trans ef416
    have ef296 := (xf 296 (by decide)).trans ef296
    have hfE := hfE.trans xf (by decide)
    have hgE := hgE.trans xg (by decide)
    have qL := q112
    have hS := hS.n xf
    have s1 := hS.1
    have s2 := hS.2.1
    have s3 := hS.2.2.1
    have s4 := hS.2.2.2.1
    have s5 := hS.2.2.2.2.1
    have s8 := hS.2.2.2.2.2.2.2.1
    have s9 := hS.2.2.2.2.2.2.2.2
    refine z_if_ne (tgt := 122) (TX3_clause_1.at 20 rfl) rfl (by omega) (fun c2 => ?_) (fun c2 => ?_)
    · skip
      exact dd_cl122 (u := u) hd hzu hS q0 q11 hQ rfl ef416 ef296 hfE hgE hH hA
    · skip
      refine z_ald_0 (TX3_clause_1.at 21 rfl) ?_
      refine zc_callV0 (m := 9) (c_fail rfl rfl rfl (by omega) (by omega)) (hH.lv (by decide)) (TX3_clause_1.at 22 rfl) c3_54 rfl rfl hH hA (by omega) (Nat.le_of_ble_eq_true rfl) (fun f119 g119 j119 h q119 hH hA => ?_)
      obtain ⟨q119, xf, xg, xj⟩ := q119
      rw [xj] at hH
      have ef416 := (xf 416 (by decide)).trans ef416
      have ef296 := (xf 296 (by decide)).trans ef296
      have hfE := hfE.trans xf (by decide)
      have hgE := hgE.trans xg (by decide)
      have qL := q119
      have hS := hS.a xf qL
      have s1 := hS.1
      have s2 := hS.2.1
      have s3 := hS.2.2.1
      have s4 := hS.2.2.2.1
      have s5 := hS.2.2.2.2.1
      have s8 := hS.2.2.2.2.2.2.2.1
      have s9 := hS.2.2.2.2.2.2.2.2
      exact dd_cl122 (u := u) hd hzu hS q0 q11 hQ rfl ef416 ef296 hfE hgE hH hA

