/-! ===== the class: the reader's small methods ===== -/
def flF (fl x : Int) : Int := if fl = -1 then x else fl
def gnF (tk nx : Int) : Int := if nx < tk - 1 then nx + 1 else nx
abbrev isK (Kd Vl : Int → Int) (nx k w : Int) : Prop := Kd nx = k ∧ Vl nx = w
theorem flF_in {fl x : Int} (h1 : zIn fl) (h2 : zIn x) : zIn (flF fl x) := by
  unfold flF
  split <;> assumption
theorem gnF_in {tk nx : Int} (h0 : 0 ≤ nx) (h1 : nx ≤ 400) (h : nx < tk) (h2 : tk ≤ 401) : 0 ≤ gnF tk nx ∧ gnF tk nx ≤ 400 ∧ gnF tk nx < tk := by
  unfold gnF
  split <;> omega
set_option maxHeartbeats 4000000 in
set_option maxRecDepth 100000 in
theorem c_fail {l : Launch} {E : cE} {f : mF} {g j : mA} {Pl : Int → Int} {fl : Int} {nx : Int}  (eg292 : g 292 = Pl) (ef289 : f 289 = fl) (ef294 : f 294 = nx) (x0 : 0 ≤ nx) (x1 : nx ≤ 400) : CM l E MX3_fail 0 [.ref (E.1 319)] f g j (PV (fun f' g' j' => (f' 289 = flF fl (Pl nx)) ∧ eqx [289] f f' ∧ eqx [] g g' ∧ j' = j)) := by
  refine CM.intro [some (.ref (E.1 319))] (by decide) (Nat.le_of_ble_eq_true rfl) rfl (fun d hd h0 h hH hA => ?_)
  have hfE : eqx [289] f f := eqx.rf
  have hgE : eqx [] g g := eqx.rf
  refine z_ald_0 (TX3_fail.at 0 rfl) ?_
  refine zc_getIE (m := 9) (s := 1) (k := 289) (hH.lv (by decide)) ef289 (TX3_fail.at 1 rfl) fl3_20 hH rfl rfl (by decide) (by decide) (fun r1 => ?_)
  refine z_iconst (TX3_fail.at 2 rfl) ?_
  refine z_icmp_ne (tgt := 21) (TX3_fail.at 3 rfl) rfl (by omega) (by omega) (fun c1 => ?_) (fun c1 => ?_)
  · skip
    refine zc_vret (TX3_fail.at 11 rfl) rfl hH hA ?_
    exact ⟨by first | (have hw : fl = -1 := (by omega); unfold flF; rw [if_pos hw]; exact ef289) | (have hw : ¬ fl = -1 := (by omega); unfold flF; rw [if_neg hw]; exact ef289), hfE, hgE, rfl⟩
  · skip
    refine z_ald_0 (TX3_fail.at 4 rfl) ?_
    refine z_ald_0 (TX3_fail.at 5 rfl) ?_
    refine zc_getA (m := 9) (s := 4) (k := 292) (hH.lv (by decide)) (TX3_fail.at 6 rfl) fl3_31 hH rfl rfl (by decide) (by decide) ?_
    refine z_ald_0 (TX3_fail.at 7 rfl) ?_
    refine zc_getIE (m := 9) (s := 6) (k := 294) (hH.lv (by decide)) ef294 (TX3_fail.at 8 rfl) fl3_37 hH rfl rfl (by decide) (by decide) (fun r14 => ?_)
    refine zcf_iald (k := 292) (N := 401) (hH.lv (by decide)) (by decide) rfl eg292 (TX3_fail.at 9 rfl) hH (by decide) (by omega) (show _ < ((401 : Nat) : Int) by omega) (fun r17 => ?_)
    refine zc_putI (m := 9) (s := 1) (k := 289) (hH.lv (by decide)) (TX3_fail.at 10 rfl) fp3_20 hH hA rfl rfl (by decide) (by decide) (by first | omega | exact b2i_01 _) (fun h f18 e1 e2 hH hA => ?_)
    have ef289 := e2
    have ef294 := (e1 294 (by decide)).trans ef294
    have hfE := hfE.put e1 (by decide)
    refine zc_vret (TX3_fail.at 11 rfl) rfl hH hA ?_
    exact ⟨by first | (have hw : fl = -1 := (by omega); unfold flF; rw [if_pos hw]; exact ef289) | (have hw : ¬ fl = -1 := (by omega); unfold flF; rw [if_neg hw]; exact ef289), hfE, hgE, rfl⟩

set_option maxHeartbeats 4000000 in
set_option maxRecDepth 100000 in
theorem c_goOn {l : Launch} {E : cE} {f : mF} {g j : mA} {tk : Int} {nx : Int}  (ef293 : f 293 = tk) (ef294 : f 294 = nx) (x0 : 0 ≤ nx) (x1 : nx ≤ 400) (k0 : 0 ≤ tk) (k1 : tk ≤ 401) : CM l E MX3_goOn 0 [.ref (E.1 319)] f g j (PV (fun f' g' j' => (f' 294 = gnF tk nx) ∧ eqx [294] f f' ∧ eqx [] g g' ∧ j' = j)) := by
  refine CM.intro [some (.ref (E.1 319))] (by decide) (Nat.le_of_ble_eq_true rfl) rfl (fun d hd h0 h hH hA => ?_)
  have hfE : eqx [294] f f := eqx.rf
  have hgE : eqx [] g g := eqx.rf
  refine z_ald_0 (TX3_goOn.at 0 rfl) ?_
  refine zc_getIE (m := 9) (s := 6) (k := 294) (hH.lv (by decide)) ef294 (TX3_goOn.at 1 rfl) fl3_37 hH rfl rfl (by decide) (by decide) (fun r1 => ?_)
  refine z_ald_0 (TX3_goOn.at 2 rfl) ?_
  refine zc_getIE (m := 9) (s := 5) (k := 293) (hH.lv (by decide)) ef293 (TX3_goOn.at 3 rfl) fl3_34 hH rfl rfl (by decide) (by decide) (fun r5 => ?_)
  refine z_iconst (TX3_goOn.at 4 rfl) ?_
  refine z_isub (TX3_goOn.at 5 rfl) ?_
  refine z_icmp_ge (tgt := 23) (TX3_goOn.at 6 rfl) rfl (by omega) (by omega) (fun c1 => ?_) (fun c1 => ?_)
  · skip
    refine zc_vret (TX3_goOn.at 13 rfl) rfl hH hA ?_
    exact ⟨by first | (have hw : nx < tk - 1 := (by omega); unfold gnF; rw [if_pos hw]; exact ef294) | (have hw : ¬ nx < tk - 1 := (by omega); unfold gnF; rw [if_neg hw]; exact ef294), hfE, hgE, rfl⟩
  · skip
    refine z_ald_0 (TX3_goOn.at 7 rfl) ?_
    refine z_dup rfl (TX3_goOn.at 8 rfl) ?_
    refine zc_getIE (m := 9) (s := 6) (k := 294) (hH.lv (by decide)) ef294 (TX3_goOn.at 9 rfl) fl3_37 hH rfl rfl (by decide) (by decide) (fun r15 => ?_)
    refine z_iconst (TX3_goOn.at 10 rfl) ?_
    refine z_iadd (TX3_goOn.at 11 rfl) ?_
    refine zc_putI (m := 9) (s := 6) (k := 294) (hH.lv (by decide)) (TX3_goOn.at 12 rfl) fp3_37 hH hA rfl rfl (by decide) (by decide) (by first | omega | exact b2i_01 _) (fun h f20 e1 e2 hH hA => ?_)
    have ef293 := (e1 293 (by decide)).trans ef293
    have ef294 := e2
    have hfE := hfE.put e1 (by decide)
    refine zc_vret (TX3_goOn.at 13 rfl) rfl hH hA ?_
    exact ⟨by first | (have hw : nx < tk - 1 := (by omega); unfold gnF; rw [if_pos hw]; exact ef294) | (have hw : ¬ nx < tk - 1 := (by omega); unfold gnF; rw [if_neg hw]; exact ef294), hfE, hgE, rfl⟩

set_option maxHeartbeats 4000000 in
set_option maxRecDepth 100000 in
theorem c_isWord {l : Launch} {E : cE} {f : mF} {g j : mA} {Kd : Int → Int} {Vl : Int → Int} {nx : Int} {w : Int}  (eg290 : g 290 = Kd) (eg291 : g 291 = Vl) (ef294 : f 294 = nx) (hw : zIn w) (x0 : 0 ≤ nx) (x1 : nx ≤ 400) : CM l E MX3_isWord 0 [.ref (E.1 319), vI w] f g j (PI (fun r f' g' j' => (r = b2i (isK Kd Vl nx 2 w)) ∧ eqx [] f f' ∧ eqx [] g g' ∧ j' = j)) := by
  refine CM.intro [some (.ref (E.1 319)), some (vI w)] (by decide) (Nat.le_of_ble_eq_true rfl) rfl (fun d hd h0 h hH hA => ?_)
  have hfE : eqx [] f f := eqx.rf
  have hgE : eqx [] g g := eqx.rf
  refine z_ald_0 (TX3_isWord.at 0 rfl) ?_
  refine zc_getA (m := 9) (s := 2) (k := 290) (hH.lv (by decide)) (TX3_isWord.at 1 rfl) fl3_24 hH rfl rfl (by decide) (by decide) ?_
  refine z_ald_0 (TX3_isWord.at 2 rfl) ?_
  refine zc_getIE (m := 9) (s := 6) (k := 294) (hH.lv (by decide)) ef294 (TX3_isWord.at 3 rfl) fl3_37 hH rfl rfl (by decide) (by decide) (fun r5 => ?_)
  refine zcf_iald (k := 290) (N := 401) (hH.lv (by decide)) (by decide) rfl eg290 (TX3_isWord.at 4 rfl) hH (by decide) (by omega) (show _ < ((401 : Nat) : Int) by omega) (fun r8 => ?_)
  refine z_iconst (TX3_isWord.at 5 rfl) ?_
  refine z_icmp_ne (tgt := 30) (TX3_isWord.at 6 rfl) rfl (by omega) (by omega) (fun c1 => ?_) (fun c1 => ?_)
  · skip
    refine z_iconst (TX3_isWord.at 16 rfl) ?_
    refine zc_zret (TX3_isWord.at 17 rfl) rfl hH hA (by first | omega | exact b2i_01 _) ?_
    exact ⟨by first | (have hw : isK Kd Vl nx 2 w := ⟨by omega, by omega⟩; rw [b2i_t hw]; done) | (have hw : ¬ isK Kd Vl nx 2 w := (fun q => by have := q.1; have := q.2; omega); rw [b2i_f hw]; done), hfE, hgE, rfl⟩
  · skip
    refine z_ald_0 (TX3_isWord.at 7 rfl) ?_
    refine zc_getA (m := 9) (s := 3) (k := 291) (hH.lv (by decide)) (TX3_isWord.at 8 rfl) fl3_28 hH rfl rfl (by decide) (by decide) ?_
    refine z_ald_0 (TX3_isWord.at 9 rfl) ?_
    refine zc_getIE (m := 9) (s := 6) (k := 294) (hH.lv (by decide)) ef294 (TX3_isWord.at 10 rfl) fl3_37 hH rfl rfl (by decide) (by decide) (fun r18 => ?_)
    refine zcf_iald (k := 291) (N := 401) (hH.lv (by decide)) (by decide) rfl eg291 (TX3_isWord.at 11 rfl) hH (by decide) (by omega) (show _ < ((401 : Nat) : Int) by omega) (fun r21 => ?_)
    refine z_ild_1 (TX3_isWord.at 12 rfl) ?_
    refine z_icmp_ne (tgt := 30) (TX3_isWord.at 13 rfl) rfl (by omega) (by omega) (fun c2 => ?_) (fun c2 => ?_)
    · skip
      refine z_iconst (TX3_isWord.at 16 rfl) ?_
      refine zc_zret (TX3_isWord.at 17 rfl) rfl hH hA (by first | omega | exact b2i_01 _) ?_
      exact ⟨by first | (have hw : isK Kd Vl nx 2 w := ⟨by omega, by omega⟩; rw [b2i_t hw]; done) | (have hw : ¬ isK Kd Vl nx 2 w := (fun q => by have := q.1; have := q.2; omega); rw [b2i_f hw]; done), hfE, hgE, rfl⟩
    · skip
      refine z_iconst (TX3_isWord.at 14 rfl) ?_
      refine z_goto (tgt := 31) (TX3_isWord.at 15 rfl) rfl ?_
      refine zc_zret (TX3_isWord.at 17 rfl) rfl hH hA (by first | omega | exact b2i_01 _) ?_
      exact ⟨by first | (have hw : isK Kd Vl nx 2 w := ⟨by omega, by omega⟩; rw [b2i_t hw]; done) | (have hw : ¬ isK Kd Vl nx 2 w := (fun q => by have := q.1; have := q.2; omega); rw [b2i_f hw]; done), hfE, hgE, rfl⟩

set_option maxHeartbeats 4000000 in
set_option maxRecDepth 100000 in
theorem c_isSign {l : Launch} {E : cE} {f : mF} {g j : mA} {Kd : Int → Int} {Vl : Int → Int} {nx : Int} {w : Int}  (eg290 : g 290 = Kd) (eg291 : g 291 = Vl) (ef294 : f 294 = nx) (hw : zIn w) (x0 : 0 ≤ nx) (x1 : nx ≤ 400) : CM l E MX3_isSign 0 [.ref (E.1 319), vI w] f g j (PI (fun r f' g' j' => (r = b2i (isK Kd Vl nx 3 w)) ∧ eqx [] f f' ∧ eqx [] g g' ∧ j' = j)) := by
  refine CM.intro [some (.ref (E.1 319)), some (vI w)] (by decide) (Nat.le_of_ble_eq_true rfl) rfl (fun d hd h0 h hH hA => ?_)
  have hfE : eqx [] f f := eqx.rf
  have hgE : eqx [] g g := eqx.rf
  refine z_ald_0 (TX3_isSign.at 0 rfl) ?_
  refine zc_getA (m := 9) (s := 2) (k := 290) (hH.lv (by decide)) (TX3_isSign.at 1 rfl) fl3_24 hH rfl rfl (by decide) (by decide) ?_
  refine z_ald_0 (TX3_isSign.at 2 rfl) ?_
  refine zc_getIE (m := 9) (s := 6) (k := 294) (hH.lv (by decide)) ef294 (TX3_isSign.at 3 rfl) fl3_37 hH rfl rfl (by decide) (by decide) (fun r5 => ?_)
  refine zcf_iald (k := 290) (N := 401) (hH.lv (by decide)) (by decide) rfl eg290 (TX3_isSign.at 4 rfl) hH (by decide) (by omega) (show _ < ((401 : Nat) : Int) by omega) (fun r8 => ?_)
  refine z_iconst (TX3_isSign.at 5 rfl) ?_
  refine z_icmp_ne (tgt := 30) (TX3_isSign.at 6 rfl) rfl (by omega) (by omega) (fun c1 => ?_) (fun c1 => ?_)
  · skip
    refine z_iconst (TX3_isSign.at 16 rfl) ?_
    refine zc_zret (TX3_isSign.at 17 rfl) rfl hH hA (by first | omega | exact b2i_01 _) ?_
    exact ⟨by first | (have hw : isK Kd Vl nx 3 w := ⟨by omega, by omega⟩; rw [b2i_t hw]; done) | (have hw : ¬ isK Kd Vl nx 3 w := (fun q => by have := q.1; have := q.2; omega); rw [b2i_f hw]; done), hfE, hgE, rfl⟩
  · skip
    refine z_ald_0 (TX3_isSign.at 7 rfl) ?_
    refine zc_getA (m := 9) (s := 3) (k := 291) (hH.lv (by decide)) (TX3_isSign.at 8 rfl) fl3_28 hH rfl rfl (by decide) (by decide) ?_
    refine z_ald_0 (TX3_isSign.at 9 rfl) ?_
    refine zc_getIE (m := 9) (s := 6) (k := 294) (hH.lv (by decide)) ef294 (TX3_isSign.at 10 rfl) fl3_37 hH rfl rfl (by decide) (by decide) (fun r18 => ?_)
    refine zcf_iald (k := 291) (N := 401) (hH.lv (by decide)) (by decide) rfl eg291 (TX3_isSign.at 11 rfl) hH (by decide) (by omega) (show _ < ((401 : Nat) : Int) by omega) (fun r21 => ?_)
    refine z_ild_1 (TX3_isSign.at 12 rfl) ?_
    refine z_icmp_ne (tgt := 30) (TX3_isSign.at 13 rfl) rfl (by omega) (by omega) (fun c2 => ?_) (fun c2 => ?_)
    · skip
      refine z_iconst (TX3_isSign.at 16 rfl) ?_
      refine zc_zret (TX3_isSign.at 17 rfl) rfl hH hA (by first | omega | exact b2i_01 _) ?_
      exact ⟨by first | (have hw : isK Kd Vl nx 3 w := ⟨by omega, by omega⟩; rw [b2i_t hw]; done) | (have hw : ¬ isK Kd Vl nx 3 w := (fun q => by have := q.1; have := q.2; omega); rw [b2i_f hw]; done), hfE, hgE, rfl⟩
    · skip
      refine z_iconst (TX3_isSign.at 14 rfl) ?_
      refine z_goto (tgt := 31) (TX3_isSign.at 15 rfl) rfl ?_
      refine zc_zret (TX3_isSign.at 17 rfl) rfl hH hA (by first | omega | exact b2i_01 _) ?_
      exact ⟨by first | (have hw : isK Kd Vl nx 3 w := ⟨by omega, by omega⟩; rw [b2i_t hw]; done) | (have hw : ¬ isK Kd Vl nx 3 w := (fun q => by have := q.1; have := q.2; omega); rw [b2i_f hw]; done), hfE, hgE, rfl⟩

set_option maxHeartbeats 4000000 in
set_option maxRecDepth 100000 in
theorem c_take {l : Launch} {E : cE} {f : mF} {g j : mA} {Kd : Int → Int} {Vl : Int → Int} {Pl : Int → Int} {fl : Int} {tk : Int} {nx : Int} {w : Int}  (eg290 : g 290 = Kd) (eg291 : g 291 = Vl) (eg292 : g 292 = Pl) (ef289 : f 289 = fl) (ef293 : f 293 = tk) (ef294 : f 294 = nx) (hw : zIn w) (x0 : 0 ≤ nx) (x1 : nx ≤ 400) (k0 : 0 ≤ tk) (k1 : tk ≤ 401) : CM l E MX3_take 1 [.ref (E.1 319), vI w] f g j (PV (fun f' g' j' => (f' 289 = (if isK Kd Vl nx 3 w then fl else flF fl (Pl nx)) ∧ f' 294 = (if isK Kd Vl nx 3 w then gnF tk nx else nx)) ∧ eqx [289, 294] f f' ∧ eqx [] g g' ∧ j' = j)) := by
  refine CM.intro [some (.ref (E.1 319)), some (vI w)] (by decide) (Nat.le_of_ble_eq_true rfl) rfl (fun d hd h0 h hH hA => ?_)
  have hfE : eqx [289, 294] f f := eqx.rf
  have hgE : eqx [] g g := eqx.rf
  refine z_ald_0 (TX3_take.at 0 rfl) ?_
  refine z_ild_1 (TX3_take.at 1 rfl) ?_
  refine zc_callI1 (m := 9) (c_isSign eg290 eg291 ef294 (by omega) (by omega) (by omega)) (hH.lv (by decide)) (TX3_take.at 2 rfl) c3_175 rfl rfl hH hA (by omega) (Nat.le_of_ble_eq_true rfl) (fun x2 f2 g2 j2 h r2 q2 hH hA => ?_)
  obtain ⟨q2, xf, xg, xj⟩ := q2
  rw [xj] at hH
  have ef289 := (xf 289 (by decide)).trans ef289
  have ef293 := (xf 293 (by decide)).trans ef293
  have ef294 := (xf 294 (by decide)).trans ef294
  have hfE := hfE.trans xf (by decide)
  have eg290 := (xg 290 (by decide)).trans eg290
  have eg291 := (xg 291 (by decide)).trans eg291
  have eg292 := (xg 292 (by decide)).trans eg292
  have hgE := hgE.trans xg (by decide)
  have qL := q2
  obtain rfl := qL
  refine z_if_eqB (tgt := 15) (TX3_take.at 3 rfl) rfl (fun c1 => ?_) (fun c1 => ?_)
  · skip
    refine z_ald_0 (TX3_take.at 7 rfl) ?_
    refine zc_callV0 (m := 9) (c_fail eg292 ef289 ef294 (by omega) (by omega)) (hH.lv (by decide)) (TX3_take.at 8 rfl) c3_54 rfl rfl hH hA (by omega) (Nat.le_of_ble_eq_true rfl) (fun f16 g16 j16 h q16 hH hA => ?_)
    obtain ⟨q16, xf, xg, xj⟩ := q16
    rw [xj] at hH
    have ef293 := (xf 293 (by decide)).trans ef293
    have ef294 := (xf 294 (by decide)).trans ef294
    have hfE := hfE.trans xf (by decide)
    have eg290 := (xg 290 (by decide)).trans eg290
    have eg291 := (xg 291 (by decide)).trans eg291
    have eg292 := (xg 292 (by decide)).trans eg292
    have hgE := hgE.trans xg (by decide)
    have qL := q16
    have ef289 := qL
    refine zc_vret (TX3_take.at 9 rfl) rfl hH hA ?_
    exact ⟨by first | (have hw : isK Kd Vl nx 3 w := (by assumption); rw [if_pos hw, if_pos hw]; exact ⟨ef289, ef294⟩) | (have hw : ¬ isK Kd Vl nx 3 w := (by assumption); rw [if_neg hw, if_neg hw]; exact ⟨ef289, ef294⟩), hfE, hgE, rfl⟩
  · skip
    refine z_ald_0 (TX3_take.at 4 rfl) ?_
    refine zc_callV0 (m := 9) (c_goOn ef293 ef294 (by omega) (by omega) (by omega) (by omega)) (hH.lv (by decide)) (TX3_take.at 5 rfl) c3_179 rfl rfl hH hA (by omega) (Nat.le_of_ble_eq_true rfl) (fun f9 g9 j9 h q9 hH hA => ?_)
    obtain ⟨q9, xf, xg, xj⟩ := q9
    rw [xj] at hH
    have ef289 := (xf 289 (by decide)).trans ef289
    have ef293 := (xf 293 (by decide)).trans ef293
    have hfE := hfE.trans xf (by decide)
    have eg290 := (xg 290 (by decide)).trans eg290
    have eg291 := (xg 291 (by decide)).trans eg291
    have eg292 := (xg 292 (by decide)).trans eg292
    have hgE := hgE.trans xg (by decide)
    have qL := q9
    have ef294 := qL
    refine z_goto (tgt := 19) (TX3_take.at 6 rfl) rfl ?_
    refine zc_vret (TX3_take.at 9 rfl) rfl hH hA ?_
    exact ⟨by first | (have hw : isK Kd Vl nx 3 w := (by assumption); rw [if_pos hw, if_pos hw]; exact ⟨ef289, ef294⟩) | (have hw : ¬ isK Kd Vl nx 3 w := (by assumption); rw [if_neg hw, if_neg hw]; exact ⟨ef289, ef294⟩), hfE, hgE, rfl⟩

abbrev isN (Kd Vl : Int → Int) (nx a b : Int) : Prop := Kd nx = 1 ∧ a ≤ Vl nx ∧ Vl nx ≤ b
set_option maxHeartbeats 4000000 in
set_option maxRecDepth 100000 in
theorem c_small {l : Launch} {E : cE} {f : mF} {g j : mA} {Kd : Int → Int} {Vl : Int → Int} {Pl : Int → Int} {fl : Int} {tk : Int} {nx : Int} {a b : Int}  (eg290 : g 290 = Kd) (eg291 : g 291 = Vl) (eg292 : g 292 = Pl) (ef289 : f 289 = fl) (ef293 : f 293 = tk) (ef294 : f 294 = nx) (ha : zIn a) (hb : zIn b) (x0 : 0 ≤ nx) (x1 : nx ≤ 400) (k0 : 0 ≤ tk) (k1 : tk ≤ 401) : CM l E MX3_smallNumber 1 [.ref (E.1 319), vI a, vI b] f g j (PI (fun r f' g' j' => (r = (if isN Kd Vl nx a b then Vl nx else a) ∧ f' 289 = (if isN Kd Vl nx a b then fl else flF fl (Pl nx)) ∧ f' 294 = (if isN Kd Vl nx a b then gnF tk nx else nx)) ∧ eqx [289, 294] f f' ∧ eqx [] g g' ∧ j' = j)) := by
  refine CM.intro [some (.ref (E.1 319)), some (vI a), some (vI b), none] (by decide) (Nat.le_of_ble_eq_true rfl) rfl (fun d hd h0 h hH hA => ?_)
  have hfE : eqx [289, 294] f f := eqx.rf
  have hgE : eqx [] g g := eqx.rf
  refine z_ald_0 (TX3_smallNumber.at 0 rfl) ?_
  refine zc_getA (m := 9) (s := 3) (k := 291) (hH.lv (by decide)) (TX3_smallNumber.at 1 rfl) fl3_28 hH rfl rfl (by decide) (by decide) ?_
  refine z_ald_0 (TX3_smallNumber.at 2 rfl) ?_
  refine zc_getIE (m := 9) (s := 6) (k := 294) (hH.lv (by decide)) ef294 (TX3_smallNumber.at 3 rfl) fl3_37 hH rfl rfl (by decide) (by decide) (fun r5 => ?_)
  refine zcf_iald (k := 291) (N := 401) (hH.lv (by decide)) (by decide) rfl eg291 (TX3_smallNumber.at 4 rfl) hH (by decide) (by omega) (show _ < ((401 : Nat) : Int) by omega) (fun r8 => ?_)
  refine z_ist_3 (TX3_smallNumber.at 5 rfl) (Nat.le_of_ble_eq_true rfl) rfl ?_
  refine z_ald_0 (TX3_smallNumber.at 6 rfl) ?_
  refine zc_getA (m := 9) (s := 2) (k := 290) (hH.lv (by decide)) (TX3_smallNumber.at 7 rfl) fl3_24 hH rfl rfl (by decide) (by decide) ?_
  refine z_ald_0 (TX3_smallNumber.at 8 rfl) ?_
  refine zc_getIE (m := 9) (s := 6) (k := 294) (hH.lv (by decide)) ef294 (TX3_smallNumber.at 9 rfl) fl3_37 hH rfl rfl (by decide) (by decide) (fun r15 => ?_)
  refine zcf_iald (k := 290) (N := 401) (hH.lv (by decide)) (by decide) rfl eg290 (TX3_smallNumber.at 10 rfl) hH (by decide) (by omega) (show _ < ((401 : Nat) : Int) by omega) (fun r18 => ?_)
  refine z_iconst (TX3_smallNumber.at 11 rfl) ?_
  refine z_icmp_ne (tgt := 33) (TX3_smallNumber.at 12 rfl) rfl (by omega) (by omega) (fun c1 => ?_) (fun c1 => ?_)
  · skip
    refine z_ald_0 (TX3_smallNumber.at 19 rfl) ?_
    refine zc_callV0 (m := 9) (c_fail eg292 ef289 ef294 (by omega) (by omega)) (hH.lv (by decide)) (TX3_smallNumber.at 20 rfl) c3_54 rfl rfl hH hA (by omega) (Nat.le_of_ble_eq_true rfl) (fun f34 g34 j34 h q34 hH hA => ?_)
    obtain ⟨q34, xf, xg, xj⟩ := q34
    rw [xj] at hH
    have ef293 := (xf 293 (by decide)).trans ef293
    have ef294 := (xf 294 (by decide)).trans ef294
    have hfE := hfE.trans xf (by decide)
    have eg290 := (xg 290 (by decide)).trans eg290
    have eg291 := (xg 291 (by decide)).trans eg291
    have eg292 := (xg 292 (by decide)).trans eg292
    have hgE := hgE.trans xg (by decide)
    have qL := q34
    have ef289 := qL
    refine z_ild_1 (TX3_smallNumber.at 21 rfl) ?_
    refine zc_iret (TX3_smallNumber.at 22 rfl) rfl hH hA (by omega) ?_
    exact ⟨by first | (have hw : isN Kd Vl nx a b := ⟨by omega, by omega, by omega⟩; rw [if_pos hw, if_pos hw, if_pos hw]; exact ⟨rfl, ef289, ef294⟩) | (have hw : ¬ isN Kd Vl nx a b := (fun q => by have := q.1; have := q.2.1; have := q.2.2; omega); rw [if_neg hw, if_neg hw, if_neg hw]; exact ⟨rfl, ef289, ef294⟩), hfE, hgE, rfl⟩
  · skip
    refine z_ild_3 (TX3_smallNumber.at 13 rfl) ?_
    refine z_ild_1 (TX3_smallNumber.at 14 rfl) ?_
    refine z_icmp_lt (tgt := 33) (TX3_smallNumber.at 15 rfl) rfl (by omega) (by omega) (fun c2 => ?_) (fun c2 => ?_)
    · skip
      refine z_ald_0 (TX3_smallNumber.at 19 rfl) ?_
      refine zc_callV0 (m := 9) (c_fail eg292 ef289 ef294 (by omega) (by omega)) (hH.lv (by decide)) (TX3_smallNumber.at 20 rfl) c3_54 rfl rfl hH hA (by omega) (Nat.le_of_ble_eq_true rfl) (fun f34 g34 j34 h q34 hH hA => ?_)
      obtain ⟨q34, xf, xg, xj⟩ := q34
      rw [xj] at hH
      have ef293 := (xf 293 (by decide)).trans ef293
      have ef294 := (xf 294 (by decide)).trans ef294
      have hfE := hfE.trans xf (by decide)
      have eg290 := (xg 290 (by decide)).trans eg290
      have eg291 := (xg 291 (by decide)).trans eg291
      have eg292 := (xg 292 (by decide)).trans eg292
      have hgE := hgE.trans xg (by decide)
      have qL := q34
      have ef289 := qL
      refine z_ild_1 (TX3_smallNumber.at 21 rfl) ?_
      refine zc_iret (TX3_smallNumber.at 22 rfl) rfl hH hA (by omega) ?_
      exact ⟨by first | (have hw : isN Kd Vl nx a b := ⟨by omega, by omega, by omega⟩; rw [if_pos hw, if_pos hw, if_pos hw]; exact ⟨rfl, ef289, ef294⟩) | (have hw : ¬ isN Kd Vl nx a b := (fun q => by have := q.1; have := q.2.1; have := q.2.2; omega); rw [if_neg hw, if_neg hw, if_neg hw]; exact ⟨rfl, ef289, ef294⟩), hfE, hgE, rfl⟩
    · skip
      refine z_ild_3 (TX3_smallNumber.at 16 rfl) ?_
      refine z_ild_2 (TX3_smallNumber.at 17 rfl) ?_
      refine z_icmp_le (tgt := 39) (TX3_smallNumber.at 18 rfl) rfl (by omega) (by omega) (fun c3 => ?_) (fun c3 => ?_)
      · skip
        refine z_ald_0 (TX3_smallNumber.at 23 rfl) ?_
        refine zc_callV0 (m := 9) (c_goOn ef293 ef294 (by omega) (by omega) (by omega) (by omega)) (hH.lv (by decide)) (TX3_smallNumber.at 24 rfl) c3_179 rfl rfl hH hA (by omega) (Nat.le_of_ble_eq_true rfl) (fun f40 g40 j40 h q40 hH hA => ?_)
        obtain ⟨q40, xf, xg, xj⟩ := q40
        rw [xj] at hH
        have ef289 := (xf 289 (by decide)).trans ef289
        have ef293 := (xf 293 (by decide)).trans ef293
        have hfE := hfE.trans xf (by decide)
        have eg290 := (xg 290 (by decide)).trans eg290
        have eg291 := (xg 291 (by decide)).trans eg291
        have eg292 := (xg 292 (by decide)).trans eg292
        have hgE := hgE.trans xg (by decide)
        have qL := q40
        have ef294 := qL
        refine z_ild_3 (TX3_smallNumber.at 25 rfl) ?_
        refine zc_iret (TX3_smallNumber.at 26 rfl) rfl hH hA (by omega) ?_
        exact ⟨by first | (have hw : isN Kd Vl nx a b := ⟨by omega, by omega, by omega⟩; rw [if_pos hw, if_pos hw, if_pos hw]; exact ⟨rfl, ef289, ef294⟩) | (have hw : ¬ isN Kd Vl nx a b := (fun q => by have := q.1; have := q.2.1; have := q.2.2; omega); rw [if_neg hw, if_neg hw, if_neg hw]; exact ⟨rfl, ef289, ef294⟩), hfE, hgE, rfl⟩
      · skip
        refine z_ald_0 (TX3_smallNumber.at 19 rfl) ?_
        refine zc_callV0 (m := 9) (c_fail eg292 ef289 ef294 (by omega) (by omega)) (hH.lv (by decide)) (TX3_smallNumber.at 20 rfl) c3_54 rfl rfl hH hA (by omega) (Nat.le_of_ble_eq_true rfl) (fun f34 g34 j34 h q34 hH hA => ?_)
        obtain ⟨q34, xf, xg, xj⟩ := q34
        rw [xj] at hH
        have ef293 := (xf 293 (by decide)).trans ef293
        have ef294 := (xf 294 (by decide)).trans ef294
        have hfE := hfE.trans xf (by decide)
        have eg290 := (xg 290 (by decide)).trans eg290
        have eg291 := (xg 291 (by decide)).trans eg291
        have eg292 := (xg 292 (by decide)).trans eg292
        have hgE := hgE.trans xg (by decide)
        have qL := q34
        have ef289 := qL
        refine z_ild_1 (TX3_smallNumber.at 21 rfl) ?_
        refine zc_iret (TX3_smallNumber.at 22 rfl) rfl hH hA (by omega) ?_
        exact ⟨by first | (have hw : isN Kd Vl nx a b := ⟨by omega, by omega, by omega⟩; rw [if_pos hw, if_pos hw, if_pos hw]; exact ⟨rfl, ef289, ef294⟩) | (have hw : ¬ isN Kd Vl nx a b := (fun q => by have := q.1; have := q.2.1; have := q.2.2; omega); rw [if_neg hw, if_neg hw, if_neg hw]; exact ⟨rfl, ef289, ef294⟩), hfE, hgE, rfl⟩

set_option maxHeartbeats 4000000 in
set_option maxRecDepth 100000 in
theorem c_opened {l : Launch} {E : cE} {f : mF} {g j : mA} {Pl : Int → Int} {fl : Int} {tk : Int} {nx : Int} {dp : Int}  (eg292 : g 292 = Pl) (ef289 : f 289 = fl) (ef293 : f 293 = tk) (ef294 : f 294 = nx) (hdp : zIn dp) (x0 : 0 ≤ nx) (x1 : nx ≤ 400) (k0 : 0 ≤ tk) (k1 : tk ≤ 401) : CM l E MX3_opened 1 [.ref (E.1 319), vI dp] f g j (PI (fun r f' g' j' => (r = b2i (dp < 8) ∧ f' 289 = (if dp < 8 then fl else flF fl (Pl nx)) ∧ f' 294 = (if dp < 8 then gnF tk nx else nx)) ∧ eqx [289, 294] f f' ∧ eqx [] g g' ∧ j' = j)) := by
  refine CM.intro [some (.ref (E.1 319)), some (vI dp)] (by decide) (Nat.le_of_ble_eq_true rfl) rfl (fun d hd h0 h hH hA => ?_)
  have hfE : eqx [289, 294] f f := eqx.rf
  have hgE : eqx [] g g := eqx.rf
  refine z_ild_1 (TX3_opened.at 0 rfl) ?_
  refine z_bipush (by decide) (TX3_opened.at 1 rfl) ?_
  refine z_icmp_lt (tgt := 12) (TX3_opened.at 2 rfl) rfl (by omega) (by omega) (fun c1 => ?_) (fun c1 => ?_)
  · skip
    refine z_ald_0 (TX3_opened.at 7 rfl) ?_
    refine zc_callV0 (m := 9) (c_goOn ef293 ef294 (by omega) (by omega) (by omega) (by omega)) (hH.lv (by decide)) (TX3_opened.at 8 rfl) c3_179 rfl rfl hH hA (by omega) (Nat.le_of_ble_eq_true rfl) (fun f13 g13 j13 h q13 hH hA => ?_)
    obtain ⟨q13, xf, xg, xj⟩ := q13
    rw [xj] at hH
    have ef289 := (xf 289 (by decide)).trans ef289
    have ef293 := (xf 293 (by decide)).trans ef293
    have hfE := hfE.trans xf (by decide)
    have eg292 := (xg 292 (by decide)).trans eg292
    have hgE := hgE.trans xg (by decide)
    have qL := q13
    have ef294 := qL
    refine z_iconst (TX3_opened.at 9 rfl) ?_
    refine zc_zret (TX3_opened.at 10 rfl) rfl hH hA (by first | omega | exact b2i_01 _) ?_
    exact ⟨by first | (have hw : dp < 8 := (by omega); rw [b2i_t hw, if_pos hw, if_pos hw]; exact ⟨rfl, ef289, ef294⟩) | (have hw : ¬ dp < 8 := (by omega); rw [b2i_f hw, if_neg hw, if_neg hw]; exact ⟨rfl, ef289, ef294⟩), hfE, hgE, rfl⟩
  · skip
    refine z_ald_0 (TX3_opened.at 3 rfl) ?_
    refine zc_callV0 (m := 9) (c_fail eg292 ef289 ef294 (by omega) (by omega)) (hH.lv (by decide)) (TX3_opened.at 4 rfl) c3_54 rfl rfl hH hA (by omega) (Nat.le_of_ble_eq_true rfl) (fun f7 g7 j7 h q7 hH hA => ?_)
    obtain ⟨q7, xf, xg, xj⟩ := q7
    rw [xj] at hH
    have ef293 := (xf 293 (by decide)).trans ef293
    have ef294 := (xf 294 (by decide)).trans ef294
    have hfE := hfE.trans xf (by decide)
    have eg292 := (xg 292 (by decide)).trans eg292
    have hgE := hgE.trans xg (by decide)
    have qL := q7
    have ef289 := qL
    refine z_iconst (TX3_opened.at 5 rfl) ?_
    refine zc_zret (TX3_opened.at 6 rfl) rfl hH hA (by first | omega | exact b2i_01 _) ?_
    exact ⟨by first | (have hw : dp < 8 := (by omega); rw [b2i_t hw, if_pos hw, if_pos hw]; exact ⟨rfl, ef289, ef294⟩) | (have hw : ¬ dp < 8 := (by omega); rw [b2i_f hw, if_neg hw, if_neg hw]; exact ⟨rfl, ef289, ef294⟩), hfE, hgE, rfl⟩

set_option maxHeartbeats 4000000 in
set_option maxRecDepth 100000 in
theorem c_addTok {l : Launch} {E : cE} {f : mF} {g j : mA} {Kd : Int → Int} {Vl : Int → Int} {Pl : Int → Int} {tk : Int} {a b p : Int}  (eg290 : g 290 = Kd) (eg291 : g 291 = Vl) (eg292 : g 292 = Pl) (ef293 : f 293 = tk) (ha : zIn a) (hb : zIn b) (hp : zIn p) (k0 : 0 ≤ tk) (k1 : tk ≤ 400) : CM l E MX3_addToken 0 [.ref (E.1 319), vI a, vI b, vI p] f g j (PV (fun f' g' j' => (f' 293 = tk + 1 ∧ g' 290 = iu Kd tk a ∧ g' 291 = iu Vl tk b ∧ g' 292 = iu Pl tk p) ∧ eqx [293] f f' ∧ eqx [290, 291, 292] g g' ∧ j' = j)) := by
  refine CM.intro [some (.ref (E.1 319)), some (vI a), some (vI b), some (vI p)] (by decide) (Nat.le_of_ble_eq_true rfl) rfl (fun d hd h0 h hH hA => ?_)
  have hfE : eqx [293] f f := eqx.rf
  have hgE : eqx [290, 291, 292] g g := eqx.rf
  refine z_ald_0 (TX3_addToken.at 0 rfl) ?_
  refine zc_getIE (m := 9) (s := 5) (k := 293) (hH.lv (by decide)) ef293 (TX3_addToken.at 1 rfl) fl3_34 hH rfl rfl (by decide) (by decide) (fun r1 => ?_)
  refine z_sipush (by decide) (TX3_addToken.at 2 rfl) ?_
  refine z_icmp_gt (tgt := 50) (TX3_addToken.at 3 rfl) rfl (by omega) (by omega) (fun c1 => ?_) (fun c1 => ?_)
  · skip
    refine zc_vret (TX3_addToken.at 28 rfl) rfl hH hA ?_
    exact ⟨by first | exact ⟨ef293, eg290, eg291, eg292⟩ | (exfalso; omega), hfE, hgE, rfl⟩
  · skip
    refine z_ald_0 (TX3_addToken.at 4 rfl) ?_
    refine zc_getA (m := 9) (s := 2) (k := 290) (hH.lv (by decide)) (TX3_addToken.at 5 rfl) fl3_24 hH rfl rfl (by decide) (by decide) ?_
    refine z_ald_0 (TX3_addToken.at 6 rfl) ?_
    refine zc_getIE (m := 9) (s := 5) (k := 293) (hH.lv (by decide)) ef293 (TX3_addToken.at 7 rfl) fl3_34 hH rfl rfl (by decide) (by decide) (fun r15 => ?_)
    refine z_ild_1 (TX3_addToken.at 8 rfl) ?_
    refine zcf_iast (k := 290) (N := 401) (hH.lv (by decide)) (by decide) rfl (TX3_addToken.at 9 rfl) hH hA (by decide) (by omega) (show _ < ((401 : Nat) : Int) by omega) (by omega) (fun h g19 e1 e2 hH hA => ?_)
    rw [eg290] at e2; have eg290 := e2
    have eg291 := (e1 291 (by decide)).trans eg291
    have eg292 := (e1 292 (by decide)).trans eg292
    have hgE := hgE.put e1 (by decide)
    refine z_ald_0 (TX3_addToken.at 10 rfl) ?_
    refine zc_getA (m := 9) (s := 3) (k := 291) (hH.lv (by decide)) (TX3_addToken.at 11 rfl) fl3_28 hH rfl rfl (by decide) (by decide) ?_
    refine z_ald_0 (TX3_addToken.at 12 rfl) ?_
    refine zc_getIE (m := 9) (s := 5) (k := 293) (hH.lv (by decide)) ef293 (TX3_addToken.at 13 rfl) fl3_34 hH rfl rfl (by decide) (by decide) (fun r25 => ?_)
    refine z_ild_2 (TX3_addToken.at 14 rfl) ?_
    refine zcf_iast (k := 291) (N := 401) (hH.lv (by decide)) (by decide) rfl (TX3_addToken.at 15 rfl) hH hA (by decide) (by omega) (show _ < ((401 : Nat) : Int) by omega) (by omega) (fun h g29 e1 e2 hH hA => ?_)
    have eg290 := (e1 290 (by decide)).trans eg290
    rw [eg291] at e2; have eg291 := e2
    have eg292 := (e1 292 (by decide)).trans eg292
    have hgE := hgE.put e1 (by decide)
    refine z_ald_0 (TX3_addToken.at 16 rfl) ?_
    refine zc_getA (m := 9) (s := 4) (k := 292) (hH.lv (by decide)) (TX3_addToken.at 17 rfl) fl3_31 hH rfl rfl (by decide) (by decide) ?_
    refine z_ald_0 (TX3_addToken.at 18 rfl) ?_
    refine zc_getIE (m := 9) (s := 5) (k := 293) (hH.lv (by decide)) ef293 (TX3_addToken.at 19 rfl) fl3_34 hH rfl rfl (by decide) (by decide) (fun r35 => ?_)
    refine z_ild_3 (TX3_addToken.at 20 rfl) ?_
    refine zcf_iast (k := 292) (N := 401) (hH.lv (by decide)) (by decide) rfl (TX3_addToken.at 21 rfl) hH hA (by decide) (by omega) (show _ < ((401 : Nat) : Int) by omega) (by omega) (fun h g39 e1 e2 hH hA => ?_)
    have eg290 := (e1 290 (by decide)).trans eg290
    have eg291 := (e1 291 (by decide)).trans eg291
    rw [eg292] at e2; have eg292 := e2
    have hgE := hgE.put e1 (by decide)
    refine z_ald_0 (TX3_addToken.at 22 rfl) ?_
    refine z_dup rfl (TX3_addToken.at 23 rfl) ?_
    refine zc_getIE (m := 9) (s := 5) (k := 293) (hH.lv (by decide)) ef293 (TX3_addToken.at 24 rfl) fl3_34 hH rfl rfl (by decide) (by decide) (fun r42 => ?_)
    refine z_iconst (TX3_addToken.at 25 rfl) ?_
    refine z_iadd (TX3_addToken.at 26 rfl) ?_
    refine zc_putI (m := 9) (s := 5) (k := 293) (hH.lv (by decide)) (TX3_addToken.at 27 rfl) fp3_34 hH hA rfl rfl (by decide) (by decide) (by first | omega | exact b2i_01 _) (fun h f47 e1 e2 hH hA => ?_)
    have ef293 := e2
    have hfE := hfE.put e1 (by decide)
    refine zc_vret (TX3_addToken.at 28 rfl) rfl hH hA ?_
    exact ⟨by first | exact ⟨ef293, eg290, eg291, eg292⟩ | (exfalso; omega), hfE, hgE, rfl⟩

/-- the code from s to e means k: with a stack of st it goes on with what k says on top, else the answer is the broken one -/
def Cod (C : Int → Int) (s e : Int) (w : Nat) (k : Den) : Prop := ∀ (D : Int → Int) (N : Int) (φ : Int → Int) (st : List Int) (r : Int), (∀ q : Int, s ≤ q → q < e → D q = C q) → e ≤ N → st.length + w ≤ 64 → (∀ x, k φ = some x → Ask D N φ e (x :: st) r) → (k φ = none → r = -2000000000) → Ask D N φ s st r
theorem Cod.mono {C : Int → Int} {s e : Int} {w w' : Nat} {k : Den} (h : Cod C s e w k) (hw : w ≤ w') : Cod C s e w' k :=
  fun D N φ st r hD hN hl h1 h2 => h D N φ st r hD hN (by omega) h1 h2
theorem Cod.keep {C C' : Int → Int} {s e : Int} {w : Nat} {k : Den} (h : Cod C s e w k) (hC : ∀ q : Int, s ≤ q → q < e → C' q = C q) : Cod C' s e w k :=
  fun D N φ st r hD hN hl h1 h2 => h D N φ st r (fun q a b => (hD q a b).trans (hC q a b)) hN hl h1 h2
theorem Cod_num {C : Int → Int} {s a : Int} (hC : C s = 1 * 1024 + a) (a0 : 0 ≤ a) (a1 : a ≤ 1023) : Cod C s (s + 1) 1 (fun _ => some a) :=
  fun D N φ st r hD hN hl h1 h2 => Ask.num (by omega) ((hD s (by omega) (by omega)).trans hC) a0 a1 (by omega) (h1 a rfl)
theorem Cod_fact {C : Int → Int} {s a : Int} (hC : C s = 2 * 1024 + a) (a0 : 0 ≤ a) (a1 : a < 31) : Cod C s (s + 1) 1 (fun φ => some (φ a)) :=
  fun D N φ st r hD hN hl h1 h2 => Ask.fact (by omega) ((hD s (by omega) (by omega)).trans hC) a0 a1 (by omega) (h1 _ rfl)
/-- two sums and an operator -/
theorem Cod_bin {C : Int → Int} {s e1 e2 o : Int} {w : Nat} {k1 k2 : Den} (c1 : Cod C s e1 w k1) (c2 : Cod C e1 e2 w k2) (h1 : s ≤ e1) (h2 : e1 ≤ e2) (o0 : 3 ≤ o) (o1 : o ≤ 10) (hC : C e2 = o * 1024) (hw : 1 ≤ w) : Cod C s (e2 + 1) (w + 1) (dBin o k1 k2) := by
  intro D N φ st r hD hN hl g1 g2
  refine c1 D N φ st r (fun q a b => hD q a (by omega)) (by omega) (by omega) (fun x hx => ?_) (fun hx => g2 (by unfold dBin; rw [hx]))
  refine c2 D N φ (x :: st) r (fun q a b => hD q (by omega) (by omega)) (by omega) (by simp only [List.length_cons]; omega) (fun y hy => ?_) (fun hy => g2 (by unfold dBin; rw [hx]; show (match k2 φ with | none => none | some y => opV o x y) = none; rw [hy]))
  have ev : dBin o k1 k2 φ = opV o x y := by
    unfold dBin
    rw [hx]
    show (match k2 φ with | none => none | some y => opV o x y) = _
    rw [hy]
  have hc := (hD e2 (by omega) (by omega)).trans hC
  cases hz : opV o x y with
  | some z => exact Ask.bin (by omega) o0 o1 hc (by omega) hz (g1 z (ev.trans hz))
  | none =>
    have e := g2 (ev.trans hz)
    subst e
    exact Ask.bad (by omega) o0 o1 hc (by omega) hz
/-- a denotation of a test is 0 or 1 -/
def B01 (k : Den) : Prop := ∀ φ x, k φ = some x → x = 0 ∨ x = 1
theorem Cod_not {C : Int → Int} {s e : Int} {w : Nat} {k : Den} (c : Cod C s e w k) (hs : s ≤ e) (b : B01 k) (hC : C e = 11 * 1024) (hw : 1 ≤ w) : Cod C s (e + 1) w (dNot true k) := by
  intro D N φ st r hD hN hl g1 g2
  refine c D N φ st r (fun q a b => hD q a (by omega)) (by omega) hl (fun x hx => ?_) (fun hx => g2 (by unfold dNot; rw [hx]))
  have hc := (hD e (by omega) (by omega)).trans hC
  refine Ask.neg (by omega) hc (by omega) (b φ x hx) (g1 (1 - x) ?_)
  unfold dNot
  rw [hx]
  rfl
theorem dNot_f (k : Den) : dNot false k = k := by
  funext φ
  unfold dNot
  cases k φ with
  | none => rfl
  | some x => rfl
theorem Cod_or {C : Int → Int} {s e1 e2 : Int} {w : Nat} {k1 k2 : Den} (c1 : Cod C s e1 w k1) (c2 : Cod C (e1 + 1) e2 w k2) (h1 : s ≤ e1) (h0 : 0 ≤ e1) (h2 : e1 + 1 ≤ e2) (he : e2 ≤ 1023) (hC : C e1 = 12 * 1024 + e2) (hw : 1 ≤ w) : Cod C s e2 w (dOr k1 k2) := by
  intro D N φ st r hD hN hl g1 g2
  refine c1 D N φ st r (fun q a b => hD q a (by omega)) (by omega) (by omega) (fun x hx => ?_) (fun hx => g2 (by unfold dOr; rw [hx]))
  have hc := (hD e1 (by omega) (by omega)).trans hC
  have ev : dOr k1 k2 φ = if x = 1 then some 1 else k2 φ := by unfold dOr; rw [hx]
  by_cases q : x = 1
  · subst q
    exact Ask.leap (o := 12) (by omega) (Or.inl rfl) hc (by omega) he (by omega) rfl (g1 1 (ev.trans (if_pos rfl)))
  · rw [if_neg q] at ev
    refine Ask.on (o := 12) (by omega) (Or.inl rfl) hc (by omega) he (by omega) q ?_
    exact c2 D N φ st r (fun q a b => hD q (by omega) (by omega)) (by omega) hl (fun y hy => g1 y (ev.trans hy)) (fun hy => g2 (ev.trans hy))
theorem Cod_and {C : Int → Int} {s e1 e2 : Int} {w : Nat} {k1 k2 : Den} (c1 : Cod C s e1 w k1) (c2 : Cod C (e1 + 1) e2 w k2) (h1 : s ≤ e1) (h0 : 0 ≤ e1) (h2 : e1 + 1 ≤ e2) (he : e2 ≤ 1023) (hC : C e1 = 13 * 1024 + e2) (hw : 1 ≤ w) : Cod C s e2 w (dAnd k1 k2) := by
  intro D N φ st r hD hN hl g1 g2
  refine c1 D N φ st r (fun q a b => hD q a (by omega)) (by omega) (by omega) (fun x hx => ?_) (fun hx => g2 (by unfold dAnd; rw [hx]))
  have hc := (hD e1 (by omega) (by omega)).trans hC
  have ev : dAnd k1 k2 φ = if x = 0 then some 0 else k2 φ := by unfold dAnd; rw [hx]
  by_cases q : x = 0
  · subst q
    exact Ask.leap (o := 13) (by omega) (Or.inr rfl) hc (by omega) he (by omega) rfl (g1 0 (ev.trans (if_pos rfl)))
  · rw [if_neg q] at ev
    refine Ask.on (o := 13) (by omega) (Or.inr rfl) hc (by omega) he (by omega) q ?_
    exact c2 D N φ st r (fun q a b => hD q (by omega) (by omega)) (by omega) hl (fun y hy => g1 y (ev.trans hy)) (fun hy => g2 (ev.trans hy))
/-- a whole sum or test, with its end -/
theorem Cod_ask {C : Int → Int} {s e N : Int} {w : Nat} {k : Den} (c : Cod C s e w k) (hw : w ≤ 64) (hN : e < N) (hC : C e = 0) (φ : Int → Int) : Ask C N φ s [] (brk (k φ)) :=
  c C N φ [] _ (fun _ _ _ => rfl) (by omega) (by simpa using hw) (fun x hx => by rw [hx]; exact Ask.stop hN hC) (fun hx => by rw [hx]; rfl)
theorem B01_cmp {o : Int} {k1 k2 : Den} (h0 : 8 ≤ o) (h1 : o ≤ 10) : B01 (dBin o k1 k2) := by
  intro φ x hx
  unfold dBin at hx
  cases e1 : k1 φ with
  | none => rw [e1] at hx; cases hx
  | some y =>
    rw [e1] at hx
    cases e2 : k2 φ with
    | none => rw [e2] at hx; cases hx
    | some z =>
      rw [e2] at hx
      have hx : opV o y z = some x := hx
      rcases (show o = 8 ∨ o = 9 ∨ o = 10 by omega) with rfl | rfl | rfl
      · rw [opV_8] at hx; injection hx with hx; have := b2i_01 (y < z); omega
      · rw [opV_9] at hx; injection hx with hx; have := b2i_01 (z < y); omega
      · rw [opV_10] at hx; injection hx with hx; have := b2i_01 (y = z); omega
theorem B01_not {b : Bool} {k : Den} (h : B01 k) : B01 (dNot b k) := by
  intro φ x hx
  unfold dNot at hx
  cases e : k φ with
  | none => rw [e] at hx; cases hx
  | some y =>
    rw [e] at hx
    have := h φ y e
    cases b with
    | true => have hx : some (1 - y) = some x := hx; injection hx with hx; omega
    | false => have hx : some y = some x := hx; injection hx with hx; omega
theorem B01_or {k1 k2 : Den} (h2 : B01 k2) : B01 (dOr k1 k2) := by
  intro φ x hx
  unfold dOr at hx
  cases e : k1 φ with
  | none => rw [e] at hx; cases hx
  | some y =>
    rw [e] at hx
    have hx : (if y = 1 then some 1 else k2 φ) = some x := hx
    split at hx
    · injection hx with hx; omega
    · exact h2 φ x hx
theorem B01_and {k1 k2 : Den} (h2 : B01 k2) : B01 (dAnd k1 k2) := by
  intro φ x hx
  unfold dAnd at hx
  cases e : k1 φ with
  | none => rw [e] at hx; cases hx
  | some y =>
    rw [e] at hx
    have hx : (if y = 0 then some 0 else k2 φ) = some x := hx
    split at hx
    · injection hx with hx; omega
    · exact h2 φ x hx
