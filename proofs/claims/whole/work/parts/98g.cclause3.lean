/-! ===== the class: clauses, closed ===== -/
section PC
variable {c v : Int → Int} {t p : Nat}
theorem cl_er {lw : Bool} (h : ¬ vbR lw (c t)) : pCla lw c v t p = .error t := by
  rw [pCla_eq]
  cases lw with
  | true =>
    unfold vbR at h
    rw [if_pos rfl] at h ⊢
    rw [if_neg (by omega), if_neg (by omega)]
  | false =>
    unfold vbR at h
    rw [if_neg (by decide)] at h ⊢
    rw [if_neg (by omega), if_neg (by omega), if_neg (by omega)]
theorem cl_3 (h : c t = 3) : pCla true c v t p = finC true c v 3 dOne dOne 1 (t + 1) p := by
  rw [pCla_eq, if_pos rfl, if_neg (by omega), if_pos h]
theorem cl_1 (h : c t = 1 ∨ c t = 2) : pCla true c v t p = (match pSumD true c v 8 (t + 1) p with | .error e => .error e | .ok (t', p', k) => finC true c v (c t) k dOne 1 t' p') := by
  rw [pCla_eq, if_pos rfl, if_pos h]
  rfl
theorem cl_26 (h : c t = 26) : pCla false c v t p = timC false c v 26 dOne dOne (t + 1) p := by
  rw [pCla_eq, if_neg (by decide), if_neg (by omega), if_neg (by omega), if_pos h]
theorem cl_22 (h : c t = 22 ∨ c t = 23) : pCla false c v t p = (match pSumD false c v 8 (t + 1) p with | .error e => .error e | .ok (t', p', k) => timC false c v (c t) k dOne t' p') := by
  rw [pCla_eq, if_neg (by decide), if_neg (by omega), if_pos h]
  rfl
theorem cl_24 (h : c t = 24) : pCla false c v t p = (match pSumD false c v 8 (t + 1) p with | .error e => .error e | .ok (t', p', k) => if c t' = 25 then (match pSumD false c v 8 (t' + 1) p' with | .error e => .error e | .ok (t2, p2, k2) => timC false c v 24 k k2 t2 p2) else .error t') := by
  rw [pCla_eq, if_neg (by decide), if_pos h]
  rfl
end PC
set_option maxHeartbeats 4000000 in
set_option maxRecDepth 100000 in
theorem v_clause_true {l : Launch} {E : cE} {f : mF} {g j : mA} {Kd : Int → Int} {Vl : Int → Int} {Pl : Int → Int} {Vb : Int → Int} {Tm : Int → Int} {On : Int → Int} {Ot : Int → Int} {Te : Int → Int} {C : Int → Int} {tk : Int} {cc : Int} {N : Int} {ag : Int} {t p : Nat} {c v : Int → Int} (eg290 : g 290 = Kd) (eg291 : g 291 = Vl) (eg292 : g 292 = Pl) (eg419 : g 419 = Vb) (eg420 : g 420 = Tm) (eg421 : g 421 = On) (eg422 : g 422 = Ot) (eg423 : g 423 = Te) (eg424 : g 424 = C) (ef289 : f 289 = (-1)) (ef293 : f 293 = tk) (ef294 : f 294 = (t : Int)) (ef295 : f 295 = (p : Int)) (ef296 : f 296 = 1) (ef416 : f 416 = cc) (ef417 : f 417 = N) (ef418 : f 418 = ag) (hk : TkH Kd Vl Pl tk c v) (t1 : (t : Int) < tk) (p1 : p ≤ 50) (hN : 0 ≤ N ∧ N ≤ t) (ha : in01 ag) (q0 : 0 ≤ cc) (q11 : cc ≤ 11) : CM l E MX3_clause 37 [.ref (E.1 319)] f g j (PV (fun f' g' j' => (ClQ Pl true (pCla true c v t p) t N ag tk cc Vb Tm On Ot Te C f' g') ∧ eqx [289, 294, 295, 416, 417, 418] f f' ∧ eqx [419, 420, 421, 422, 423, 424] g g' ∧ j' = j)) := by
  refine CM.intro [some (.ref (E.1 319)), none] (by decide) (Nat.le_of_ble_eq_true rfl) rfl (fun d hd h0 h hH hA => ?_)
  have hfE : eqx [289, 294, 295, 416, 417, 418] f f := eqx.rf
  have hgE : eqx [419, 420, 421, 422, 423, 424] g g := eqx.rf
  have htk := hk.1
  have hp0 := (hk.2.1 t (by omega) t1).2
  have hti := (hk.2.1 t (by omega) t1).1
  have tv := tk_vb hti
  refine z_ald_0 (TX3_clause_0.at 0 rfl) ?_
  refine zc_getA (m := 9) (s := 2) (k := 290) (hH.lv (by decide)) (TX3_clause_0.at 1 rfl) fl3_24 hH rfl rfl (by decide) (by decide) ?_
  refine z_ald_0 (TX3_clause_0.at 2 rfl) ?_
  refine zc_getIE (m := 9) (s := 6) (k := 294) (hH.lv (by decide)) ef294 (TX3_clause_0.at 3 rfl) fl3_37 hH rfl rfl (by decide) (by decide) (fun r5 => ?_)
  refine zcf_iald (k := 290) (N := 401) (hH.lv (by decide)) (by decide) rfl eg290 (TX3_clause_0.at 4 rfl) hH (by decide) (by omega) (show _ < ((401 : Nat) : Int) by omega) (fun r8 => ?_)
  refine z_iconst (TX3_clause_0.at 5 rfl) ?_
  refine z_icmp_ne (tgt := 25) (TX3_clause_0.at 6 rfl) rfl (by omega) (by omega) (fun c1 => ?_) (fun c1 => ?_)
  · skip
    refine z_iconst (TX3_clause_0.at 13 rfl) ?_
    refine z_ist_1 (TX3_clause_0.at 14 rfl) (Nat.le_of_ble_eq_true rfl) rfl ?_
    refine z_ald_0 (TX3_clause_0.at 15 rfl) ?_
    refine zc_getIE (m := 9) (s := 8) (k := 296) (hH.lv (by decide)) ef296 (TX3_clause_0.at 16 rfl) fl3_43 hH rfl rfl (by decide) (by decide) (fun r28 => ?_)
    refine z_if_eq (tgt := 46) (TX3_clause_0.at 17 rfl) rfl (by omega) (fun c2 => absurd c2 (by decide)) (fun c2 => ?_)
    refine z_ild_1 (TX3_clause_0.at 18 rfl) ?_
    refine z_if_lt (tgt := 57) (TX3_clause_0.at 19 rfl) rfl (by decide) (fun c3 => ?_) (fun c3 => absurd c3 (by decide))
    refine z_ald_0 (TX3_clause_0.at 30 rfl) ?_
    refine zc_callV0 (m := 9) (c_fail eg292 ef289 ef294 (by omega) (by omega) ) (hH.lv (by decide)) (TX3_clause_0.at 31 rfl) c3_54 rfl rfl hH hA (by omega) (Nat.le_of_ble_eq_true rfl) (fun f58 g58 j58 h q58 hH hA => ?_)
    obtain ⟨q58, xf, xg, xj⟩ := q58
    rw [xj] at hH
    have ef293 := (xf 293 (by decide)).trans ef293
    have ef294 := (xf 294 (by decide)).trans ef294
    have ef295 := (xf 295 (by decide)).trans ef295
    have ef296 := (xf 296 (by decide)).trans ef296
    have ef416 := (xf 416 (by decide)).trans ef416
    have ef417 := (xf 417 (by decide)).trans ef417
    have ef418 := (xf 418 (by decide)).trans ef418
    have hfE := hfE.trans xf (by decide)
    have eg290 := (xg 290 (by decide)).trans eg290
    have eg291 := (xg 291 (by decide)).trans eg291
    have eg292 := (xg 292 (by decide)).trans eg292
    have eg419 := (xg 419 (by decide)).trans eg419
    have eg420 := (xg 420 (by decide)).trans eg420
    have eg421 := (xg 421 (by decide)).trans eg421
    have eg422 := (xg 422 (by decide)).trans eg422
    have eg423 := (xg 423 (by decide)).trans eg423
    have eg424 := (xg 424 (by decide)).trans eg424
    have hgE := hgE.trans xg (by decide)
    have qL := q58
    have ef289 := qL.trans (if_pos rfl)
    refine zc_vret (TX3_clause_0.at 32 rfl) rfl hH hA ?_
    exact ⟨by rw [cl_er (by unfold vbR; rw [if_pos rfl]; omega)]; exact mkD ef293 ef294 ef295 ef417 ef418 ef289 htk (by omega) (by omega) (by omega) ha id (by omega), hfE, hgE, rfl⟩
  · skip
    refine z_ald_0 (TX3_clause_0.at 7 rfl) ?_
    refine zc_getA (m := 9) (s := 3) (k := 291) (hH.lv (by decide)) (TX3_clause_0.at 8 rfl) fl3_28 hH rfl rfl (by decide) (by decide) ?_
    refine z_ald_0 (TX3_clause_0.at 9 rfl) ?_
    refine zc_getIE (m := 9) (s := 6) (k := 294) (hH.lv (by decide)) ef294 (TX3_clause_0.at 10 rfl) fl3_37 hH rfl rfl (by decide) (by decide) (fun r18 => ?_)
    refine zcf_iald (k := 291) (N := 401) (hH.lv (by decide)) (by decide) rfl eg291 (TX3_clause_0.at 11 rfl) hH (by decide) (by omega) (show _ < ((401 : Nat) : Int) by omega) (fun r21 => ?_)
    refine z_goto (tgt := 26) (TX3_clause_0.at 12 rfl) rfl ?_
    refine z_ist_1 (TX3_clause_0.at 14 rfl) (Nat.le_of_ble_eq_true rfl) rfl ?_
    refine z_ald_0 (TX3_clause_0.at 15 rfl) ?_
    refine zc_getIE (m := 9) (s := 8) (k := 296) (hH.lv (by decide)) ef296 (TX3_clause_0.at 16 rfl) fl3_43 hH rfl rfl (by decide) (by decide) (fun r28 => ?_)
    refine z_if_eq (tgt := 46) (TX3_clause_0.at 17 rfl) rfl (by omega) (fun c4 => absurd c4 (by decide)) (fun c4 => ?_)
    refine z_ild_1 (TX3_clause_0.at 18 rfl) ?_
    refine z_if_lt (tgt := 57) (TX3_clause_0.at 19 rfl) rfl (by omega) (fun c5 => ?_) (fun c5 => ?_)
    · skip
      refine z_ald_0 (TX3_clause_0.at 30 rfl) ?_
      refine zc_callV0 (m := 9) (c_fail eg292 ef289 ef294 (by omega) (by omega) ) (hH.lv (by decide)) (TX3_clause_0.at 31 rfl) c3_54 rfl rfl hH hA (by omega) (Nat.le_of_ble_eq_true rfl) (fun f58 g58 j58 h q58 hH hA => ?_)
      obtain ⟨q58, xf, xg, xj⟩ := q58
      rw [xj] at hH
      have ef293 := (xf 293 (by decide)).trans ef293
      have ef294 := (xf 294 (by decide)).trans ef294
      have ef295 := (xf 295 (by decide)).trans ef295
      have ef296 := (xf 296 (by decide)).trans ef296
      have ef416 := (xf 416 (by decide)).trans ef416
      have ef417 := (xf 417 (by decide)).trans ef417
      have ef418 := (xf 418 (by decide)).trans ef418
      have hfE := hfE.trans xf (by decide)
      have eg290 := (xg 290 (by decide)).trans eg290
      have eg291 := (xg 291 (by decide)).trans eg291
      have eg292 := (xg 292 (by decide)).trans eg292
      have eg419 := (xg 419 (by decide)).trans eg419
      have eg420 := (xg 420 (by decide)).trans eg420
      have eg421 := (xg 421 (by decide)).trans eg421
      have eg422 := (xg 422 (by decide)).trans eg422
      have eg423 := (xg 423 (by decide)).trans eg423
      have eg424 := (xg 424 (by decide)).trans eg424
      have hgE := hgE.trans xg (by decide)
      have qL := q58
      have ef289 := qL.trans (if_pos rfl)
      refine zc_vret (TX3_clause_0.at 32 rfl) rfl hH hA ?_
      exact ⟨by rw [cl_er (by unfold vbR; rw [if_pos rfl]; omega)]; exact mkD ef293 ef294 ef295 ef417 ef418 ef289 htk (by omega) (by omega) (by omega) ha id (by omega), hfE, hgE, rfl⟩
    · skip
      refine z_ild_1 (TX3_clause_0.at 20 rfl) ?_
      refine z_iconst (TX3_clause_0.at 21 rfl) ?_
      refine z_icmp_le (tgt := 62) (TX3_clause_0.at 22 rfl) rfl (by omega) (by omega) (fun c6 => ?_) (fun c6 => ?_)
      · skip
        have hu : 1 ≤ c t ∧ c t ≤ 3 ∧ Vl t = c t - 1 := by omega
        refine z_ald_0 (TX3_clause_0.at 33 rfl) ?_
        refine zc_callV0 (m := 9) (c_goOn ef293 ef294 (by omega) (by omega) (by omega) (by omega) ) (hH.lv (by decide)) (TX3_clause_0.at 34 rfl) c3_179 rfl rfl hH hA (by omega) (Nat.le_of_ble_eq_true rfl) (fun f63 g63 j63 h q63 hH hA => ?_)
        obtain ⟨q63, xf, xg, xj⟩ := q63
        rw [xj] at hH
        have ef289 := (xf 289 (by decide)).trans ef289
        have ef293 := (xf 293 (by decide)).trans ef293
        have ef295 := (xf 295 (by decide)).trans ef295
        have ef296 := (xf 296 (by decide)).trans ef296
        have ef416 := (xf 416 (by decide)).trans ef416
        have ef417 := (xf 417 (by decide)).trans ef417
        have ef418 := (xf 418 (by decide)).trans ef418
        have hfE := hfE.trans xf (by decide)
        have eg290 := (xg 290 (by decide)).trans eg290
        have eg291 := (xg 291 (by decide)).trans eg291
        have eg292 := (xg 292 (by decide)).trans eg292
        have eg419 := (xg 419 (by decide)).trans eg419
        have eg420 := (xg 420 (by decide)).trans eg420
        have eg421 := (xg 421 (by decide)).trans eg421
        have eg422 := (xg 422 (by decide)).trans eg422
        have eg423 := (xg 423 (by decide)).trans eg423
        have eg424 := (xg 424 (by decide)).trans eg424
        have hgE := hgE.trans xg (by decide)
        have qL := q63
        have hgo := hk.go (i := (t : Int)) (by omega) (by omega)
        have ef294 := qL.trans hgo.1
        have t3 := hgo.2
        refine z_ald_0 (TX3_clause_0.at 35 rfl) ?_
        refine zc_getO (m := 9) (s := 0) (k := 447) (hH.lv (by decide)) (TX3_clause_0.at 36 rfl) fl3_14 hH rfl rfl (by decide) (by decide) ?_
        refine z_ild_1 (TX3_clause_0.at 37 rfl) ?_
        refine zc_callV1 (m := 13) (c_open eg419 eg420 eg421 eg422 eg423 ef416 (by omega) (by omega) (by omega) ) (hH.lv (by decide)) (TX3_clause_0.at 38 rfl) c3_182 rfl rfl hH hA (by omega) (Nat.le_of_ble_eq_true rfl) (fun f71 g71 j71 h q71 hH hA => ?_)
        obtain ⟨q71, xf, xg, xj⟩ := q71
        rw [xj] at hH
        have ef289 := (xf 289 (by decide)).trans ef289
        have ef293 := (xf 293 (by decide)).trans ef293
        have ef294 := (xf 294 (by decide)).trans ef294
        have ef295 := (xf 295 (by decide)).trans ef295
        have ef296 := (xf 296 (by decide)).trans ef296
        have ef416 := (xf 416 (by decide)).trans ef416
        have ef417 := (xf 417 (by decide)).trans ef417
        have ef418 := (xf 418 (by decide)).trans ef418
        have hfE := hfE.trans xf (by decide)
        have eg290 := (xg 290 (by decide)).trans eg290
        have eg291 := (xg 291 (by decide)).trans eg291
        have eg292 := (xg 292 (by decide)).trans eg292
        have eg424 := (xg 424 (by decide)).trans eg424
        have hgE := hgE.trans xg (by decide)
        have qL := q71
        obtain ⟨eg419, eg420, eg421, eg422, eg423⟩ := qL
        refine z_ild_1 (TX3_clause_0.at 39 rfl) ?_
        refine z_iconst (TX3_clause_1.at 0 rfl) ?_
        refine z_icmp_eq (tgt := 104) (TX3_clause_1.at 1 rfl) rfl (by omega) (by omega) (fun c7 => ?_) (fun c7 => ?_)
        · skip
          refine z_ild_1 (TX3_clause_1.at 14 rfl) ?_
          refine z_iconst (TX3_clause_1.at 15 rfl) ?_
          refine z_icmp_ne (tgt := 145) (TX3_clause_1.at 16 rfl) rfl (by omega) (by omega) (fun c8 => ?_) (fun c8 => absurd c8 (by omega))
          refine z_ald_0 (TX3_clause_1.at 34 rfl) ?_
          refine zc_getIE (m := 9) (s := 8) (k := 296) (hH.lv (by decide)) ef296 (TX3_clause_1.at 35 rfl) fl3_43 hH rfl rfl (by decide) (by decide) (fun r146 => ?_)
          refine z_if_ne (tgt := 187) (TX3_clause_1.at 36 rfl) rfl (by omega) (fun c9 => ?_) (fun c9 => absurd c9 (by decide))
          exact v_cl187_true (u := Vl t) (t := t) (N := N) (ag := ag) (Vb := Vb) (Tm := Tm) (On := On) (Ot := Ot) (Te := Te) (C := C) (vb := 3) (t2 := (t + 1)) (p2 := p) (by omega) (by omega) hk (by omega) (by omega) (by omega) ha q0 q11 (by omega) id (fun q _ => rfl) (fun i hi => ⟨iu_ne (by omega), iu_ne (by omega), iu_ne (by omega), iu_ne (by omega), iu_ne (by omega)⟩) (by rw [iu_self]; unfold vz; rw [if_pos (by omega)]; omega) (iu_self _ _ _) (Or.inl ⟨Or.inl rfl, iu_self _ _ _, rfl⟩) (Or.inr ⟨by decide, iu_self _ _ _, rfl⟩) (iu_self _ _ _) (fun _ => ⟨Ng_one, Ng_one⟩) (by unfold vbR; rw [if_pos rfl]; omega) (fun f' g' hX => by rw [cl_3 (by omega)]; exact hX) rfl eg290 eg291 eg292 eg419 eg420 eg421 eg422 eg423 eg424 ef289 ef293 (ef294.trans (by omega)) ef295 ef296 ef416 ef417 ef418 hfE hgE hH hA
        · skip
          refine z_ild_1 (TX3_clause_1.at 2 rfl) ?_
          refine z_bipush (by decide) (TX3_clause_1.at 3 rfl) ?_
          refine z_icmp_eq (tgt := 104) (TX3_clause_1.at 4 rfl) rfl (by omega) (by omega) (fun c10 => absurd c10 (by omega)) (fun c10 => ?_)
          refine z_ald_0 (TX3_clause_1.at 5 rfl) ?_
          refine zc_getO (m := 9) (s := 0) (k := 447) (hH.lv (by decide)) (TX3_clause_1.at 6 rfl) fl3_14 hH rfl rfl (by decide) (by decide) ?_
          refine zc_getA (m := 13) (s := 5) (k := 421) (hH.lv (by decide)) (TX3_clause_1.at 7 rfl) fl3_186 hH rfl rfl (by decide) (by decide) ?_
          refine z_ald_0 (TX3_clause_1.at 8 rfl) ?_
          refine zc_getO (m := 9) (s := 0) (k := 447) (hH.lv (by decide)) (TX3_clause_1.at 9 rfl) fl3_14 hH rfl rfl (by decide) (by decide) ?_
          refine zc_getIE (m := 13) (s := 0) (k := 416) (hH.lv (by decide)) ef416 (TX3_clause_1.at 10 rfl) fl3_189 hH rfl rfl (by decide) (by decide) (fun r96 => ?_)
          refine z_ald_0 (TX3_clause_1.at 11 rfl) ?_
          refine zc_callI0 (m := 9) (v_whole_true (t := t + 1) (p := p) eg290 eg291 eg292 eg424 ef289 ef293 (ef294.trans (by omega)) ef295 ef296 ef417 ef418 hk (by omega) (by omega) (by omega) ha) (hH.lv (by decide)) (TX3_clause_1.at 12 rfl) c3_192 rfl rfl hH hA (by omega) (Nat.le_of_ble_eq_true rfl) (fun x100 f100 g100 j100 h r100 q100 hH hA => ?_)
          obtain ⟨q100, xf, xg, xj⟩ := q100
          rw [xj] at hH
          have ef293 := (xf 293 (by decide)).trans ef293
          have ef296 := (xf 296 (by decide)).trans ef296
          have ef416 := (xf 416 (by decide)).trans ef416
          have hfE := hfE.trans xf (by decide)
          have eg290 := (xg 290 (by decide)).trans eg290
          have eg291 := (xg 291 (by decide)).trans eg291
          have eg292 := (xg 292 (by decide)).trans eg292
          have eg419 := (xg 419 (by decide)).trans eg419
          have eg420 := (xg 420 (by decide)).trans eg420
          have eg421 := (xg 421 (by decide)).trans eg421
          have eg422 := (xg 422 (by decide)).trans eg422
          have eg423 := (xg 423 (by decide)).trans eg423
          have hgE := hgE.trans xg (by decide)
          have qL := q100
          have hws := qL.2
          have hrv := qL.1.symm
          subst hrv
          obtain ⟨C2, eg424⟩ : ∃ z, g100 424 = z := ⟨_, rfl⟩
          have hC2 := eg424
          refine zcf_iast (k := 421) (N := 12) (hH.lv (by decide)) (by decide) rfl (TX3_clause_1.at 13 rfl) hH hA (by decide) (by omega) (show _ < ((12 : Nat) : Int) by omega) (by omega) (fun h g103 e1 e2 hH hA => ?_)
          have eg290 := (e1 290 (by decide)).trans eg290
          have eg291 := (e1 291 (by decide)).trans eg291
          have eg292 := (e1 292 (by decide)).trans eg292
          have eg419 := (e1 419 (by decide)).trans eg419
          have eg420 := (e1 420 (by decide)).trans eg420
          rw [eg421] at e2; have eg421 := e2
          have eg422 := (e1 422 (by decide)).trans eg422
          have eg423 := (e1 423 (by decide)).trans eg423
          have eg424 := (e1 424 (by decide)).trans eg424
          have hgE := hgE.put e1 (by decide)
          rcases hs : pSumD true c v 8 (t + 1) p with e | r
          · rw [hs] at hws
            exact dd_cl104 (u := Vl t) (by omega) (by omega) (show DdS tk (Pl e) ag _ from hws) q0 q11 (fun f' g' hX => by rw [cl_1 (by omega), hs]; exact hX) rfl ef416 ef296 hfE hgE hH hA
          obtain ⟨t2, p2, k1⟩ := r
          rw [hs] at hws
          obtain ⟨w1, w2, w3, w4, w5, w6, w7, w8, w9, w10, w11, w12, w13⟩ := hws
          have ef289 := w1
          have ef294 := w3
          have ef295 := w4
          obtain ⟨N2, ef417⟩ : ∃ z, f100 417 = z := ⟨_, rfl⟩
          obtain ⟨ag2, ef418⟩ : ∃ z, f100 418 = z := ⟨_, rfl⟩
          rw [ef417] at w7 w8 w12
          rw [ef418] at w9 w10 w13
          rw [hC2] at w11 w12
          refine z_ild_1 (TX3_clause_1.at 14 rfl) ?_
          refine z_iconst (TX3_clause_1.at 15 rfl) ?_
          refine z_icmp_ne (tgt := 145) (TX3_clause_1.at 16 rfl) rfl (by omega) (by omega) (fun c11 => ?_) (fun c11 => absurd c11 (by omega))
          refine z_ald_0 (TX3_clause_1.at 34 rfl) ?_
          refine zc_getIE (m := 9) (s := 8) (k := 296) (hH.lv (by decide)) ef296 (TX3_clause_1.at 35 rfl) fl3_43 hH rfl rfl (by decide) (by decide) (fun r146 => ?_)
          refine z_if_ne (tgt := 187) (TX3_clause_1.at 36 rfl) rfl (by omega) (fun c12 => ?_) (fun c12 => absurd c12 (by decide))
          exact v_cl187_true (u := Vl t) (t := t) (N := N) (ag := ag) (Vb := Vb) (Tm := Tm) (On := On) (Ot := Ot) (Te := Te) (C := C) (vb := (c t)) (t2 := t2) (p2 := p2) (by omega) (by omega) hk (by omega) (by omega) (by omega) w9 q0 q11 (by omega) w10 w11 (fun i hi => ⟨iu_ne (by omega), iu_ne (by omega), (iu_ne (by omega)).trans (iu_ne (by omega)), iu_ne (by omega), iu_ne (by omega)⟩) (by rw [iu_self]; unfold vz; rw [if_pos (by omega)]; omega) (iu_self _ _ _) (Or.inr ⟨by omega, by rw [iu_self]; exact w12⟩) (Or.inr ⟨by omega, iu_self _ _ _, rfl⟩) (iu_self _ _ _) (fun z => ⟨w13 z, Ng_one⟩) (by unfold vbR; rw [if_pos rfl]; omega) (fun f' g' hX => by rw [cl_1 (by omega), hs]; exact hX) rfl eg290 eg291 eg292 eg419 eg420 eg421 eg422 eg423 eg424 ef289 ef293 ef294 ef295 ef296 ef416 ef417 ef418 hfE hgE hH hA
      · skip
        refine z_goto (tgt := 57) (TX3_clause_0.at 23 rfl) rfl ?_
        refine z_ald_0 (TX3_clause_0.at 30 rfl) ?_
        refine zc_callV0 (m := 9) (c_fail eg292 ef289 ef294 (by omega) (by omega) ) (hH.lv (by decide)) (TX3_clause_0.at 31 rfl) c3_54 rfl rfl hH hA (by omega) (Nat.le_of_ble_eq_true rfl) (fun f58 g58 j58 h q58 hH hA => ?_)
        obtain ⟨q58, xf, xg, xj⟩ := q58
        rw [xj] at hH
        have ef293 := (xf 293 (by decide)).trans ef293
        have ef294 := (xf 294 (by decide)).trans ef294
        have ef295 := (xf 295 (by decide)).trans ef295
        have ef296 := (xf 296 (by decide)).trans ef296
        have ef416 := (xf 416 (by decide)).trans ef416
        have ef417 := (xf 417 (by decide)).trans ef417
        have ef418 := (xf 418 (by decide)).trans ef418
        have hfE := hfE.trans xf (by decide)
        have eg290 := (xg 290 (by decide)).trans eg290
        have eg291 := (xg 291 (by decide)).trans eg291
        have eg292 := (xg 292 (by decide)).trans eg292
        have eg419 := (xg 419 (by decide)).trans eg419
        have eg420 := (xg 420 (by decide)).trans eg420
        have eg421 := (xg 421 (by decide)).trans eg421
        have eg422 := (xg 422 (by decide)).trans eg422
        have eg423 := (xg 423 (by decide)).trans eg423
        have eg424 := (xg 424 (by decide)).trans eg424
        have hgE := hgE.trans xg (by decide)
        have qL := q58
        have ef289 := qL.trans (if_pos rfl)
        refine zc_vret (TX3_clause_0.at 32 rfl) rfl hH hA ?_
        exact ⟨by rw [cl_er (by unfold vbR; rw [if_pos rfl]; omega)]; exact mkD ef293 ef294 ef295 ef417 ef418 ef289 htk (by omega) (by omega) (by omega) ha id (by omega), hfE, hgE, rfl⟩

set_option maxHeartbeats 4000000 in
set_option maxRecDepth 100000 in
theorem v_clause_false {l : Launch} {E : cE} {f : mF} {g j : mA} {Kd : Int → Int} {Vl : Int → Int} {Pl : Int → Int} {Vb : Int → Int} {Tm : Int → Int} {On : Int → Int} {Ot : Int → Int} {Te : Int → Int} {C : Int → Int} {tk : Int} {cc : Int} {N : Int} {ag : Int} {t p : Nat} {c v : Int → Int} (eg290 : g 290 = Kd) (eg291 : g 291 = Vl) (eg292 : g 292 = Pl) (eg419 : g 419 = Vb) (eg420 : g 420 = Tm) (eg421 : g 421 = On) (eg422 : g 422 = Ot) (eg423 : g 423 = Te) (eg424 : g 424 = C) (ef289 : f 289 = (-1)) (ef293 : f 293 = tk) (ef294 : f 294 = (t : Int)) (ef295 : f 295 = (p : Int)) (ef296 : f 296 = 0) (ef416 : f 416 = cc) (ef417 : f 417 = N) (ef418 : f 418 = ag) (hk : TkH Kd Vl Pl tk c v) (t1 : (t : Int) < tk) (p1 : p ≤ 50) (hN : 0 ≤ N ∧ N ≤ t) (ha : in01 ag) (q0 : 0 ≤ cc) (q11 : cc ≤ 11) : CM l E MX3_clause 37 [.ref (E.1 319)] f g j (PV (fun f' g' j' => (ClQ Pl false (pCla false c v t p) t N ag tk cc Vb Tm On Ot Te C f' g') ∧ eqx [289, 294, 295, 416, 417, 418] f f' ∧ eqx [419, 420, 421, 422, 423, 424] g g' ∧ j' = j)) := by
  refine CM.intro [some (.ref (E.1 319)), none] (by decide) (Nat.le_of_ble_eq_true rfl) rfl (fun d hd h0 h hH hA => ?_)
  have hfE : eqx [289, 294, 295, 416, 417, 418] f f := eqx.rf
  have hgE : eqx [419, 420, 421, 422, 423, 424] g g := eqx.rf
  have htk := hk.1
  have hp0 := (hk.2.1 t (by omega) t1).2
  have hti := (hk.2.1 t (by omega) t1).1
  have tv := tk_vb hti
  refine z_ald_0 (TX3_clause_0.at 0 rfl) ?_
  refine zc_getA (m := 9) (s := 2) (k := 290) (hH.lv (by decide)) (TX3_clause_0.at 1 rfl) fl3_24 hH rfl rfl (by decide) (by decide) ?_
  refine z_ald_0 (TX3_clause_0.at 2 rfl) ?_
  refine zc_getIE (m := 9) (s := 6) (k := 294) (hH.lv (by decide)) ef294 (TX3_clause_0.at 3 rfl) fl3_37 hH rfl rfl (by decide) (by decide) (fun r5 => ?_)
  refine zcf_iald (k := 290) (N := 401) (hH.lv (by decide)) (by decide) rfl eg290 (TX3_clause_0.at 4 rfl) hH (by decide) (by omega) (show _ < ((401 : Nat) : Int) by omega) (fun r8 => ?_)
  refine z_iconst (TX3_clause_0.at 5 rfl) ?_
  refine z_icmp_ne (tgt := 25) (TX3_clause_0.at 6 rfl) rfl (by omega) (by omega) (fun c1 => ?_) (fun c1 => ?_)
  · skip
    refine z_iconst (TX3_clause_0.at 13 rfl) ?_
    refine z_ist_1 (TX3_clause_0.at 14 rfl) (Nat.le_of_ble_eq_true rfl) rfl ?_
    refine z_ald_0 (TX3_clause_0.at 15 rfl) ?_
    refine zc_getIE (m := 9) (s := 8) (k := 296) (hH.lv (by decide)) ef296 (TX3_clause_0.at 16 rfl) fl3_43 hH rfl rfl (by decide) (by decide) (fun r28 => ?_)
    refine z_if_eq (tgt := 46) (TX3_clause_0.at 17 rfl) rfl (by omega) (fun c2 => ?_) (fun c2 => absurd c2 (by decide))
    refine z_ild_1 (TX3_clause_0.at 24 rfl) ?_
    refine z_iconst (TX3_clause_0.at 25 rfl) ?_
    refine z_icmp_lt (tgt := 57) (TX3_clause_0.at 26 rfl) rfl (by omega) (by omega) (fun c3 => ?_) (fun c3 => absurd c3 (by decide))
    refine z_ald_0 (TX3_clause_0.at 30 rfl) ?_
    refine zc_callV0 (m := 9) (c_fail eg292 ef289 ef294 (by omega) (by omega) ) (hH.lv (by decide)) (TX3_clause_0.at 31 rfl) c3_54 rfl rfl hH hA (by omega) (Nat.le_of_ble_eq_true rfl) (fun f58 g58 j58 h q58 hH hA => ?_)
    obtain ⟨q58, xf, xg, xj⟩ := q58
    rw [xj] at hH
    have ef293 := (xf 293 (by decide)).trans ef293
    have ef294 := (xf 294 (by decide)).trans ef294
    have ef295 := (xf 295 (by decide)).trans ef295
    have ef296 := (xf 296 (by decide)).trans ef296
    have ef416 := (xf 416 (by decide)).trans ef416
    have ef417 := (xf 417 (by decide)).trans ef417
    have ef418 := (xf 418 (by decide)).trans ef418
    have hfE := hfE.trans xf (by decide)
    have eg290 := (xg 290 (by decide)).trans eg290
    have eg291 := (xg 291 (by decide)).trans eg291
    have eg292 := (xg 292 (by decide)).trans eg292
    have eg419 := (xg 419 (by decide)).trans eg419
    have eg420 := (xg 420 (by decide)).trans eg420
    have eg421 := (xg 421 (by decide)).trans eg421
    have eg422 := (xg 422 (by decide)).trans eg422
    have eg423 := (xg 423 (by decide)).trans eg423
    have eg424 := (xg 424 (by decide)).trans eg424
    have hgE := hgE.trans xg (by decide)
    have qL := q58
    have ef289 := qL.trans (if_pos rfl)
    refine zc_vret (TX3_clause_0.at 32 rfl) rfl hH hA ?_
    exact ⟨by rw [cl_er (by unfold vbR; rw [if_neg (by decide)]; omega)]; exact mkD ef293 ef294 ef295 ef417 ef418 ef289 htk (by omega) (by omega) (by omega) ha id (by omega), hfE, hgE, rfl⟩
  · skip
    refine z_ald_0 (TX3_clause_0.at 7 rfl) ?_
    refine zc_getA (m := 9) (s := 3) (k := 291) (hH.lv (by decide)) (TX3_clause_0.at 8 rfl) fl3_28 hH rfl rfl (by decide) (by decide) ?_
    refine z_ald_0 (TX3_clause_0.at 9 rfl) ?_
    refine zc_getIE (m := 9) (s := 6) (k := 294) (hH.lv (by decide)) ef294 (TX3_clause_0.at 10 rfl) fl3_37 hH rfl rfl (by decide) (by decide) (fun r18 => ?_)
    refine zcf_iald (k := 291) (N := 401) (hH.lv (by decide)) (by decide) rfl eg291 (TX3_clause_0.at 11 rfl) hH (by decide) (by omega) (show _ < ((401 : Nat) : Int) by omega) (fun r21 => ?_)
    refine z_goto (tgt := 26) (TX3_clause_0.at 12 rfl) rfl ?_
    refine z_ist_1 (TX3_clause_0.at 14 rfl) (Nat.le_of_ble_eq_true rfl) rfl ?_
    refine z_ald_0 (TX3_clause_0.at 15 rfl) ?_
    refine zc_getIE (m := 9) (s := 8) (k := 296) (hH.lv (by decide)) ef296 (TX3_clause_0.at 16 rfl) fl3_43 hH rfl rfl (by decide) (by decide) (fun r28 => ?_)
    refine z_if_eq (tgt := 46) (TX3_clause_0.at 17 rfl) rfl (by omega) (fun c4 => ?_) (fun c4 => absurd c4 (by decide))
    refine z_ild_1 (TX3_clause_0.at 24 rfl) ?_
    refine z_iconst (TX3_clause_0.at 25 rfl) ?_
    refine z_icmp_lt (tgt := 57) (TX3_clause_0.at 26 rfl) rfl (by omega) (by omega) (fun c5 => ?_) (fun c5 => ?_)
    · skip
      refine z_ald_0 (TX3_clause_0.at 30 rfl) ?_
      refine zc_callV0 (m := 9) (c_fail eg292 ef289 ef294 (by omega) (by omega) ) (hH.lv (by decide)) (TX3_clause_0.at 31 rfl) c3_54 rfl rfl hH hA (by omega) (Nat.le_of_ble_eq_true rfl) (fun f58 g58 j58 h q58 hH hA => ?_)
      obtain ⟨q58, xf, xg, xj⟩ := q58
      rw [xj] at hH
      have ef293 := (xf 293 (by decide)).trans ef293
      have ef294 := (xf 294 (by decide)).trans ef294
      have ef295 := (xf 295 (by decide)).trans ef295
      have ef296 := (xf 296 (by decide)).trans ef296
      have ef416 := (xf 416 (by decide)).trans ef416
      have ef417 := (xf 417 (by decide)).trans ef417
      have ef418 := (xf 418 (by decide)).trans ef418
      have hfE := hfE.trans xf (by decide)
      have eg290 := (xg 290 (by decide)).trans eg290
      have eg291 := (xg 291 (by decide)).trans eg291
      have eg292 := (xg 292 (by decide)).trans eg292
      have eg419 := (xg 419 (by decide)).trans eg419
      have eg420 := (xg 420 (by decide)).trans eg420
      have eg421 := (xg 421 (by decide)).trans eg421
      have eg422 := (xg 422 (by decide)).trans eg422
      have eg423 := (xg 423 (by decide)).trans eg423
      have eg424 := (xg 424 (by decide)).trans eg424
      have hgE := hgE.trans xg (by decide)
      have qL := q58
      have ef289 := qL.trans (if_pos rfl)
      refine zc_vret (TX3_clause_0.at 32 rfl) rfl hH hA ?_
      exact ⟨by rw [cl_er (by unfold vbR; rw [if_neg (by decide)]; omega)]; exact mkD ef293 ef294 ef295 ef417 ef418 ef289 htk (by omega) (by omega) (by omega) ha id (by omega), hfE, hgE, rfl⟩
    · skip
      refine z_ild_1 (TX3_clause_0.at 27 rfl) ?_
      refine z_bipush (by decide) (TX3_clause_0.at 28 rfl) ?_
      refine z_icmp_le (tgt := 62) (TX3_clause_0.at 29 rfl) rfl (by omega) (by omega) (fun c6 => ?_) (fun c6 => ?_)
      · skip
        have hu : ((22 ≤ c t ∧ c t ≤ 24 ∧ Vl t = c t - 19) ∨ (c t = 26 ∧ Vl t = 6)) := by omega
        refine z_ald_0 (TX3_clause_0.at 33 rfl) ?_
        refine zc_callV0 (m := 9) (c_goOn ef293 ef294 (by omega) (by omega) (by omega) (by omega) ) (hH.lv (by decide)) (TX3_clause_0.at 34 rfl) c3_179 rfl rfl hH hA (by omega) (Nat.le_of_ble_eq_true rfl) (fun f63 g63 j63 h q63 hH hA => ?_)
        obtain ⟨q63, xf, xg, xj⟩ := q63
        rw [xj] at hH
        have ef289 := (xf 289 (by decide)).trans ef289
        have ef293 := (xf 293 (by decide)).trans ef293
        have ef295 := (xf 295 (by decide)).trans ef295
        have ef296 := (xf 296 (by decide)).trans ef296
        have ef416 := (xf 416 (by decide)).trans ef416
        have ef417 := (xf 417 (by decide)).trans ef417
        have ef418 := (xf 418 (by decide)).trans ef418
        have hfE := hfE.trans xf (by decide)
        have eg290 := (xg 290 (by decide)).trans eg290
        have eg291 := (xg 291 (by decide)).trans eg291
        have eg292 := (xg 292 (by decide)).trans eg292
        have eg419 := (xg 419 (by decide)).trans eg419
        have eg420 := (xg 420 (by decide)).trans eg420
        have eg421 := (xg 421 (by decide)).trans eg421
        have eg422 := (xg 422 (by decide)).trans eg422
        have eg423 := (xg 423 (by decide)).trans eg423
        have eg424 := (xg 424 (by decide)).trans eg424
        have hgE := hgE.trans xg (by decide)
        have qL := q63
        have hgo := hk.go (i := (t : Int)) (by omega) (by omega)
        have ef294 := qL.trans hgo.1
        have t3 := hgo.2
        refine z_ald_0 (TX3_clause_0.at 35 rfl) ?_
        refine zc_getO (m := 9) (s := 0) (k := 447) (hH.lv (by decide)) (TX3_clause_0.at 36 rfl) fl3_14 hH rfl rfl (by decide) (by decide) ?_
        refine z_ild_1 (TX3_clause_0.at 37 rfl) ?_
        refine zc_callV1 (m := 13) (c_open eg419 eg420 eg421 eg422 eg423 ef416 (by omega) (by omega) (by omega) ) (hH.lv (by decide)) (TX3_clause_0.at 38 rfl) c3_182 rfl rfl hH hA (by omega) (Nat.le_of_ble_eq_true rfl) (fun f71 g71 j71 h q71 hH hA => ?_)
        obtain ⟨q71, xf, xg, xj⟩ := q71
        rw [xj] at hH
        have ef289 := (xf 289 (by decide)).trans ef289
        have ef293 := (xf 293 (by decide)).trans ef293
        have ef294 := (xf 294 (by decide)).trans ef294
        have ef295 := (xf 295 (by decide)).trans ef295
        have ef296 := (xf 296 (by decide)).trans ef296
        have ef416 := (xf 416 (by decide)).trans ef416
        have ef417 := (xf 417 (by decide)).trans ef417
        have ef418 := (xf 418 (by decide)).trans ef418
        have hfE := hfE.trans xf (by decide)
        have eg290 := (xg 290 (by decide)).trans eg290
        have eg291 := (xg 291 (by decide)).trans eg291
        have eg292 := (xg 292 (by decide)).trans eg292
        have eg424 := (xg 424 (by decide)).trans eg424
        have hgE := hgE.trans xg (by decide)
        have qL := q71
        obtain ⟨eg419, eg420, eg421, eg422, eg423⟩ := qL
        refine z_ild_1 (TX3_clause_0.at 39 rfl) ?_
        refine z_iconst (TX3_clause_1.at 0 rfl) ?_
        refine z_icmp_eq (tgt := 104) (TX3_clause_1.at 1 rfl) rfl (by omega) (by omega) (fun c7 => absurd c7 (by omega)) (fun c7 => ?_)
        refine z_ild_1 (TX3_clause_1.at 2 rfl) ?_
        refine z_bipush (by decide) (TX3_clause_1.at 3 rfl) ?_
        refine z_icmp_eq (tgt := 104) (TX3_clause_1.at 4 rfl) rfl (by omega) (by omega) (fun c8 => ?_) (fun c8 => ?_)
        · skip
          refine z_ild_1 (TX3_clause_1.at 14 rfl) ?_
          refine z_iconst (TX3_clause_1.at 15 rfl) ?_
          refine z_icmp_ne (tgt := 145) (TX3_clause_1.at 16 rfl) rfl (by omega) (by omega) (fun c9 => ?_) (fun c9 => absurd c9 (by omega))
          exact v_cl145 (u := Vl t) (t := t) (N := N) (ag := ag) (Vb := Vb) (Tm := Tm) (On := On) (Ot := Ot) (Te := Te) (C := C) (vb := 26) (t2 := (t + 1)) (p2 := p) (by omega) (by omega) hk (by omega) (by omega) (by omega) ha q0 q11 (by omega) id (fun q _ => rfl) (fun i hi => ⟨iu_ne (by omega), iu_ne (by omega), iu_ne (by omega), iu_ne (by omega), iu_ne (by omega)⟩) (by rw [iu_self]; unfold vz; rw [if_neg (by decide), if_neg (by decide)]; omega) (iu_self _ _ _) (Or.inl ⟨Or.inr rfl, iu_self _ _ _, rfl⟩) (Or.inr ⟨by decide, iu_self _ _ _, rfl⟩) (iu_self _ _ _) (fun _ => ⟨Ng_one, Ng_one⟩) (by unfold vbR; rw [if_neg (by decide)]; omega) (fun f' g' hX => by rw [cl_26 (by omega)]; exact hX) rfl eg290 eg291 eg292 eg419 eg420 eg421 eg422 eg423 eg424 ef289 ef293 (ef294.trans (by omega)) ef295 ef296 ef416 ef417 ef418 hfE hgE hH hA
        · skip
          refine z_ald_0 (TX3_clause_1.at 5 rfl) ?_
          refine zc_getO (m := 9) (s := 0) (k := 447) (hH.lv (by decide)) (TX3_clause_1.at 6 rfl) fl3_14 hH rfl rfl (by decide) (by decide) ?_
          refine zc_getA (m := 13) (s := 5) (k := 421) (hH.lv (by decide)) (TX3_clause_1.at 7 rfl) fl3_186 hH rfl rfl (by decide) (by decide) ?_
          refine z_ald_0 (TX3_clause_1.at 8 rfl) ?_
          refine zc_getO (m := 9) (s := 0) (k := 447) (hH.lv (by decide)) (TX3_clause_1.at 9 rfl) fl3_14 hH rfl rfl (by decide) (by decide) ?_
          refine zc_getIE (m := 13) (s := 0) (k := 416) (hH.lv (by decide)) ef416 (TX3_clause_1.at 10 rfl) fl3_189 hH rfl rfl (by decide) (by decide) (fun r96 => ?_)
          refine z_ald_0 (TX3_clause_1.at 11 rfl) ?_
          refine zc_callI0 (m := 9) (v_whole_false (t := t + 1) (p := p) eg290 eg291 eg292 eg424 ef289 ef293 (ef294.trans (by omega)) ef295 ef296 ef417 ef418 hk (by omega) (by omega) (by omega) ha) (hH.lv (by decide)) (TX3_clause_1.at 12 rfl) c3_192 rfl rfl hH hA (by omega) (Nat.le_of_ble_eq_true rfl) (fun x100 f100 g100 j100 h r100 q100 hH hA => ?_)
          obtain ⟨q100, xf, xg, xj⟩ := q100
          rw [xj] at hH
          have ef293 := (xf 293 (by decide)).trans ef293
          have ef296 := (xf 296 (by decide)).trans ef296
          have ef416 := (xf 416 (by decide)).trans ef416
          have hfE := hfE.trans xf (by decide)
          have eg290 := (xg 290 (by decide)).trans eg290
          have eg291 := (xg 291 (by decide)).trans eg291
          have eg292 := (xg 292 (by decide)).trans eg292
          have eg419 := (xg 419 (by decide)).trans eg419
          have eg420 := (xg 420 (by decide)).trans eg420
          have eg421 := (xg 421 (by decide)).trans eg421
          have eg422 := (xg 422 (by decide)).trans eg422
          have eg423 := (xg 423 (by decide)).trans eg423
          have hgE := hgE.trans xg (by decide)
          have qL := q100
          have hws := qL.2
          have hrv := qL.1.symm
          subst hrv
          obtain ⟨C2, eg424⟩ : ∃ z, g100 424 = z := ⟨_, rfl⟩
          have hC2 := eg424
          refine zcf_iast (k := 421) (N := 12) (hH.lv (by decide)) (by decide) rfl (TX3_clause_1.at 13 rfl) hH hA (by decide) (by omega) (show _ < ((12 : Nat) : Int) by omega) (by omega) (fun h g103 e1 e2 hH hA => ?_)
          have eg290 := (e1 290 (by decide)).trans eg290
          have eg291 := (e1 291 (by decide)).trans eg291
          have eg292 := (e1 292 (by decide)).trans eg292
          have eg419 := (e1 419 (by decide)).trans eg419
          have eg420 := (e1 420 (by decide)).trans eg420
          rw [eg421] at e2; have eg421 := e2
          have eg422 := (e1 422 (by decide)).trans eg422
          have eg423 := (e1 423 (by decide)).trans eg423
          have eg424 := (e1 424 (by decide)).trans eg424
          have hgE := hgE.put e1 (by decide)
          rcases hs : pSumD false c v 8 (t + 1) p with e | r
          · rw [hs] at hws
            exact dd_cl104 (u := Vl t) (by omega) (by omega) (show DdS tk (Pl e) ag _ from hws) q0 q11 (fun f' g' hX => by by_cases h24 : c t = 24; rw [cl_24 h24, hs]; exact hX; rw [cl_22 (by omega), hs]; exact hX) rfl ef416 ef296 hfE hgE hH hA
          obtain ⟨t2, p2, k1⟩ := r
          rw [hs] at hws
          obtain ⟨w1, w2, w3, w4, w5, w6, w7, w8, w9, w10, w11, w12, w13⟩ := hws
          have ef289 := w1
          have ef294 := w3
          have ef295 := w4
          obtain ⟨N2, ef417⟩ : ∃ z, f100 417 = z := ⟨_, rfl⟩
          obtain ⟨ag2, ef418⟩ : ∃ z, f100 418 = z := ⟨_, rfl⟩
          rw [ef417] at w7 w8 w12
          rw [ef418] at w9 w10 w13
          rw [hC2] at w11 w12
          refine z_ild_1 (TX3_clause_1.at 14 rfl) ?_
          refine z_iconst (TX3_clause_1.at 15 rfl) ?_
          refine z_icmp_ne (tgt := 145) (TX3_clause_1.at 16 rfl) rfl (by omega) (by omega) (fun c10 => ?_) (fun c10 => ?_)
          · skip
            exact v_cl145 (u := Vl t) (t := t) (N := N) (ag := ag) (Vb := Vb) (Tm := Tm) (On := On) (Ot := Ot) (Te := Te) (C := C) (vb := (c t)) (t2 := t2) (p2 := p2) (by omega) (by omega) hk (by omega) (by omega) (by omega) w9 q0 q11 (by omega) w10 w11 (fun i hi => ⟨iu_ne (by omega), iu_ne (by omega), (iu_ne (by omega)).trans (iu_ne (by omega)), iu_ne (by omega), iu_ne (by omega)⟩) (by rw [iu_self]; unfold vz; rw [if_neg (by omega), if_pos (by omega)]; omega) (iu_self _ _ _) (Or.inr ⟨by omega, by rw [iu_self]; exact w12⟩) (Or.inr ⟨by omega, iu_self _ _ _, rfl⟩) (iu_self _ _ _) (fun z => ⟨w13 z, Ng_one⟩) (by unfold vbR; rw [if_neg (by decide)]; omega) (fun f' g' hX => by rw [cl_22 (by omega), hs]; exact hX) rfl eg290 eg291 eg292 eg419 eg420 eg421 eg422 eg423 eg424 ef289 ef293 ef294 ef295 ef296 ef416 ef417 ef418 hfE hgE hH hA
          · skip
            refine z_ald_0 (TX3_clause_1.at 17 rfl) ?_
            refine z_bipush (by decide) (TX3_clause_1.at 18 rfl) ?_
            refine zc_callI1 (m := 9) (c_isWord eg290 eg291 ef294 (by omega) (by omega) (by omega) ) (hH.lv (by decide)) (TX3_clause_1.at 19 rfl) c3_195 rfl rfl hH hA (by omega) (Nat.le_of_ble_eq_true rfl) (fun x112 f112 g112 j112 h r112 q112 hH hA => ?_)
            obtain ⟨q112, xf, xg, xj⟩ := q112
            rw [xj] at hH
            have ef289 := (xf 289 (by decide)).trans ef289
            have ef293 := (xf 293 (by decide)).trans ef293
            have ef294 := (xf 294 (by decide)).trans ef294
            have ef295 := (xf 295 (by decide)).trans ef295
            have ef296 := (xf 296 (by decide)).trans ef296
            have ef416 := (xf 416 (by decide)).trans ef416
            have ef417 := (xf 417 (by decide)).trans ef417
            have ef418 := (xf 418 (by decide)).trans ef418
            have hfE := hfE.trans xf (by decide)
            have eg290 := (xg 290 (by decide)).trans eg290
            have eg291 := (xg 291 (by decide)).trans eg291
            have eg292 := (xg 292 (by decide)).trans eg292
            have eg419 := (xg 419 (by decide)).trans eg419
            have eg420 := (xg 420 (by decide)).trans eg420
            have eg421 := (xg 421 (by decide)).trans eg421
            have eg422 := (xg 422 (by decide)).trans eg422
            have eg423 := (xg 423 (by decide)).trans eg423
            have eg424 := (xg 424 (by decide)).trans eg424
            have hgE := hgE.trans xg (by decide)
            have qL := q112
            rw [b2i_cg (tk_wi (hk.2.1 t2 (by omega) (by omega)).1)] at qL
            subst qL
            refine z_if_neB (tgt := 122) (TX3_clause_1.at 20 rfl) rfl (fun c11 => ?_) (fun c11 => ?_)
            · skip
              refine z_ald_0 (TX3_clause_1.at 23 rfl) ?_
              refine zc_callV0 (m := 9) (c_goOn ef293 ef294 (by omega) (by omega) (by omega) (by omega) ) (hH.lv (by decide)) (TX3_clause_1.at 24 rfl) c3_179 rfl rfl hH hA (by omega) (Nat.le_of_ble_eq_true rfl) (fun f123 g123 j123 h q123 hH hA => ?_)
              obtain ⟨q123, xf, xg, xj⟩ := q123
              rw [xj] at hH
              have ef289 := (xf 289 (by decide)).trans ef289
              have ef293 := (xf 293 (by decide)).trans ef293
              have ef295 := (xf 295 (by decide)).trans ef295
              have ef296 := (xf 296 (by decide)).trans ef296
              have ef416 := (xf 416 (by decide)).trans ef416
              have ef417 := (xf 417 (by decide)).trans ef417
              have ef418 := (xf 418 (by decide)).trans ef418
              have hfE := hfE.trans xf (by decide)
              have eg290 := (xg 290 (by decide)).trans eg290
              have eg291 := (xg 291 (by decide)).trans eg291
              have eg292 := (xg 292 (by decide)).trans eg292
              have eg419 := (xg 419 (by decide)).trans eg419
              have eg420 := (xg 420 (by decide)).trans eg420
              have eg421 := (xg 421 (by decide)).trans eg421
              have eg422 := (xg 422 (by decide)).trans eg422
              have eg423 := (xg 423 (by decide)).trans eg423
              have eg424 := (xg 424 (by decide)).trans eg424
              have hgE := hgE.trans xg (by decide)
              have qL := q123
              have hgo := hk.go (i := (t2 : Int)) (by omega) (by omega)
              have ef294 := qL.trans hgo.1
              have t3 := hgo.2
              refine z_ald_0 (TX3_clause_1.at 25 rfl) ?_
              refine zc_getO (m := 9) (s := 0) (k := 447) (hH.lv (by decide)) (TX3_clause_1.at 26 rfl) fl3_14 hH rfl rfl (by decide) (by decide) ?_
              refine zc_getA (m := 13) (s := 6) (k := 422) (hH.lv (by decide)) (TX3_clause_1.at 27 rfl) fl3_198 hH rfl rfl (by decide) (by decide) ?_
              refine z_ald_0 (TX3_clause_1.at 28 rfl) ?_
              refine zc_getO (m := 9) (s := 0) (k := 447) (hH.lv (by decide)) (TX3_clause_1.at 29 rfl) fl3_14 hH rfl rfl (by decide) (by decide) ?_
              refine zc_getIE (m := 13) (s := 0) (k := 416) (hH.lv (by decide)) ef416 (TX3_clause_1.at 30 rfl) fl3_189 hH rfl rfl (by decide) (by decide) (fun r137 => ?_)
              refine z_ald_0 (TX3_clause_1.at 31 rfl) ?_
              refine zc_callI0 (m := 9) (v_whole_false (t := t2 + 1) (p := p2) eg290 eg291 eg292 eg424 ef289 ef293 (ef294.trans (by omega)) ef295 ef296 ef417 ef418 hk (by omega) (by omega) (by omega) w9) (hH.lv (by decide)) (TX3_clause_1.at 32 rfl) c3_192 rfl rfl hH hA (by omega) (Nat.le_of_ble_eq_true rfl) (fun x141 f141 g141 j141 h r141 q141 hH hA => ?_)
              obtain ⟨q141, xf, xg, xj⟩ := q141
              rw [xj] at hH
              have ef293 := (xf 293 (by decide)).trans ef293
              have ef296 := (xf 296 (by decide)).trans ef296
              have ef416 := (xf 416 (by decide)).trans ef416
              have hfE := hfE.trans xf (by decide)
              have eg290 := (xg 290 (by decide)).trans eg290
              have eg291 := (xg 291 (by decide)).trans eg291
              have eg292 := (xg 292 (by decide)).trans eg292
              have eg419 := (xg 419 (by decide)).trans eg419
              have eg420 := (xg 420 (by decide)).trans eg420
              have eg421 := (xg 421 (by decide)).trans eg421
              have eg422 := (xg 422 (by decide)).trans eg422
              have eg423 := (xg 423 (by decide)).trans eg423
              have hgE := hgE.trans xg (by decide)
              have qL := q141
              have hws2 := qL.2
              have hrv2 := qL.1.symm
              subst hrv2
              obtain ⟨C3, eg424⟩ : ∃ z, g141 424 = z := ⟨_, rfl⟩
              have hC3 := eg424
              refine zcf_iast (k := 422) (N := 12) (hH.lv (by decide)) (by decide) rfl (TX3_clause_1.at 33 rfl) hH hA (by decide) (by omega) (show _ < ((12 : Nat) : Int) by omega) (by omega) (fun h g144 e1 e2 hH hA => ?_)
              have eg290 := (e1 290 (by decide)).trans eg290
              have eg291 := (e1 291 (by decide)).trans eg291
              have eg292 := (e1 292 (by decide)).trans eg292
              have eg419 := (e1 419 (by decide)).trans eg419
              have eg420 := (e1 420 (by decide)).trans eg420
              have eg421 := (e1 421 (by decide)).trans eg421
              rw [eg422] at e2; have eg422 := e2
              have eg423 := (e1 423 (by decide)).trans eg423
              have eg424 := (e1 424 (by decide)).trans eg424
              have hgE := hgE.put e1 (by decide)
              rcases hs2 : pSumD false c v 8 (t2 + 1) p2 with e | r
              · rw [hs2] at hws2
                exact dd_cl145 (u := Vl t) (by omega) (by omega) ((show DdS tk (Pl e) ag2 _ from hws2).agm w10) q0 q11 (fun f' g' hX => by rw [cl_24 (by omega), hs]; simp only; rw [if_pos (show c t2 = 25 by omega), hs2]; exact hX) rfl ef416 ef296 hfE hgE hH hA
              obtain ⟨t3, p3, k2⟩ := r
              rw [hs2] at hws2
              obtain ⟨y1, y2, y3, y4, y5, y6, y7, y8, y9, y10, y11, y12, y13⟩ := hws2
              have ef289 := y1
              have ef294 := y3
              have ef295 := y4
              obtain ⟨N3, ef417⟩ : ∃ z, f141 417 = z := ⟨_, rfl⟩
              obtain ⟨ag3, ef418⟩ : ∃ z, f141 418 = z := ⟨_, rfl⟩
              rw [ef417] at y7 y8 y12
              rw [ef418] at y9 y10 y13
              rw [hC3] at y11 y12
              exact v_cl145 (u := Vl t) (t := t) (N := N) (ag := ag) (Vb := Vb) (Tm := Tm) (On := On) (Ot := Ot) (Te := Te) (C := C) (vb := 24) (t2 := t3) (p2 := p3) (by omega) (by omega) hk (by omega) (by omega) (by omega) y9 q0 q11 (by omega) (fun z => y10 (w10 z)) (fun q hq => by rw [y11 q (by omega)]; exact w11 q hq) (fun i hi => ⟨iu_ne (by omega), iu_ne (by omega), (iu_ne (by omega)).trans (iu_ne (by omega)), (iu_ne (by omega)).trans (iu_ne (by omega)), iu_ne (by omega)⟩) (by rw [iu_self]; have hq5 : Vl t = 5 := (by omega); rw [hq5]; rfl) (iu_self _ _ _) (Or.inr ⟨by decide, by rw [iu_self]; exact w12.keep y11 (by omega)⟩) (Or.inl ⟨rfl, by rw [iu_self]; exact y12⟩) (iu_self _ _ _) (fun z => ⟨w13 (by rcases w9 with q | q; exact q; exact absurd (y10 q) (by omega)), y13 z⟩) (by unfold vbR; rw [if_neg (by decide)]; omega) (fun f' g' hX => by rw [cl_24 (by omega), hs]; simp only; rw [if_pos (show c t2 = 25 by omega), hs2]; exact hX) rfl eg290 eg291 eg292 eg419 eg420 eg421 eg422 eg423 eg424 ef289 ef293 ef294 ef295 ef296 ef416 ef417 ef418 hfE hgE hH hA
            · skip
              refine z_ald_0 (TX3_clause_1.at 21 rfl) ?_
              refine zc_callV0 (m := 9) (c_fail eg292 ef289 ef294 (by omega) (by omega) ) (hH.lv (by decide)) (TX3_clause_1.at 22 rfl) c3_54 rfl rfl hH hA (by omega) (Nat.le_of_ble_eq_true rfl) (fun f119 g119 j119 h q119 hH hA => ?_)
              obtain ⟨q119, xf, xg, xj⟩ := q119
              rw [xj] at hH
              have ef293 := (xf 293 (by decide)).trans ef293
              have ef294 := (xf 294 (by decide)).trans ef294
              have ef295 := (xf 295 (by decide)).trans ef295
              have ef296 := (xf 296 (by decide)).trans ef296
              have ef416 := (xf 416 (by decide)).trans ef416
              have ef417 := (xf 417 (by decide)).trans ef417
              have ef418 := (xf 418 (by decide)).trans ef418
              have hfE := hfE.trans xf (by decide)
              have eg290 := (xg 290 (by decide)).trans eg290
              have eg291 := (xg 291 (by decide)).trans eg291
              have eg292 := (xg 292 (by decide)).trans eg292
              have eg419 := (xg 419 (by decide)).trans eg419
              have eg420 := (xg 420 (by decide)).trans eg420
              have eg421 := (xg 421 (by decide)).trans eg421
              have eg422 := (xg 422 (by decide)).trans eg422
              have eg423 := (xg 423 (by decide)).trans eg423
              have eg424 := (xg 424 (by decide)).trans eg424
              have hgE := hgE.trans xg (by decide)
              have qL := q119
              have ef289 := qL.trans (if_pos rfl)
              have hS : DdS tk (Pl (t2 : Int)) ag _ := mkD ef293 ef294 ef295 ef417 ef418 ef289 htk (by omega) (by omega) (by omega) w9 w10 (by have := (hk.2.1 (t2 : Int) (by omega) w5).2; omega)
              exact dd_cl122 (u := Vl t) (by omega) (by omega) hS q0 q11 (fun f' g' hX => by rw [cl_24 (by omega), hs]; simp only; rw [if_neg (show ¬ c t2 = 25 by omega)]; exact hX) rfl ef416 ef296 hfE hgE hH hA
      · skip
        refine z_ald_0 (TX3_clause_0.at 30 rfl) ?_
        refine zc_callV0 (m := 9) (c_fail eg292 ef289 ef294 (by omega) (by omega) ) (hH.lv (by decide)) (TX3_clause_0.at 31 rfl) c3_54 rfl rfl hH hA (by omega) (Nat.le_of_ble_eq_true rfl) (fun f58 g58 j58 h q58 hH hA => ?_)
        obtain ⟨q58, xf, xg, xj⟩ := q58
        rw [xj] at hH
        have ef293 := (xf 293 (by decide)).trans ef293
        have ef294 := (xf 294 (by decide)).trans ef294
        have ef295 := (xf 295 (by decide)).trans ef295
        have ef296 := (xf 296 (by decide)).trans ef296
        have ef416 := (xf 416 (by decide)).trans ef416
        have ef417 := (xf 417 (by decide)).trans ef417
        have ef418 := (xf 418 (by decide)).trans ef418
        have hfE := hfE.trans xf (by decide)
        have eg290 := (xg 290 (by decide)).trans eg290
        have eg291 := (xg 291 (by decide)).trans eg291
        have eg292 := (xg 292 (by decide)).trans eg292
        have eg419 := (xg 419 (by decide)).trans eg419
        have eg420 := (xg 420 (by decide)).trans eg420
        have eg421 := (xg 421 (by decide)).trans eg421
        have eg422 := (xg 422 (by decide)).trans eg422
        have eg423 := (xg 423 (by decide)).trans eg423
        have eg424 := (xg 424 (by decide)).trans eg424
        have hgE := hgE.trans xg (by decide)
        have qL := q58
        have ef289 := qL.trans (if_pos rfl)
        refine zc_vret (TX3_clause_0.at 32 rfl) rfl hH hA ?_
        exact ⟨by rw [cl_er (by unfold vbR; rw [if_neg (by decide)]; omega)]; exact mkD ef293 ef294 ef295 ef417 ef418 ef289 htk (by omega) (by omega) (by omega) ha id (by omega), hfE, hgE, rfl⟩

