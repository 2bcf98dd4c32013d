/-! ===== the class: a clause is read ===== -/
def vz (v : Int) : Int := if v ≤ 3 then v - 1 else if v ≤ 24 then v - 19 else 6
def OnR (C : Int → Int) (N vb o : Int) (d : Den) : Prop := ((vb = 3 ∨ vb = 26) ∧ o = -1 ∧ d = dOne) ∨ (¬ (vb = 3 ∨ vb = 26) ∧ SmZ C N o d)
def OtR (C : Int → Int) (N vb o : Int) (d : Den) : Prop := (vb = 24 ∧ SmZ C N o d) ∨ (vb ≠ 24 ∧ o = -1 ∧ d = dOne)
def TeR (C : Int → Int) (N o : Int) (q : Option Den) : Prop := (o = -1 ∧ q = none) ∨ ∃ kk, q = some kk ∧ SmZ C N o kk ∧ B01 kk
def CLz (Vb Tm On Ot Te C : Int → Int) (N i : Int) (k : Cla) : Prop := Vb i = vz k.1 ∧ Tm i = k.2.2.2.1 ∧ OnR C N k.1 (On i) k.2.1 ∧ OtR C N k.1 (Ot i) k.2.2.1 ∧ TeR C N (Te i) k.2.2.2.2
def NgC (k : Cla) : Prop := Ng k.2.1 ∧ Ng k.2.2.1 ∧ ∀ kk, k.2.2.2.2 = some kk → Ng kk
def vbR (lw : Bool) (v : Int) : Prop := if lw = true then 1 ≤ v ∧ v ≤ 3 else (22 ≤ v ∧ v ≤ 24) ∨ v = 26
def Rw5 (cc : Int) (Vb Tm On Ot Te Vb' Tm' On' Ot' Te' : Int → Int) : Prop := ∀ i : Int, i < cc → Vb' i = Vb i ∧ Tm' i = Tm i ∧ On' i = On i ∧ Ot' i = Ot i ∧ Te' i = Te i
def ClQ (Pl : Int → Int) (lw : Bool) (R : Except Nat (Nat × Nat × Cla)) (t : Nat) (N ag tk cc : Int) (Vb Tm On Ot Te C : Int → Int) (f' : mF) (g' : mA) : Prop := match R with
  | .error e => DdS tk (Pl e) ag f'
  | .ok (t', p', k) => f' 289 = -1 ∧ f' 293 = tk ∧ f' 294 = (t' : Int) ∧ f' 295 = (p' : Int) ∧ (t' : Int) < tk ∧ p' ≤ 50 ∧ N ≤ f' 417 ∧ f' 417 + t ≤ t' + N ∧ in01 (f' 418) ∧ (ag = 1 → f' 418 = 1) ∧ (∀ q : Int, q < N → g' 424 q = C q) ∧ f' 416 = cc + 1 ∧ Rw5 cc Vb Tm On Ot Te (g' 419) (g' 420) (g' 421) (g' 422) (g' 423) ∧ CLz (g' 419) (g' 420) (g' 421) (g' 422) (g' 423) (g' 424) (f' 417) cc k ∧ (f' 418 = 0 → NgC k) ∧ vbR lw k.1
theorem OnR.keep {C C' : Int → Int} {N N' vb o : Int} {d : Den} (h : OnR C N vb o d) (hC : ∀ q : Int, q < N → C' q = C q) (hN : N ≤ N') : OnR C' N' vb o d := by
  rcases h with h | h
  · exact Or.inl h
  · exact Or.inr ⟨h.1, h.2.keep hC hN⟩
theorem OtR.keep {C C' : Int → Int} {N N' vb o : Int} {d : Den} (h : OtR C N vb o d) (hC : ∀ q : Int, q < N → C' q = C q) (hN : N ≤ N') : OtR C' N' vb o d := by
  rcases h with h | h
  · exact Or.inl ⟨h.1, h.2.keep hC hN⟩
  · exact Or.inr h
theorem TeR.keep {C C' : Int → Int} {N N' o : Int} {q : Option Den} (h : TeR C N o q) (hC : ∀ q : Int, q < N → C' q = C q) (hN : N ≤ N') : TeR C' N' o q := by
  rcases h with h | ⟨kk, h1, h2, h3⟩
  · exact Or.inl h
  · exact Or.inr ⟨kk, h1, h2.keep hC hN, h3⟩
theorem CLz.keep {Vb Tm On Ot Te Vb' Tm' On' Ot' Te' C C' : Int → Int} {N N' i cc : Int} {k : Cla} (h : CLz Vb Tm On Ot Te C N i k) (hi : i < cc) (hr : Rw5 cc Vb Tm On Ot Te Vb' Tm' On' Ot' Te') (hC : ∀ q : Int, q < N → C' q = C q) (hN : N ≤ N') : CLz Vb' Tm' On' Ot' Te' C' N' i k := by
  obtain ⟨h1, h2, h3, h4, h5⟩ := h
  obtain ⟨r1, r2, r3, r4, r5⟩ := hr i hi
  unfold CLz
  rw [r1, r2, r3, r4, r5]
  exact ⟨h1, h2, h3.keep hC hN, h4.keep hC hN, h5.keep hC hN⟩
theorem Ng_one : Ng dOne := fun _ _ _ => rfl
section CF
variable {Pl c v Vb Tm On Ot Te C Vb2 Tm2 On2 Ot2 Te2 C2 : Int → Int} {lw : Bool} {t t2 p2 : Nat} {N ag tk cc N2 ag2 vb tm : Int} {d1 d2 : Den} {f1 f' : mF} {g1 : mA}
theorem cl_fin0 (hif : c t2 ≠ 4) (e289 : f' 289 = -1) (e293 : f' 293 = tk) (e294 : f' 294 = (t2 : Int)) (e295 : f' 295 = (p2 : Int)) (t1 : (t2 : Int) < tk) (p1 : p2 ≤ 50) (e417 : f' 417 = N2) (e418 : f' 418 = ag2) (e416 : f' 416 = cc + 1) (hsl : N ≤ N2 ∧ N2 + t ≤ t2 + N) (ha : in01 ag2) (hag : ag = 1 → ag2 = 1) (hkp : ∀ q : Int, q < N → C2 q = C q) (hr : Rw5 cc Vb Tm On Ot Te Vb2 Tm2 On2 Ot2 Te2) (hv : Vb2 cc = vz vb) (ht : Tm2 cc = tm) (h1 : OnR C2 N2 vb (On2 cc) d1) (h2 : OtR C2 N2 vb (Ot2 cc) d2) (hte : Te2 cc = -1) (hng : ag2 = 0 → Ng d1 ∧ Ng d2) (hvb : vbR lw vb) (eg19 : g1 419 = Vb2) (eg20 : g1 420 = Tm2) (eg21 : g1 421 = On2) (eg22 : g1 422 = Ot2) (eg23 : g1 423 = Te2) (eg24 : g1 424 = C2) : ClQ Pl lw (finC lw c v vb d1 d2 tm t2 p2) t N ag tk cc Vb Tm On Ot Te C f' g1 := by
  have hR : finC lw c v vb d1 d2 tm t2 p2 = .ok (t2, p2, (vb, d1, d2, tm, none)) := by
    unfold finC pIf
    rw [if_neg hif]
  rw [hR]
  refine ⟨e289, e293, e294, e295, t1, p1, by omega, by omega, by rw [e418]; exact ha, by rw [e418]; exact hag, by rw [eg24]; exact hkp, e416, by rw [eg19, eg20, eg21, eg22, eg23]; exact hr, ?_, fun z => ?_, hvb⟩
  · rw [eg19, eg20, eg21, eg22, eg23, eg24, e417]
    exact ⟨hv, ht, h1, h2, Or.inl ⟨hte, rfl⟩⟩
  · rw [e418] at z
    exact ⟨(hng z).1, (hng z).2, fun kk h => absurd h (by simp)⟩
theorem cl_fin1 (hif : c t2 = 4) (hw : WsQ Pl (pTestD lw c v 8 (t2 + 1) p2) (t2 + 1) N2 ag2 tk C2 f1 g1) (e1 : ∀ q, q ≠ 416 → f' q = f1 q) (e416 : f' 416 = cc + 1) (hN2 : 0 ≤ N2) (hsl : N ≤ N2 ∧ N2 + t ≤ t2 + N) (ha : in01 ag2) (hag : ag = 1 → ag2 = 1) (hkp : ∀ q : Int, q < N → C2 q = C q) (hr : Rw5 cc Vb Tm On Ot Te Vb2 Tm2 On2 Ot2 Te2) (hv : Vb2 cc = vz vb) (ht : Tm2 cc = tm) (h1 : OnR C2 N2 vb (On2 cc) d1) (h2 : OtR C2 N2 vb (Ot2 cc) d2) (hng : ag2 = 0 → Ng d1 ∧ Ng d2) (hvb : vbR lw vb) (eg19 : g1 419 = Vb2) (eg20 : g1 420 = Tm2) (eg21 : g1 421 = On2) (eg22 : g1 422 = Ot2) (eg23 : g1 423 = iu Te2 cc N2) : ClQ Pl lw (finC lw c v vb d1 d2 tm t2 p2) t N ag tk cc Vb Tm On Ot Te C f' g1 := by
  have hR : finC lw c v vb d1 d2 tm t2 p2 = (match pTestD lw c v 8 (t2 + 1) p2 with | .error e => .error e | .ok (t', p', k) => .ok (t', p', (vb, d1, d2, tm, some k))) := by
    unfold finC pIf
    rw [if_pos hif]
    cases pTestD lw c v 8 (t2 + 1) p2 <;> rfl
  have hB := B01R_test (lw := lw) (c := c) (v := v) 8 (t2 + 1) p2
  rw [hR]
  cases hs : pTestD lw c v 8 (t2 + 1) p2 with
  | error e =>
    rw [hs] at hw
    exact ((show DdS tk (Pl e) ag2 f1 from hw).cc e1).agm hag
  | ok r =>
    obtain ⟨t3, p3, kk⟩ := r
    rw [hs] at hw
    obtain ⟨w1, w2, w3, w4, w5, w6, w7, w8, w9, w10, w11, w12, w13⟩ := hw
    have x417 := e1 417 (by decide)
    have x418 := e1 418 (by decide)
    refine ⟨(e1 289 (by decide)).trans w1, (e1 293 (by decide)).trans w2, (e1 294 (by decide)).trans w3, (e1 295 (by decide)).trans w4, w5, w6, by omega, by omega, by rw [x418]; exact w9, fun z => by rw [x418]; exact w10 (hag z), fun q hq => by rw [w11 q (by omega), hkp q hq], e416, ?_, ?_, fun z => ?_, hvb⟩
    · rw [eg19, eg20, eg21, eg22, eg23]
      intro i hi
      obtain ⟨r1, r2, r3, r4, r5⟩ := hr i hi
      exact ⟨r1, r2, r3, r4, by rw [iu_ne (by omega)]; exact r5⟩
    · rw [eg19, eg20, eg21, eg22, eg23, x417]
      refine ⟨hv, ht, h1.keep w11 (by omega), h2.keep w11 (by omega), Or.inr ⟨kk, rfl, ?_, hB _ _ _ hs⟩⟩
      rw [iu_self]
      exact w12
    · rw [x418] at z
      have a2 : ag2 = 0 := by
        rcases ha with y | y
        · exact y
        · exact absurd (w10 y) (by omega)
      exact ⟨(hng a2).1, (hng a2).2, fun k2 h => by rw [← Option.some.inj h]; exact w13 z⟩
end CF
theorem tk_vb {Kd Vl c v : Int → Int} {i : Int} (h : TkA Kd Vl c v i) : (Kd i ≠ 2 ∧ ¬ (1 ≤ c i ∧ c i ≤ 27)) ∨ (Kd i = 2 ∧ ((1 ≤ c i ∧ c i ≤ 3 ∧ Vl i = c i - 1) ∨ (22 ≤ c i ∧ c i ≤ 24 ∧ Vl i = c i - 19) ∨ (c i = 26 ∧ Vl i = 6) ∨ (¬ (1 ≤ c i ∧ c i ≤ 3) ∧ ¬ (22 ≤ c i ∧ c i ≤ 24) ∧ c i ≠ 26 ∧ ¬ (0 ≤ Vl i ∧ Vl i ≤ 6)))) := by unfold TkA WdA at h; omega
set_option maxHeartbeats 4000000 in
set_option maxRecDepth 100000 in
theorem v_cl187_true {l : Launch} {E : cE} {d : Nat} {Pz : Option Value → zH → Prop} {h0 h : zH} {f0 f : mF} {g0 g j : mA} {u tk N ag cc N2 ag2 vb tm : Int} {Qx : mF → mA → Prop} {Kd Vl Pl c v Vb Tm On Ot Te C Vb2 Tm2 On2 Ot2 Te2 C2 : Int → Int} {t t2 p2 : Nat} {d1 d2 : Den} (hd : 37 ≤ d) (hzu : zIn u) (hk : TkH Kd Vl Pl tk c v) (t1 : (t2 : Int) < tk) (p1 : p2 ≤ 50) (hN2 : 0 ≤ N2 ∧ N2 ≤ t2) (ha : in01 ag2) (q0 : 0 ≤ cc) (q11 : cc ≤ 11) (hsl : N ≤ N2 ∧ N2 + t ≤ t2 + N) (hag : ag = 1 → ag2 = 1) (hkp : ∀ q : Int, q < N → C2 q = C q) (hr : Rw5 cc Vb Tm On Ot Te Vb2 Tm2 On2 Ot2 Te2) (hv : Vb2 cc = vz vb) (htm : Tm2 cc = tm) (h1 : OnR C2 N2 vb (On2 cc) d1) (h2 : OtR C2 N2 vb (Ot2 cc) d2) (hte : Te2 cc = -1) (hng : ag2 = 0 → Ng d1 ∧ Ng d2) (hvb : vbR true vb) (hQ : ∀ f' g', ClQ Pl true (finC true c v vb d1 d2 tm t2 p2) t N ag tk cc Vb Tm On Ot Te C f' g' → Qx f' g') (ePz : Pz = CP E h0 (PV (fun f' g' j' => Qx f' g' ∧ eqx [289, 294, 295, 416, 417, 418] f0 f' ∧ eqx [419, 420, 421, 422, 423, 424] g0 g' ∧ j' = j))) (eg290 : g 290 = Kd) (eg291 : g 291 = Vl) (eg292 : g 292 = Pl) (eg419 : g 419 = Vb2) (eg420 : g 420 = Tm2) (eg421 : g 421 = On2) (eg422 : g 422 = Ot2) (eg423 : g 423 = Te2) (eg424 : g 424 = C2) (ef289 : f 289 = (-1)) (ef293 : f 293 = tk) (ef294 : f 294 = (t2 : Int)) (ef295 : f 295 = (p2 : Int)) (ef296 : f 296 = 1) (ef416 : f 416 = cc) (ef417 : f 417 = N2) (ef418 : f 418 = ag2) (hfE : eqx [289, 294, 295, 416, 417, 418] f0 f) (hgE : eqx [419, 420, 421, 422, 423, 424] g0 g) (hH : HC E f g j h) (hA : cAg E h0 h) : Z l MX3_clause d 0 0 Pz 187 [some (.ref (E.1 319)), some (vI u)] [] h 0 0 := by
  subst ePz
  have htk := hk.1
  have hp0 := (hk.2.1 t2 (by omega) t1).2
  have hti := (hk.2.1 t2 (by omega) t1).1
  refine z_ald_0 (TX3_clause_2.at 14 rfl) ?_
  refine z_bipush (by decide) (TX3_clause_2.at 15 rfl) ?_
  refine zc_callI1 (m := 9) (c_isWord eg290 eg291 ef294 (by omega) (by omega) (by omega) ) (hH.lv (by decide)) (TX3_clause_2.at 16 rfl) c3_195 rfl rfl hH hA (by omega) (Nat.le_of_ble_eq_true rfl) (fun x190 f190 g190 j190 h r190 q190 hH hA => ?_)
  obtain ⟨q190, xf, xg, xj⟩ := q190
  rw [xj] at hH
  have ef289 := (xf 289 (by decide)).trans ef289
  have ef293 := (xf 293 (by decide)).trans ef293
  have ef294 := (xf 294 (by decide)).trans ef294
  have ef295 := (xf 295 (by decide)).trans ef295
  have ef296 := (xf 296 (by decide)).trans ef296
  have ef416 := (xf 416 (by decide)).trans ef416
  have ef417 := (xf 417 (by decide)).trans ef417
  have ef418 := (xf 418 (by decide)).trans ef418
  have hfE := hfE.trans xf (by decide)
  have eg290 := (xg 290 (by decide)).trans eg290
  have eg291 := (xg 291 (by decide)).trans eg291
  have eg292 := (xg 292 (by decide)).trans eg292
  have eg419 := (xg 419 (by decide)).trans eg419
  have eg420 := (xg 420 (by decide)).trans eg420
  have eg421 := (xg 421 (by decide)).trans eg421
  have eg422 := (xg 422 (by decide)).trans eg422
  have eg423 := (xg 423 (by decide)).trans eg423
  have eg424 := (xg 424 (by decide)).trans eg424
  have hgE := hgE.trans xg (by decide)
  have qL := q190
  rw [b2i_cg (tk_if hti)] at qL
  subst qL
  refine z_if_eqB (tgt := 236) (TX3_clause_2.at 17 rfl) rfl (fun c1 => ?_) (fun c1 => ?_)
  · skip
    refine z_ald_0 (TX3_clause_2.at 38 rfl) ?_
    refine zc_getO (m := 9) (s := 0) (k := 447) (hH.lv (by decide)) (TX3_clause_2.at 39 rfl) fl3_14 hH rfl rfl (by decide) (by decide) ?_
    refine z_dup rfl (TX3_clause_3.at 0 rfl) ?_
    refine zc_getIE (m := 13) (s := 0) (k := 416) (hH.lv (by decide)) ef416 (TX3_clause_3.at 1 rfl) fl3_189 hH rfl rfl (by decide) (by decide) (fun r241 => ?_)
    refine z_iconst (TX3_clause_3.at 2 rfl) ?_
    refine z_iadd (TX3_clause_3.at 3 rfl) ?_
    refine zc_putI (m := 13) (s := 0) (k := 416) (hH.lv (by decide)) (TX3_clause_3.at 4 rfl) fp3_189 hH hA rfl rfl (by decide) (by decide) (by first | omega | exact b2i_01 _) (fun h f246 e1 e2 hH hA => ?_)
    have ef289 := (e1 289 (by decide)).trans ef289
    have ef293 := (e1 293 (by decide)).trans ef293
    have ef294 := (e1 294 (by decide)).trans ef294
    have ef295 := (e1 295 (by decide)).trans ef295
    have ef296 := (e1 296 (by decide)).trans ef296
    have ef416 := e2
    have ef417 := (e1 417 (by decide)).trans ef417
    have ef418 := (e1 418 (by decide)).trans ef418
    have hfE := hfE.put e1 (by decide)
    refine zc_vret (TX3_clause_3.at 5 rfl) rfl hH hA ?_
    exact ⟨hQ _ _ (cl_fin0 (by omega) ef289 ef293 ef294 ef295 t1 p1 ef417 ef418 ef416 hsl ha hag hkp hr hv htm h1 h2 hte hng hvb eg419 eg420 eg421 eg422 eg423 eg424), hfE, hgE, rfl⟩
  · skip
    refine z_ald_0 (TX3_clause_2.at 18 rfl) ?_
    refine zc_callV0 (m := 9) (c_goOn ef293 ef294 (by omega) (by omega) (by omega) (by omega) ) (hH.lv (by decide)) (TX3_clause_2.at 19 rfl) c3_179 rfl rfl hH hA (by omega) (Nat.le_of_ble_eq_true rfl) (fun f197 g197 j197 h q197 hH hA => ?_)
    obtain ⟨q197, xf, xg, xj⟩ := q197
    rw [xj] at hH
    have ef289 := (xf 289 (by decide)).trans ef289
    have ef293 := (xf 293 (by decide)).trans ef293
    have ef295 := (xf 295 (by decide)).trans ef295
    have ef296 := (xf 296 (by decide)).trans ef296
    have ef416 := (xf 416 (by decide)).trans ef416
    have ef417 := (xf 417 (by decide)).trans ef417
    have ef418 := (xf 418 (by decide)).trans ef418
    have hfE := hfE.trans xf (by decide)
    have eg290 := (xg 290 (by decide)).trans eg290
    have eg291 := (xg 291 (by decide)).trans eg291
    have eg292 := (xg 292 (by decide)).trans eg292
    have eg419 := (xg 419 (by decide)).trans eg419
    have eg420 := (xg 420 (by decide)).trans eg420
    have eg421 := (xg 421 (by decide)).trans eg421
    have eg422 := (xg 422 (by decide)).trans eg422
    have eg423 := (xg 423 (by decide)).trans eg423
    have eg424 := (xg 424 (by decide)).trans eg424
    have hgE := hgE.trans xg (by decide)
    have qL := q197
    have hgo := hk.go (i := (t2 : Int)) (by omega) (by omega)
    have ef294 := qL.trans hgo.1
    have t3 := hgo.2
    refine z_ald_0 (TX3_clause_2.at 20 rfl) ?_
    refine zc_getO (m := 9) (s := 0) (k := 447) (hH.lv (by decide)) (TX3_clause_2.at 21 rfl) fl3_14 hH rfl rfl (by decide) (by decide) ?_
    refine zc_getA (m := 13) (s := 7) (k := 423) (hH.lv (by decide)) (TX3_clause_2.at 22 rfl) fl3_206 hH rfl rfl (by decide) (by decide) ?_
    refine z_ald_0 (TX3_clause_2.at 23 rfl) ?_
    refine zc_getO (m := 9) (s := 0) (k := 447) (hH.lv (by decide)) (TX3_clause_2.at 24 rfl) fl3_14 hH rfl rfl (by decide) (by decide) ?_
    refine zc_getIE (m := 13) (s := 0) (k := 416) (hH.lv (by decide)) ef416 (TX3_clause_2.at 25 rfl) fl3_189 hH rfl rfl (by decide) (by decide) (fun r211 => ?_)
    refine z_ald_0 (TX3_clause_2.at 26 rfl) ?_
    refine zc_getO (m := 9) (s := 0) (k := 447) (hH.lv (by decide)) (TX3_clause_2.at 27 rfl) fl3_14 hH rfl rfl (by decide) (by decide) ?_
    refine zc_getIE (m := 13) (s := 1) (k := 417) (hH.lv (by decide)) ef417 (TX3_clause_2.at 28 rfl) fl3_209 hH rfl rfl (by decide) (by decide) (fun r218 => ?_)
    refine zcf_iast (k := 423) (N := 12) (hH.lv (by decide)) (by decide) rfl (TX3_clause_2.at 29 rfl) hH hA (by decide) (by omega) (show _ < ((12 : Nat) : Int) by omega) (by omega) (fun h g221 e1 e2 hH hA => ?_)
    have eg290 := (e1 290 (by decide)).trans eg290
    have eg291 := (e1 291 (by decide)).trans eg291
    have eg292 := (e1 292 (by decide)).trans eg292
    have eg419 := (e1 419 (by decide)).trans eg419
    have eg420 := (e1 420 (by decide)).trans eg420
    have eg421 := (e1 421 (by decide)).trans eg421
    have eg422 := (e1 422 (by decide)).trans eg422
    rw [eg423] at e2; have eg423 := e2
    have eg424 := (e1 424 (by decide)).trans eg424
    have hgE := hgE.put e1 (by decide)
    refine z_ald_0 (TX3_clause_2.at 30 rfl) ?_
    refine z_iconst (TX3_clause_2.at 31 rfl) ?_
    rw [← vI80]
    refine zc_callV1 (m := 9) (vv_test_true hk 8 (by omega) (t2 + 1) p2 N2 ag2 C2 _ _ _ eg290 eg291 eg292 eg424 ef289 ef293 (ef294.trans (by omega)) ef295 ef296 ef417 ef418 (by omega) p1 (by omega) ha) (hH.lv (by decide)) (TX3_clause_2.at 32 rfl) c3_212 rfl rfl hH hA (by omega) (Nat.le_of_ble_eq_true rfl) (fun f224 g224 j224 h q224 hH hA => ?_)
    obtain ⟨q224, xf, xg, xj⟩ := q224
    rw [xj] at hH
    have ef293 := (xf 293 (by decide)).trans ef293
    have ef296 := (xf 296 (by decide)).trans ef296
    have ef416 := (xf 416 (by decide)).trans ef416
    have hfE := hfE.trans xf (by decide)
    have eg290 := (xg 290 (by decide)).trans eg290
    have eg291 := (xg 291 (by decide)).trans eg291
    have eg292 := (xg 292 (by decide)).trans eg292
    have eg419 := (xg 419 (by decide)).trans eg419
    have eg420 := (xg 420 (by decide)).trans eg420
    have eg421 := (xg 421 (by decide)).trans eg421
    have eg422 := (xg 422 (by decide)).trans eg422
    have eg423 := (xg 423 (by decide)).trans eg423
    have hgE := hgE.trans xg (by decide)
    have qL := q224
    have hq := qL
    have hps := hq.ps htk (by omega)
    have b5 := hps.2.2.2.2.1
    refine z_ald_0 (TX3_clause_2.at 33 rfl) ?_
    refine zc_getO (m := 9) (s := 0) (k := 447) (hH.lv (by decide)) (TX3_clause_2.at 34 rfl) fl3_14 hH rfl rfl (by decide) (by decide) ?_
    refine z_iconst (TX3_clause_2.at 35 rfl) ?_
    refine z_iconst (TX3_clause_2.at 36 rfl) ?_
    refine zc_callV2 (m := 13) (c_put rfl rfl (by omega) (by omega) (by omega) (by omega) (by omega) (by omega) (by omega) ) (hH.lv (by decide)) (TX3_clause_2.at 37 rfl) c3_214 rfl rfl hH hA (by omega) (Nat.le_of_ble_eq_true rfl) (fun f233 g233 j233 h q233 hH hA => ?_)
    obtain ⟨q233, xf, xg, xj⟩ := q233
    rw [xj] at hH
    have ef293 := (xf 293 (by decide)).trans ef293
    have ef296 := (xf 296 (by decide)).trans ef296
    have ef416 := (xf 416 (by decide)).trans ef416
    have hfE := hfE.trans xf (by decide)
    have eg290 := (xg 290 (by decide)).trans eg290
    have eg291 := (xg 291 (by decide)).trans eg291
    have eg292 := (xg 292 (by decide)).trans eg292
    have eg419 := (xg 419 (by decide)).trans eg419
    have eg420 := (xg 420 (by decide)).trans eg420
    have eg421 := (xg 421 (by decide)).trans eg421
    have eg422 := (xg 422 (by decide)).trans eg422
    have eg423 := (xg 423 (by decide)).trans eg423
    have hgE := hgE.trans xg (by decide)
    have qL := q233
    have hfin := LvQ_stop hq (by omega) htk.2 (by omega) xf qL.1 qL.2
    refine z_ald_0 (TX3_clause_2.at 38 rfl) ?_
    refine zc_getO (m := 9) (s := 0) (k := 447) (hH.lv (by decide)) (TX3_clause_2.at 39 rfl) fl3_14 hH rfl rfl (by decide) (by decide) ?_
    refine z_dup rfl (TX3_clause_3.at 0 rfl) ?_
    refine zc_getIE (m := 13) (s := 0) (k := 416) (hH.lv (by decide)) ef416 (TX3_clause_3.at 1 rfl) fl3_189 hH rfl rfl (by decide) (by decide) (fun r241 => ?_)
    refine z_iconst (TX3_clause_3.at 2 rfl) ?_
    refine z_iadd (TX3_clause_3.at 3 rfl) ?_
    refine zc_putI (m := 13) (s := 0) (k := 416) (hH.lv (by decide)) (TX3_clause_3.at 4 rfl) fp3_189 hH hA rfl rfl (by decide) (by decide) (by first | omega | exact b2i_01 _) (fun h f246 e1 e2 hH hA => ?_)
    have ef293 := (e1 293 (by decide)).trans ef293
    have ef296 := (e1 296 (by decide)).trans ef296
    have ef416 := e2
    have hfE := hfE.put e1 (by decide)
    refine zc_vret (TX3_clause_3.at 5 rfl) rfl hH hA ?_
    exact ⟨hQ _ _ (cl_fin1 (by omega) hfin e1 ef416 hN2.1 hsl ha hag hkp hr hv htm h1 h2 hng hvb eg419 eg420 eg421 eg422 eg423), hfE, hgE, rfl⟩

set_option maxHeartbeats 4000000 in
set_option maxRecDepth 100000 in
theorem v_cl187_false {l : Launch} {E : cE} {d : Nat} {Pz : Option Value → zH → Prop} {h0 h : zH} {f0 f : mF} {g0 g j : mA} {u tk N ag cc N2 ag2 vb tm : Int} {Qx : mF → mA → Prop} {Kd Vl Pl c v Vb Tm On Ot Te C Vb2 Tm2 On2 Ot2 Te2 C2 : Int → Int} {t t2 p2 : Nat} {d1 d2 : Den} (hd : 37 ≤ d) (hzu : zIn u) (hk : TkH Kd Vl Pl tk c v) (t1 : (t2 : Int) < tk) (p1 : p2 ≤ 50) (hN2 : 0 ≤ N2 ∧ N2 ≤ t2) (ha : in01 ag2) (q0 : 0 ≤ cc) (q11 : cc ≤ 11) (hsl : N ≤ N2 ∧ N2 + t ≤ t2 + N) (hag : ag = 1 → ag2 = 1) (hkp : ∀ q : Int, q < N → C2 q = C q) (hr : Rw5 cc Vb Tm On Ot Te Vb2 Tm2 On2 Ot2 Te2) (hv : Vb2 cc = vz vb) (htm : Tm2 cc = tm) (h1 : OnR C2 N2 vb (On2 cc) d1) (h2 : OtR C2 N2 vb (Ot2 cc) d2) (hte : Te2 cc = -1) (hng : ag2 = 0 → Ng d1 ∧ Ng d2) (hvb : vbR false vb) (hQ : ∀ f' g', ClQ Pl false (finC false c v vb d1 d2 tm t2 p2) t N ag tk cc Vb Tm On Ot Te C f' g' → Qx f' g') (ePz : Pz = CP E h0 (PV (fun f' g' j' => Qx f' g' ∧ eqx [289, 294, 295, 416, 417, 418] f0 f' ∧ eqx [419, 420, 421, 422, 423, 424] g0 g' ∧ j' = j))) (eg290 : g 290 = Kd) (eg291 : g 291 = Vl) (eg292 : g 292 = Pl) (eg419 : g 419 = Vb2) (eg420 : g 420 = Tm2) (eg421 : g 421 = On2) (eg422 : g 422 = Ot2) (eg423 : g 423 = Te2) (eg424 : g 424 = C2) (ef289 : f 289 = (-1)) (ef293 : f 293 = tk) (ef294 : f 294 = (t2 : Int)) (ef295 : f 295 = (p2 : Int)) (ef296 : f 296 = 0) (ef416 : f 416 = cc) (ef417 : f 417 = N2) (ef418 : f 418 = ag2) (hfE : eqx [289, 294, 295, 416, 417, 418] f0 f) (hgE : eqx [419, 420, 421, 422, 423, 424] g0 g) (hH : HC E f g j h) (hA : cAg E h0 h) : Z l MX3_clause d 0 0 Pz 187 [some (.ref (E.1 319)), some (vI u)] [] h 0 0 := by
  subst ePz
  have htk := hk.1
  have hp0 := (hk.2.1 t2 (by omega) t1).2
  have hti := (hk.2.1 t2 (by omega) t1).1
  refine z_ald_0 (TX3_clause_2.at 14 rfl) ?_
  refine z_bipush (by decide) (TX3_clause_2.at 15 rfl) ?_
  refine zc_callI1 (m := 9) (c_isWord eg290 eg291 ef294 (by omega) (by omega) (by omega) ) (hH.lv (by decide)) (TX3_clause_2.at 16 rfl) c3_195 rfl rfl hH hA (by omega) (Nat.le_of_ble_eq_true rfl) (fun x190 f190 g190 j190 h r190 q190 hH hA => ?_)
  obtain ⟨q190, xf, xg, xj⟩ := q190
  rw [xj] at hH
  have ef289 := (xf 289 (by decide)).trans ef289
  have ef293 := (xf 293 (by decide)).trans ef293
  have ef294 := (xf 294 (by decide)).trans ef294
  have ef295 := (xf 295 (by decide)).trans ef295
  have ef296 := (xf 296 (by decide)).trans ef296
  have ef416 := (xf 416 (by decide)).trans ef416
  have ef417 := (xf 417 (by decide)).trans ef417
  have ef418 := (xf 418 (by decide)).trans ef418
  have hfE := hfE.trans xf (by decide)
  have eg290 := (xg 290 (by decide)).trans eg290
  have eg291 := (xg 291 (by decide)).trans eg291
  have eg292 := (xg 292 (by decide)).trans eg292
  have eg419 := (xg 419 (by decide)).trans eg419
  have eg420 := (xg 420 (by decide)).trans eg420
  have eg421 := (xg 421 (by decide)).trans eg421
  have eg422 := (xg 422 (by decide)).trans eg422
  have eg423 := (xg 423 (by decide)).trans eg423
  have eg424 := (xg 424 (by decide)).trans eg424
  have hgE := hgE.trans xg (by decide)
  have qL := q190
  rw [b2i_cg (tk_if hti)] at qL
  subst qL
  refine z_if_eqB (tgt := 236) (TX3_clause_2.at 17 rfl) rfl (fun c1 => ?_) (fun c1 => ?_)
  · skip
    refine z_ald_0 (TX3_clause_2.at 38 rfl) ?_
    refine zc_getO (m := 9) (s := 0) (k := 447) (hH.lv (by decide)) (TX3_clause_2.at 39 rfl) fl3_14 hH rfl rfl (by decide) (by decide) ?_
    refine z_dup rfl (TX3_clause_3.at 0 rfl) ?_
    refine zc_getIE (m := 13) (s := 0) (k := 416) (hH.lv (by decide)) ef416 (TX3_clause_3.at 1 rfl) fl3_189 hH rfl rfl (by decide) (by decide) (fun r241 => ?_)
    refine z_iconst (TX3_clause_3.at 2 rfl) ?_
    refine z_iadd (TX3_clause_3.at 3 rfl) ?_
    refine zc_putI (m := 13) (s := 0) (k := 416) (hH.lv (by decide)) (TX3_clause_3.at 4 rfl) fp3_189 hH hA rfl rfl (by decide) (by decide) (by first | omega | exact b2i_01 _) (fun h f246 e1 e2 hH hA => ?_)
    have ef289 := (e1 289 (by decide)).trans ef289
    have ef293 := (e1 293 (by decide)).trans ef293
    have ef294 := (e1 294 (by decide)).trans ef294
    have ef295 := (e1 295 (by decide)).trans ef295
    have ef296 := (e1 296 (by decide)).trans ef296
    have ef416 := e2
    have ef417 := (e1 417 (by decide)).trans ef417
    have ef418 := (e1 418 (by decide)).trans ef418
    have hfE := hfE.put e1 (by decide)
    refine zc_vret (TX3_clause_3.at 5 rfl) rfl hH hA ?_
    exact ⟨hQ _ _ (cl_fin0 (by omega) ef289 ef293 ef294 ef295 t1 p1 ef417 ef418 ef416 hsl ha hag hkp hr hv htm h1 h2 hte hng hvb eg419 eg420 eg421 eg422 eg423 eg424), hfE, hgE, rfl⟩
  · skip
    refine z_ald_0 (TX3_clause_2.at 18 rfl) ?_
    refine zc_callV0 (m := 9) (c_goOn ef293 ef294 (by omega) (by omega) (by omega) (by omega) ) (hH.lv (by decide)) (TX3_clause_2.at 19 rfl) c3_179 rfl rfl hH hA (by omega) (Nat.le_of_ble_eq_true rfl) (fun f197 g197 j197 h q197 hH hA => ?_)
    obtain ⟨q197, xf, xg, xj⟩ := q197
    rw [xj] at hH
    have ef289 := (xf 289 (by decide)).trans ef289
    have ef293 := (xf 293 (by decide)).trans ef293
    have ef295 := (xf 295 (by decide)).trans ef295
    have ef296 := (xf 296 (by decide)).trans ef296
    have ef416 := (xf 416 (by decide)).trans ef416
    have ef417 := (xf 417 (by decide)).trans ef417
    have ef418 := (xf 418 (by decide)).trans ef418
    have hfE := hfE.trans xf (by decide)
    have eg290 := (xg 290 (by decide)).trans eg290
    have eg291 := (xg 291 (by decide)).trans eg291
    have eg292 := (xg 292 (by decide)).trans eg292
    have eg419 := (xg 419 (by decide)).trans eg419
    have eg420 := (xg 420 (by decide)).trans eg420
    have eg421 := (xg 421 (by decide)).trans eg421
    have eg422 := (xg 422 (by decide)).trans eg422
    have eg423 := (xg 423 (by decide)).trans eg423
    have eg424 := (xg 424 (by decide)).trans eg424
    have hgE := hgE.trans xg (by decide)
    have qL := q197
    have hgo := hk.go (i := (t2 : Int)) (by omega) (by omega)
    have ef294 := qL.trans hgo.1
    have t3 := hgo.2
    refine z_ald_0 (TX3_clause_2.at 20 rfl) ?_
    refine zc_getO (m := 9) (s := 0) (k := 447) (hH.lv (by decide)) (TX3_clause_2.at 21 rfl) fl3_14 hH rfl rfl (by decide) (by decide) ?_
    refine zc_getA (m := 13) (s := 7) (k := 423) (hH.lv (by decide)) (TX3_clause_2.at 22 rfl) fl3_206 hH rfl rfl (by decide) (by decide) ?_
    refine z_ald_0 (TX3_clause_2.at 23 rfl) ?_
    refine zc_getO (m := 9) (s := 0) (k := 447) (hH.lv (by decide)) (TX3_clause_2.at 24 rfl) fl3_14 hH rfl rfl (by decide) (by decide) ?_
    refine zc_getIE (m := 13) (s := 0) (k := 416) (hH.lv (by decide)) ef416 (TX3_clause_2.at 25 rfl) fl3_189 hH rfl rfl (by decide) (by decide) (fun r211 => ?_)
    refine z_ald_0 (TX3_clause_2.at 26 rfl) ?_
    refine zc_getO (m := 9) (s := 0) (k := 447) (hH.lv (by decide)) (TX3_clause_2.at 27 rfl) fl3_14 hH rfl rfl (by decide) (by decide) ?_
    refine zc_getIE (m := 13) (s := 1) (k := 417) (hH.lv (by decide)) ef417 (TX3_clause_2.at 28 rfl) fl3_209 hH rfl rfl (by decide) (by decide) (fun r218 => ?_)
    refine zcf_iast (k := 423) (N := 12) (hH.lv (by decide)) (by decide) rfl (TX3_clause_2.at 29 rfl) hH hA (by decide) (by omega) (show _ < ((12 : Nat) : Int) by omega) (by omega) (fun h g221 e1 e2 hH hA => ?_)
    have eg290 := (e1 290 (by decide)).trans eg290
    have eg291 := (e1 291 (by decide)).trans eg291
    have eg292 := (e1 292 (by decide)).trans eg292
    have eg419 := (e1 419 (by decide)).trans eg419
    have eg420 := (e1 420 (by decide)).trans eg420
    have eg421 := (e1 421 (by decide)).trans eg421
    have eg422 := (e1 422 (by decide)).trans eg422
    rw [eg423] at e2; have eg423 := e2
    have eg424 := (e1 424 (by decide)).trans eg424
    have hgE := hgE.put e1 (by decide)
    refine z_ald_0 (TX3_clause_2.at 30 rfl) ?_
    refine z_iconst (TX3_clause_2.at 31 rfl) ?_
    rw [← vI80]
    refine zc_callV1 (m := 9) (vv_test_false hk 8 (by omega) (t2 + 1) p2 N2 ag2 C2 _ _ _ eg290 eg291 eg292 eg424 ef289 ef293 (ef294.trans (by omega)) ef295 ef296 ef417 ef418 (by omega) p1 (by omega) ha) (hH.lv (by decide)) (TX3_clause_2.at 32 rfl) c3_212 rfl rfl hH hA (by omega) (Nat.le_of_ble_eq_true rfl) (fun f224 g224 j224 h q224 hH hA => ?_)
    obtain ⟨q224, xf, xg, xj⟩ := q224
    rw [xj] at hH
    have ef293 := (xf 293 (by decide)).trans ef293
    have ef296 := (xf 296 (by decide)).trans ef296
    have ef416 := (xf 416 (by decide)).trans ef416
    have hfE := hfE.trans xf (by decide)
    have eg290 := (xg 290 (by decide)).trans eg290
    have eg291 := (xg 291 (by decide)).trans eg291
    have eg292 := (xg 292 (by decide)).trans eg292
    have eg419 := (xg 419 (by decide)).trans eg419
    have eg420 := (xg 420 (by decide)).trans eg420
    have eg421 := (xg 421 (by decide)).trans eg421
    have eg422 := (xg 422 (by decide)).trans eg422
    have eg423 := (xg 423 (by decide)).trans eg423
    have hgE := hgE.trans xg (by decide)
    have qL := q224
    have hq := qL
    have hps := hq.ps htk (by omega)
    have b5 := hps.2.2.2.2.1
    refine z_ald_0 (TX3_clause_2.at 33 rfl) ?_
    refine zc_getO (m := 9) (s := 0) (k := 447) (hH.lv (by decide)) (TX3_clause_2.at 34 rfl) fl3_14 hH rfl rfl (by decide) (by decide) ?_
    refine z_iconst (TX3_clause_2.at 35 rfl) ?_
    refine z_iconst (TX3_clause_2.at 36 rfl) ?_
    refine zc_callV2 (m := 13) (c_put rfl rfl (by omega) (by omega) (by omega) (by omega) (by omega) (by omega) (by omega) ) (hH.lv (by decide)) (TX3_clause_2.at 37 rfl) c3_214 rfl rfl hH hA (by omega) (Nat.le_of_ble_eq_true rfl) (fun f233 g233 j233 h q233 hH hA => ?_)
    obtain ⟨q233, xf, xg, xj⟩ := q233
    rw [xj] at hH
    have ef293 := (xf 293 (by decide)).trans ef293
    have ef296 := (xf 296 (by decide)).trans ef296
    have ef416 := (xf 416 (by decide)).trans ef416
    have hfE := hfE.trans xf (by decide)
    have eg290 := (xg 290 (by decide)).trans eg290
    have eg291 := (xg 291 (by decide)).trans eg291
    have eg292 := (xg 292 (by decide)).trans eg292
    have eg419 := (xg 419 (by decide)).trans eg419
    have eg420 := (xg 420 (by decide)).trans eg420
    have eg421 := (xg 421 (by decide)).trans eg421
    have eg422 := (xg 422 (by decide)).trans eg422
    have eg423 := (xg 423 (by decide)).trans eg423
    have hgE := hgE.trans xg (by decide)
    have qL := q233
    have hfin := LvQ_stop hq (by omega) htk.2 (by omega) xf qL.1 qL.2
    refine z_ald_0 (TX3_clause_2.at 38 rfl) ?_
    refine zc_getO (m := 9) (s := 0) (k := 447) (hH.lv (by decide)) (TX3_clause_2.at 39 rfl) fl3_14 hH rfl rfl (by decide) (by decide) ?_
    refine z_dup rfl (TX3_clause_3.at 0 rfl) ?_
    refine zc_getIE (m := 13) (s := 0) (k := 416) (hH.lv (by decide)) ef416 (TX3_clause_3.at 1 rfl) fl3_189 hH rfl rfl (by decide) (by decide) (fun r241 => ?_)
    refine z_iconst (TX3_clause_3.at 2 rfl) ?_
    refine z_iadd (TX3_clause_3.at 3 rfl) ?_
    refine zc_putI (m := 13) (s := 0) (k := 416) (hH.lv (by decide)) (TX3_clause_3.at 4 rfl) fp3_189 hH hA rfl rfl (by decide) (by decide) (by first | omega | exact b2i_01 _) (fun h f246 e1 e2 hH hA => ?_)
    have ef293 := (e1 293 (by decide)).trans ef293
    have ef296 := (e1 296 (by decide)).trans ef296
    have ef416 := e2
    have hfE := hfE.put e1 (by decide)
    refine zc_vret (TX3_clause_3.at 5 rfl) rfl hH hA ?_
    exact ⟨hQ _ _ (cl_fin1 (by omega) hfin e1 ef416 hN2.1 hsl ha hag hkp hr hv htm h1 h2 hng hvb eg419 eg420 eg421 eg422 eg423), hfE, hgE, rfl⟩

set_option maxHeartbeats 4000000 in
set_option maxRecDepth 100000 in
theorem v_cl145 {l : Launch} {E : cE} {d : Nat} {Pz : Option Value → zH → Prop} {h0 h : zH} {f0 f : mF} {g0 g j : mA} {u tk N ag cc N2 ag2 vb : Int} {Qx : mF → mA → Prop} {Kd Vl Pl c v Vb Tm On Ot Te C Vb2 Tm2 On2 Ot2 Te2 C2 : Int → Int} {t t2 p2 : Nat} {d1 d2 : Den} (hd : 37 ≤ d) (hzu : zIn u) (hk : TkH Kd Vl Pl tk c v) (t1 : (t2 : Int) < tk) (p1 : p2 ≤ 50) (hN2 : 0 ≤ N2 ∧ N2 ≤ t2) (ha : in01 ag2) (q0 : 0 ≤ cc) (q11 : cc ≤ 11) (hsl : N ≤ N2 ∧ N2 + t ≤ t2 + N) (hag : ag = 1 → ag2 = 1) (hkp : ∀ q : Int, q < N → C2 q = C q) (hr : Rw5 cc Vb Tm On Ot Te Vb2 Tm2 On2 Ot2 Te2) (hv : Vb2 cc = vz vb) (htm : Tm2 cc = 1) (h1 : OnR C2 N2 vb (On2 cc) d1) (h2 : OtR C2 N2 vb (Ot2 cc) d2) (hte : Te2 cc = -1) (hng : ag2 = 0 → Ng d1 ∧ Ng d2) (hvb : vbR false vb) (hQ : ∀ f' g', ClQ Pl false (timC false c v vb d1 d2 t2 p2) t N ag tk cc Vb Tm On Ot Te C f' g' → Qx f' g') (ePz : Pz = CP E h0 (PV (fun f' g' j' => Qx f' g' ∧ eqx [289, 294, 295, 416, 417, 418] f0 f' ∧ eqx [419, 420, 421, 422, 423, 424] g0 g' ∧ j' = j))) (eg290 : g 290 = Kd) (eg291 : g 291 = Vl) (eg292 : g 292 = Pl) (eg419 : g 419 = Vb2) (eg420 : g 420 = Tm2) (eg421 : g 421 = On2) (eg422 : g 422 = Ot2) (eg423 : g 423 = Te2) (eg424 : g 424 = C2) (ef289 : f 289 = (-1)) (ef293 : f 293 = tk) (ef294 : f 294 = (t2 : Int)) (ef295 : f 295 = (p2 : Int)) (ef296 : f 296 = 0) (ef416 : f 416 = cc) (ef417 : f 417 = N2) (ef418 : f 418 = ag2) (hfE : eqx [289, 294, 295, 416, 417, 418] f0 f) (hgE : eqx [419, 420, 421, 422, 423, 424] g0 g) (hH : HC E f g j h) (hA : cAg E h0 h) : Z l MX3_clause d 0 0 Pz 145 [some (.ref (E.1 319)), some (vI u)] [] h 0 0 := by
  subst ePz
  have htk := hk.1
  have hp0 := (hk.2.1 t2 (by omega) t1).2
  have hti := (hk.2.1 t2 (by omega) t1).1
  refine z_ald_0 (TX3_clause_1.at 34 rfl) ?_
  refine zc_getIE (m := 9) (s := 8) (k := 296) (hH.lv (by decide)) ef296 (TX3_clause_1.at 35 rfl) fl3_43 hH rfl rfl (by decide) (by decide) (fun r146 => ?_)
  refine z_if_ne (tgt := 187) (TX3_clause_1.at 36 rfl) rfl (by omega) (fun c1 => absurd c1 (by decide)) (fun c1 => ?_)
  refine z_ald_0 (TX3_clause_1.at 37 rfl) ?_
  refine z_bipush (by decide) (TX3_clause_1.at 38 rfl) ?_
  refine zc_callI1 (m := 9) (c_isWord eg290 eg291 ef294 (by omega) (by omega) (by omega) ) (hH.lv (by decide)) (TX3_clause_1.at 39 rfl) c3_195 rfl rfl hH hA (by omega) (Nat.le_of_ble_eq_true rfl) (fun x155 f155 g155 j155 h r155 q155 hH hA => ?_)
  obtain ⟨q155, xf, xg, xj⟩ := q155
  rw [xj] at hH
  have ef289 := (xf 289 (by decide)).trans ef289
  have ef293 := (xf 293 (by decide)).trans ef293
  have ef294 := (xf 294 (by decide)).trans ef294
  have ef295 := (xf 295 (by decide)).trans ef295
  have ef296 := (xf 296 (by decide)).trans ef296
  have ef416 := (xf 416 (by decide)).trans ef416
  have ef417 := (xf 417 (by decide)).trans ef417
  have ef418 := (xf 418 (by decide)).trans ef418
  have hfE := hfE.trans xf (by decide)
  have eg290 := (xg 290 (by decide)).trans eg290
  have eg291 := (xg 291 (by decide)).trans eg291
  have eg292 := (xg 292 (by decide)).trans eg292
  have eg419 := (xg 419 (by decide)).trans eg419
  have eg420 := (xg 420 (by decide)).trans eg420
  have eg421 := (xg 421 (by decide)).trans eg421
  have eg422 := (xg 422 (by decide)).trans eg422
  have eg423 := (xg 423 (by decide)).trans eg423
  have eg424 := (xg 424 (by decide)).trans eg424
  have hgE := hgE.trans xg (by decide)
  have qL := q155
  rw [b2i_cg (tk_ti hti)] at qL
  subst qL
  refine z_if_eqB (tgt := 187) (TX3_clause_2.at 0 rfl) rfl (fun c2 => ?_) (fun c2 => ?_)
  · skip
    exact v_cl187_false (u := u) (t := t) (N := N) (ag := ag) (Vb := Vb) (Tm := Tm) (On := On) (Ot := Ot) (Te := Te) (C := C) (t2 := t2) (p2 := p2) (tm := 1) hd hzu hk (by omega) p1 (by omega) ha q0 q11 (by omega) hag hkp hr hv htm h1 h2 hte hng hvb (fun f' g' hX => hQ f' g' (by rw [timC, if_neg (show ¬ c t2 = 27 by omega)]; exact hX)) rfl eg290 eg291 eg292 eg419 eg420 eg421 eg422 eg423 eg424 ef289 ef293 ef294 ef295 ef296 ef416 ef417 ef418 hfE hgE hH hA
  · skip
    refine z_ald_0 (TX3_clause_2.at 1 rfl) ?_
    refine zc_callV0 (m := 9) (c_goOn ef293 ef294 (by omega) (by omega) (by omega) (by omega) ) (hH.lv (by decide)) (TX3_clause_2.at 2 rfl) c3_179 rfl rfl hH hA (by omega) (Nat.le_of_ble_eq_true rfl) (fun f162 g162 j162 h q162 hH hA => ?_)
    obtain ⟨q162, xf, xg, xj⟩ := q162
    rw [xj] at hH
    have ef289 := (xf 289 (by decide)).trans ef289
    have ef293 := (xf 293 (by decide)).trans ef293
    have ef295 := (xf 295 (by decide)).trans ef295
    have ef296 := (xf 296 (by decide)).trans ef296
    have ef416 := (xf 416 (by decide)).trans ef416
    have ef417 := (xf 417 (by decide)).trans ef417
    have ef418 := (xf 418 (by decide)).trans ef418
    have hfE := hfE.trans xf (by decide)
    have eg290 := (xg 290 (by decide)).trans eg290
    have eg291 := (xg 291 (by decide)).trans eg291
    have eg292 := (xg 292 (by decide)).trans eg292
    have eg419 := (xg 419 (by decide)).trans eg419
    have eg420 := (xg 420 (by decide)).trans eg420
    have eg421 := (xg 421 (by decide)).trans eg421
    have eg422 := (xg 422 (by decide)).trans eg422
    have eg423 := (xg 423 (by decide)).trans eg423
    have eg424 := (xg 424 (by decide)).trans eg424
    have hgE := hgE.trans xg (by decide)
    have qL := q162
    have hgo := hk.go (i := (t2 : Int)) (by omega) (by omega)
    have ef294 := qL.trans hgo.1
    have t3 := hgo.2
    refine z_ald_0 (TX3_clause_2.at 3 rfl) ?_
    refine zc_getO (m := 9) (s := 0) (k := 447) (hH.lv (by decide)) (TX3_clause_2.at 4 rfl) fl3_14 hH rfl rfl (by decide) (by decide) ?_
    refine zc_getA (m := 13) (s := 4) (k := 420) (hH.lv (by decide)) (TX3_clause_2.at 5 rfl) fl3_201 hH rfl rfl (by decide) (by decide) ?_
    refine z_ald_0 (TX3_clause_2.at 6 rfl) ?_
    refine zc_getO (m := 9) (s := 0) (k := 447) (hH.lv (by decide)) (TX3_clause_2.at 7 rfl) fl3_14 hH rfl rfl (by decide) (by decide) ?_
    refine zc_getIE (m := 13) (s := 0) (k := 416) (hH.lv (by decide)) ef416 (TX3_clause_2.at 8 rfl) fl3_189 hH rfl rfl (by decide) (by decide) (fun r176 => ?_)
    refine z_ald_0 (TX3_clause_2.at 9 rfl) ?_
    refine z_iconst (TX3_clause_2.at 10 rfl) ?_
    refine z_bipush (by decide) (TX3_clause_2.at 11 rfl) ?_
    refine zc_callI2 (m := 9) (c_small eg290 eg291 eg292 ef289 ef293 ef294 (by omega) (by omega) (by omega) (by omega) (by omega) (by omega) ) (hH.lv (by decide)) (TX3_clause_2.at 12 rfl) c3_203 rfl rfl hH hA (by omega) (Nat.le_of_ble_eq_true rfl) (fun x183 f183 g183 j183 h r183 q183 hH hA => ?_)
    obtain ⟨q183, xf, xg, xj⟩ := q183
    rw [xj] at hH
    have ef293 := (xf 293 (by decide)).trans ef293
    have ef295 := (xf 295 (by decide)).trans ef295
    have ef296 := (xf 296 (by decide)).trans ef296
    have ef416 := (xf 416 (by decide)).trans ef416
    have ef417 := (xf 417 (by decide)).trans ef417
    have ef418 := (xf 418 (by decide)).trans ef418
    have hfE := hfE.trans xf (by decide)
    have eg290 := (xg 290 (by decide)).trans eg290
    have eg291 := (xg 291 (by decide)).trans eg291
    have eg292 := (xg 292 (by decide)).trans eg292
    have eg419 := (xg 419 (by decide)).trans eg419
    have eg420 := (xg 420 (by decide)).trans eg420
    have eg421 := (xg 421 (by decide)).trans eg421
    have eg422 := (xg 422 (by decide)).trans eg422
    have eg423 := (xg 423 (by decide)).trans eg423
    have eg424 := (xg 424 (by decide)).trans eg424
    have hgE := hgE.trans xg (by decide)
    have qL := q183
    have hsm := small_tk (a := 1) (b := 20) (i := ((t2 : Int) + 1)) hk (by omega) (by omega) (by decide) (by decide) qL
    obtain ⟨fl9, ef289⟩ : ∃ z, f183 289 = z := ⟨_, rfl⟩
    obtain ⟨nx9, ef294⟩ : ∃ z, f183 294 = z := ⟨_, rfl⟩
    rw [ef289, ef294] at hsm
    refine zcf_iast (k := 420) (N := 12) (hH.lv (by decide)) (by decide) rfl (TX3_clause_2.at 13 rfl) hH hA (by decide) (by omega) (show _ < ((12 : Nat) : Int) by omega) (by omega) (fun h g186 e1 e2 hH hA => ?_)
    have eg290 := (e1 290 (by decide)).trans eg290
    have eg291 := (e1 291 (by decide)).trans eg291
    have eg292 := (e1 292 (by decide)).trans eg292
    have eg419 := (e1 419 (by decide)).trans eg419
    rw [eg420] at e2; have eg420 := e2
    have eg421 := (e1 421 (by decide)).trans eg421
    have eg422 := (e1 422 (by decide)).trans eg422
    have eg423 := (e1 423 (by decide)).trans eg423
    have eg424 := (e1 424 (by decide)).trans eg424
    have hgE := hgE.put e1 (by decide)
    rcases hsm with ⟨s1, s2, s3, s4, s5⟩ | ⟨s1, s2, s3, s4⟩
    · have ef289 := ef289.trans s3
      have ef294 : _ = ((t2 + 2 : Nat) : Int) := ef294.trans (by omega)
      rw [s2] at eg420
      exact v_cl187_false (u := u) (t := t) (N := N) (ag := ag) (Vb := Vb) (Tm := Tm) (On := On) (Ot := Ot) (Te := Te) (C := C) (t2 := t2 + 2) (p2 := p2) (tm := v (t2 + 1)) hd hzu hk (by omega) p1 (by omega) ha q0 q11 (by omega) hag hkp (fun i hi => by obtain ⟨r1, r2, r3, r4, r5⟩ := hr i hi; exact ⟨r1, by rw [iu_ne (by omega)]; exact r2, r3, r4, r5⟩) hv (iu_self _ _ _) h1 h2 hte hng hvb (fun f' g' hX => hQ f' g' (by rw [timC, if_pos (show c t2 = 27 by omega), if_pos s1]; exact hX)) rfl eg290 eg291 eg292 eg419 eg420 eg421 eg422 eg423 eg424 ef289 ef293 ef294 ef295 ef296 ef416 ef417 ef418 hfE hgE hH hA
    · have hS : DdS tk (Pl ((t2 + 1 : Nat) : Int)) ag _ := mkD ef293 (ef294.trans s4) ef295 ef417 ef418 (ef289.trans s3) htk (by omega) (by omega) (by omega) ha hag (by have := (hk.2.1 ((t2 : Int) + 1) (by omega) t3).2; show Pl ((t2 : Int) + 1) ≠ -1; omega)
      exact dd_cl187 (u := u) hd hzu hS q0 q11 (fun f' g' hX => hQ f' g' (by rw [timC, if_pos (show c t2 = 27 by omega), if_neg s1]; exact hX)) rfl ef416 ef296 hfE hgE hH hA

