/-! ===== the class: reading parts, terms, sums ===== -/
def pBr (c : Int → Int) (cc : Int) (R : PR) : PR := match R with
  | .error e => .error e
  | .ok (t', p', k) => if c t' = cc then .ok (t' + 1, p', k) else .error t'
section PP
variable {lw : Bool} {c v : Int → Int} {inner : Option (Nat → Nat → PR)} {t p : Nat}
theorem pPart_b0 (h : c t = 191) : pPart lw c v none t p = .error t := by unfold pPart; rw [if_pos h]
theorem pPart_b1 {g : Nat → Nat → PR} (h : c t = 191) : pPart lw c v (some g) t p = pBr c 193 (g (t + 1) p) := by
  unfold pPart pBr
  rw [if_pos h]
  rfl
theorem pPart_50 (h : c t ≠ 191) (hp : p = 50) : pPart lw c v inner t p = .error t := by
  unfold pPart
  rw [if_neg h]
  split <;> first | rfl | rw [if_pos hp]
theorem wLH (lw : Bool) : 8 ≤ wLo lw ∧ wHi lw ≤ 21 := by cases lw <;> decide
theorem pPart_n1 (h : c t = 50) (hv : v t ≤ 1000) (hp : p ≠ 50) : pPart lw c v inner t p = .ok (t + 1, p + 1, fun _ => some (v t)) := by
  unfold pPart
  rw [if_neg (by omega), if_pos (Or.inl ⟨h, hv⟩), if_neg hp, if_neg (fun z => by have := z.2; omega), if_neg (fun z => by have := z.2; omega), if_pos h]
theorem pPart_n0 (h : c t = 50) (hv : ¬ v t ≤ 1000) : pPart lw c v inner t p = .error t := by
  have := wLH lw
  unfold pPart
  rw [if_neg (by omega), if_neg (fun z => z.elim (fun y => hv y.2) (fun y => by omega))]
theorem pPart_w (h : c t ≠ 191) (h5 : c t ≠ 50) (hp : p ≠ 50) : pPart lw c v inner t p = pWrd lw c v t (p + 1) := by
  unfold pPart pWrd
  rw [if_neg h]
  by_cases z : wLo lw ≤ c t ∧ c t ≤ wHi lw
  · rw [if_pos (Or.inr z), if_neg hp, if_pos z, if_neg h5]
  · rw [if_neg (fun y => y.elim (fun q => h5 q.1) z), if_neg z]
end PP
section LW
variable {Kd Vl Pl c v : Int → Int} {w : Nat} {R : PR} {t : Nat} {N ag tk : Int} {C : Int → Int} {f f' : mF} {g g' : mA}
theorem LvQ.mono {w' : Nat} (h : LvQ Pl w R t N ag tk C f g) (hw : w ≤ w') : LvQ Pl w' R t N ag tk C f g := by
  cases R with
  | error e => exact h
  | ok r =>
    obtain ⟨t', p', k⟩ := r
    obtain ⟨h1, h2, h3, h4, h5, h6, h7, h8, h9, h10, h11, h12, h13⟩ := h
    exact ⟨h1, h2, h3, h4, h5, h6, h7, h8, h9, h10, h11, h12.mono hw, h13⟩
theorem LvQ_take {s : Int} (hk : TkH Kd Vl Pl tk c v) (h : LvQ Pl w R (t + 1) N ag tk C f g) (hN : 0 ≤ N ∧ N ≤ t) (s0 : 0 ≤ s) (xf : eqx [289, 294] f f') (xg : eqx [] g g') (e1 : f' 289 = (if isK Kd Vl (f 294) 3 s then f 289 else flF (f 289) (Pl (f 294)))) (e2 : f' 294 = (if isK Kd Vl (f 294) 3 s then gnF (f 293) (f 294) else f 294)) : LvQ Pl w (pBr c (100 + s) R) t N ag tk C f' g' := by
  have hg := eqx_nil xg
  have htk := hk.1
  cases R with
  | error e => exact DdS.c (show DdS tk (Pl e) ag f from h) xf e1 e2
  | ok r =>
    obtain ⟨t', p', k⟩ := r
    obtain ⟨h1, h2, h3, h4, h5, h6, h7, h8, h9, h10, h11, h12, h13⟩ := h
    rw [h3] at e1 e2
    have ht := hk.2.1 t' (by omega) h5
    have q := tk_sg (s := s) ht.1 s0
    have x3 := xf 293 (by decide)
    have x5 := xf 295 (by decide)
    have x7 := xf 417 (by decide)
    have x8 := xf 418 (by decide)
    by_cases z : c t' = 100 + s
    · rw [if_pos (q.mpr z)] at e1 e2
      have go := hk.go h5 (by omega)
      rw [h2, go.1] at e2
      have hR : pBr c (100 + s) (.ok (t', p', k)) = .ok (t' + 1, p', k) := if_pos z
      rw [hR]
      refine ⟨e1.trans h1, x3.trans h2, e2.trans (by omega), x5.trans h4, by omega, h6, by rw [x7]; exact h7, by rw [x7]; omega, by rw [x8]; exact h9, by rw [x8]; exact h10, by rw [hg]; exact h11, by rw [hg, x7]; exact h12, by rw [x8]; exact h13⟩
    · rw [if_neg (fun y => z (q.mp y))] at e1 e2
      have hR : pBr c (100 + s) (.ok (t', p', k)) = .error t' := if_neg z
      rw [hR]
      rw [h1] at e1
      exact mkD (x3.trans h2) e2 (x5.trans h4) x7 x8 (e1.trans (if_pos rfl)) hk.1 (by omega) (by omega) (by omega) h9 h10 (by omega)
theorem DdS.agm {fl ag1 : Int} (h : DdS tk fl ag1 f) (hm : ag = 1 → ag1 = 1) : DdS tk fl ag f := by
  obtain ⟨h1, h2, h3, h4, h5, h6, h7, h8, h9⟩ := h
  exact ⟨h1, h2, h3, h4, h5, h6, fun z => h7 (hm z), h8, h9⟩
end LW
theorem Cod_binL {C : Int → Int} {s e1 e2 o : Int} {w : Nat} {k1 k2 : Den} (c1 : Cod C s e1 (w + 1) k1) (c2 : Cod C e1 e2 w k2) (h1 : s ≤ e1) (h2 : e1 ≤ e2) (o0 : 3 ≤ o) (o1 : o ≤ 10) (hC : C e2 = o * 1024) (hw : 1 ≤ w) : Cod C s (e2 + 1) (w + 1) (dBin o k1 k2) := by
  intro D N φ st r hD hN hl g1 g2
  refine c1 D N φ st r (fun q a b => hD q a (by omega)) (by omega) (by omega) (fun x hx => ?_) (fun hx => g2 (by unfold dBin; rw [hx]))
  refine c2 D N φ (x :: st) r (fun q a b => hD q (by omega) (by omega)) (by omega) (by simp only [List.length_cons]; omega) (fun y hy => ?_) (fun hy => g2 (by unfold dBin; rw [hx]; show (match k2 φ with | none => none | some y => opV o x y) = none; rw [hy]))
  have ev : dBin o k1 k2 φ = opV o x y := by
    unfold dBin
    rw [hx]
    show (match k2 φ with | none => none | some y => opV o x y) = _
    rw [hy]
  have hc := (hD e2 (by omega) (by omega)).trans hC
  cases hz : opV o x y with
  | some z => exact Ask.bin (by omega) o0 o1 hc (by omega) hz (g1 z (ev.trans hz))
  | none =>
    have e := g2 (ev.trans hz)
    subst e
    exact Ask.bad (by omega) o0 o1 hc (by omega) hz
/-- what a row of parts has come to -/
def RwQ (Pl : Int → Int) (w : Nat) (R0 : PR) (lp : Nat → Nat → Den → PR) (i t : Nat) (N ag tk : Int) (C : Int → Int) (f : mF) (g : mA) : Prop := (∃ e, R0 = .error e ∧ DdS tk (Pl e) ag f) ∨ ∃ t' p' k, R0 = lp t' p' k ∧ LvQ Pl w (.ok (t', p', k)) t N ag tk C f g ∧ 2 * i ≤ t'
section TS
variable {Pl c : Int → Int} {wi : Nat} {R0 : PR} {op : Int → Option Int} {item : Nat → Nat → PR} {t t' p' m i : Nat} {k : Den} {N ag tk N1 ag1 o : Int} {C C1 : Int → Int} {f2 f3 : mF} {g2 g3 : mA}
theorem tm_step (hR : R0 = pLoop op c item (m + 1) t' p' k) (ho : op (c t') = some o) (l7 : N < N1) (l8 : N1 + t ≤ t' + N) (hNt : 0 ≤ N ∧ N ≤ t) (l10 : ag = 1 → ag1 = 1) (l11 : ∀ q : Int, q < N → C1 q = C q) (l12 : Cod C1 N N1 (wi + 1) k) (l13 : ag1 = 0 → Ng k) (hq : LvQ Pl wi (item (t' + 1) p') (t' + 1) N1 ag1 tk C1 f2 g2) (xf : eqx [417] f2 f3) (e417 : f3 417 = (if f2 417 < 400 then f2 417 + 1 else f2 417)) (e424 : g3 424 = (if f2 417 < 400 then iu (g2 424) (f2 417) (o * 1024 + 0) else g2 424)) (htk : tk ≤ 401) (o0 : 3 ≤ o) (o1 : o ≤ 10) (hwi : 1 ≤ wi) (hi : 2 * i ≤ t') (ha1 : in01 ag1) : RwQ Pl (wi + 1) R0 (pLoop op c item m) (i + 1) t N ag tk C f3 g3 := by
  have hst : R0 = (match item (t' + 1) p' with | .error e => .error e | .ok (t2, p2, k2) => pLoop op c item m t2 p2 (dBin o k k2)) := by
    rw [hR, pLoop, ho]
    rfl
  cases hr : item (t' + 1) p' with
  | error e =>
    rw [hr] at hq hst
    exact Or.inl ⟨e, hst, ((show DdS tk (Pl e) ag1 f2 from hq).p xf e417).agm l10⟩
  | ok r =>
    obtain ⟨t2, p2, k2⟩ := r
    rw [hr] at hq hst
    obtain ⟨h1, h2, h3, h4, h5, h6, h7, h8, h9, h10, h11, h12, h13⟩ := hq
    rw [if_pos (show f2 417 < 400 by omega)] at e417 e424
    have x289 := xf 289 (by decide)
    have x293 := xf 293 (by decide)
    have x294 := xf 294 (by decide)
    have x295 := xf 295 (by decide)
    have x418 := xf 418 (by decide)
    have kp : ∀ q : Int, q < f2 417 → g3 424 q = g2 424 q := fun q hq => by rw [e424, iu_ne (by omega)]
    refine Or.inr ⟨t2, p2, dBin o k k2, hst, ⟨x289.trans h1, x293.trans h2, x294.trans h3, x295.trans h4, h5, h6, by omega, by omega, by rw [x418]; exact h9, fun z => by rw [x418]; exact h10 (l10 z), fun q hq => by rw [kp q (by omega), h11 q (by omega), l11 q hq], ?_, fun z => ?_⟩, by omega⟩
    · rw [e417]
      refine Cod_binL (l12.keep (fun q a b => by rw [kp q (by omega), h11 q b])) (h12.keep (fun q a b => kp q b)) (by omega) (by omega) o0 o1 (by rw [e424, iu_self]; omega) hwi
    · rw [x418] at z
      have a1 : ag1 = 0 := by
        rcases h9 with y | y
        · by_cases e : ag1 = 0
          · exact e
          · exact absurd (h10 (by rcases ha1 with q | q <;> omega)) (by omega)
        · omega
      exact Ng_bin (l13 a1) (h13 z)
end TS
theorem tk_v {Kd Vl c v : Int → Int} {i : Int} (h : TkA Kd Vl c v i) (e : c i = 50) : 0 ≤ v i := by unfold TkA WdA at h; omega
set_option maxHeartbeats 4000000 in
set_option maxRecDepth 100000 in
theorem v_part_true {l : Launch} {E : cE} {f : mF} {g j : mA} {Kd : Int → Int} {Vl : Int → Int} {Pl : Int → Int} {C : Int → Int} {tk : Int} {N : Int} {ag : Int} {dp : Int} {t p e : Nat} {c v : Int → Int} (eg290 : g 290 = Kd) (eg291 : g 291 = Vl) (eg292 : g 292 = Pl) (eg424 : g 424 = C) (ef289 : f 289 = (-1)) (ef293 : f 293 = tk) (ef294 : f 294 = (t : Int)) (ef295 : f 295 = (p : Int)) (ef296 : f 296 = 1) (ef417 : f 417 = N) (ef418 : f 418 = ag) (hdp : zIn dp) (hk : TkH Kd Vl Pl tk c v) (t1 : (t : Int) < tk) (p1 : p ≤ 50) (hN : 0 ≤ N ∧ N ≤ t) (ha : in01 ag) (he : dp = 8 - (e : Int)) (e8 : e ≤ 8) (hsum : ∀ e2 : Nat, e = e2 + 1 → LvM l E MX3_sum (3 * e2 + 6) [vI (8 - (e2 : Int))] Kd Vl Pl tk 1 (2 * e2 + 3) (pSumD true c v e2)) : CM l E MX3_part (3 * e + 4) [.ref (E.1 319), vI dp] f g j (PV (fun f' g' j' => (LvQ Pl (2 * e + 1) (pPart true c v (pIn true c v e) t p) t N ag tk C f' g') ∧ eqx [289, 294, 295, 417, 418] f f' ∧ eqx [424] g g' ∧ j' = j)) := by
  refine CM.intro [some (.ref (E.1 319)), some (vI dp)] (by decide) (Nat.le_of_ble_eq_true rfl) rfl (fun d hd h0 h hH hA => ?_)
  have hfE : eqx [289, 294, 295, 417, 418] f f := eqx.rf
  have hgE : eqx [424] g g := eqx.rf
  have htk := hk.1
  have hp0 := (hk.2.1 t (by omega) t1).2
  have hti := (hk.2.1 t (by omega) t1).1
  refine z_ald_0 (TX3_part.at 0 rfl) ?_
  refine z_bipush (by decide) (TX3_part.at 1 rfl) ?_
  refine zc_callI1 (m := 9) (c_isSign eg290 eg291 ef294 (by omega) (by omega) (by omega) ) (hH.lv (by decide)) (TX3_part.at 2 rfl) c3_175 rfl rfl hH hA (by omega) (Nat.le_of_ble_eq_true rfl) (fun x3 f3 g3 j3 h r3 q3 hH hA => ?_)
  obtain ⟨q3, xf, xg, xj⟩ := q3
  rw [xj] at hH
  have ef289 := (xf 289 (by decide)).trans ef289
  have ef293 := (xf 293 (by decide)).trans ef293
  have ef294 := (xf 294 (by decide)).trans ef294
  have ef295 := (xf 295 (by decide)).trans ef295
  have ef296 := (xf 296 (by decide)).trans ef296
  have ef417 := (xf 417 (by decide)).trans ef417
  have ef418 := (xf 418 (by decide)).trans ef418
  have hfE := hfE.trans xf (by decide)
  have eg290 := (xg 290 (by decide)).trans eg290
  have eg291 := (xg 291 (by decide)).trans eg291
  have eg292 := (xg 292 (by decide)).trans eg292
  have eg424 := (xg 424 (by decide)).trans eg424
  have hgE := hgE.trans xg (by decide)
  have qL := q3
  rw [b2i_cg (tk_sg (hk.2.1 t (by omega) (by omega)).1 (by decide))] at qL
  subst qL
  refine z_if_eqB (tgt := 33) (TX3_part.at 3 rfl) rfl (fun c1 => ?_) (fun c1 => ?_)
  · skip
    refine z_ald_0 (TX3_part.at 17 rfl) ?_
    refine zc_getIE (m := 9) (s := 7) (k := 295) (hH.lv (by decide)) ef295 (TX3_part.at 18 rfl) fl3_40 hH rfl rfl (by decide) (by decide) (fun r34 => ?_)
    refine z_bipush (by decide) (TX3_part.at 19 rfl) ?_
    refine z_icmp_lt (tgt := 49) (TX3_part.at 20 rfl) rfl (by omega) (by omega) (fun c2 => ?_) (fun c2 => ?_)
    · skip
      have hk1 := tk_1 hti
      refine z_ald_0 (TX3_part.at 24 rfl) ?_
      refine zc_getA (m := 9) (s := 2) (k := 290) (hH.lv (by decide)) (TX3_part.at 25 rfl) fl3_24 hH rfl rfl (by decide) (by decide) ?_
      refine z_ald_0 (TX3_part.at 26 rfl) ?_
      refine zc_getIE (m := 9) (s := 6) (k := 294) (hH.lv (by decide)) ef294 (TX3_part.at 27 rfl) fl3_37 hH rfl rfl (by decide) (by decide) (fun r54 => ?_)
      refine zcf_iald (k := 290) (N := 401) (hH.lv (by decide)) (by decide) rfl eg290 (TX3_part.at 28 rfl) hH (by decide) (by omega) (show _ < ((401 : Nat) : Int) by omega) (fun r57 => ?_)
      refine z_iconst (TX3_part.at 29 rfl) ?_
      refine z_icmp_ne (tgt := 91) (TX3_part.at 30 rfl) rfl (by omega) (by omega) (fun c3 => ?_) (fun c3 => ?_)
      · skip
        refine z_ald_0 (TX3_part.at 46 rfl) ?_
        refine z_dup rfl (TX3_part.at 47 rfl) ?_
        refine zc_getIE (m := 9) (s := 7) (k := 295) (hH.lv (by decide)) ef295 (TX3_part.at 48 rfl) fl3_40 hH rfl rfl (by decide) (by decide) (fun r93 => ?_)
        refine z_iconst (TX3_part.at 49 rfl) ?_
        refine z_iadd (TX3_part.at 50 rfl) ?_
        refine zc_putI (m := 9) (s := 7) (k := 295) (hH.lv (by decide)) (TX3_part.at 51 rfl) fp3_40 hH hA rfl rfl (by decide) (by decide) (by first | omega | exact b2i_01 _) (fun h f98 e1 e2 hH hA => ?_)
        have ef289 := (e1 289 (by decide)).trans ef289
        have ef293 := (e1 293 (by decide)).trans ef293
        have ef294 := (e1 294 (by decide)).trans ef294
        have ef295 := e2
        have ef296 := (e1 296 (by decide)).trans ef296
        have ef417 := (e1 417 (by decide)).trans ef417
        have ef418 := (e1 418 (by decide)).trans ef418
        have hfE := hfE.put e1 (by decide)
        refine z_ald_0 (TX3_part.at 52 rfl) ?_
        refine zc_callV0 (m := 9) (v_word_true (p := p + 1) eg290 eg291 eg292 eg424 ef289 ef293 ef294 (ef295.trans (by omega)) ef296 ef417 ef418 hk t1 (by omega) hN ha) (hH.lv (by decide)) (TX3_part.at 53 rfl) c3_238 rfl rfl hH hA (by omega) (Nat.le_of_ble_eq_true rfl) (fun f102 g102 j102 h q102 hH hA => ?_)
        obtain ⟨q102, xf, xg, xj⟩ := q102
        rw [xj] at hH
        have ef293 := (xf 293 (by decide)).trans ef293
        have ef296 := (xf 296 (by decide)).trans ef296
        have hfE := hfE.trans xf (by decide)
        have eg290 := (xg 290 (by decide)).trans eg290
        have eg291 := (xg 291 (by decide)).trans eg291
        have eg292 := (xg 292 (by decide)).trans eg292
        have hgE := hgE.trans xg (by decide)
        have qL := q102
        have hwd := qL
        refine zc_vret (TX3_part.at 54 rfl) rfl hH hA ?_
        exact ⟨by rw [pPart_w (by omega) (by omega) (by omega)]; exact hwd.mono (by omega), hfE, hgE, rfl⟩
      · skip
        have hgo := hk.go (i := (t : Int)) (by omega) (by omega)
        have t2 := hgo.2
        refine z_ald_0 (TX3_part.at 31 rfl) ?_
        refine z_dup rfl (TX3_part.at 32 rfl) ?_
        refine zc_getIE (m := 9) (s := 7) (k := 295) (hH.lv (by decide)) ef295 (TX3_part.at 33 rfl) fl3_40 hH rfl rfl (by decide) (by decide) (fun r64 => ?_)
        refine z_iconst (TX3_part.at 34 rfl) ?_
        refine z_iadd (TX3_part.at 35 rfl) ?_
        refine zc_putI (m := 9) (s := 7) (k := 295) (hH.lv (by decide)) (TX3_part.at 36 rfl) fp3_40 hH hA rfl rfl (by decide) (by decide) (by first | omega | exact b2i_01 _) (fun h f69 e1 e2 hH hA => ?_)
        have ef289 := (e1 289 (by decide)).trans ef289
        have ef293 := (e1 293 (by decide)).trans ef293
        have ef294 := (e1 294 (by decide)).trans ef294
        have ef295 := e2
        have ef296 := (e1 296 (by decide)).trans ef296
        have ef417 := (e1 417 (by decide)).trans ef417
        have ef418 := (e1 418 (by decide)).trans ef418
        have hfE := hfE.put e1 (by decide)
        refine z_ald_0 (TX3_part.at 37 rfl) ?_
        refine zc_getO (m := 9) (s := 0) (k := 447) (hH.lv (by decide)) (TX3_part.at 38 rfl) fl3_14 hH rfl rfl (by decide) (by decide) ?_
        refine z_iconst (TX3_part.at 39 rfl) ?_
        refine z_ald_0 (TX3_part.at 40 rfl) ?_
        refine z_iconst (TX3_part.at 41 rfl) ?_
        refine z_sipush (by decide) (TX3_part.at 42 rfl) ?_
        refine zc_callI2 (m := 9) (c_small eg290 eg291 eg292 ef289 ef293 ef294 (by omega) (by omega) (by omega) (by omega) (by omega) (by omega) ) (hH.lv (by decide)) (TX3_part.at 43 rfl) c3_203 rfl rfl hH hA (by omega) (Nat.le_of_ble_eq_true rfl) (fun x82 f82 g82 j82 h r82 q82 hH hA => ?_)
        obtain ⟨q82, xf, xg, xj⟩ := q82
        rw [xj] at hH
        have ef293 := (xf 293 (by decide)).trans ef293
        have ef295 := (xf 295 (by decide)).trans ef295
        have ef296 := (xf 296 (by decide)).trans ef296
        have ef417 := (xf 417 (by decide)).trans ef417
        have ef418 := (xf 418 (by decide)).trans ef418
        have hfE := hfE.trans xf (by decide)
        have eg290 := (xg 290 (by decide)).trans eg290
        have eg291 := (xg 291 (by decide)).trans eg291
        have eg292 := (xg 292 (by decide)).trans eg292
        have eg424 := (xg 424 (by decide)).trans eg424
        have hgE := hgE.trans xg (by decide)
        have qL := q82
        have hsm := small_tk (a := 0) (b := 1000) (i := (t : Int)) hk (by omega) (by omega) (by decide) (by decide) qL
        obtain ⟨fl9, ef289⟩ : ∃ z, f82 289 = z := ⟨_, rfl⟩
        obtain ⟨nx9, ef294⟩ : ∃ z, f82 294 = z := ⟨_, rfl⟩
        rw [ef289, ef294] at hsm
        refine zc_callV2 (m := 13) (c_put eg424 ef417 (by omega) (by omega) (by omega) (by omega) (by omega) (by omega) (by omega) ) (hH.lv (by decide)) (TX3_part.at 44 rfl) c3_214 rfl rfl hH hA (by omega) (Nat.le_of_ble_eq_true rfl) (fun f85 g85 j85 h q85 hH hA => ?_)
        obtain ⟨q85, xf, xg, xj⟩ := q85
        rw [xj] at hH
        have ef289 := (xf 289 (by decide)).trans ef289
        have ef293 := (xf 293 (by decide)).trans ef293
        have ef294 := (xf 294 (by decide)).trans ef294
        have ef295 := (xf 295 (by decide)).trans ef295
        have ef296 := (xf 296 (by decide)).trans ef296
        have ef418 := (xf 418 (by decide)).trans ef418
        have hfE := hfE.trans xf (by decide)
        have eg290 := (xg 290 (by decide)).trans eg290
        have eg291 := (xg 291 (by decide)).trans eg291
        have eg292 := (xg 292 (by decide)).trans eg292
        have hgE := hgE.trans xg (by decide)
        have qL := q85
        rw [if_pos (show N < 400 by omega), if_pos (show N < 400 by omega)] at qL
        have ef417 := qL.1
        have eg424 := qL.2
        refine z_goto (tgt := 105) (TX3_part.at 45 rfl) rfl ?_
        refine zc_vret (TX3_part.at 54 rfl) rfl hH hA ?_
        rcases hsm with ⟨h1, h2, h3, h4, h5⟩ | ⟨h1, h2, h3, h4⟩
        · rw [h2] at eg424
          exact ⟨LvQ.ok1 (t' := t + 1) (p' := p + 1) (pPart_n1 h1.1 h1.2.2 (by omega)) (ef289.trans h3) ef293 (ef294.trans (by omega)) (ef295.trans (by omega)) (by omega) (by omega) ef417 (by omega) ef418 ha id eg424 ((Cod_num (iu_self _ _ _) (by omega) (by omega)).mono (by omega)) (fun _ => Ng_num), hfE, hgE, rfl⟩
        · exact ⟨LvQ.er (pPart_n0 (by omega) (by have hv0 := tk_num hti (by omega); have := tk_v hti (by omega); omega)) (mkD ef293 ef294 ef295 ef417 ef418 (ef289.trans h3) htk (by omega) (by omega) (by omega) ha id (by omega)), hfE, hgE, rfl⟩
    · skip
      refine z_ald_0 (TX3_part.at 21 rfl) ?_
      refine zc_callV0 (m := 9) (c_fail eg292 ef289 ef294 (by omega) (by omega) ) (hH.lv (by decide)) (TX3_part.at 22 rfl) c3_54 rfl rfl hH hA (by omega) (Nat.le_of_ble_eq_true rfl) (fun f43 g43 j43 h q43 hH hA => ?_)
      obtain ⟨q43, xf, xg, xj⟩ := q43
      rw [xj] at hH
      have ef293 := (xf 293 (by decide)).trans ef293
      have ef294 := (xf 294 (by decide)).trans ef294
      have ef295 := (xf 295 (by decide)).trans ef295
      have ef296 := (xf 296 (by decide)).trans ef296
      have ef417 := (xf 417 (by decide)).trans ef417
      have ef418 := (xf 418 (by decide)).trans ef418
      have hfE := hfE.trans xf (by decide)
      have eg290 := (xg 290 (by decide)).trans eg290
      have eg291 := (xg 291 (by decide)).trans eg291
      have eg292 := (xg 292 (by decide)).trans eg292
      have eg424 := (xg 424 (by decide)).trans eg424
      have hgE := hgE.trans xg (by decide)
      have qL := q43
      have ef289 := qL.trans (if_pos rfl)
      refine z_goto (tgt := 105) (TX3_part.at 23 rfl) rfl ?_
      refine zc_vret (TX3_part.at 54 rfl) rfl hH hA ?_
      exact ⟨LvQ.er (pPart_50 (by omega) (by omega)) (mkD ef293 ef294 ef295 ef417 ef418 ef289 htk (by omega) (by omega) (by omega) ha id (by omega)), hfE, hgE, rfl⟩
  · skip
    refine z_ald_0 (TX3_part.at 4 rfl) ?_
    refine z_ild_1 (TX3_part.at 5 rfl) ?_
    refine zc_callI1 (m := 9) (c_opened eg292 ef289 ef293 ef294 (by omega) (by omega) (by omega) (by omega) (by omega) ) (hH.lv (by decide)) (TX3_part.at 6 rfl) c3_229 rfl rfl hH hA (by omega) (Nat.le_of_ble_eq_true rfl) (fun x11 f11 g11 j11 h r11 q11 hH hA => ?_)
    obtain ⟨q11, xf, xg, xj⟩ := q11
    rw [xj] at hH
    have ef293 := (xf 293 (by decide)).trans ef293
    have ef295 := (xf 295 (by decide)).trans ef295
    have ef296 := (xf 296 (by decide)).trans ef296
    have ef417 := (xf 417 (by decide)).trans ef417
    have ef418 := (xf 418 (by decide)).trans ef418
    have hfE := hfE.trans xf (by decide)
    have eg290 := (xg 290 (by decide)).trans eg290
    have eg291 := (xg 291 (by decide)).trans eg291
    have eg292 := (xg 292 (by decide)).trans eg292
    have eg424 := (xg 424 (by decide)).trans eg424
    have hgE := hgE.trans xg (by decide)
    have qL := q11
    obtain ⟨fl9, ef289⟩ : ∃ z, f11 289 = z := ⟨_, rfl⟩
    obtain ⟨nx9, ef294⟩ : ∃ z, f11 294 = z := ⟨_, rfl⟩
    rw [ef289, ef294] at qL
    obtain ⟨qe, o1, o2⟩ := qL
    subst qe
    refine z_if_eqB (tgt := 105) (TX3_part.at 7 rfl) rfl (fun c4 => ?_) (fun c4 => ?_)
    · skip
      rw [if_neg (show ¬ dp < 8 by omega)] at o1 o2
      obtain rfl : e = 0 := by omega
      refine zc_vret (TX3_part.at 54 rfl) rfl hH hA ?_
      exact ⟨LvQ.er (pPart_b0 (by omega)) (mkD ef293 (ef294.trans o2) ef295 ef417 ef418 (ef289.trans (o1.trans (if_pos rfl))) htk (by omega) (by omega) (by omega) ha id (by omega)), hfE, hgE, rfl⟩
    · skip
      rw [if_pos (show dp < 8 by omega)] at o1 o2
      obtain ⟨e2, rfl⟩ : ∃ e2, e = e2 + 1 := ⟨e - 1, by omega⟩
      have hgo := hk.go (i := (t : Int)) (by omega) (by omega)
      rw [hgo.1] at o2
      have t2 := hgo.2
      refine z_ald_0 (TX3_part.at 8 rfl) ?_
      refine z_ild_1 (TX3_part.at 9 rfl) ?_
      refine z_iconst (TX3_part.at 10 rfl) ?_
      refine z_iadd (TX3_part.at 11 rfl) ?_
      rw [show dp + 1 = 8 - (e2 : Int) by omega]
      refine zc_callV1 (m := 9) (hsum e2 rfl (t + 1) p N ag C _ _ _ eg290 eg291 eg292 eg424 (ef289.trans o1) ef293 (ef294.trans (by omega)) ef295 ef296 ef417 ef418 (by omega) p1 (by omega) ha) (hH.lv (by decide)) (TX3_part.at 12 rfl) c3_217 rfl rfl hH hA (by omega) (Nat.le_of_ble_eq_true rfl) (fun f21 g21 j21 h q21 hH hA => ?_)
      obtain ⟨q21, xf, xg, xj⟩ := q21
      rw [xj] at hH
      have ef293 := (xf 293 (by decide)).trans ef293
      have ef296 := (xf 296 (by decide)).trans ef296
      have hfE := hfE.trans xf (by decide)
      have eg290 := (xg 290 (by decide)).trans eg290
      have eg291 := (xg 291 (by decide)).trans eg291
      have eg292 := (xg 292 (by decide)).trans eg292
      have hgE := hgE.trans xg (by decide)
      have qL := q21
      have hq := qL
      have hps := hq.ps htk (by omega)
      have b2 := hps.2.2.1
      refine z_ald_0 (TX3_part.at 13 rfl) ?_
      refine z_bipush (by decide) (TX3_part.at 14 rfl) ?_
      refine zc_callV1 (m := 9) (c_take eg290 eg291 eg292 rfl rfl rfl (by omega) (by omega) (by omega) (by omega) (by omega) ) (hH.lv (by decide)) (TX3_part.at 15 rfl) c3_60 rfl rfl hH hA (by omega) (Nat.le_of_ble_eq_true rfl) (fun f27 g27 j27 h q27 hH hA => ?_)
      obtain ⟨q27, xf, xg, xj⟩ := q27
      rw [xj] at hH
      have ef293 := (xf 293 (by decide)).trans ef293
      have ef296 := (xf 296 (by decide)).trans ef296
      have hfE := hfE.trans xf (by decide)
      have eg290 := (xg 290 (by decide)).trans eg290
      have eg291 := (xg 291 (by decide)).trans eg291
      have eg292 := (xg 292 (by decide)).trans eg292
      have hgE := hgE.trans xg (by decide)
      have qL := q27
      have hfin := LvQ_take hk hq hN (show (0 : Int) ≤ 93 by decide) xf xg qL.1 qL.2
      refine z_goto (tgt := 105) (TX3_part.at 16 rfl) rfl ?_
      refine zc_vret (TX3_part.at 54 rfl) rfl hH hA ?_
      exact ⟨by rw [show pIn true c v (e2 + 1) = some (pSumD true c v e2) from rfl, pPart_b1 (by omega)]; exact hfin.mono (by omega), hfE, hgE, rfl⟩

set_option maxHeartbeats 4000000 in
set_option maxRecDepth 100000 in
theorem v_part_false {l : Launch} {E : cE} {f : mF} {g j : mA} {Kd : Int → Int} {Vl : Int → Int} {Pl : Int → Int} {C : Int → Int} {tk : Int} {N : Int} {ag : Int} {dp : Int} {t p e : Nat} {c v : Int → Int} (eg290 : g 290 = Kd) (eg291 : g 291 = Vl) (eg292 : g 292 = Pl) (eg424 : g 424 = C) (ef289 : f 289 = (-1)) (ef293 : f 293 = tk) (ef294 : f 294 = (t : Int)) (ef295 : f 295 = (p : Int)) (ef296 : f 296 = 0) (ef417 : f 417 = N) (ef418 : f 418 = ag) (hdp : zIn dp) (hk : TkH Kd Vl Pl tk c v) (t1 : (t : Int) < tk) (p1 : p ≤ 50) (hN : 0 ≤ N ∧ N ≤ t) (ha : in01 ag) (he : dp = 8 - (e : Int)) (e8 : e ≤ 8) (hsum : ∀ e2 : Nat, e = e2 + 1 → LvM l E MX3_sum (3 * e2 + 6) [vI (8 - (e2 : Int))] Kd Vl Pl tk 0 (2 * e2 + 3) (pSumD false c v e2)) : CM l E MX3_part (3 * e + 4) [.ref (E.1 319), vI dp] f g j (PV (fun f' g' j' => (LvQ Pl (2 * e + 1) (pPart false c v (pIn false c v e) t p) t N ag tk C f' g') ∧ eqx [289, 294, 295, 417, 418] f f' ∧ eqx [424] g g' ∧ j' = j)) := by
  refine CM.intro [some (.ref (E.1 319)), some (vI dp)] (by decide) (Nat.le_of_ble_eq_true rfl) rfl (fun d hd h0 h hH hA => ?_)
  have hfE : eqx [289, 294, 295, 417, 418] f f := eqx.rf
  have hgE : eqx [424] g g := eqx.rf
  have htk := hk.1
  have hp0 := (hk.2.1 t (by omega) t1).2
  have hti := (hk.2.1 t (by omega) t1).1
  refine z_ald_0 (TX3_part.at 0 rfl) ?_
  refine z_bipush (by decide) (TX3_part.at 1 rfl) ?_
  refine zc_callI1 (m := 9) (c_isSign eg290 eg291 ef294 (by omega) (by omega) (by omega) ) (hH.lv (by decide)) (TX3_part.at 2 rfl) c3_175 rfl rfl hH hA (by omega) (Nat.le_of_ble_eq_true rfl) (fun x3 f3 g3 j3 h r3 q3 hH hA => ?_)
  obtain ⟨q3, xf, xg, xj⟩ := q3
  rw [xj] at hH
  have ef289 := (xf 289 (by decide)).trans ef289
  have ef293 := (xf 293 (by decide)).trans ef293
  have ef294 := (xf 294 (by decide)).trans ef294
  have ef295 := (xf 295 (by decide)).trans ef295
  have ef296 := (xf 296 (by decide)).trans ef296
  have ef417 := (xf 417 (by decide)).trans ef417
  have ef418 := (xf 418 (by decide)).trans ef418
  have hfE := hfE.trans xf (by decide)
  have eg290 := (xg 290 (by decide)).trans eg290
  have eg291 := (xg 291 (by decide)).trans eg291
  have eg292 := (xg 292 (by decide)).trans eg292
  have eg424 := (xg 424 (by decide)).trans eg424
  have hgE := hgE.trans xg (by decide)
  have qL := q3
  rw [b2i_cg (tk_sg (hk.2.1 t (by omega) (by omega)).1 (by decide))] at qL
  subst qL
  refine z_if_eqB (tgt := 33) (TX3_part.at 3 rfl) rfl (fun c1 => ?_) (fun c1 => ?_)
  · skip
    refine z_ald_0 (TX3_part.at 17 rfl) ?_
    refine zc_getIE (m := 9) (s := 7) (k := 295) (hH.lv (by decide)) ef295 (TX3_part.at 18 rfl) fl3_40 hH rfl rfl (by decide) (by decide) (fun r34 => ?_)
    refine z_bipush (by decide) (TX3_part.at 19 rfl) ?_
    refine z_icmp_lt (tgt := 49) (TX3_part.at 20 rfl) rfl (by omega) (by omega) (fun c2 => ?_) (fun c2 => ?_)
    · skip
      have hk1 := tk_1 hti
      refine z_ald_0 (TX3_part.at 24 rfl) ?_
      refine zc_getA (m := 9) (s := 2) (k := 290) (hH.lv (by decide)) (TX3_part.at 25 rfl) fl3_24 hH rfl rfl (by decide) (by decide) ?_
      refine z_ald_0 (TX3_part.at 26 rfl) ?_
      refine zc_getIE (m := 9) (s := 6) (k := 294) (hH.lv (by decide)) ef294 (TX3_part.at 27 rfl) fl3_37 hH rfl rfl (by decide) (by decide) (fun r54 => ?_)
      refine zcf_iald (k := 290) (N := 401) (hH.lv (by decide)) (by decide) rfl eg290 (TX3_part.at 28 rfl) hH (by decide) (by omega) (show _ < ((401 : Nat) : Int) by omega) (fun r57 => ?_)
      refine z_iconst (TX3_part.at 29 rfl) ?_
      refine z_icmp_ne (tgt := 91) (TX3_part.at 30 rfl) rfl (by omega) (by omega) (fun c3 => ?_) (fun c3 => ?_)
      · skip
        refine z_ald_0 (TX3_part.at 46 rfl) ?_
        refine z_dup rfl (TX3_part.at 47 rfl) ?_
        refine zc_getIE (m := 9) (s := 7) (k := 295) (hH.lv (by decide)) ef295 (TX3_part.at 48 rfl) fl3_40 hH rfl rfl (by decide) (by decide) (fun r93 => ?_)
        refine z_iconst (TX3_part.at 49 rfl) ?_
        refine z_iadd (TX3_part.at 50 rfl) ?_
        refine zc_putI (m := 9) (s := 7) (k := 295) (hH.lv (by decide)) (TX3_part.at 51 rfl) fp3_40 hH hA rfl rfl (by decide) (by decide) (by first | omega | exact b2i_01 _) (fun h f98 e1 e2 hH hA => ?_)
        have ef289 := (e1 289 (by decide)).trans ef289
        have ef293 := (e1 293 (by decide)).trans ef293
        have ef294 := (e1 294 (by decide)).trans ef294
        have ef295 := e2
        have ef296 := (e1 296 (by decide)).trans ef296
        have ef417 := (e1 417 (by decide)).trans ef417
        have ef418 := (e1 418 (by decide)).trans ef418
        have hfE := hfE.put e1 (by decide)
        refine z_ald_0 (TX3_part.at 52 rfl) ?_
        refine zc_callV0 (m := 9) (v_word_false (p := p + 1) eg290 eg291 eg292 eg424 ef289 ef293 ef294 (ef295.trans (by omega)) ef296 ef417 ef418 hk t1 (by omega) hN ha) (hH.lv (by decide)) (TX3_part.at 53 rfl) c3_238 rfl rfl hH hA (by omega) (Nat.le_of_ble_eq_true rfl) (fun f102 g102 j102 h q102 hH hA => ?_)
        obtain ⟨q102, xf, xg, xj⟩ := q102
        rw [xj] at hH
        have ef293 := (xf 293 (by decide)).trans ef293
        have ef296 := (xf 296 (by decide)).trans ef296
        have hfE := hfE.trans xf (by decide)
        have eg290 := (xg 290 (by decide)).trans eg290
        have eg291 := (xg 291 (by decide)).trans eg291
        have eg292 := (xg 292 (by decide)).trans eg292
        have hgE := hgE.trans xg (by decide)
        have qL := q102
        have hwd := qL
        refine zc_vret (TX3_part.at 54 rfl) rfl hH hA ?_
        exact ⟨by rw [pPart_w (by omega) (by omega) (by omega)]; exact hwd.mono (by omega), hfE, hgE, rfl⟩
      · skip
        have hgo := hk.go (i := (t : Int)) (by omega) (by omega)
        have t2 := hgo.2
        refine z_ald_0 (TX3_part.at 31 rfl) ?_
        refine z_dup rfl (TX3_part.at 32 rfl) ?_
        refine zc_getIE (m := 9) (s := 7) (k := 295) (hH.lv (by decide)) ef295 (TX3_part.at 33 rfl) fl3_40 hH rfl rfl (by decide) (by decide) (fun r64 => ?_)
        refine z_iconst (TX3_part.at 34 rfl) ?_
        refine z_iadd (TX3_part.at 35 rfl) ?_
        refine zc_putI (m := 9) (s := 7) (k := 295) (hH.lv (by decide)) (TX3_part.at 36 rfl) fp3_40 hH hA rfl rfl (by decide) (by decide) (by first | omega | exact b2i_01 _) (fun h f69 e1 e2 hH hA => ?_)
        have ef289 := (e1 289 (by decide)).trans ef289
        have ef293 := (e1 293 (by decide)).trans ef293
        have ef294 := (e1 294 (by decide)).trans ef294
        have ef295 := e2
        have ef296 := (e1 296 (by decide)).trans ef296
        have ef417 := (e1 417 (by decide)).trans ef417
        have ef418 := (e1 418 (by decide)).trans ef418
        have hfE := hfE.put e1 (by decide)
        refine z_ald_0 (TX3_part.at 37 rfl) ?_
        refine zc_getO (m := 9) (s := 0) (k := 447) (hH.lv (by decide)) (TX3_part.at 38 rfl) fl3_14 hH rfl rfl (by decide) (by decide) ?_
        refine z_iconst (TX3_part.at 39 rfl) ?_
        refine z_ald_0 (TX3_part.at 40 rfl) ?_
        refine z_iconst (TX3_part.at 41 rfl) ?_
        refine z_sipush (by decide) (TX3_part.at 42 rfl) ?_
        refine zc_callI2 (m := 9) (c_small eg290 eg291 eg292 ef289 ef293 ef294 (by omega) (by omega) (by omega) (by omega) (by omega) (by omega) ) (hH.lv (by decide)) (TX3_part.at 43 rfl) c3_203 rfl rfl hH hA (by omega) (Nat.le_of_ble_eq_true rfl) (fun x82 f82 g82 j82 h r82 q82 hH hA => ?_)
        obtain ⟨q82, xf, xg, xj⟩ := q82
        rw [xj] at hH
        have ef293 := (xf 293 (by decide)).trans ef293
        have ef295 := (xf 295 (by decide)).trans ef295
        have ef296 := (xf 296 (by decide)).trans ef296
        have ef417 := (xf 417 (by decide)).trans ef417
        have ef418 := (xf 418 (by decide)).trans ef418
        have hfE := hfE.trans xf (by decide)
        have eg290 := (xg 290 (by decide)).trans eg290
        have eg291 := (xg 291 (by decide)).trans eg291
        have eg292 := (xg 292 (by decide)).trans eg292
        have eg424 := (xg 424 (by decide)).trans eg424
        have hgE := hgE.trans xg (by decide)
        have qL := q82
        have hsm := small_tk (a := 0) (b := 1000) (i := (t : Int)) hk (by omega) (by omega) (by decide) (by decide) qL
        obtain ⟨fl9, ef289⟩ : ∃ z, f82 289 = z := ⟨_, rfl⟩
        obtain ⟨nx9, ef294⟩ : ∃ z, f82 294 = z := ⟨_, rfl⟩
        rw [ef289, ef294] at hsm
        refine zc_callV2 (m := 13) (c_put eg424 ef417 (by omega) (by omega) (by omega) (by omega) (by omega) (by omega) (by omega) ) (hH.lv (by decide)) (TX3_part.at 44 rfl) c3_214 rfl rfl hH hA (by omega) (Nat.le_of_ble_eq_true rfl) (fun f85 g85 j85 h q85 hH hA => ?_)
        obtain ⟨q85, xf, xg, xj⟩ := q85
        rw [xj] at hH
        have ef289 := (xf 289 (by decide)).trans ef289
        have ef293 := (xf 293 (by decide)).trans ef293
        have ef294 := (xf 294 (by decide)).trans ef294
        have ef295 := (xf 295 (by decide)).trans ef295
        have ef296 := (xf 296 (by decide)).trans ef296
        have ef418 := (xf 418 (by decide)).trans ef418
        have hfE := hfE.trans xf (by decide)
        have eg290 := (xg 290 (by decide)).trans eg290
        have eg291 := (xg 291 (by decide)).trans eg291
        have eg292 := (xg 292 (by decide)).trans eg292
        have hgE := hgE.trans xg (by decide)
        have qL := q85
        rw [if_pos (show N < 400 by omega), if_pos (show N < 400 by omega)] at qL
        have ef417 := qL.1
        have eg424 := qL.2
        refine z_goto (tgt := 105) (TX3_part.at 45 rfl) rfl ?_
        refine zc_vret (TX3_part.at 54 rfl) rfl hH hA ?_
        rcases hsm with ⟨h1, h2, h3, h4, h5⟩ | ⟨h1, h2, h3, h4⟩
        · rw [h2] at eg424
          exact ⟨LvQ.ok1 (t' := t + 1) (p' := p + 1) (pPart_n1 h1.1 h1.2.2 (by omega)) (ef289.trans h3) ef293 (ef294.trans (by omega)) (ef295.trans (by omega)) (by omega) (by omega) ef417 (by omega) ef418 ha id eg424 ((Cod_num (iu_self _ _ _) (by omega) (by omega)).mono (by omega)) (fun _ => Ng_num), hfE, hgE, rfl⟩
        · exact ⟨LvQ.er (pPart_n0 (by omega) (by have hv0 := tk_num hti (by omega); have := tk_v hti (by omega); omega)) (mkD ef293 ef294 ef295 ef417 ef418 (ef289.trans h3) htk (by omega) (by omega) (by omega) ha id (by omega)), hfE, hgE, rfl⟩
    · skip
      refine z_ald_0 (TX3_part.at 21 rfl) ?_
      refine zc_callV0 (m := 9) (c_fail eg292 ef289 ef294 (by omega) (by omega) ) (hH.lv (by decide)) (TX3_part.at 22 rfl) c3_54 rfl rfl hH hA (by omega) (Nat.le_of_ble_eq_true rfl) (fun f43 g43 j43 h q43 hH hA => ?_)
      obtain ⟨q43, xf, xg, xj⟩ := q43
      rw [xj] at hH
      have ef293 := (xf 293 (by decide)).trans ef293
      have ef294 := (xf 294 (by decide)).trans ef294
      have ef295 := (xf 295 (by decide)).trans ef295
      have ef296 := (xf 296 (by decide)).trans ef296
      have ef417 := (xf 417 (by decide)).trans ef417
      have ef418 := (xf 418 (by decide)).trans ef418
      have hfE := hfE.trans xf (by decide)
      have eg290 := (xg 290 (by decide)).trans eg290
      have eg291 := (xg 291 (by decide)).trans eg291
      have eg292 := (xg 292 (by decide)).trans eg292
      have eg424 := (xg 424 (by decide)).trans eg424
      have hgE := hgE.trans xg (by decide)
      have qL := q43
      have ef289 := qL.trans (if_pos rfl)
      refine z_goto (tgt := 105) (TX3_part.at 23 rfl) rfl ?_
      refine zc_vret (TX3_part.at 54 rfl) rfl hH hA ?_
      exact ⟨LvQ.er (pPart_50 (by omega) (by omega)) (mkD ef293 ef294 ef295 ef417 ef418 ef289 htk (by omega) (by omega) (by omega) ha id (by omega)), hfE, hgE, rfl⟩
  · skip
    refine z_ald_0 (TX3_part.at 4 rfl) ?_
    refine z_ild_1 (TX3_part.at 5 rfl) ?_
    refine zc_callI1 (m := 9) (c_opened eg292 ef289 ef293 ef294 (by omega) (by omega) (by omega) (by omega) (by omega) ) (hH.lv (by decide)) (TX3_part.at 6 rfl) c3_229 rfl rfl hH hA (by omega) (Nat.le_of_ble_eq_true rfl) (fun x11 f11 g11 j11 h r11 q11 hH hA => ?_)
    obtain ⟨q11, xf, xg, xj⟩ := q11
    rw [xj] at hH
    have ef293 := (xf 293 (by decide)).trans ef293
    have ef295 := (xf 295 (by decide)).trans ef295
    have ef296 := (xf 296 (by decide)).trans ef296
    have ef417 := (xf 417 (by decide)).trans ef417
    have ef418 := (xf 418 (by decide)).trans ef418
    have hfE := hfE.trans xf (by decide)
    have eg290 := (xg 290 (by decide)).trans eg290
    have eg291 := (xg 291 (by decide)).trans eg291
    have eg292 := (xg 292 (by decide)).trans eg292
    have eg424 := (xg 424 (by decide)).trans eg424
    have hgE := hgE.trans xg (by decide)
    have qL := q11
    obtain ⟨fl9, ef289⟩ : ∃ z, f11 289 = z := ⟨_, rfl⟩
    obtain ⟨nx9, ef294⟩ : ∃ z, f11 294 = z := ⟨_, rfl⟩
    rw [ef289, ef294] at qL
    obtain ⟨qe, o1, o2⟩ := qL
    subst qe
    refine z_if_eqB (tgt := 105) (TX3_part.at 7 rfl) rfl (fun c4 => ?_) (fun c4 => ?_)
    · skip
      rw [if_neg (show ¬ dp < 8 by omega)] at o1 o2
      obtain rfl : e = 0 := by omega
      refine zc_vret (TX3_part.at 54 rfl) rfl hH hA ?_
      exact ⟨LvQ.er (pPart_b0 (by omega)) (mkD ef293 (ef294.trans o2) ef295 ef417 ef418 (ef289.trans (o1.trans (if_pos rfl))) htk (by omega) (by omega) (by omega) ha id (by omega)), hfE, hgE, rfl⟩
    · skip
      rw [if_pos (show dp < 8 by omega)] at o1 o2
      obtain ⟨e2, rfl⟩ : ∃ e2, e = e2 + 1 := ⟨e - 1, by omega⟩
      have hgo := hk.go (i := (t : Int)) (by omega) (by omega)
      rw [hgo.1] at o2
      have t2 := hgo.2
      refine z_ald_0 (TX3_part.at 8 rfl) ?_
      refine z_ild_1 (TX3_part.at 9 rfl) ?_
      refine z_iconst (TX3_part.at 10 rfl) ?_
      refine z_iadd (TX3_part.at 11 rfl) ?_
      rw [show dp + 1 = 8 - (e2 : Int) by omega]
      refine zc_callV1 (m := 9) (hsum e2 rfl (t + 1) p N ag C _ _ _ eg290 eg291 eg292 eg424 (ef289.trans o1) ef293 (ef294.trans (by omega)) ef295 ef296 ef417 ef418 (by omega) p1 (by omega) ha) (hH.lv (by decide)) (TX3_part.at 12 rfl) c3_217 rfl rfl hH hA (by omega) (Nat.le_of_ble_eq_true rfl) (fun f21 g21 j21 h q21 hH hA => ?_)
      obtain ⟨q21, xf, xg, xj⟩ := q21
      rw [xj] at hH
      have ef293 := (xf 293 (by decide)).trans ef293
      have ef296 := (xf 296 (by decide)).trans ef296
      have hfE := hfE.trans xf (by decide)
      have eg290 := (xg 290 (by decide)).trans eg290
      have eg291 := (xg 291 (by decide)).trans eg291
      have eg292 := (xg 292 (by decide)).trans eg292
      have hgE := hgE.trans xg (by decide)
      have qL := q21
      have hq := qL
      have hps := hq.ps htk (by omega)
      have b2 := hps.2.2.1
      refine z_ald_0 (TX3_part.at 13 rfl) ?_
      refine z_bipush (by decide) (TX3_part.at 14 rfl) ?_
      refine zc_callV1 (m := 9) (c_take eg290 eg291 eg292 rfl rfl rfl (by omega) (by omega) (by omega) (by omega) (by omega) ) (hH.lv (by decide)) (TX3_part.at 15 rfl) c3_60 rfl rfl hH hA (by omega) (Nat.le_of_ble_eq_true rfl) (fun f27 g27 j27 h q27 hH hA => ?_)
      obtain ⟨q27, xf, xg, xj⟩ := q27
      rw [xj] at hH
      have ef293 := (xf 293 (by decide)).trans ef293
      have ef296 := (xf 296 (by decide)).trans ef296
      have hfE := hfE.trans xf (by decide)
      have eg290 := (xg 290 (by decide)).trans eg290
      have eg291 := (xg 291 (by decide)).trans eg291
      have eg292 := (xg 292 (by decide)).trans eg292
      have hgE := hgE.trans xg (by decide)
      have qL := q27
      have hfin := LvQ_take hk hq hN (show (0 : Int) ≤ 93 by decide) xf xg qL.1 qL.2
      refine z_goto (tgt := 105) (TX3_part.at 16 rfl) rfl ?_
      refine zc_vret (TX3_part.at 54 rfl) rfl hH hA ?_
      exact ⟨by rw [show pIn false c v (e2 + 1) = some (pSumD false c v e2) from rfl, pPart_b1 (by omega)]; exact hfin.mono (by omega), hfE, hgE, rfl⟩

theorem mulOp_n {x : Int} (h : x ≠ 142 ∧ x ≠ 147 ∧ x ≠ 137) : mulOp x = none := by unfold mulOp; rw [if_neg h.1, if_neg h.2.1, if_neg h.2.2]
theorem addOp_n {x : Int} (h : x ≠ 143 ∧ x ≠ 145) : addOp x = none := by unfold addOp; rw [if_neg h.1, if_neg h.2]
theorem mulOp_y {x o : Int} (h : (x = 142 ∧ o = 5) ∨ (x = 147 ∧ o = 6) ∨ (x = 137 ∧ o = 7)) : mulOp x = some o := by
  rcases h with ⟨rfl, rfl⟩ | ⟨rfl, rfl⟩ | ⟨rfl, rfl⟩ <;> decide
theorem addOp_y {x o : Int} (h : (x = 143 ∧ o = 3) ∨ (x = 145 ∧ o = 4)) : addOp x = some o := by
  rcases h with ⟨rfl, rfl⟩ | ⟨rfl, rfl⟩ <;> decide
set_option maxHeartbeats 4000000 in
set_option maxRecDepth 100000 in
theorem lp_term {l : Launch} {E : cE} {d : Nat} {Pz : Option Value → zH → Prop} {h0 : zH} {f0 : mF} {g0 : mA} {j : mA}  {dp tk lf N ag : Int} {Kd Vl Pl c v C : Int → Int} {t wi ni : Nat} {R0 : PR} {item : Nat → Nat → PR} (hk : TkH Kd Vl Pl tk c v) (hN : 0 ≤ N ∧ N ≤ t) (hwi : 1 ≤ wi) (hdi : ni + 1 ≤ d) (hitem : LvM l E MX3_part ni [vI dp] Kd Vl Pl tk lf wi item) (kx : ∀ (i : Int) (o3 : Option Value) (f : mF) (g : mA) (h : zH), LvQ Pl (wi + 1) R0 t N ag tk C f g → eqx [289, 294, 295, 417, 418] f0 f → eqx [424] g0 g → HC E f g j h → cAg E h0 h → Z l MX3_term d 0 0 Pz 103 [some (.ref (E.1 319)), some (vI dp), some (vI i), o3] [] h 0 0)  : ∀ (n : Nat) (iN : Nat) (i : Int) (fl : Int) (nx : Int) (pt : Int) (N1 : Int) (ag1 : Int) (C1 : Int → Int) (o3 : Option Value) (f : mF) (g : mA) (h : zH) (ci : i = (iN : Int)) (i1 : i ≤ 400) (i2 : 400 < i + n) (hI : RwQ Pl (wi + 1) R0 (pLoop mulOp c item (401 - iN)) iN t N ag tk C f g) (eg290 : g 290 = Kd) (eg291 : g 291 = Vl) (eg292 : g 292 = Pl) (eg424 : g 424 = C1) (ef289 : f 289 = fl) (ef293 : f 293 = tk) (ef294 : f 294 = nx) (ef295 : f 295 = pt) (ef296 : f 296 = lf) (ef417 : f 417 = N1) (ef418 : f 418 = ag1) (hfE : eqx [289, 294, 295, 417, 418] f0 f) (hgE : eqx [424] g0 g) (hH : HC E f g j h) (hA : cAg E h0 h), Z l MX3_term d 0 0 Pz 7 [some (.ref (E.1 319)), some (vI dp), some (vI i), o3] [] h 0 0 := by
  intro n
  induction n with
  | zero => intro iN i fl nx pt N1 ag1 C1 o3 f g h ci i1 i2 hI eg290 eg291 eg292 eg424 ef289 ef293 ef294 ef295 ef296 ef417 ef418 hfE hgE hH hA; exfalso; omega
  | succ n ih =>
    intro iN i fl nx pt N1 ag1 C1 o3 f g h ci i1 i2 hI eg290 eg291 eg292 eg424 ef289 ef293 ef294 ef295 ef296 ef417 ef418 hfE hgE hH hA
    have htk := hk.1
    refine z_ild_2 (TX3_term.at 5 rfl) ?_
    refine z_sipush (by decide) (TX3_term.at 6 rfl) ?_
    refine z_icmp_ge (tgt := 103) (TX3_term.at 7 rfl) rfl (by omega) (by omega) (fun c1 => ?_) (fun c1 => ?_)
    · skip
      exact kx _ _ _ _ _ (by rcases hI with ⟨e, hR, hD⟩ | ⟨t', p', k, hR, hlv, hti⟩; exact LvQ.er hR hD; exfalso; have l1 := hlv.1; have l3 := hlv.2.2.1; have l5 := hlv.2.2.2.2.1; omega) hfE hgE hH hA
    · skip
      refine z_ald_0 (TX3_term.at 8 rfl) ?_
      refine zc_getIE (m := 9) (s := 1) (k := 289) (hH.lv (by decide)) ef289 (TX3_term.at 9 rfl) fl3_20 hH rfl rfl (by decide) (by decide) (fun r15 => ?_)
      refine z_iconst (TX3_term.at 10 rfl) ?_
      refine z_icmp_ne (tgt := 103) (TX3_term.at 11 rfl) rfl (by omega) (by omega) (fun c2 => ?_) (fun c2 => ?_)
      · skip
        exact kx _ _ _ _ _ (by rcases hI with ⟨e, hR, hD⟩ | ⟨t', p', k, hR, hlv, hti⟩; exact LvQ.er hR hD; exfalso; have l1 := hlv.1; have l3 := hlv.2.2.1; have l5 := hlv.2.2.2.2.1; omega) hfE hgE hH hA
      · skip
        rcases hI with ⟨e, hR, hD⟩ | ⟨t', p', k, hR, hlv, hti⟩
        · exfalso
          have d8 := hD.2.2.2.2.2.2.2.1
          have d9 := hD.2.2.2.2.2.2.2.2
          omega
        obtain ⟨l1, l2, l3, l4, l5, l6, l7, l8, l9, l10, l11, l12, l13⟩ := hlv
        rw [ef289] at l1
        rw [ef294] at l3
        rw [ef295] at l4
        rw [ef417] at l7 l8 l12
        rw [ef418] at l9 l10 l13
        rw [eg424] at l11 l12
        have l3b : nx = (t' : Int) := l3
        have hfu : 401 - iN = 400 - iN + 1 := by omega
        rw [hfu] at hR
        refine z_ald_0 (TX3_term.at 12 rfl) ?_
        refine z_bipush (by decide) (TX3_term.at 13 rfl) ?_
        refine zc_callI1 (m := 9) (c_isSign eg290 eg291 ef294 (by omega) (by omega) (by omega) ) (hH.lv (by decide)) (TX3_term.at 14 rfl) c3_175 rfl rfl hH hA (by omega) (Nat.le_of_ble_eq_true rfl) (fun x25 f25 g25 j25 h r25 q25 hH hA => ?_)
        obtain ⟨q25, xf, xg, xj⟩ := q25
        rw [xj] at hH
        have ef289 := (xf 289 (by decide)).trans ef289
        have ef293 := (xf 293 (by decide)).trans ef293
        have ef294 := (xf 294 (by decide)).trans ef294
        have ef295 := (xf 295 (by decide)).trans ef295
        have ef296 := (xf 296 (by decide)).trans ef296
        have ef417 := (xf 417 (by decide)).trans ef417
        have ef418 := (xf 418 (by decide)).trans ef418
        have hfE := hfE.trans xf (by decide)
        have eg290 := (xg 290 (by decide)).trans eg290
        have eg291 := (xg 291 (by decide)).trans eg291
        have eg292 := (xg 292 (by decide)).trans eg292
        have eg424 := (xg 424 (by decide)).trans eg424
        have hgE := hgE.trans xg (by decide)
        have qL := q25
        rw [b2i_cg (tk_sg (hk.2.1 nx (by omega) (by omega)).1 (by decide))] at qL
        subst qL
        refine z_if_neB (tgt := 49) (TX3_term.at 15 rfl) rfl (fun c3 => ?_) (fun c3 => ?_)
        · skip
          refine z_ald_0 (TX3_term.at 24 rfl) ?_
          refine z_bipush (by decide) (TX3_term.at 25 rfl) ?_
          refine zc_callI1 (m := 9) (c_isSign eg290 eg291 ef294 (by omega) (by omega) (by omega) ) (hH.lv (by decide)) (TX3_term.at 26 rfl) c3_175 rfl rfl hH hA (by omega) (Nat.le_of_ble_eq_true rfl) (fun x52 f52 g52 j52 h r52 q52 hH hA => ?_)
          obtain ⟨q52, xf, xg, xj⟩ := q52
          rw [xj] at hH
          have ef289 := (xf 289 (by decide)).trans ef289
          have ef293 := (xf 293 (by decide)).trans ef293
          have ef294 := (xf 294 (by decide)).trans ef294
          have ef295 := (xf 295 (by decide)).trans ef295
          have ef296 := (xf 296 (by decide)).trans ef296
          have ef417 := (xf 417 (by decide)).trans ef417
          have ef418 := (xf 418 (by decide)).trans ef418
          have hfE := hfE.trans xf (by decide)
          have eg290 := (xg 290 (by decide)).trans eg290
          have eg291 := (xg 291 (by decide)).trans eg291
          have eg292 := (xg 292 (by decide)).trans eg292
          have eg424 := (xg 424 (by decide)).trans eg424
          have hgE := hgE.trans xg (by decide)
          have qL := q52
          rw [b2i_cg (tk_sg (hk.2.1 nx (by omega) (by omega)).1 (by decide))] at qL
          subst qL
          refine z_if_eqB (tgt := 62) (TX3_term.at 27 rfl) rfl (fun c4 => absurd c4 (by omega)) (fun c4 => ?_)
          refine z_iconst (TX3_term.at 28 rfl) ?_
          refine z_goto (tgt := 78) (TX3_term.at 29 rfl) rfl ?_
          refine z_ist_3 (TX3_term.at 37 rfl) (Nat.le_of_ble_eq_true rfl) rfl ?_
          refine z_ald_0 (TX3_term.at 38 rfl) ?_
          refine zc_callV0 (m := 9) (c_goOn ef293 ef294 (by omega) (by omega) (by omega) (by omega) ) (hH.lv (by decide)) (TX3_term.at 39 rfl) c3_179 rfl rfl hH hA (by omega) (Nat.le_of_ble_eq_true rfl) (fun f80 g80 j80 h q80 hH hA => ?_)
          obtain ⟨q80, xf, xg, xj⟩ := q80
          rw [xj] at hH
          have ef289 := (xf 289 (by decide)).trans ef289
          have ef293 := (xf 293 (by decide)).trans ef293
          have ef295 := (xf 295 (by decide)).trans ef295
          have ef296 := (xf 296 (by decide)).trans ef296
          have ef417 := (xf 417 (by decide)).trans ef417
          have ef418 := (xf 418 (by decide)).trans ef418
          have hfE := hfE.trans xf (by decide)
          have eg290 := (xg 290 (by decide)).trans eg290
          have eg291 := (xg 291 (by decide)).trans eg291
          have eg292 := (xg 292 (by decide)).trans eg292
          have eg424 := (xg 424 (by decide)).trans eg424
          have hgE := hgE.trans xg (by decide)
          have qL := q80
          have hgo := hk.go (i := nx) (by omega) (by omega)
          have ef294 := qL.trans hgo.1
          have t2 := hgo.2
          refine z_ald_0 (TX3_term.at 40 rfl) ?_
          refine z_ild_1 (TX3_term.at 41 rfl) ?_
          refine zc_callV1 (m := 9) (hitem (t' + 1) p' N1 ag1 C1 _ _ _ eg290 eg291 eg292 eg424 (ef289.trans l1) ef293 (ef294.trans (by omega)) (ef295.trans l4) ef296 ef417 ef418 (by omega) l6 (by omega) l9) (hH.lv (by decide)) (TX3_term.at 42 rfl) c3_235 rfl rfl hH hA (by omega) (Nat.le_of_ble_eq_true rfl) (fun f85 g85 j85 h q85 hH hA => ?_)
          obtain ⟨q85, xf, xg, xj⟩ := q85
          rw [xj] at hH
          have ef293 := (xf 293 (by decide)).trans ef293
          have ef296 := (xf 296 (by decide)).trans ef296
          have hfE := hfE.trans xf (by decide)
          have eg290 := (xg 290 (by decide)).trans eg290
          have eg291 := (xg 291 (by decide)).trans eg291
          have eg292 := (xg 292 (by decide)).trans eg292
          have hgE := hgE.trans xg (by decide)
          have qL := q85
          have hq := qL
          have hps := hq.ps htk (by omega)
          have b5 := hps.2.2.2.2.1
          obtain ⟨fl2, ef289⟩ : ∃ z, f85 289 = z := ⟨_, rfl⟩
          obtain ⟨nx2, ef294⟩ : ∃ z, f85 294 = z := ⟨_, rfl⟩
          obtain ⟨pt2, ef295⟩ : ∃ z, f85 295 = z := ⟨_, rfl⟩
          obtain ⟨N2, ef417⟩ : ∃ z, f85 417 = z := ⟨_, rfl⟩
          obtain ⟨ag2, ef418⟩ : ∃ z, f85 418 = z := ⟨_, rfl⟩
          obtain ⟨C2, eg424⟩ : ∃ z, g85 424 = z := ⟨_, rfl⟩
          refine z_ald_0 (TX3_term.at 43 rfl) ?_
          refine zc_getO (m := 9) (s := 0) (k := 447) (hH.lv (by decide)) (TX3_term.at 44 rfl) fl3_14 hH rfl rfl (by decide) (by decide) ?_
          refine z_ild_3 (TX3_term.at 45 rfl) ?_
          refine z_iconst (TX3_term.at 46 rfl) ?_
          refine zc_callV2 (m := 13) (c_put rfl rfl (by omega) (by omega) (by omega) (by omega) (by omega) (by omega) (by omega) ) (hH.lv (by decide)) (TX3_term.at 47 rfl) c3_214 rfl rfl hH hA (by omega) (Nat.le_of_ble_eq_true rfl) (fun f94 g94 j94 h q94 hH hA => ?_)
          obtain ⟨q94, xf, xg, xj⟩ := q94
          rw [xj] at hH
          have ef289 := (xf 289 (by decide)).trans ef289
          have ef293 := (xf 293 (by decide)).trans ef293
          have ef294 := (xf 294 (by decide)).trans ef294
          have ef295 := (xf 295 (by decide)).trans ef295
          have ef296 := (xf 296 (by decide)).trans ef296
          have ef418 := (xf 418 (by decide)).trans ef418
          have hfE := hfE.trans xf (by decide)
          have eg290 := (xg 290 (by decide)).trans eg290
          have eg291 := (xg 291 (by decide)).trans eg291
          have eg292 := (xg 292 (by decide)).trans eg292
          have hgE := hgE.trans xg (by decide)
          have qL := q94
          have hst := tm_step (m := 400 - iN) (i := iN) (o := 5) hR (mulOp_y (show (c t' = 142 ∧ 5 = 5) ∨ (c t' = 147 ∧ 5 = 6) ∨ (c t' = 137 ∧ 5 = 7) by rw [← l3b]; omega)) l7 l8 hN l10 l11 l12 l13 hq xf qL.1 qL.2 htk.2 (by decide) (by decide) hwi hti l9
          obtain ⟨N3, ef417⟩ : ∃ z, f94 417 = z := ⟨_, rfl⟩
          obtain ⟨C3, eg424⟩ : ∃ z, g94 424 = z := ⟨_, rfl⟩
          refine z_iinc_2 (TX3_term.at 48 rfl) (Nat.le_of_ble_eq_true rfl) rfl ?_
          refine z_goto (tgt := 7) (TX3_term.at 49 rfl) rfl ?_
          exact ih (iN + 1) _ _ _ _ _ _ _ _ _ _ _ (by omega) (by omega) (by omega) (by rw [show 401 - (iN + 1) = 400 - iN by omega]; exact hst) eg290 eg291 eg292 eg424 ef289 ef293 ef294 ef295 ef296 ef417 ef418 hfE hgE hH hA
        · skip
          refine z_ald_0 (TX3_term.at 16 rfl) ?_
          refine z_bipush (by decide) (TX3_term.at 17 rfl) ?_
          refine zc_callI1 (m := 9) (c_isSign eg290 eg291 ef294 (by omega) (by omega) (by omega) ) (hH.lv (by decide)) (TX3_term.at 18 rfl) c3_175 rfl rfl hH hA (by omega) (Nat.le_of_ble_eq_true rfl) (fun x34 f34 g34 j34 h r34 q34 hH hA => ?_)
          obtain ⟨q34, xf, xg, xj⟩ := q34
          rw [xj] at hH
          have ef289 := (xf 289 (by decide)).trans ef289
          have ef293 := (xf 293 (by decide)).trans ef293
          have ef294 := (xf 294 (by decide)).trans ef294
          have ef295 := (xf 295 (by decide)).trans ef295
          have ef296 := (xf 296 (by decide)).trans ef296
          have ef417 := (xf 417 (by decide)).trans ef417
          have ef418 := (xf 418 (by decide)).trans ef418
          have hfE := hfE.trans xf (by decide)
          have eg290 := (xg 290 (by decide)).trans eg290
          have eg291 := (xg 291 (by decide)).trans eg291
          have eg292 := (xg 292 (by decide)).trans eg292
          have eg424 := (xg 424 (by decide)).trans eg424
          have hgE := hgE.trans xg (by decide)
          have qL := q34
          rw [b2i_cg (tk_sg (hk.2.1 nx (by omega) (by omega)).1 (by decide))] at qL
          subst qL
          refine z_if_neB (tgt := 49) (TX3_term.at 19 rfl) rfl (fun c5 => ?_) (fun c5 => ?_)
          · skip
            refine z_ald_0 (TX3_term.at 24 rfl) ?_
            refine z_bipush (by decide) (TX3_term.at 25 rfl) ?_
            refine zc_callI1 (m := 9) (c_isSign eg290 eg291 ef294 (by omega) (by omega) (by omega) ) (hH.lv (by decide)) (TX3_term.at 26 rfl) c3_175 rfl rfl hH hA (by omega) (Nat.le_of_ble_eq_true rfl) (fun x52 f52 g52 j52 h r52 q52 hH hA => ?_)
            obtain ⟨q52, xf, xg, xj⟩ := q52
            rw [xj] at hH
            have ef289 := (xf 289 (by decide)).trans ef289
            have ef293 := (xf 293 (by decide)).trans ef293
            have ef294 := (xf 294 (by decide)).trans ef294
            have ef295 := (xf 295 (by decide)).trans ef295
            have ef296 := (xf 296 (by decide)).trans ef296
            have ef417 := (xf 417 (by decide)).trans ef417
            have ef418 := (xf 418 (by decide)).trans ef418
            have hfE := hfE.trans xf (by decide)
            have eg290 := (xg 290 (by decide)).trans eg290
            have eg291 := (xg 291 (by decide)).trans eg291
            have eg292 := (xg 292 (by decide)).trans eg292
            have eg424 := (xg 424 (by decide)).trans eg424
            have hgE := hgE.trans xg (by decide)
            have qL := q52
            rw [b2i_cg (tk_sg (hk.2.1 nx (by omega) (by omega)).1 (by decide))] at qL
            subst qL
            refine z_if_eqB (tgt := 62) (TX3_term.at 27 rfl) rfl (fun c6 => ?_) (fun c6 => absurd c6 (by omega))
            refine z_ald_0 (TX3_term.at 30 rfl) ?_
            refine z_bipush (by decide) (TX3_term.at 31 rfl) ?_
            refine zc_callI1 (m := 9) (c_isSign eg290 eg291 ef294 (by omega) (by omega) (by omega) ) (hH.lv (by decide)) (TX3_term.at 32 rfl) c3_175 rfl rfl hH hA (by omega) (Nat.le_of_ble_eq_true rfl) (fun x65 f65 g65 j65 h r65 q65 hH hA => ?_)
            obtain ⟨q65, xf, xg, xj⟩ := q65
            rw [xj] at hH
            have ef289 := (xf 289 (by decide)).trans ef289
            have ef293 := (xf 293 (by decide)).trans ef293
            have ef294 := (xf 294 (by decide)).trans ef294
            have ef295 := (xf 295 (by decide)).trans ef295
            have ef296 := (xf 296 (by decide)).trans ef296
            have ef417 := (xf 417 (by decide)).trans ef417
            have ef418 := (xf 418 (by decide)).trans ef418
            have hfE := hfE.trans xf (by decide)
            have eg290 := (xg 290 (by decide)).trans eg290
            have eg291 := (xg 291 (by decide)).trans eg291
            have eg292 := (xg 292 (by decide)).trans eg292
            have eg424 := (xg 424 (by decide)).trans eg424
            have hgE := hgE.trans xg (by decide)
            have qL := q65
            rw [b2i_cg (tk_sg (hk.2.1 nx (by omega) (by omega)).1 (by decide))] at qL
            subst qL
            refine z_if_eqB (tgt := 76) (TX3_term.at 33 rfl) rfl (fun c7 => absurd c7 (by omega)) (fun c7 => ?_)
            refine z_bipush (by decide) (TX3_term.at 34 rfl) ?_
            refine z_goto (tgt := 78) (TX3_term.at 35 rfl) rfl ?_
            refine z_ist_3 (TX3_term.at 37 rfl) (Nat.le_of_ble_eq_true rfl) rfl ?_
            refine z_ald_0 (TX3_term.at 38 rfl) ?_
            refine zc_callV0 (m := 9) (c_goOn ef293 ef294 (by omega) (by omega) (by omega) (by omega) ) (hH.lv (by decide)) (TX3_term.at 39 rfl) c3_179 rfl rfl hH hA (by omega) (Nat.le_of_ble_eq_true rfl) (fun f80 g80 j80 h q80 hH hA => ?_)
            obtain ⟨q80, xf, xg, xj⟩ := q80
            rw [xj] at hH
            have ef289 := (xf 289 (by decide)).trans ef289
            have ef293 := (xf 293 (by decide)).trans ef293
            have ef295 := (xf 295 (by decide)).trans ef295
            have ef296 := (xf 296 (by decide)).trans ef296
            have ef417 := (xf 417 (by decide)).trans ef417
            have ef418 := (xf 418 (by decide)).trans ef418
            have hfE := hfE.trans xf (by decide)
            have eg290 := (xg 290 (by decide)).trans eg290
            have eg291 := (xg 291 (by decide)).trans eg291
            have eg292 := (xg 292 (by decide)).trans eg292
            have eg424 := (xg 424 (by decide)).trans eg424
            have hgE := hgE.trans xg (by decide)
            have qL := q80
            have hgo := hk.go (i := nx) (by omega) (by omega)
            have ef294 := qL.trans hgo.1
            have t2 := hgo.2
            refine z_ald_0 (TX3_term.at 40 rfl) ?_
            refine z_ild_1 (TX3_term.at 41 rfl) ?_
            refine zc_callV1 (m := 9) (hitem (t' + 1) p' N1 ag1 C1 _ _ _ eg290 eg291 eg292 eg424 (ef289.trans l1) ef293 (ef294.trans (by omega)) (ef295.trans l4) ef296 ef417 ef418 (by omega) l6 (by omega) l9) (hH.lv (by decide)) (TX3_term.at 42 rfl) c3_235 rfl rfl hH hA (by omega) (Nat.le_of_ble_eq_true rfl) (fun f85 g85 j85 h q85 hH hA => ?_)
            obtain ⟨q85, xf, xg, xj⟩ := q85
            rw [xj] at hH
            have ef293 := (xf 293 (by decide)).trans ef293
            have ef296 := (xf 296 (by decide)).trans ef296
            have hfE := hfE.trans xf (by decide)
            have eg290 := (xg 290 (by decide)).trans eg290
            have eg291 := (xg 291 (by decide)).trans eg291
            have eg292 := (xg 292 (by decide)).trans eg292
            have hgE := hgE.trans xg (by decide)
            have qL := q85
            have hq := qL
            have hps := hq.ps htk (by omega)
            have b5 := hps.2.2.2.2.1
            obtain ⟨fl2, ef289⟩ : ∃ z, f85 289 = z := ⟨_, rfl⟩
            obtain ⟨nx2, ef294⟩ : ∃ z, f85 294 = z := ⟨_, rfl⟩
            obtain ⟨pt2, ef295⟩ : ∃ z, f85 295 = z := ⟨_, rfl⟩
            obtain ⟨N2, ef417⟩ : ∃ z, f85 417 = z := ⟨_, rfl⟩
            obtain ⟨ag2, ef418⟩ : ∃ z, f85 418 = z := ⟨_, rfl⟩
            obtain ⟨C2, eg424⟩ : ∃ z, g85 424 = z := ⟨_, rfl⟩
            refine z_ald_0 (TX3_term.at 43 rfl) ?_
            refine zc_getO (m := 9) (s := 0) (k := 447) (hH.lv (by decide)) (TX3_term.at 44 rfl) fl3_14 hH rfl rfl (by decide) (by decide) ?_
            refine z_ild_3 (TX3_term.at 45 rfl) ?_
            refine z_iconst (TX3_term.at 46 rfl) ?_
            refine zc_callV2 (m := 13) (c_put rfl rfl (by omega) (by omega) (by omega) (by omega) (by omega) (by omega) (by omega) ) (hH.lv (by decide)) (TX3_term.at 47 rfl) c3_214 rfl rfl hH hA (by omega) (Nat.le_of_ble_eq_true rfl) (fun f94 g94 j94 h q94 hH hA => ?_)
            obtain ⟨q94, xf, xg, xj⟩ := q94
            rw [xj] at hH
            have ef289 := (xf 289 (by decide)).trans ef289
            have ef293 := (xf 293 (by decide)).trans ef293
            have ef294 := (xf 294 (by decide)).trans ef294
            have ef295 := (xf 295 (by decide)).trans ef295
            have ef296 := (xf 296 (by decide)).trans ef296
            have ef418 := (xf 418 (by decide)).trans ef418
            have hfE := hfE.trans xf (by decide)
            have eg290 := (xg 290 (by decide)).trans eg290
            have eg291 := (xg 291 (by decide)).trans eg291
            have eg292 := (xg 292 (by decide)).trans eg292
            have hgE := hgE.trans xg (by decide)
            have qL := q94
            have hst := tm_step (m := 400 - iN) (i := iN) (o := 6) hR (mulOp_y (show (c t' = 142 ∧ 6 = 5) ∨ (c t' = 147 ∧ 6 = 6) ∨ (c t' = 137 ∧ 6 = 7) by rw [← l3b]; omega)) l7 l8 hN l10 l11 l12 l13 hq xf qL.1 qL.2 htk.2 (by decide) (by decide) hwi hti l9
            obtain ⟨N3, ef417⟩ : ∃ z, f94 417 = z := ⟨_, rfl⟩
            obtain ⟨C3, eg424⟩ : ∃ z, g94 424 = z := ⟨_, rfl⟩
            refine z_iinc_2 (TX3_term.at 48 rfl) (Nat.le_of_ble_eq_true rfl) rfl ?_
            refine z_goto (tgt := 7) (TX3_term.at 49 rfl) rfl ?_
            exact ih (iN + 1) _ _ _ _ _ _ _ _ _ _ _ (by omega) (by omega) (by omega) (by rw [show 401 - (iN + 1) = 400 - iN by omega]; exact hst) eg290 eg291 eg292 eg424 ef289 ef293 ef294 ef295 ef296 ef417 ef418 hfE hgE hH hA
          · skip
            refine z_ald_0 (TX3_term.at 20 rfl) ?_
            refine z_bipush (by decide) (TX3_term.at 21 rfl) ?_
            refine zc_callI1 (m := 9) (c_isSign eg290 eg291 ef294 (by omega) (by omega) (by omega) ) (hH.lv (by decide)) (TX3_term.at 22 rfl) c3_175 rfl rfl hH hA (by omega) (Nat.le_of_ble_eq_true rfl) (fun x43 f43 g43 j43 h r43 q43 hH hA => ?_)
            obtain ⟨q43, xf, xg, xj⟩ := q43
            rw [xj] at hH
            have ef289 := (xf 289 (by decide)).trans ef289
            have ef293 := (xf 293 (by decide)).trans ef293
            have ef294 := (xf 294 (by decide)).trans ef294
            have ef295 := (xf 295 (by decide)).trans ef295
            have ef296 := (xf 296 (by decide)).trans ef296
            have ef417 := (xf 417 (by decide)).trans ef417
            have ef418 := (xf 418 (by decide)).trans ef418
            have hfE := hfE.trans xf (by decide)
            have eg290 := (xg 290 (by decide)).trans eg290
            have eg291 := (xg 291 (by decide)).trans eg291
            have eg292 := (xg 292 (by decide)).trans eg292
            have eg424 := (xg 424 (by decide)).trans eg424
            have hgE := hgE.trans xg (by decide)
            have qL := q43
            rw [b2i_cg (tk_sg (hk.2.1 nx (by omega) (by omega)).1 (by decide))] at qL
            subst qL
            refine z_if_eqB (tgt := 103) (TX3_term.at 23 rfl) rfl (fun c8 => ?_) (fun c8 => ?_)
            · skip
              exact kx _ _ _ _ _ (by rw [hR, pLoop, mulOp_n (show c t' ≠ 142 ∧ c t' ≠ 147 ∧ c t' ≠ 137 by rw [← l3b]; omega)]; exact ⟨by omega, ef293, by rw [ef294]; exact l3, by rw [ef295]; exact l4, l5, l6, by rw [ef417]; exact l7, by rw [ef417]; exact l8, by rw [ef418]; exact l9, by rw [ef418]; exact l10, by rw [eg424]; exact l11, by rw [eg424, ef417]; exact l12, by rw [ef418]; exact l13⟩) hfE hgE hH hA
            · skip
              refine z_ald_0 (TX3_term.at 24 rfl) ?_
              refine z_bipush (by decide) (TX3_term.at 25 rfl) ?_
              refine zc_callI1 (m := 9) (c_isSign eg290 eg291 ef294 (by omega) (by omega) (by omega) ) (hH.lv (by decide)) (TX3_term.at 26 rfl) c3_175 rfl rfl hH hA (by omega) (Nat.le_of_ble_eq_true rfl) (fun x52 f52 g52 j52 h r52 q52 hH hA => ?_)
              obtain ⟨q52, xf, xg, xj⟩ := q52
              rw [xj] at hH
              have ef289 := (xf 289 (by decide)).trans ef289
              have ef293 := (xf 293 (by decide)).trans ef293
              have ef294 := (xf 294 (by decide)).trans ef294
              have ef295 := (xf 295 (by decide)).trans ef295
              have ef296 := (xf 296 (by decide)).trans ef296
              have ef417 := (xf 417 (by decide)).trans ef417
              have ef418 := (xf 418 (by decide)).trans ef418
              have hfE := hfE.trans xf (by decide)
              have eg290 := (xg 290 (by decide)).trans eg290
              have eg291 := (xg 291 (by decide)).trans eg291
              have eg292 := (xg 292 (by decide)).trans eg292
              have eg424 := (xg 424 (by decide)).trans eg424
              have hgE := hgE.trans xg (by decide)
              have qL := q52
              rw [b2i_cg (tk_sg (hk.2.1 nx (by omega) (by omega)).1 (by decide))] at qL
              subst qL
              refine z_if_eqB (tgt := 62) (TX3_term.at 27 rfl) rfl (fun c9 => ?_) (fun c9 => absurd c9 (by omega))
              refine z_ald_0 (TX3_term.at 30 rfl) ?_
              refine z_bipush (by decide) (TX3_term.at 31 rfl) ?_
              refine zc_callI1 (m := 9) (c_isSign eg290 eg291 ef294 (by omega) (by omega) (by omega) ) (hH.lv (by decide)) (TX3_term.at 32 rfl) c3_175 rfl rfl hH hA (by omega) (Nat.le_of_ble_eq_true rfl) (fun x65 f65 g65 j65 h r65 q65 hH hA => ?_)
              obtain ⟨q65, xf, xg, xj⟩ := q65
              rw [xj] at hH
              have ef289 := (xf 289 (by decide)).trans ef289
              have ef293 := (xf 293 (by decide)).trans ef293
              have ef294 := (xf 294 (by decide)).trans ef294
              have ef295 := (xf 295 (by decide)).trans ef295
              have ef296 := (xf 296 (by decide)).trans ef296
              have ef417 := (xf 417 (by decide)).trans ef417
              have ef418 := (xf 418 (by decide)).trans ef418
              have hfE := hfE.trans xf (by decide)
              have eg290 := (xg 290 (by decide)).trans eg290
              have eg291 := (xg 291 (by decide)).trans eg291
              have eg292 := (xg 292 (by decide)).trans eg292
              have eg424 := (xg 424 (by decide)).trans eg424
              have hgE := hgE.trans xg (by decide)
              have qL := q65
              rw [b2i_cg (tk_sg (hk.2.1 nx (by omega) (by omega)).1 (by decide))] at qL
              subst qL
              refine z_if_eqB (tgt := 76) (TX3_term.at 33 rfl) rfl (fun c10 => ?_) (fun c10 => absurd c10 (by omega))
              refine z_bipush (by decide) (TX3_term.at 36 rfl) ?_
              refine z_ist_3 (TX3_term.at 37 rfl) (Nat.le_of_ble_eq_true rfl) rfl ?_
              refine z_ald_0 (TX3_term.at 38 rfl) ?_
              refine zc_callV0 (m := 9) (c_goOn ef293 ef294 (by omega) (by omega) (by omega) (by omega) ) (hH.lv (by decide)) (TX3_term.at 39 rfl) c3_179 rfl rfl hH hA (by omega) (Nat.le_of_ble_eq_true rfl) (fun f80 g80 j80 h q80 hH hA => ?_)
              obtain ⟨q80, xf, xg, xj⟩ := q80
              rw [xj] at hH
              have ef289 := (xf 289 (by decide)).trans ef289
              have ef293 := (xf 293 (by decide)).trans ef293
              have ef295 := (xf 295 (by decide)).trans ef295
              have ef296 := (xf 296 (by decide)).trans ef296
              have ef417 := (xf 417 (by decide)).trans ef417
              have ef418 := (xf 418 (by decide)).trans ef418
              have hfE := hfE.trans xf (by decide)
              have eg290 := (xg 290 (by decide)).trans eg290
              have eg291 := (xg 291 (by decide)).trans eg291
              have eg292 := (xg 292 (by decide)).trans eg292
              have eg424 := (xg 424 (by decide)).trans eg424
              have hgE := hgE.trans xg (by decide)
              have qL := q80
              have hgo := hk.go (i := nx) (by omega) (by omega)
              have ef294 := qL.trans hgo.1
              have t2 := hgo.2
              refine z_ald_0 (TX3_term.at 40 rfl) ?_
              refine z_ild_1 (TX3_term.at 41 rfl) ?_
              refine zc_callV1 (m := 9) (hitem (t' + 1) p' N1 ag1 C1 _ _ _ eg290 eg291 eg292 eg424 (ef289.trans l1) ef293 (ef294.trans (by omega)) (ef295.trans l4) ef296 ef417 ef418 (by omega) l6 (by omega) l9) (hH.lv (by decide)) (TX3_term.at 42 rfl) c3_235 rfl rfl hH hA (by omega) (Nat.le_of_ble_eq_true rfl) (fun f85 g85 j85 h q85 hH hA => ?_)
              obtain ⟨q85, xf, xg, xj⟩ := q85
              rw [xj] at hH
              have ef293 := (xf 293 (by decide)).trans ef293
              have ef296 := (xf 296 (by decide)).trans ef296
              have hfE := hfE.trans xf (by decide)
              have eg290 := (xg 290 (by decide)).trans eg290
              have eg291 := (xg 291 (by decide)).trans eg291
              have eg292 := (xg 292 (by decide)).trans eg292
              have hgE := hgE.trans xg (by decide)
              have qL := q85
              have hq := qL
              have hps := hq.ps htk (by omega)
              have b5 := hps.2.2.2.2.1
              obtain ⟨fl2, ef289⟩ : ∃ z, f85 289 = z := ⟨_, rfl⟩
              obtain ⟨nx2, ef294⟩ : ∃ z, f85 294 = z := ⟨_, rfl⟩
              obtain ⟨pt2, ef295⟩ : ∃ z, f85 295 = z := ⟨_, rfl⟩
              obtain ⟨N2, ef417⟩ : ∃ z, f85 417 = z := ⟨_, rfl⟩
              obtain ⟨ag2, ef418⟩ : ∃ z, f85 418 = z := ⟨_, rfl⟩
              obtain ⟨C2, eg424⟩ : ∃ z, g85 424 = z := ⟨_, rfl⟩
              refine z_ald_0 (TX3_term.at 43 rfl) ?_
              refine zc_getO (m := 9) (s := 0) (k := 447) (hH.lv (by decide)) (TX3_term.at 44 rfl) fl3_14 hH rfl rfl (by decide) (by decide) ?_
              refine z_ild_3 (TX3_term.at 45 rfl) ?_
              refine z_iconst (TX3_term.at 46 rfl) ?_
              refine zc_callV2 (m := 13) (c_put rfl rfl (by omega) (by omega) (by omega) (by omega) (by omega) (by omega) (by omega) ) (hH.lv (by decide)) (TX3_term.at 47 rfl) c3_214 rfl rfl hH hA (by omega) (Nat.le_of_ble_eq_true rfl) (fun f94 g94 j94 h q94 hH hA => ?_)
              obtain ⟨q94, xf, xg, xj⟩ := q94
              rw [xj] at hH
              have ef289 := (xf 289 (by decide)).trans ef289
              have ef293 := (xf 293 (by decide)).trans ef293
              have ef294 := (xf 294 (by decide)).trans ef294
              have ef295 := (xf 295 (by decide)).trans ef295
              have ef296 := (xf 296 (by decide)).trans ef296
              have ef418 := (xf 418 (by decide)).trans ef418
              have hfE := hfE.trans xf (by decide)
              have eg290 := (xg 290 (by decide)).trans eg290
              have eg291 := (xg 291 (by decide)).trans eg291
              have eg292 := (xg 292 (by decide)).trans eg292
              have hgE := hgE.trans xg (by decide)
              have qL := q94
              have hst := tm_step (m := 400 - iN) (i := iN) (o := 7) hR (mulOp_y (show (c t' = 142 ∧ 7 = 5) ∨ (c t' = 147 ∧ 7 = 6) ∨ (c t' = 137 ∧ 7 = 7) by rw [← l3b]; omega)) l7 l8 hN l10 l11 l12 l13 hq xf qL.1 qL.2 htk.2 (by decide) (by decide) hwi hti l9
              obtain ⟨N3, ef417⟩ : ∃ z, f94 417 = z := ⟨_, rfl⟩
              obtain ⟨C3, eg424⟩ : ∃ z, g94 424 = z := ⟨_, rfl⟩
              refine z_iinc_2 (TX3_term.at 48 rfl) (Nat.le_of_ble_eq_true rfl) rfl ?_
              refine z_goto (tgt := 7) (TX3_term.at 49 rfl) rfl ?_
              exact ih (iN + 1) _ _ _ _ _ _ _ _ _ _ _ (by omega) (by omega) (by omega) (by rw [show 401 - (iN + 1) = 400 - iN by omega]; exact hst) eg290 eg291 eg292 eg424 ef289 ef293 ef294 ef295 ef296 ef417 ef418 hfE hgE hH hA

set_option maxHeartbeats 4000000 in
set_option maxRecDepth 100000 in
theorem lp_sum {l : Launch} {E : cE} {d : Nat} {Pz : Option Value → zH → Prop} {h0 : zH} {f0 : mF} {g0 : mA} {j : mA}  {dp tk lf N ag : Int} {Kd Vl Pl c v C : Int → Int} {t wi ni : Nat} {R0 : PR} {item : Nat → Nat → PR} (hk : TkH Kd Vl Pl tk c v) (hN : 0 ≤ N ∧ N ≤ t) (hwi : 1 ≤ wi) (hdi : ni + 1 ≤ d) (hitem : LvM l E MX3_term ni [vI dp] Kd Vl Pl tk lf wi item) (kx : ∀ (i : Int) (o3 : Option Value) (f : mF) (g : mA) (h : zH), LvQ Pl (wi + 1) R0 t N ag tk C f g → eqx [289, 294, 295, 417, 418] f0 f → eqx [424] g0 g → HC E f g j h → cAg E h0 h → Z l MX3_sum d 0 0 Pz 79 [some (.ref (E.1 319)), some (vI dp), some (vI i), o3] [] h 0 0)  : ∀ (n : Nat) (iN : Nat) (i : Int) (fl : Int) (nx : Int) (pt : Int) (N1 : Int) (ag1 : Int) (C1 : Int → Int) (o3 : Option Value) (f : mF) (g : mA) (h : zH) (ci : i = (iN : Int)) (i1 : i ≤ 400) (i2 : 400 < i + n) (hI : RwQ Pl (wi + 1) R0 (pLoop addOp c item (401 - iN)) iN t N ag tk C f g) (eg290 : g 290 = Kd) (eg291 : g 291 = Vl) (eg292 : g 292 = Pl) (eg424 : g 424 = C1) (ef289 : f 289 = fl) (ef293 : f 293 = tk) (ef294 : f 294 = nx) (ef295 : f 295 = pt) (ef296 : f 296 = lf) (ef417 : f 417 = N1) (ef418 : f 418 = ag1) (hfE : eqx [289, 294, 295, 417, 418] f0 f) (hgE : eqx [424] g0 g) (hH : HC E f g j h) (hA : cAg E h0 h), Z l MX3_sum d 0 0 Pz 7 [some (.ref (E.1 319)), some (vI dp), some (vI i), o3] [] h 0 0 := by
  intro n
  induction n with
  | zero => intro iN i fl nx pt N1 ag1 C1 o3 f g h ci i1 i2 hI eg290 eg291 eg292 eg424 ef289 ef293 ef294 ef295 ef296 ef417 ef418 hfE hgE hH hA; exfalso; omega
  | succ n ih =>
    intro iN i fl nx pt N1 ag1 C1 o3 f g h ci i1 i2 hI eg290 eg291 eg292 eg424 ef289 ef293 ef294 ef295 ef296 ef417 ef418 hfE hgE hH hA
    have htk := hk.1
    refine z_ild_2 (TX3_sum.at 5 rfl) ?_
    refine z_sipush (by decide) (TX3_sum.at 6 rfl) ?_
    refine z_icmp_ge (tgt := 79) (TX3_sum.at 7 rfl) rfl (by omega) (by omega) (fun c1 => ?_) (fun c1 => ?_)
    · skip
      exact kx _ _ _ _ _ (by rcases hI with ⟨e, hR, hD⟩ | ⟨t', p', k, hR, hlv, hti⟩; exact LvQ.er hR hD; exfalso; have l1 := hlv.1; have l3 := hlv.2.2.1; have l5 := hlv.2.2.2.2.1; omega) hfE hgE hH hA
    · skip
      refine z_ald_0 (TX3_sum.at 8 rfl) ?_
      refine zc_getIE (m := 9) (s := 1) (k := 289) (hH.lv (by decide)) ef289 (TX3_sum.at 9 rfl) fl3_20 hH rfl rfl (by decide) (by decide) (fun r15 => ?_)
      refine z_iconst (TX3_sum.at 10 rfl) ?_
      refine z_icmp_ne (tgt := 79) (TX3_sum.at 11 rfl) rfl (by omega) (by omega) (fun c2 => ?_) (fun c2 => ?_)
      · skip
        exact kx _ _ _ _ _ (by rcases hI with ⟨e, hR, hD⟩ | ⟨t', p', k, hR, hlv, hti⟩; exact LvQ.er hR hD; exfalso; have l1 := hlv.1; have l3 := hlv.2.2.1; have l5 := hlv.2.2.2.2.1; omega) hfE hgE hH hA
      · skip
        rcases hI with ⟨e, hR, hD⟩ | ⟨t', p', k, hR, hlv, hti⟩
        · exfalso
          have d8 := hD.2.2.2.2.2.2.2.1
          have d9 := hD.2.2.2.2.2.2.2.2
          omega
        obtain ⟨l1, l2, l3, l4, l5, l6, l7, l8, l9, l10, l11, l12, l13⟩ := hlv
        rw [ef289] at l1
        rw [ef294] at l3
        rw [ef295] at l4
        rw [ef417] at l7 l8 l12
        rw [ef418] at l9 l10 l13
        rw [eg424] at l11 l12
        have l3b : nx = (t' : Int) := l3
        have hfu : 401 - iN = 400 - iN + 1 := by omega
        rw [hfu] at hR
        refine z_ald_0 (TX3_sum.at 12 rfl) ?_
        refine z_bipush (by decide) (TX3_sum.at 13 rfl) ?_
        refine zc_callI1 (m := 9) (c_isSign eg290 eg291 ef294 (by omega) (by omega) (by omega) ) (hH.lv (by decide)) (TX3_sum.at 14 rfl) c3_175 rfl rfl hH hA (by omega) (Nat.le_of_ble_eq_true rfl) (fun x25 f25 g25 j25 h r25 q25 hH hA => ?_)
        obtain ⟨q25, xf, xg, xj⟩ := q25
        rw [xj] at hH
        have ef289 := (xf 289 (by decide)).trans ef289
        have ef293 := (xf 293 (by decide)).trans ef293
        have ef294 := (xf 294 (by decide)).trans ef294
        have ef295 := (xf 295 (by decide)).trans ef295
        have ef296 := (xf 296 (by decide)).trans ef296
        have ef417 := (xf 417 (by decide)).trans ef417
        have ef418 := (xf 418 (by decide)).trans ef418
        have hfE := hfE.trans xf (by decide)
        have eg290 := (xg 290 (by decide)).trans eg290
        have eg291 := (xg 291 (by decide)).trans eg291
        have eg292 := (xg 292 (by decide)).trans eg292
        have eg424 := (xg 424 (by decide)).trans eg424
        have hgE := hgE.trans xg (by decide)
        have qL := q25
        rw [b2i_cg (tk_sg (hk.2.1 nx (by omega) (by omega)).1 (by decide))] at qL
        subst qL
        refine z_if_neB (tgt := 40) (TX3_sum.at 15 rfl) rfl (fun c3 => ?_) (fun c3 => ?_)
        · skip
          refine z_ald_0 (TX3_sum.at 20 rfl) ?_
          refine z_bipush (by decide) (TX3_sum.at 21 rfl) ?_
          refine zc_callI1 (m := 9) (c_isSign eg290 eg291 ef294 (by omega) (by omega) (by omega) ) (hH.lv (by decide)) (TX3_sum.at 22 rfl) c3_175 rfl rfl hH hA (by omega) (Nat.le_of_ble_eq_true rfl) (fun x43 f43 g43 j43 h r43 q43 hH hA => ?_)
          obtain ⟨q43, xf, xg, xj⟩ := q43
          rw [xj] at hH
          have ef289 := (xf 289 (by decide)).trans ef289
          have ef293 := (xf 293 (by decide)).trans ef293
          have ef294 := (xf 294 (by decide)).trans ef294
          have ef295 := (xf 295 (by decide)).trans ef295
          have ef296 := (xf 296 (by decide)).trans ef296
          have ef417 := (xf 417 (by decide)).trans ef417
          have ef418 := (xf 418 (by decide)).trans ef418
          have hfE := hfE.trans xf (by decide)
          have eg290 := (xg 290 (by decide)).trans eg290
          have eg291 := (xg 291 (by decide)).trans eg291
          have eg292 := (xg 292 (by decide)).trans eg292
          have eg424 := (xg 424 (by decide)).trans eg424
          have hgE := hgE.trans xg (by decide)
          have qL := q43
          rw [b2i_cg (tk_sg (hk.2.1 nx (by omega) (by omega)).1 (by decide))] at qL
          subst qL
          refine z_if_eqB (tgt := 53) (TX3_sum.at 23 rfl) rfl (fun c4 => absurd c4 (by omega)) (fun c4 => ?_)
          refine z_iconst (TX3_sum.at 24 rfl) ?_
          refine z_goto (tgt := 54) (TX3_sum.at 25 rfl) rfl ?_
          refine z_ist_3 (TX3_sum.at 27 rfl) (Nat.le_of_ble_eq_true rfl) rfl ?_
          refine z_ald_0 (TX3_sum.at 28 rfl) ?_
          refine zc_callV0 (m := 9) (c_goOn ef293 ef294 (by omega) (by omega) (by omega) (by omega) ) (hH.lv (by decide)) (TX3_sum.at 29 rfl) c3_179 rfl rfl hH hA (by omega) (Nat.le_of_ble_eq_true rfl) (fun f56 g56 j56 h q56 hH hA => ?_)
          obtain ⟨q56, xf, xg, xj⟩ := q56
          rw [xj] at hH
          have ef289 := (xf 289 (by decide)).trans ef289
          have ef293 := (xf 293 (by decide)).trans ef293
          have ef295 := (xf 295 (by decide)).trans ef295
          have ef296 := (xf 296 (by decide)).trans ef296
          have ef417 := (xf 417 (by decide)).trans ef417
          have ef418 := (xf 418 (by decide)).trans ef418
          have hfE := hfE.trans xf (by decide)
          have eg290 := (xg 290 (by decide)).trans eg290
          have eg291 := (xg 291 (by decide)).trans eg291
          have eg292 := (xg 292 (by decide)).trans eg292
          have eg424 := (xg 424 (by decide)).trans eg424
          have hgE := hgE.trans xg (by decide)
          have qL := q56
          have hgo := hk.go (i := nx) (by omega) (by omega)
          have ef294 := qL.trans hgo.1
          have t2 := hgo.2
          refine z_ald_0 (TX3_sum.at 30 rfl) ?_
          refine z_ild_1 (TX3_sum.at 31 rfl) ?_
          refine zc_callV1 (m := 9) (hitem (t' + 1) p' N1 ag1 C1 _ _ _ eg290 eg291 eg292 eg424 (ef289.trans l1) ef293 (ef294.trans (by omega)) (ef295.trans l4) ef296 ef417 ef418 (by omega) l6 (by omega) l9) (hH.lv (by decide)) (TX3_sum.at 32 rfl) c3_232 rfl rfl hH hA (by omega) (Nat.le_of_ble_eq_true rfl) (fun f61 g61 j61 h q61 hH hA => ?_)
          obtain ⟨q61, xf, xg, xj⟩ := q61
          rw [xj] at hH
          have ef293 := (xf 293 (by decide)).trans ef293
          have ef296 := (xf 296 (by decide)).trans ef296
          have hfE := hfE.trans xf (by decide)
          have eg290 := (xg 290 (by decide)).trans eg290
          have eg291 := (xg 291 (by decide)).trans eg291
          have eg292 := (xg 292 (by decide)).trans eg292
          have hgE := hgE.trans xg (by decide)
          have qL := q61
          have hq := qL
          have hps := hq.ps htk (by omega)
          have b5 := hps.2.2.2.2.1
          obtain ⟨fl2, ef289⟩ : ∃ z, f61 289 = z := ⟨_, rfl⟩
          obtain ⟨nx2, ef294⟩ : ∃ z, f61 294 = z := ⟨_, rfl⟩
          obtain ⟨pt2, ef295⟩ : ∃ z, f61 295 = z := ⟨_, rfl⟩
          obtain ⟨N2, ef417⟩ : ∃ z, f61 417 = z := ⟨_, rfl⟩
          obtain ⟨ag2, ef418⟩ : ∃ z, f61 418 = z := ⟨_, rfl⟩
          obtain ⟨C2, eg424⟩ : ∃ z, g61 424 = z := ⟨_, rfl⟩
          refine z_ald_0 (TX3_sum.at 33 rfl) ?_
          refine zc_getO (m := 9) (s := 0) (k := 447) (hH.lv (by decide)) (TX3_sum.at 34 rfl) fl3_14 hH rfl rfl (by decide) (by decide) ?_
          refine z_ild_3 (TX3_sum.at 35 rfl) ?_
          refine z_iconst (TX3_sum.at 36 rfl) ?_
          refine zc_callV2 (m := 13) (c_put rfl rfl (by omega) (by omega) (by omega) (by omega) (by omega) (by omega) (by omega) ) (hH.lv (by decide)) (TX3_sum.at 37 rfl) c3_214 rfl rfl hH hA (by omega) (Nat.le_of_ble_eq_true rfl) (fun f70 g70 j70 h q70 hH hA => ?_)
          obtain ⟨q70, xf, xg, xj⟩ := q70
          rw [xj] at hH
          have ef289 := (xf 289 (by decide)).trans ef289
          have ef293 := (xf 293 (by decide)).trans ef293
          have ef294 := (xf 294 (by decide)).trans ef294
          have ef295 := (xf 295 (by decide)).trans ef295
          have ef296 := (xf 296 (by decide)).trans ef296
          have ef418 := (xf 418 (by decide)).trans ef418
          have hfE := hfE.trans xf (by decide)
          have eg290 := (xg 290 (by decide)).trans eg290
          have eg291 := (xg 291 (by decide)).trans eg291
          have eg292 := (xg 292 (by decide)).trans eg292
          have hgE := hgE.trans xg (by decide)
          have qL := q70
          have hst := tm_step (m := 400 - iN) (i := iN) (o := 3) hR (addOp_y (show (c t' = 143 ∧ 3 = 3) ∨ (c t' = 145 ∧ 3 = 4) by rw [← l3b]; omega)) l7 l8 hN l10 l11 l12 l13 hq xf qL.1 qL.2 htk.2 (by decide) (by decide) hwi hti l9
          obtain ⟨N3, ef417⟩ : ∃ z, f70 417 = z := ⟨_, rfl⟩
          obtain ⟨C3, eg424⟩ : ∃ z, g70 424 = z := ⟨_, rfl⟩
          refine z_iinc_2 (TX3_sum.at 38 rfl) (Nat.le_of_ble_eq_true rfl) rfl ?_
          refine z_goto (tgt := 7) (TX3_sum.at 39 rfl) rfl ?_
          exact ih (iN + 1) _ _ _ _ _ _ _ _ _ _ _ (by omega) (by omega) (by omega) (by rw [show 401 - (iN + 1) = 400 - iN by omega]; exact hst) eg290 eg291 eg292 eg424 ef289 ef293 ef294 ef295 ef296 ef417 ef418 hfE hgE hH hA
        · skip
          refine z_ald_0 (TX3_sum.at 16 rfl) ?_
          refine z_bipush (by decide) (TX3_sum.at 17 rfl) ?_
          refine zc_callI1 (m := 9) (c_isSign eg290 eg291 ef294 (by omega) (by omega) (by omega) ) (hH.lv (by decide)) (TX3_sum.at 18 rfl) c3_175 rfl rfl hH hA (by omega) (Nat.le_of_ble_eq_true rfl) (fun x34 f34 g34 j34 h r34 q34 hH hA => ?_)
          obtain ⟨q34, xf, xg, xj⟩ := q34
          rw [xj] at hH
          have ef289 := (xf 289 (by decide)).trans ef289
          have ef293 := (xf 293 (by decide)).trans ef293
          have ef294 := (xf 294 (by decide)).trans ef294
          have ef295 := (xf 295 (by decide)).trans ef295
          have ef296 := (xf 296 (by decide)).trans ef296
          have ef417 := (xf 417 (by decide)).trans ef417
          have ef418 := (xf 418 (by decide)).trans ef418
          have hfE := hfE.trans xf (by decide)
          have eg290 := (xg 290 (by decide)).trans eg290
          have eg291 := (xg 291 (by decide)).trans eg291
          have eg292 := (xg 292 (by decide)).trans eg292
          have eg424 := (xg 424 (by decide)).trans eg424
          have hgE := hgE.trans xg (by decide)
          have qL := q34
          rw [b2i_cg (tk_sg (hk.2.1 nx (by omega) (by omega)).1 (by decide))] at qL
          subst qL
          refine z_if_eqB (tgt := 79) (TX3_sum.at 19 rfl) rfl (fun c5 => ?_) (fun c5 => ?_)
          · skip
            exact kx _ _ _ _ _ (by rw [hR, pLoop, addOp_n (show c t' ≠ 143 ∧ c t' ≠ 145 by rw [← l3b]; omega)]; exact ⟨by omega, ef293, by rw [ef294]; exact l3, by rw [ef295]; exact l4, l5, l6, by rw [ef417]; exact l7, by rw [ef417]; exact l8, by rw [ef418]; exact l9, by rw [ef418]; exact l10, by rw [eg424]; exact l11, by rw [eg424, ef417]; exact l12, by rw [ef418]; exact l13⟩) hfE hgE hH hA
          · skip
            refine z_ald_0 (TX3_sum.at 20 rfl) ?_
            refine z_bipush (by decide) (TX3_sum.at 21 rfl) ?_
            refine zc_callI1 (m := 9) (c_isSign eg290 eg291 ef294 (by omega) (by omega) (by omega) ) (hH.lv (by decide)) (TX3_sum.at 22 rfl) c3_175 rfl rfl hH hA (by omega) (Nat.le_of_ble_eq_true rfl) (fun x43 f43 g43 j43 h r43 q43 hH hA => ?_)
            obtain ⟨q43, xf, xg, xj⟩ := q43
            rw [xj] at hH
            have ef289 := (xf 289 (by decide)).trans ef289
            have ef293 := (xf 293 (by decide)).trans ef293
            have ef294 := (xf 294 (by decide)).trans ef294
            have ef295 := (xf 295 (by decide)).trans ef295
            have ef296 := (xf 296 (by decide)).trans ef296
            have ef417 := (xf 417 (by decide)).trans ef417
            have ef418 := (xf 418 (by decide)).trans ef418
            have hfE := hfE.trans xf (by decide)
            have eg290 := (xg 290 (by decide)).trans eg290
            have eg291 := (xg 291 (by decide)).trans eg291
            have eg292 := (xg 292 (by decide)).trans eg292
            have eg424 := (xg 424 (by decide)).trans eg424
            have hgE := hgE.trans xg (by decide)
            have qL := q43
            rw [b2i_cg (tk_sg (hk.2.1 nx (by omega) (by omega)).1 (by decide))] at qL
            subst qL
            refine z_if_eqB (tgt := 53) (TX3_sum.at 23 rfl) rfl (fun c6 => ?_) (fun c6 => absurd c6 (by omega))
            refine z_iconst (TX3_sum.at 26 rfl) ?_
            refine z_ist_3 (TX3_sum.at 27 rfl) (Nat.le_of_ble_eq_true rfl) rfl ?_
            refine z_ald_0 (TX3_sum.at 28 rfl) ?_
            refine zc_callV0 (m := 9) (c_goOn ef293 ef294 (by omega) (by omega) (by omega) (by omega) ) (hH.lv (by decide)) (TX3_sum.at 29 rfl) c3_179 rfl rfl hH hA (by omega) (Nat.le_of_ble_eq_true rfl) (fun f56 g56 j56 h q56 hH hA => ?_)
            obtain ⟨q56, xf, xg, xj⟩ := q56
            rw [xj] at hH
            have ef289 := (xf 289 (by decide)).trans ef289
            have ef293 := (xf 293 (by decide)).trans ef293
            have ef295 := (xf 295 (by decide)).trans ef295
            have ef296 := (xf 296 (by decide)).trans ef296
            have ef417 := (xf 417 (by decide)).trans ef417
            have ef418 := (xf 418 (by decide)).trans ef418
            have hfE := hfE.trans xf (by decide)
            have eg290 := (xg 290 (by decide)).trans eg290
            have eg291 := (xg 291 (by decide)).trans eg291
            have eg292 := (xg 292 (by decide)).trans eg292
            have eg424 := (xg 424 (by decide)).trans eg424
            have hgE := hgE.trans xg (by decide)
            have qL := q56
            have hgo := hk.go (i := nx) (by omega) (by omega)
            have ef294 := qL.trans hgo.1
            have t2 := hgo.2
            refine z_ald_0 (TX3_sum.at 30 rfl) ?_
            refine z_ild_1 (TX3_sum.at 31 rfl) ?_
            refine zc_callV1 (m := 9) (hitem (t' + 1) p' N1 ag1 C1 _ _ _ eg290 eg291 eg292 eg424 (ef289.trans l1) ef293 (ef294.trans (by omega)) (ef295.trans l4) ef296 ef417 ef418 (by omega) l6 (by omega) l9) (hH.lv (by decide)) (TX3_sum.at 32 rfl) c3_232 rfl rfl hH hA (by omega) (Nat.le_of_ble_eq_true rfl) (fun f61 g61 j61 h q61 hH hA => ?_)
            obtain ⟨q61, xf, xg, xj⟩ := q61
            rw [xj] at hH
            have ef293 := (xf 293 (by decide)).trans ef293
            have ef296 := (xf 296 (by decide)).trans ef296
            have hfE := hfE.trans xf (by decide)
            have eg290 := (xg 290 (by decide)).trans eg290
            have eg291 := (xg 291 (by decide)).trans eg291
            have eg292 := (xg 292 (by decide)).trans eg292
            have hgE := hgE.trans xg (by decide)
            have qL := q61
            have hq := qL
            have hps := hq.ps htk (by omega)
            have b5 := hps.2.2.2.2.1
            obtain ⟨fl2, ef289⟩ : ∃ z, f61 289 = z := ⟨_, rfl⟩
            obtain ⟨nx2, ef294⟩ : ∃ z, f61 294 = z := ⟨_, rfl⟩
            obtain ⟨pt2, ef295⟩ : ∃ z, f61 295 = z := ⟨_, rfl⟩
            obtain ⟨N2, ef417⟩ : ∃ z, f61 417 = z := ⟨_, rfl⟩
            obtain ⟨ag2, ef418⟩ : ∃ z, f61 418 = z := ⟨_, rfl⟩
            obtain ⟨C2, eg424⟩ : ∃ z, g61 424 = z := ⟨_, rfl⟩
            refine z_ald_0 (TX3_sum.at 33 rfl) ?_
            refine zc_getO (m := 9) (s := 0) (k := 447) (hH.lv (by decide)) (TX3_sum.at 34 rfl) fl3_14 hH rfl rfl (by decide) (by decide) ?_
            refine z_ild_3 (TX3_sum.at 35 rfl) ?_
            refine z_iconst (TX3_sum.at 36 rfl) ?_
            refine zc_callV2 (m := 13) (c_put rfl rfl (by omega) (by omega) (by omega) (by omega) (by omega) (by omega) (by omega) ) (hH.lv (by decide)) (TX3_sum.at 37 rfl) c3_214 rfl rfl hH hA (by omega) (Nat.le_of_ble_eq_true rfl) (fun f70 g70 j70 h q70 hH hA => ?_)
            obtain ⟨q70, xf, xg, xj⟩ := q70
            rw [xj] at hH
            have ef289 := (xf 289 (by decide)).trans ef289
            have ef293 := (xf 293 (by decide)).trans ef293
            have ef294 := (xf 294 (by decide)).trans ef294
            have ef295 := (xf 295 (by decide)).trans ef295
            have ef296 := (xf 296 (by decide)).trans ef296
            have ef418 := (xf 418 (by decide)).trans ef418
            have hfE := hfE.trans xf (by decide)
            have eg290 := (xg 290 (by decide)).trans eg290
            have eg291 := (xg 291 (by decide)).trans eg291
            have eg292 := (xg 292 (by decide)).trans eg292
            have hgE := hgE.trans xg (by decide)
            have qL := q70
            have hst := tm_step (m := 400 - iN) (i := iN) (o := 4) hR (addOp_y (show (c t' = 143 ∧ 4 = 3) ∨ (c t' = 145 ∧ 4 = 4) by rw [← l3b]; omega)) l7 l8 hN l10 l11 l12 l13 hq xf qL.1 qL.2 htk.2 (by decide) (by decide) hwi hti l9
            obtain ⟨N3, ef417⟩ : ∃ z, f70 417 = z := ⟨_, rfl⟩
            obtain ⟨C3, eg424⟩ : ∃ z, g70 424 = z := ⟨_, rfl⟩
            refine z_iinc_2 (TX3_sum.at 38 rfl) (Nat.le_of_ble_eq_true rfl) rfl ?_
            refine z_goto (tgt := 7) (TX3_sum.at 39 rfl) rfl ?_
            exact ih (iN + 1) _ _ _ _ _ _ _ _ _ _ _ (by omega) (by omega) (by omega) (by rw [show 401 - (iN + 1) = 400 - iN by omega]; exact hst) eg290 eg291 eg292 eg424 ef289 ef293 ef294 ef295 ef296 ef417 ef418 hfE hgE hH hA

