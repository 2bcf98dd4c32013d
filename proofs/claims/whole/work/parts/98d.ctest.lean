/-! ===== the class: reading tests ===== -/
set_option maxHeartbeats 4000000 in
set_option maxRecDepth 100000 in
theorem c_aim2 {l : Launch} {E : cE} {f : mF} {g j : mA} {C : Int → Int} {N : Int} {t : Int}  (eg424 : g 424 = C) (ef417 : f 417 = N) (ht : zIn t) (N0 : 0 ≤ N) (N1 : N ≤ 400) : CM l E MX4_aimHere 0 [.ref (E.1 447), vI t] f g j (PV (fun f' g' j' => (0 ≤ t → t < N → ∀ o : Int, (o = 12 ∨ o = 13) → C t = o * 1024 → g' 424 = iu C t (o * 1024 + N)) ∧ eqx [] f f' ∧ eqx [424] g g' ∧ j' = j)) := by
  refine CM.intro [some (.ref (E.1 447)), some (vI t)] (by decide) (Nat.le_of_ble_eq_true rfl) rfl (fun d hd h0 h hH hA => ?_)
  have hfE : eqx [] f f := eqx.rf
  have hgE : eqx [424] g g := eqx.rf
  refine z_ild_1 (TX4_aimHere.at 0 rfl) ?_
  refine z_if_lt (tgt := 37) (TX4_aimHere.at 1 rfl) rfl (by omega) (fun c1 => ?_) (fun c1 => ?_)
  · skip
    refine zc_vret (TX4_aimHere.at 21 rfl) rfl hH hA ?_
    exact ⟨fun a b => by exfalso; omega, hfE, hgE, rfl⟩
  · skip
    refine z_ild_1 (TX4_aimHere.at 2 rfl) ?_
    refine z_ald_0 (TX4_aimHere.at 3 rfl) ?_
    refine zc_getIE (m := 13) (s := 1) (k := 417) (hH.lv (by decide)) ef417 (TX4_aimHere.at 4 rfl) fl4_15 hH rfl rfl (by decide) (by decide) (fun r6 => ?_)
    refine z_icmp_ge (tgt := 37) (TX4_aimHere.at 5 rfl) rfl (by omega) (by omega) (fun c2 => ?_) (fun c2 => ?_)
    · skip
      refine zc_vret (TX4_aimHere.at 21 rfl) rfl hH hA ?_
      exact ⟨fun a b => by exfalso; omega, hfE, hgE, rfl⟩
    · skip
      refine z_ald_0 (TX4_aimHere.at 6 rfl) ?_
      refine zc_getA (m := 13) (s := 8) (k := 424) (hH.lv (by decide)) (TX4_aimHere.at 7 rfl) fl4_44 hH rfl rfl (by decide) (by decide) ?_
      refine z_ild_1 (TX4_aimHere.at 8 rfl) ?_
      refine z_ald_0 (TX4_aimHere.at 9 rfl) ?_
      refine zc_getA (m := 13) (s := 8) (k := 424) (hH.lv (by decide)) (TX4_aimHere.at 10 rfl) fl4_44 hH rfl rfl (by decide) (by decide) ?_
      refine z_ild_1 (TX4_aimHere.at 11 rfl) ?_
      refine zcf_iald (k := 424) (N := 400) (hH.lv (by decide)) (by decide) rfl eg424 (TX4_aimHere.at 12 rfl) hH (by decide) (by omega) (show _ < ((400 : Nat) : Int) by omega) (fun r22 => ?_)
      refine z_sipush (by decide) (TX4_aimHere.at 13 rfl) ?_
      refine z_iand (TX4_aimHere.at 14 rfl) ?_
      refine z_ald_0 (TX4_aimHere.at 15 rfl) ?_
      refine zc_getIE (m := 13) (s := 1) (k := 417) (hH.lv (by decide)) ef417 (TX4_aimHere.at 16 rfl) fl4_15 hH rfl rfl (by decide) (by decide) (fun r28 => ?_)
      refine z_sipush (by decide) (TX4_aimHere.at 17 rfl) ?_
      refine z_iand (TX4_aimHere.at 18 rfl) ?_
      refine z_ior (TX4_aimHere.at 19 rfl) ?_
      refine zcf_iast (k := 424) (N := 400) (hH.lv (by decide)) (by decide) rfl (TX4_aimHere.at 20 rfl) hH hA (by decide) (by omega) (show _ < ((400 : Nat) : Int) by omega) (by exact zor_in _ _) (fun h g36 e1 e2 hH hA => ?_)
      rw [eg424] at e2; have eg424 := e2
      have hgE := hgE.put e1 (by decide)
      refine zc_vret (TX4_aimHere.at 21 rfl) rfl hH hA ?_
      exact ⟨fun a b o ho hC => by rw [eg424, hC, pk_aim ho N0 (by omega)], hfE, hgE, rfl⟩

section TB
variable {Pl c : Int → Int} {wi : Nat} {R0 : PR} {wd : Int} {join : Den → Den → Den} {item : Nat → Nat → PR} {t t' p' m i : Nat} {k : Den} {N ag tk N1 ag1 o : Int} {C C1 : Int → Int} {f2 f3 : mF} {g2 g3 : mA}
theorem tb_step (hR : R0 = pLoopB wd join c item (m + 1) t' p' k) (hc : c t' = wd) (hj : (o = 12 ∧ join = dOr) ∨ (o = 13 ∧ join = dAnd)) (l7 : N < N1) (l8 : N1 + t ≤ t' + N) (hNt : 0 ≤ N ∧ N ≤ t) (l10 : ag = 1 → ag1 = 1) (l11 : ∀ q : Int, q < N → C1 q = C q) (l12 : Cod C1 N N1 wi k) (l13 : ag1 = 0 → Ng k) (hq : LvQ Pl wi (item (t' + 1) p') (t' + 1) (N1 + 1) ag1 tk (iu C1 N1 (o * 1024)) f2 g2) (xf : eqx [] f2 f3) (ha : 0 ≤ N1 → N1 < f2 417 → ∀ o : Int, (o = 12 ∨ o = 13) → g2 424 N1 = o * 1024 → g3 424 = iu (g2 424) N1 (o * 1024 + f2 417)) (htk : tk ≤ 401) (hwi : 1 ≤ wi) (hi : 2 * i ≤ t') (ha1 : in01 ag1) : RwQ Pl wi R0 (pLoopB wd join c item m) (i + 1) t N ag tk C f3 g3 := by
  have hst : R0 = (match item (t' + 1) p' with | .error e => .error e | .ok (t2, p2, k2) => pLoopB wd join c item m t2 p2 (join k k2)) := by
    rw [hR, pLoopB, if_pos hc]
    rfl
  have hf := eqx_nil xf
  have ho : o = 12 ∨ o = 13 := by rcases hj with z | z <;> omega
  cases hr : item (t' + 1) p' with
  | error e =>
    rw [hr] at hq hst
    exact Or.inl ⟨e, hst, ((show DdS tk (Pl e) ag1 f2 from hq).n xf).agm l10⟩
  | ok r =>
    obtain ⟨t2, p2, k2⟩ := r
    rw [hr] at hq hst
    obtain ⟨h1, h2, h3, h4, h5, h6, h7, h8, h9, h10, h11, h12, h13⟩ := hq
    have hg1 : g2 424 N1 = o * 1024 := by rw [h11 N1 (by omega), iu_self]
    have e424 := ha (by omega) (by omega) o ho hg1
    have kp : ∀ q : Int, q ≠ N1 → g3 424 q = g2 424 q := fun q hq => by rw [e424, iu_ne hq]
    rw [hf]
    have cd1 : Cod (g3 424) N N1 wi k := l12.keep (fun q a b => by rw [kp q (by omega), h11 q (by omega), iu_ne (by omega)])
    have cd2 : Cod (g3 424) (N1 + 1) (f2 417) wi k2 := h12.keep (fun q a b => kp q (by omega))
    have cC : g3 424 N1 = o * 1024 + f2 417 := by rw [e424, iu_self]
    refine Or.inr ⟨t2, p2, join k k2, hst, ⟨h1, h2, h3, h4, h5, h6, by omega, by omega, h9, fun z => h10 (l10 z), fun q hq => by rw [kp q (by omega), h11 q (by omega), iu_ne (by omega), l11 q hq], ?_, fun z => ?_⟩, by omega⟩
    · rcases hj with ⟨e1, e2⟩ | ⟨e1, e2⟩
      · rw [e2]; rw [e1] at cC; exact Cod_or cd1 cd2 (by omega) (by omega) (by omega) (by omega) cC hwi
      · rw [e2]; rw [e1] at cC; exact Cod_and cd1 cd2 (by omega) (by omega) (by omega) (by omega) cC hwi
    · have a1 : ag1 = 0 := by
        rcases ha1 with y | y
        · exact y
        · exact absurd (h10 y) (by omega)
      rcases hj with ⟨e1, e2⟩ | ⟨e1, e2⟩
      · rw [e2]; exact Ng_or (l13 a1) (h13 z)
      · rw [e2]; exact Ng_and (l13 a1) (h13 z)
theorem rowB_init {p : Nat} {f : mF} {g : mA} (hq : LvQ Pl wi (item t p) t N ag tk C f g) : RwQ Pl wi (pRowB wd join c item t p) (pLoopB wd join c item (401 - 0)) 0 t N ag tk C f g := by
  cases hr : item t p with
  | error e =>
    rw [hr] at hq
    exact Or.inl ⟨e, by unfold pRowB; rw [hr], hq⟩
  | ok r =>
    obtain ⟨t', p', k⟩ := r
    rw [hr] at hq
    exact Or.inr ⟨t', p', k, by unfold pRowB; rw [hr], hq, by omega⟩
end TB
theorem B01R_row {w : Int} {join : Den → Den → Den} {c : Int → Int} {item : Nat → Nat → PR} (hj : ∀ k1 k2, B01 k2 → B01 (join k1 k2)) (hi : ∀ t p, B01R (item t p)) : ∀ t p, B01R (pRowB w join c item t p) := by
  have lp : ∀ (m t p : Nat) (k : Den), B01 k → B01R (pLoopB w join c item m t p k) := by
    intro m
    induction m with
    | zero =>
      intro t p k hk t' p' k' h
      simp only [pLoopB, Except.ok.injEq, Prod.mk.injEq] at h
      rw [← h.2.2]; exact hk
    | succ m ih =>
      intro t p k hk t' p' k' h
      simp only [pLoopB] at h
      split at h
      · cases hr : item (t + 1) p with
        | error e => rw [hr] at h; exact absurd h (by simp)
        | ok r =>
          obtain ⟨t2, p2, k2⟩ := r
          rw [hr] at h
          exact ih _ _ _ (hj _ _ (hi _ _ _ _ _ hr)) _ _ _ h
      · simp only [Except.ok.injEq, Prod.mk.injEq] at h
        rw [← h.2.2]; exact hk
  intro t p t' p' k h
  unfold pRowB at h
  cases hr : item t p with
  | error e => rw [hr] at h; exact absurd h (by simp)
  | ok r =>
    obtain ⟨t2, p2, k2⟩ := r
    rw [hr] at h
    exact lp _ _ _ _ (hi _ _ _ _ _ hr) _ _ _ h
theorem B01R_plain {c : Int → Int} {sum : Nat → Nat → PR} {inner : Option (Nat → Nat → PR)} (hi : ∀ g, inner = some g → ∀ t p, B01R (g t p)) : ∀ t p, B01R (pPlain c sum inner t p) := by
  intro t p
  obtain ⟨tq, b, hq⟩ : ∃ tq b, pNots c 401 t false = (tq, b) := ⟨_, _, rfl⟩
  rw [pPlain_eq hq]
  refine B01R_mn ?_
  split
  · unfold pPar
    cases inner with
    | none => intro t' p' k h; exact absurd h (by simp)
    | some g => exact B01R_br (hi g rfl _ _)
  · exact B01R_cmp
theorem B01R_test {lw : Bool} {c v : Int → Int} : ∀ d t p, B01R (pTestD lw c v d t p) := by
  intro d
  induction d with
  | zero => exact B01R_row (fun _ _ h => B01_or h) (B01R_row (fun _ _ h => B01_and h) (B01R_plain (fun g h => absurd h (by simp))))
  | succ d ih => exact B01R_row (fun _ _ h => B01_or h) (B01R_row (fun _ _ h => B01_and h) (B01R_plain (fun g h => by rw [← Option.some.inj h]; exact ih)))
set_option maxHeartbeats 4000000 in
set_option maxRecDepth 100000 in
theorem lp_both {l : Launch} {E : cE} {d : Nat} {Pz : Option Value → zH → Prop} {h0 : zH} {f0 : mF} {g0 : mA} {j : mA}  {dp tk lf N ag : Int} {Kd Vl Pl c v C : Int → Int} {t wi ni : Nat} {R0 : PR} {item : Nat → Nat → PR} (hk : TkH Kd Vl Pl tk c v) (hN : 0 ≤ N ∧ N ≤ t) (hwi : 1 ≤ wi) (hdi : ni + 1 ≤ d) (hitem : LvM l E MX3_plain ni [vI dp] Kd Vl Pl tk lf wi item) (kx : ∀ (i : Int) (o3 : Option Value) (f : mF) (g : mA) (h : zH), LvQ Pl wi R0 t N ag tk C f g → eqx [289, 294, 295, 417, 418] f0 f → eqx [424] g0 g → HC E f g j h → cAg E h0 h → Z l MX3_both d 0 0 Pz 72 [some (.ref (E.1 319)), some (vI dp), some (vI i), o3] [] h 0 0)  : ∀ (n : Nat) (iN : Nat) (i : Int) (fl : Int) (nx : Int) (pt : Int) (N1 : Int) (ag1 : Int) (C1 : Int → Int) (o3 : Option Value) (f : mF) (g : mA) (h : zH) (ci : i = (iN : Int)) (i1 : i ≤ 400) (i2 : 400 < i + n) (hI : RwQ Pl wi R0 (pLoopB 6 dAnd c item (401 - iN)) iN t N ag tk C f g) (eg290 : g 290 = Kd) (eg291 : g 291 = Vl) (eg292 : g 292 = Pl) (eg424 : g 424 = C1) (ef289 : f 289 = fl) (ef293 : f 293 = tk) (ef294 : f 294 = nx) (ef295 : f 295 = pt) (ef296 : f 296 = lf) (ef417 : f 417 = N1) (ef418 : f 418 = ag1) (hfE : eqx [289, 294, 295, 417, 418] f0 f) (hgE : eqx [424] g0 g) (hH : HC E f g j h) (hA : cAg E h0 h), Z l MX3_both d 0 0 Pz 7 [some (.ref (E.1 319)), some (vI dp), some (vI i), o3] [] h 0 0 := by
  intro n
  induction n with
  | zero => intro iN i fl nx pt N1 ag1 C1 o3 f g h ci i1 i2 hI eg290 eg291 eg292 eg424 ef289 ef293 ef294 ef295 ef296 ef417 ef418 hfE hgE hH hA; exfalso; omega
  | succ n ih =>
    intro iN i fl nx pt N1 ag1 C1 o3 f g h ci i1 i2 hI eg290 eg291 eg292 eg424 ef289 ef293 ef294 ef295 ef296 ef417 ef418 hfE hgE hH hA
    have htk := hk.1
    refine z_ild_2 (TX3_both.at 5 rfl) ?_
    refine z_sipush (by decide) (TX3_both.at 6 rfl) ?_
    refine z_icmp_ge (tgt := 72) (TX3_both.at 7 rfl) rfl (by omega) (by omega) (fun c1 => ?_) (fun c1 => ?_)
    · skip
      exact kx _ _ _ _ _ (by rcases hI with ⟨e, hR, hD⟩ | ⟨t', p', k, hR, hlv, hti⟩; exact LvQ.er hR hD; exfalso; have l1 := hlv.1; have l3 := hlv.2.2.1; have l5 := hlv.2.2.2.2.1; omega) hfE hgE hH hA
    · skip
      refine z_ald_0 (TX3_both.at 8 rfl) ?_
      refine zc_getIE (m := 9) (s := 1) (k := 289) (hH.lv (by decide)) ef289 (TX3_both.at 9 rfl) fl3_20 hH rfl rfl (by decide) (by decide) (fun r15 => ?_)
      refine z_iconst (TX3_both.at 10 rfl) ?_
      refine z_icmp_ne (tgt := 72) (TX3_both.at 11 rfl) rfl (by omega) (by omega) (fun c2 => ?_) (fun c2 => ?_)
      · skip
        exact kx _ _ _ _ _ (by rcases hI with ⟨e, hR, hD⟩ | ⟨t', p', k, hR, hlv, hti⟩; exact LvQ.er hR hD; exfalso; have l1 := hlv.1; have l3 := hlv.2.2.1; have l5 := hlv.2.2.2.2.1; omega) hfE hgE hH hA
      · skip
        rcases hI with ⟨e, hR, hD⟩ | ⟨t', p', k, hR, hlv, hti⟩
        · exfalso
          have d8 := hD.2.2.2.2.2.2.2.1
          have d9 := hD.2.2.2.2.2.2.2.2
          omega
        obtain ⟨l1, l2, l3, l4, l5, l6, l7, l8, l9, l10, l11, l12, l13⟩ := hlv
        rw [ef289] at l1
        rw [ef294] at l3
        rw [ef295] at l4
        rw [ef417] at l7 l8 l12
        rw [ef418] at l9 l10 l13
        rw [eg424] at l11 l12
        have l3b : nx = (t' : Int) := l3
        have hfu : 401 - iN = 400 - iN + 1 := by omega
        rw [hfu] at hR
        refine z_ald_0 (TX3_both.at 12 rfl) ?_
        refine z_bipush (by decide) (TX3_both.at 13 rfl) ?_
        refine zc_callI1 (m := 9) (c_isWord eg290 eg291 ef294 (by omega) (by omega) (by omega) ) (hH.lv (by decide)) (TX3_both.at 14 rfl) c3_195 rfl rfl hH hA (by omega) (Nat.le_of_ble_eq_true rfl) (fun x25 f25 g25 j25 h r25 q25 hH hA => ?_)
        obtain ⟨q25, xf, xg, xj⟩ := q25
        rw [xj] at hH
        have ef289 := (xf 289 (by decide)).trans ef289
        have ef293 := (xf 293 (by decide)).trans ef293
        have ef294 := (xf 294 (by decide)).trans ef294
        have ef295 := (xf 295 (by decide)).trans ef295
        have ef296 := (xf 296 (by decide)).trans ef296
        have ef417 := (xf 417 (by decide)).trans ef417
        have ef418 := (xf 418 (by decide)).trans ef418
        have hfE := hfE.trans xf (by decide)
        have eg290 := (xg 290 (by decide)).trans eg290
        have eg291 := (xg 291 (by decide)).trans eg291
        have eg292 := (xg 292 (by decide)).trans eg292
        have eg424 := (xg 424 (by decide)).trans eg424
        have hgE := hgE.trans xg (by decide)
        have qL := q25
        rw [b2i_cg (tk_an (hk.2.1 nx (by omega) (by omega)).1)] at qL
        subst qL
        refine z_if_eqB (tgt := 72) (TX3_both.at 15 rfl) rfl (fun c3 => ?_) (fun c3 => ?_)
        · skip
          exact kx _ _ _ _ _ (by rw [hR, pLoopB, if_neg (show ¬ c t' = 6 by rw [← l3b]; omega)]; exact ⟨by omega, ef293, by rw [ef294]; exact l3, by rw [ef295]; exact l4, l5, l6, by rw [ef417]; exact l7, by rw [ef417]; exact l8, by rw [ef418]; exact l9, by rw [ef418]; exact l10, by rw [eg424]; exact l11, by rw [eg424, ef417]; exact l12, by rw [ef418]; exact l13⟩) hfE hgE hH hA
        · skip
          refine z_ald_0 (TX3_both.at 16 rfl) ?_
          refine zc_callV0 (m := 9) (c_goOn ef293 ef294 (by omega) (by omega) (by omega) (by omega) ) (hH.lv (by decide)) (TX3_both.at 17 rfl) c3_179 rfl rfl hH hA (by omega) (Nat.le_of_ble_eq_true rfl) (fun f32 g32 j32 h q32 hH hA => ?_)
          obtain ⟨q32, xf, xg, xj⟩ := q32
          rw [xj] at hH
          have ef289 := (xf 289 (by decide)).trans ef289
          have ef293 := (xf 293 (by decide)).trans ef293
          have ef295 := (xf 295 (by decide)).trans ef295
          have ef296 := (xf 296 (by decide)).trans ef296
          have ef417 := (xf 417 (by decide)).trans ef417
          have ef418 := (xf 418 (by decide)).trans ef418
          have hfE := hfE.trans xf (by decide)
          have eg290 := (xg 290 (by decide)).trans eg290
          have eg291 := (xg 291 (by decide)).trans eg291
          have eg292 := (xg 292 (by decide)).trans eg292
          have eg424 := (xg 424 (by decide)).trans eg424
          have hgE := hgE.trans xg (by decide)
          have qL := q32
          have hgo := hk.go (i := nx) (by omega) (by omega)
          have ef294 := qL.trans hgo.1
          have t2 := hgo.2
          refine z_ald_0 (TX3_both.at 18 rfl) ?_
          refine zc_getO (m := 9) (s := 0) (k := 447) (hH.lv (by decide)) (TX3_both.at 19 rfl) fl3_14 hH rfl rfl (by decide) (by decide) ?_
          refine zc_getIE (m := 13) (s := 1) (k := 417) (hH.lv (by decide)) ef417 (TX3_both.at 20 rfl) fl3_209 hH rfl rfl (by decide) (by decide) (fun r39 => ?_)
          refine z_ist_3 (TX3_both.at 21 rfl) (Nat.le_of_ble_eq_true rfl) rfl ?_
          refine z_ald_0 (TX3_both.at 22 rfl) ?_
          refine zc_getO (m := 9) (s := 0) (k := 447) (hH.lv (by decide)) (TX3_both.at 23 rfl) fl3_14 hH rfl rfl (by decide) (by decide) ?_
          refine z_bipush (by decide) (TX3_both.at 24 rfl) ?_
          refine z_iconst (TX3_both.at 25 rfl) ?_
          refine zc_callV2 (m := 13) (c_put eg424 ef417 (by omega) (by omega) (by omega) (by omega) (by omega) (by omega) (by omega) ) (hH.lv (by decide)) (TX3_both.at 26 rfl) c3_214 rfl rfl hH hA (by omega) (Nat.le_of_ble_eq_true rfl) (fun f50 g50 j50 h q50 hH hA => ?_)
          obtain ⟨q50, xf, xg, xj⟩ := q50
          rw [xj] at hH
          have ef289 := (xf 289 (by decide)).trans ef289
          have ef293 := (xf 293 (by decide)).trans ef293
          have ef294 := (xf 294 (by decide)).trans ef294
          have ef295 := (xf 295 (by decide)).trans ef295
          have ef296 := (xf 296 (by decide)).trans ef296
          have ef418 := (xf 418 (by decide)).trans ef418
          have hfE := hfE.trans xf (by decide)
          have eg290 := (xg 290 (by decide)).trans eg290
          have eg291 := (xg 291 (by decide)).trans eg291
          have eg292 := (xg 292 (by decide)).trans eg292
          have hgE := hgE.trans xg (by decide)
          have qL := q50
          rw [if_pos (show N1 < 400 by omega), if_pos (show N1 < 400 by omega), Int.add_zero] at qL
          have ef417 := qL.1
          have eg424 := qL.2
          refine z_ald_0 (TX3_both.at 27 rfl) ?_
          refine z_ild_1 (TX3_both.at 28 rfl) ?_
          refine zc_callV1 (m := 9) (hitem (t' + 1) p' (N1 + 1) ag1 (iu C1 N1 (13 * 1024)) _ _ _ eg290 eg291 eg292 eg424 (ef289.trans l1) ef293 (ef294.trans (by omega)) (ef295.trans l4) ef296 ef417 ef418 (by omega) l6 (by omega) l9) (hH.lv (by decide)) (TX3_both.at 29 rfl) c3_226 rfl rfl hH hA (by omega) (Nat.le_of_ble_eq_true rfl) (fun f55 g55 j55 h q55 hH hA => ?_)
          obtain ⟨q55, xf, xg, xj⟩ := q55
          rw [xj] at hH
          have ef293 := (xf 293 (by decide)).trans ef293
          have ef296 := (xf 296 (by decide)).trans ef296
          have hfE := hfE.trans xf (by decide)
          have eg290 := (xg 290 (by decide)).trans eg290
          have eg291 := (xg 291 (by decide)).trans eg291
          have eg292 := (xg 292 (by decide)).trans eg292
          have hgE := hgE.trans xg (by decide)
          have qL := q55
          have hq := qL
          have hps := hq.ps htk (by omega)
          have b5 := hps.2.2.2.2.1
          obtain ⟨fl2, ef289⟩ : ∃ z, f55 289 = z := ⟨_, rfl⟩
          obtain ⟨nx2, ef294⟩ : ∃ z, f55 294 = z := ⟨_, rfl⟩
          obtain ⟨pt2, ef295⟩ : ∃ z, f55 295 = z := ⟨_, rfl⟩
          obtain ⟨N2, ef417⟩ : ∃ z, f55 417 = z := ⟨_, rfl⟩
          obtain ⟨ag2, ef418⟩ : ∃ z, f55 418 = z := ⟨_, rfl⟩
          obtain ⟨C2, eg424⟩ : ∃ z, g55 424 = z := ⟨_, rfl⟩
          refine z_ald_0 (TX3_both.at 30 rfl) ?_
          refine zc_getO (m := 9) (s := 0) (k := 447) (hH.lv (by decide)) (TX3_both.at 31 rfl) fl3_14 hH rfl rfl (by decide) (by decide) ?_
          refine z_ild_3 (TX3_both.at 32 rfl) ?_
          refine zc_callV1 (m := 13) (c_aim2 rfl rfl (by omega) (by omega) (by omega)) (hH.lv (by decide)) (TX3_both.at 33 rfl) c3_223 rfl rfl hH hA (by omega) (Nat.le_of_ble_eq_true rfl) (fun f63 g63 j63 h q63 hH hA => ?_)
          obtain ⟨q63, xf, xg, xj⟩ := q63
          rw [xj] at hH
          have ef289 := (xf 289 (by decide)).trans ef289
          have ef293 := (xf 293 (by decide)).trans ef293
          have ef294 := (xf 294 (by decide)).trans ef294
          have ef295 := (xf 295 (by decide)).trans ef295
          have ef296 := (xf 296 (by decide)).trans ef296
          have ef417 := (xf 417 (by decide)).trans ef417
          have ef418 := (xf 418 (by decide)).trans ef418
          have hfE := hfE.trans xf (by decide)
          have eg290 := (xg 290 (by decide)).trans eg290
          have eg291 := (xg 291 (by decide)).trans eg291
          have eg292 := (xg 292 (by decide)).trans eg292
          have hgE := hgE.trans xg (by decide)
          have qL := q63
          have hst := tb_step (m := 400 - iN) (i := iN) (o := 13) hR (show c t' = 6 by rw [← l3b]; omega) (Or.inr ⟨rfl, rfl⟩) l7 l8 hN l10 l11 l12 l13 hq xf qL htk.2 hwi hti l9
          obtain ⟨C3, eg424⟩ : ∃ z, g63 424 = z := ⟨_, rfl⟩
          refine z_iinc_2 (TX3_both.at 34 rfl) (Nat.le_of_ble_eq_true rfl) rfl ?_
          refine z_goto (tgt := 7) (TX3_both.at 35 rfl) rfl ?_
          exact ih (iN + 1) _ _ _ _ _ _ _ _ _ _ _ (by omega) (by omega) (by omega) (by rw [show 401 - (iN + 1) = 400 - iN by omega]; exact hst) eg290 eg291 eg292 eg424 ef289 ef293 ef294 ef295 ef296 ef417 ef418 hfE hgE hH hA

set_option maxHeartbeats 4000000 in
set_option maxRecDepth 100000 in
theorem lp_test {l : Launch} {E : cE} {d : Nat} {Pz : Option Value → zH → Prop} {h0 : zH} {f0 : mF} {g0 : mA} {j : mA}  {dp tk lf N ag : Int} {Kd Vl Pl c v C : Int → Int} {t wi ni : Nat} {R0 : PR} {item : Nat → Nat → PR} (hk : TkH Kd Vl Pl tk c v) (hN : 0 ≤ N ∧ N ≤ t) (hwi : 1 ≤ wi) (hdi : ni + 1 ≤ d) (hitem : LvM l E MX3_both ni [vI dp] Kd Vl Pl tk lf wi item) (kx : ∀ (i : Int) (o3 : Option Value) (f : mF) (g : mA) (h : zH), LvQ Pl wi R0 t N ag tk C f g → eqx [289, 294, 295, 417, 418] f0 f → eqx [424] g0 g → HC E f g j h → cAg E h0 h → Z l MX3_test d 0 0 Pz 72 [some (.ref (E.1 319)), some (vI dp), some (vI i), o3] [] h 0 0)  : ∀ (n : Nat) (iN : Nat) (i : Int) (fl : Int) (nx : Int) (pt : Int) (N1 : Int) (ag1 : Int) (C1 : Int → Int) (o3 : Option Value) (f : mF) (g : mA) (h : zH) (ci : i = (iN : Int)) (i1 : i ≤ 400) (i2 : 400 < i + n) (hI : RwQ Pl wi R0 (pLoopB 5 dOr c item (401 - iN)) iN t N ag tk C f g) (eg290 : g 290 = Kd) (eg291 : g 291 = Vl) (eg292 : g 292 = Pl) (eg424 : g 424 = C1) (ef289 : f 289 = fl) (ef293 : f 293 = tk) (ef294 : f 294 = nx) (ef295 : f 295 = pt) (ef296 : f 296 = lf) (ef417 : f 417 = N1) (ef418 : f 418 = ag1) (hfE : eqx [289, 294, 295, 417, 418] f0 f) (hgE : eqx [424] g0 g) (hH : HC E f g j h) (hA : cAg E h0 h), Z l MX3_test d 0 0 Pz 7 [some (.ref (E.1 319)), some (vI dp), some (vI i), o3] [] h 0 0 := by
  intro n
  induction n with
  | zero => intro iN i fl nx pt N1 ag1 C1 o3 f g h ci i1 i2 hI eg290 eg291 eg292 eg424 ef289 ef293 ef294 ef295 ef296 ef417 ef418 hfE hgE hH hA; exfalso; omega
  | succ n ih =>
    intro iN i fl nx pt N1 ag1 C1 o3 f g h ci i1 i2 hI eg290 eg291 eg292 eg424 ef289 ef293 ef294 ef295 ef296 ef417 ef418 hfE hgE hH hA
    have htk := hk.1
    refine z_ild_2 (TX3_test.at 5 rfl) ?_
    refine z_sipush (by decide) (TX3_test.at 6 rfl) ?_
    refine z_icmp_ge (tgt := 72) (TX3_test.at 7 rfl) rfl (by omega) (by omega) (fun c1 => ?_) (fun c1 => ?_)
    · skip
      exact kx _ _ _ _ _ (by rcases hI with ⟨e, hR, hD⟩ | ⟨t', p', k, hR, hlv, hti⟩; exact LvQ.er hR hD; exfalso; have l1 := hlv.1; have l3 := hlv.2.2.1; have l5 := hlv.2.2.2.2.1; omega) hfE hgE hH hA
    · skip
      refine z_ald_0 (TX3_test.at 8 rfl) ?_
      refine zc_getIE (m := 9) (s := 1) (k := 289) (hH.lv (by decide)) ef289 (TX3_test.at 9 rfl) fl3_20 hH rfl rfl (by decide) (by decide) (fun r15 => ?_)
      refine z_iconst (TX3_test.at 10 rfl) ?_
      refine z_icmp_ne (tgt := 72) (TX3_test.at 11 rfl) rfl (by omega) (by omega) (fun c2 => ?_) (fun c2 => ?_)
      · skip
        exact kx _ _ _ _ _ (by rcases hI with ⟨e, hR, hD⟩ | ⟨t', p', k, hR, hlv, hti⟩; exact LvQ.er hR hD; exfalso; have l1 := hlv.1; have l3 := hlv.2.2.1; have l5 := hlv.2.2.2.2.1; omega) hfE hgE hH hA
      · skip
        rcases hI with ⟨e, hR, hD⟩ | ⟨t', p', k, hR, hlv, hti⟩
        · exfalso
          have d8 := hD.2.2.2.2.2.2.2.1
          have d9 := hD.2.2.2.2.2.2.2.2
          omega
        obtain ⟨l1, l2, l3, l4, l5, l6, l7, l8, l9, l10, l11, l12, l13⟩ := hlv
        rw [ef289] at l1
        rw [ef294] at l3
        rw [ef295] at l4
        rw [ef417] at l7 l8 l12
        rw [ef418] at l9 l10 l13
        rw [eg424] at l11 l12
        have l3b : nx = (t' : Int) := l3
        have hfu : 401 - iN = 400 - iN + 1 := by omega
        rw [hfu] at hR
        refine z_ald_0 (TX3_test.at 12 rfl) ?_
        refine z_bipush (by decide) (TX3_test.at 13 rfl) ?_
        refine zc_callI1 (m := 9) (c_isWord eg290 eg291 ef294 (by omega) (by omega) (by omega) ) (hH.lv (by decide)) (TX3_test.at 14 rfl) c3_195 rfl rfl hH hA (by omega) (Nat.le_of_ble_eq_true rfl) (fun x25 f25 g25 j25 h r25 q25 hH hA => ?_)
        obtain ⟨q25, xf, xg, xj⟩ := q25
        rw [xj] at hH
        have ef289 := (xf 289 (by decide)).trans ef289
        have ef293 := (xf 293 (by decide)).trans ef293
        have ef294 := (xf 294 (by decide)).trans ef294
        have ef295 := (xf 295 (by decide)).trans ef295
        have ef296 := (xf 296 (by decide)).trans ef296
        have ef417 := (xf 417 (by decide)).trans ef417
        have ef418 := (xf 418 (by decide)).trans ef418
        have hfE := hfE.trans xf (by decide)
        have eg290 := (xg 290 (by decide)).trans eg290
        have eg291 := (xg 291 (by decide)).trans eg291
        have eg292 := (xg 292 (by decide)).trans eg292
        have eg424 := (xg 424 (by decide)).trans eg424
        have hgE := hgE.trans xg (by decide)
        have qL := q25
        rw [b2i_cg (tk_or (hk.2.1 nx (by omega) (by omega)).1)] at qL
        subst qL
        refine z_if_eqB (tgt := 72) (TX3_test.at 15 rfl) rfl (fun c3 => ?_) (fun c3 => ?_)
        · skip
          exact kx _ _ _ _ _ (by rw [hR, pLoopB, if_neg (show ¬ c t' = 5 by rw [← l3b]; omega)]; exact ⟨by omega, ef293, by rw [ef294]; exact l3, by rw [ef295]; exact l4, l5, l6, by rw [ef417]; exact l7, by rw [ef417]; exact l8, by rw [ef418]; exact l9, by rw [ef418]; exact l10, by rw [eg424]; exact l11, by rw [eg424, ef417]; exact l12, by rw [ef418]; exact l13⟩) hfE hgE hH hA
        · skip
          refine z_ald_0 (TX3_test.at 16 rfl) ?_
          refine zc_callV0 (m := 9) (c_goOn ef293 ef294 (by omega) (by omega) (by omega) (by omega) ) (hH.lv (by decide)) (TX3_test.at 17 rfl) c3_179 rfl rfl hH hA (by omega) (Nat.le_of_ble_eq_true rfl) (fun f32 g32 j32 h q32 hH hA => ?_)
          obtain ⟨q32, xf, xg, xj⟩ := q32
          rw [xj] at hH
          have ef289 := (xf 289 (by decide)).trans ef289
          have ef293 := (xf 293 (by decide)).trans ef293
          have ef295 := (xf 295 (by decide)).trans ef295
          have ef296 := (xf 296 (by decide)).trans ef296
          have ef417 := (xf 417 (by decide)).trans ef417
          have ef418 := (xf 418 (by decide)).trans ef418
          have hfE := hfE.trans xf (by decide)
          have eg290 := (xg 290 (by decide)).trans eg290
          have eg291 := (xg 291 (by decide)).trans eg291
          have eg292 := (xg 292 (by decide)).trans eg292
          have eg424 := (xg 424 (by decide)).trans eg424
          have hgE := hgE.trans xg (by decide)
          have qL := q32
          have hgo := hk.go (i := nx) (by omega) (by omega)
          have ef294 := qL.trans hgo.1
          have t2 := hgo.2
          refine z_ald_0 (TX3_test.at 18 rfl) ?_
          refine zc_getO (m := 9) (s := 0) (k := 447) (hH.lv (by decide)) (TX3_test.at 19 rfl) fl3_14 hH rfl rfl (by decide) (by decide) ?_
          refine zc_getIE (m := 13) (s := 1) (k := 417) (hH.lv (by decide)) ef417 (TX3_test.at 20 rfl) fl3_209 hH rfl rfl (by decide) (by decide) (fun r39 => ?_)
          refine z_ist_3 (TX3_test.at 21 rfl) (Nat.le_of_ble_eq_true rfl) rfl ?_
          refine z_ald_0 (TX3_test.at 22 rfl) ?_
          refine zc_getO (m := 9) (s := 0) (k := 447) (hH.lv (by decide)) (TX3_test.at 23 rfl) fl3_14 hH rfl rfl (by decide) (by decide) ?_
          refine z_bipush (by decide) (TX3_test.at 24 rfl) ?_
          refine z_iconst (TX3_test.at 25 rfl) ?_
          refine zc_callV2 (m := 13) (c_put eg424 ef417 (by omega) (by omega) (by omega) (by omega) (by omega) (by omega) (by omega) ) (hH.lv (by decide)) (TX3_test.at 26 rfl) c3_214 rfl rfl hH hA (by omega) (Nat.le_of_ble_eq_true rfl) (fun f50 g50 j50 h q50 hH hA => ?_)
          obtain ⟨q50, xf, xg, xj⟩ := q50
          rw [xj] at hH
          have ef289 := (xf 289 (by decide)).trans ef289
          have ef293 := (xf 293 (by decide)).trans ef293
          have ef294 := (xf 294 (by decide)).trans ef294
          have ef295 := (xf 295 (by decide)).trans ef295
          have ef296 := (xf 296 (by decide)).trans ef296
          have ef418 := (xf 418 (by decide)).trans ef418
          have hfE := hfE.trans xf (by decide)
          have eg290 := (xg 290 (by decide)).trans eg290
          have eg291 := (xg 291 (by decide)).trans eg291
          have eg292 := (xg 292 (by decide)).trans eg292
          have hgE := hgE.trans xg (by decide)
          have qL := q50
          rw [if_pos (show N1 < 400 by omega), if_pos (show N1 < 400 by omega), Int.add_zero] at qL
          have ef417 := qL.1
          have eg424 := qL.2
          refine z_ald_0 (TX3_test.at 27 rfl) ?_
          refine z_ild_1 (TX3_test.at 28 rfl) ?_
          refine zc_callV1 (m := 9) (hitem (t' + 1) p' (N1 + 1) ag1 (iu C1 N1 (12 * 1024)) _ _ _ eg290 eg291 eg292 eg424 (ef289.trans l1) ef293 (ef294.trans (by omega)) (ef295.trans l4) ef296 ef417 ef418 (by omega) l6 (by omega) l9) (hH.lv (by decide)) (TX3_test.at 29 rfl) c3_220 rfl rfl hH hA (by omega) (Nat.le_of_ble_eq_true rfl) (fun f55 g55 j55 h q55 hH hA => ?_)
          obtain ⟨q55, xf, xg, xj⟩ := q55
          rw [xj] at hH
          have ef293 := (xf 293 (by decide)).trans ef293
          have ef296 := (xf 296 (by decide)).trans ef296
          have hfE := hfE.trans xf (by decide)
          have eg290 := (xg 290 (by decide)).trans eg290
          have eg291 := (xg 291 (by decide)).trans eg291
          have eg292 := (xg 292 (by decide)).trans eg292
          have hgE := hgE.trans xg (by decide)
          have qL := q55
          have hq := qL
          have hps := hq.ps htk (by omega)
          have b5 := hps.2.2.2.2.1
          obtain ⟨fl2, ef289⟩ : ∃ z, f55 289 = z := ⟨_, rfl⟩
          obtain ⟨nx2, ef294⟩ : ∃ z, f55 294 = z := ⟨_, rfl⟩
          obtain ⟨pt2, ef295⟩ : ∃ z, f55 295 = z := ⟨_, rfl⟩
          obtain ⟨N2, ef417⟩ : ∃ z, f55 417 = z := ⟨_, rfl⟩
          obtain ⟨ag2, ef418⟩ : ∃ z, f55 418 = z := ⟨_, rfl⟩
          obtain ⟨C2, eg424⟩ : ∃ z, g55 424 = z := ⟨_, rfl⟩
          refine z_ald_0 (TX3_test.at 30 rfl) ?_
          refine zc_getO (m := 9) (s := 0) (k := 447) (hH.lv (by decide)) (TX3_test.at 31 rfl) fl3_14 hH rfl rfl (by decide) (by decide) ?_
          refine z_ild_3 (TX3_test.at 32 rfl) ?_
          refine zc_callV1 (m := 13) (c_aim2 rfl rfl (by omega) (by omega) (by omega)) (hH.lv (by decide)) (TX3_test.at 33 rfl) c3_223 rfl rfl hH hA (by omega) (Nat.le_of_ble_eq_true rfl) (fun f63 g63 j63 h q63 hH hA => ?_)
          obtain ⟨q63, xf, xg, xj⟩ := q63
          rw [xj] at hH
          have ef289 := (xf 289 (by decide)).trans ef289
          have ef293 := (xf 293 (by decide)).trans ef293
          have ef294 := (xf 294 (by decide)).trans ef294
          have ef295 := (xf 295 (by decide)).trans ef295
          have ef296 := (xf 296 (by decide)).trans ef296
          have ef417 := (xf 417 (by decide)).trans ef417
          have ef418 := (xf 418 (by decide)).trans ef418
          have hfE := hfE.trans xf (by decide)
          have eg290 := (xg 290 (by decide)).trans eg290
          have eg291 := (xg 291 (by decide)).trans eg291
          have eg292 := (xg 292 (by decide)).trans eg292
          have hgE := hgE.trans xg (by decide)
          have qL := q63
          have hst := tb_step (m := 400 - iN) (i := iN) (o := 12) hR (show c t' = 5 by rw [← l3b]; omega) (Or.inl ⟨rfl, rfl⟩) l7 l8 hN l10 l11 l12 l13 hq xf qL htk.2 hwi hti l9
          obtain ⟨C3, eg424⟩ : ∃ z, g63 424 = z := ⟨_, rfl⟩
          refine z_iinc_2 (TX3_test.at 34 rfl) (Nat.le_of_ble_eq_true rfl) rfl ?_
          refine z_goto (tgt := 7) (TX3_test.at 35 rfl) rfl ?_
          exact ih (iN + 1) _ _ _ _ _ _ _ _ _ _ _ (by omega) (by omega) (by omega) (by rw [show 401 - (iN + 1) = 400 - iN by omega]; exact hst) eg290 eg291 eg292 eg424 ef289 ef293 ef294 ef295 ef296 ef417 ef418 hfE hgE hH hA

set_option maxHeartbeats 4000000 in
set_option maxRecDepth 100000 in
theorem v_both {l : Launch} {E : cE} {f : mF} {g j : mA} {Kd : Int → Int} {Vl : Int → Int} {Pl : Int → Int} {C : Int → Int} {tk : Int} {lf : Int} {N : Int} {ag : Int} {dp : Int} {t p wi ni : Nat} {c v : Int → Int} {item : Nat → Nat → PR} (eg290 : g 290 = Kd) (eg291 : g 291 = Vl) (eg292 : g 292 = Pl) (eg424 : g 424 = C) (ef289 : f 289 = (-1)) (ef293 : f 293 = tk) (ef294 : f 294 = (t : Int)) (ef295 : f 295 = (p : Int)) (ef296 : f 296 = lf) (ef417 : f 417 = N) (ef418 : f 418 = ag) (hdp : zIn dp) (hk : TkH Kd Vl Pl tk c v) (t1 : (t : Int) < tk) (p1 : p ≤ 50) (hN : 0 ≤ N ∧ N ≤ t) (ha : in01 ag) (hwi : 1 ≤ wi) (hitem : LvM l E MX3_plain ni [vI dp] Kd Vl Pl tk lf wi item) : CM l E MX3_both (ni + 1) [.ref (E.1 319), vI dp] f g j (PV (fun f' g' j' => (LvQ Pl wi (pRowB 6 dAnd c item t p) t N ag tk C f' g') ∧ eqx [289, 294, 295, 417, 418] f f' ∧ eqx [424] g g' ∧ j' = j)) := by
  refine CM.intro [some (.ref (E.1 319)), some (vI dp), none, none] (by decide) (Nat.le_of_ble_eq_true rfl) rfl (fun d hd h0 h hH hA => ?_)
  have hfE : eqx [289, 294, 295, 417, 418] f f := eqx.rf
  have hgE : eqx [424] g g := eqx.rf
  have htk := hk.1
  have hp0 := (hk.2.1 t (by omega) t1).2
  have hti := (hk.2.1 t (by omega) t1).1
  refine z_ald_0 (TX3_both.at 0 rfl) ?_
  refine z_ild_1 (TX3_both.at 1 rfl) ?_
  refine zc_callV1 (m := 9) (hitem t p N ag C _ _ _ eg290 eg291 eg292 eg424 ef289 ef293 ef294 ef295 ef296 ef417 ef418 t1 p1 hN ha) (hH.lv (by decide)) (TX3_both.at 2 rfl) c3_226 rfl rfl hH hA (by omega) (Nat.le_of_ble_eq_true rfl) (fun f2 g2 j2 h q2 hH hA => ?_)
  obtain ⟨q2, xf, xg, xj⟩ := q2
  rw [xj] at hH
  have ef293 := (xf 293 (by decide)).trans ef293
  have ef296 := (xf 296 (by decide)).trans ef296
  have hfE := hfE.trans xf (by decide)
  have eg290 := (xg 290 (by decide)).trans eg290
  have eg291 := (xg 291 (by decide)).trans eg291
  have eg292 := (xg 292 (by decide)).trans eg292
  have hgE := hgE.trans xg (by decide)
  have qL := q2
  have hq := qL
  refine z_iconst (TX3_both.at 3 rfl) ?_
  refine z_ist_2 (TX3_both.at 4 rfl) (Nat.le_of_ble_eq_true rfl) rfl ?_
  have hI := rowB_init (wd := 6) (join := dAnd) (c := c) hq
  refine lp_both (wi := wi) (ni := ni) hk hN hwi (by omega) hitem (fun i9 o9 f9 g9 h9 hfin xf xg hH hA => ?_) 401 0 0 _ _ _ _ _ _ none _ _ _ rfl (by omega) (by omega) hI eg290 eg291 eg292 rfl rfl ef293 rfl rfl ef296 rfl rfl eqx.rf eqx.rf hH hA
  refine zc_vret (TX3_both.at 36 rfl) rfl hH hA ?_
  exact ⟨hfin, hfE.trans xf (by decide), hgE.trans xg (by decide), rfl⟩

set_option maxHeartbeats 4000000 in
set_option maxRecDepth 100000 in
theorem v_test {l : Launch} {E : cE} {f : mF} {g j : mA} {Kd : Int → Int} {Vl : Int → Int} {Pl : Int → Int} {C : Int → Int} {tk : Int} {lf : Int} {N : Int} {ag : Int} {dp : Int} {t p wi ni : Nat} {c v : Int → Int} {item : Nat → Nat → PR} (eg290 : g 290 = Kd) (eg291 : g 291 = Vl) (eg292 : g 292 = Pl) (eg424 : g 424 = C) (ef289 : f 289 = (-1)) (ef293 : f 293 = tk) (ef294 : f 294 = (t : Int)) (ef295 : f 295 = (p : Int)) (ef296 : f 296 = lf) (ef417 : f 417 = N) (ef418 : f 418 = ag) (hdp : zIn dp) (hk : TkH Kd Vl Pl tk c v) (t1 : (t : Int) < tk) (p1 : p ≤ 50) (hN : 0 ≤ N ∧ N ≤ t) (ha : in01 ag) (hwi : 1 ≤ wi) (hitem : LvM l E MX3_both ni [vI dp] Kd Vl Pl tk lf wi item) : CM l E MX3_test (ni + 1) [.ref (E.1 319), vI dp] f g j (PV (fun f' g' j' => (LvQ Pl wi (pRowB 5 dOr c item t p) t N ag tk C f' g') ∧ eqx [289, 294, 295, 417, 418] f f' ∧ eqx [424] g g' ∧ j' = j)) := by
  refine CM.intro [some (.ref (E.1 319)), some (vI dp), none, none] (by decide) (Nat.le_of_ble_eq_true rfl) rfl (fun d hd h0 h hH hA => ?_)
  have hfE : eqx [289, 294, 295, 417, 418] f f := eqx.rf
  have hgE : eqx [424] g g := eqx.rf
  have htk := hk.1
  have hp0 := (hk.2.1 t (by omega) t1).2
  have hti := (hk.2.1 t (by omega) t1).1
  refine z_ald_0 (TX3_test.at 0 rfl) ?_
  refine z_ild_1 (TX3_test.at 1 rfl) ?_
  refine zc_callV1 (m := 9) (hitem t p N ag C _ _ _ eg290 eg291 eg292 eg424 ef289 ef293 ef294 ef295 ef296 ef417 ef418 t1 p1 hN ha) (hH.lv (by decide)) (TX3_test.at 2 rfl) c3_220 rfl rfl hH hA (by omega) (Nat.le_of_ble_eq_true rfl) (fun f2 g2 j2 h q2 hH hA => ?_)
  obtain ⟨q2, xf, xg, xj⟩ := q2
  rw [xj] at hH
  have ef293 := (xf 293 (by decide)).trans ef293
  have ef296 := (xf 296 (by decide)).trans ef296
  have hfE := hfE.trans xf (by decide)
  have eg290 := (xg 290 (by decide)).trans eg290
  have eg291 := (xg 291 (by decide)).trans eg291
  have eg292 := (xg 292 (by decide)).trans eg292
  have hgE := hgE.trans xg (by decide)
  have qL := q2
  have hq := qL
  refine z_iconst (TX3_test.at 3 rfl) ?_
  refine z_ist_2 (TX3_test.at 4 rfl) (Nat.le_of_ble_eq_true rfl) rfl ?_
  have hI := rowB_init (wd := 5) (join := dOr) (c := c) hq
  refine lp_test (wi := wi) (ni := ni) hk hN hwi (by omega) hitem (fun i9 o9 f9 g9 h9 hfin xf xg hH hA => ?_) 401 0 0 _ _ _ _ _ _ none _ _ _ rfl (by omega) (by omega) hI eg290 eg291 eg292 rfl rfl ef293 rfl rfl ef296 rfl rfl eqx.rf eqx.rf hH hA
  refine zc_vret (TX3_test.at 36 rfl) rfl hH hA ?_
  exact ⟨hfin, hfE.trans xf (by decide), hgE.trans xg (by decide), rfl⟩

theorem vv_test_true {l : Launch} {E : cE} {Kd Vl Pl c v : Int → Int} {tk : Int} (hk : TkH Kd Vl Pl tk c v) : ∀ e : Nat, e ≤ 8 → LvM l E MX3_test (3 * e + 9) [vI (8 - (e : Int))] Kd Vl Pl tk 1 20 (pTestD true c v e) := by
  have step : ∀ e : Nat, e ≤ 8 → ((e = 0 ∧ pInT true c v e = none) ∨ ∃ (e2 : Nat) (g : Nat → Nat → PR), e = e2 + 1 ∧ pInT true c v e = some g ∧ (∀ t p, B01R (g t p)) ∧ LvM l E MX3_test (3 * e2 + 9) [vI (8 - (e2 : Int))] Kd Vl Pl tk 1 (19 + 1) g) → LvM l E MX3_test (3 * e + 9) [vI (8 - (e : Int))] Kd Vl Pl tk 1 20 (pTestD true c v e) := by
    intro e e8 hin
    rw [pTestD_eq]
    exact fun t p N ag C f g j a1 a2 a3 a4 b1 b2 b3 b4 b5 b6 b7 t1 p1 hN ha => v_test (wi := 20) (ni := 3 * e + 8) a1 a2 a3 a4 b1 b2 b3 b4 b5 b6 b7 (by omega) hk t1 p1 hN ha (by omega) (fun t p N ag C f g j a1 a2 a3 a4 b1 b2 b3 b4 b5 b6 b7 t1 p1 hN ha => v_both (wi := 20) (ni := 3 * e + 7) a1 a2 a3 a4 b1 b2 b3 b4 b5 b6 b7 (by omega) hk t1 p1 hN ha (by omega) (fun t p N ag C f g j a1 a2 a3 a4 b1 b2 b3 b4 b5 b6 b7 t1 p1 hN ha => v_plain (wi := 19) (e := e) a1 a2 a3 a4 b1 b2 b3 b4 b5 b6 b7 (by omega) hk t1 p1 hN ha (by omega) rfl e8 (vv_sum_true hk e e8) (by omega) hin))
  intro e
  induction e with
  | zero => exact fun h => step 0 h (Or.inl ⟨rfl, rfl⟩)
  | succ e ih => exact fun h => step (e + 1) h (Or.inr ⟨e, pTestD true c v e, rfl, rfl, B01R_test e, ih (by omega)⟩)
theorem vv_test_false {l : Launch} {E : cE} {Kd Vl Pl c v : Int → Int} {tk : Int} (hk : TkH Kd Vl Pl tk c v) : ∀ e : Nat, e ≤ 8 → LvM l E MX3_test (3 * e + 9) [vI (8 - (e : Int))] Kd Vl Pl tk 0 20 (pTestD false c v e) := by
  have step : ∀ e : Nat, e ≤ 8 → ((e = 0 ∧ pInT false c v e = none) ∨ ∃ (e2 : Nat) (g : Nat → Nat → PR), e = e2 + 1 ∧ pInT false c v e = some g ∧ (∀ t p, B01R (g t p)) ∧ LvM l E MX3_test (3 * e2 + 9) [vI (8 - (e2 : Int))] Kd Vl Pl tk 0 (19 + 1) g) → LvM l E MX3_test (3 * e + 9) [vI (8 - (e : Int))] Kd Vl Pl tk 0 20 (pTestD false c v e) := by
    intro e e8 hin
    rw [pTestD_eq]
    exact fun t p N ag C f g j a1 a2 a3 a4 b1 b2 b3 b4 b5 b6 b7 t1 p1 hN ha => v_test (wi := 20) (ni := 3 * e + 8) a1 a2 a3 a4 b1 b2 b3 b4 b5 b6 b7 (by omega) hk t1 p1 hN ha (by omega) (fun t p N ag C f g j a1 a2 a3 a4 b1 b2 b3 b4 b5 b6 b7 t1 p1 hN ha => v_both (wi := 20) (ni := 3 * e + 7) a1 a2 a3 a4 b1 b2 b3 b4 b5 b6 b7 (by omega) hk t1 p1 hN ha (by omega) (fun t p N ag C f g j a1 a2 a3 a4 b1 b2 b3 b4 b5 b6 b7 t1 p1 hN ha => v_plain (wi := 19) (e := e) a1 a2 a3 a4 b1 b2 b3 b4 b5 b6 b7 (by omega) hk t1 p1 hN ha (by omega) rfl e8 (vv_sum_false hk e e8) (by omega) hin))
  intro e
  induction e with
  | zero => exact fun h => step 0 h (Or.inl ⟨rfl, rfl⟩)
  | succ e ih => exact fun h => step (e + 1) h (Or.inr ⟨e, pTestD false c v e, rfl, rfl, B01R_test e, ih (by omega)⟩)
