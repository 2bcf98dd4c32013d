/-! ===== the class: reading plain tests ===== -/
set_option maxHeartbeats 4000000 in
set_option maxRecDepth 100000 in
theorem lp_not {l : Launch} {E : cE} {d : Nat} {Pz : Option Value → zH → Prop} {h0 : zH} {f0 : mF} {g0 : mA} {j : mA} (hd : 1 ≤ d) {dp tk lf N ag : Int} {Kd Vl Pl c v C : Int → Int} {t p : Nat} (hk : TkH Kd Vl Pl tk c v) (kx : ∀ (b i : Int) (bb : Bool) (tq : Nat) (f : mF) (g : mA) (h : zH), ((bb = true ∧ b = 1) ∨ (bb = false ∧ b = 0)) → pNots c 401 t false = (tq, bb) → t ≤ tq → (bb = true → t < tq) → (tq : Int) < tk → f 294 = (tq : Int) → eqx [294] f0 f → eqx [] g0 g → HC E f g j h → cAg E h0 h → Z l MX3_plain d 0 0 Pz 40 [some (.ref (E.1 319)), some (vI dp), some (vI b), some (vI i)] [] h 0 0)  : ∀ (n : Nat) (iN : Nat) (tq : Nat) (i : Int) (b : Int) (bb : Bool) (f : mF) (g : mA) (h : zH) (ci : i = (iN : Int)) (i1 : i ≤ 400) (i2 : 400 < i + n) (hb : (bb = true ∧ b = 1) ∨ (bb = false ∧ b = 0)) (hp : pNots c (401 - iN) tq bb = pNots c 401 t false) (htq : tq = t + iN) (t1 : (tq : Int) < tk) (hz : iN = 0 → bb = false) (eg290 : g 290 = Kd) (eg291 : g 291 = Vl) (eg292 : g 292 = Pl) (eg424 : g 424 = C) (ef289 : f 289 = (-1)) (ef293 : f 293 = tk) (ef294 : f 294 = (tq : Int)) (ef295 : f 295 = (p : Int)) (ef296 : f 296 = lf) (ef417 : f 417 = N) (ef418 : f 418 = ag) (hfE : eqx [294] f0 f) (hgE : eqx [] g0 g) (hH : HC E f g j h) (hA : cAg E h0 h), Z l MX3_plain d 0 0 Pz 4 [some (.ref (E.1 319)), some (vI dp), some (vI b), some (vI i)] [] h 0 0 := by
  intro n
  induction n with
  | zero => intro iN tq i b bb f g h ci i1 i2 hb hp htq t1 hz eg290 eg291 eg292 eg424 ef289 ef293 ef294 ef295 ef296 ef417 ef418 hfE hgE hH hA; exfalso; omega
  | succ n ih =>
    intro iN tq i b bb f g h ci i1 i2 hb hp htq t1 hz eg290 eg291 eg292 eg424 ef289 ef293 ef294 ef295 ef296 ef417 ef418 hfE hgE hH hA
    have htk := hk.1
    have hbi : b = 0 ∨ b = 1 := by rcases hb with z | z <;> omega
    refine z_ild_3 (TX3_plain_0.at 4 rfl) ?_
    refine z_sipush (by decide) (TX3_plain_0.at 5 rfl) ?_
    refine z_icmp_ge (tgt := 40) (TX3_plain_0.at 6 rfl) rfl (by omega) (by omega) (fun c1 => ?_) (fun c1 => ?_)
    · skip
      exact kx b i bb tq _ _ _ hb (by rw [← hp, show 401 - iN = 0 + 1 by omega, pNots, if_neg (by have := hk.2.2 (tq : Int) (by omega); omega)]) (by omega) (by intro z; by_cases y : iN = 0; rw [hz y] at z; exact absurd z (by decide); omega) t1 ef294 hfE hgE hH hA
    · skip
      refine z_ald_0 (TX3_plain_0.at 7 rfl) ?_
      refine z_bipush (by decide) (TX3_plain_0.at 8 rfl) ?_
      refine zc_callI1 (m := 9) (c_isWord eg290 eg291 ef294 (by omega) (by omega) (by omega) ) (hH.lv (by decide)) (TX3_plain_0.at 9 rfl) c3_195 rfl rfl hH hA (by omega) (Nat.le_of_ble_eq_true rfl) (fun x14 f14 g14 j14 h r14 q14 hH hA => ?_)
      obtain ⟨q14, xf, xg, xj⟩ := q14
      rw [xj] at hH
      have ef289 := (xf 289 (by decide)).trans ef289
      have ef293 := (xf 293 (by decide)).trans ef293
      have ef294 := (xf 294 (by decide)).trans ef294
      have ef295 := (xf 295 (by decide)).trans ef295
      have ef296 := (xf 296 (by decide)).trans ef296
      have ef417 := (xf 417 (by decide)).trans ef417
      have ef418 := (xf 418 (by decide)).trans ef418
      have hfE := hfE.trans xf (by decide)
      have eg290 := (xg 290 (by decide)).trans eg290
      have eg291 := (xg 291 (by decide)).trans eg291
      have eg292 := (xg 292 (by decide)).trans eg292
      have eg424 := (xg 424 (by decide)).trans eg424
      have hgE := hgE.trans xg (by decide)
      have qL := q14
      rw [b2i_cg (tk_no (hk.2.1 tq (by omega) (by omega)).1)] at qL
      subst qL
      refine z_if_eqB (tgt := 40) (TX3_plain_0.at 10 rfl) rfl (fun c2 => ?_) (fun c2 => ?_)
      · skip
        exact kx b i bb tq _ _ _ hb (by rw [← hp, show 401 - iN = (400 - iN) + 1 by omega, pNots, if_neg (by omega)]) (by omega) (by intro z; by_cases y : iN = 0; rw [hz y] at z; exact absurd z (by decide); omega) t1 ef294 hfE hgE hH hA
      · skip
        refine z_ild_2 (TX3_plain_0.at 11 rfl) ?_
        refine z_if_ne (tgt := 28) (TX3_plain_0.at 12 rfl) rfl (by omega) (fun c3 => ?_) (fun c3 => ?_)
        · skip
          refine z_iconst (TX3_plain_0.at 15 rfl) ?_
          refine z_ist_2 (TX3_plain_0.at 16 rfl) (Nat.le_of_ble_eq_true rfl) rfl ?_
          refine z_ald_0 (TX3_plain_0.at 17 rfl) ?_
          refine zc_callV0 (m := 9) (c_goOn ef293 ef294 (by omega) (by omega) (by omega) (by omega) ) (hH.lv (by decide)) (TX3_plain_0.at 18 rfl) c3_179 rfl rfl hH hA (by omega) (Nat.le_of_ble_eq_true rfl) (fun f31 g31 j31 h q31 hH hA => ?_)
          obtain ⟨q31, xf, xg, xj⟩ := q31
          rw [xj] at hH
          have ef289 := (xf 289 (by decide)).trans ef289
          have ef293 := (xf 293 (by decide)).trans ef293
          have ef295 := (xf 295 (by decide)).trans ef295
          have ef296 := (xf 296 (by decide)).trans ef296
          have ef417 := (xf 417 (by decide)).trans ef417
          have ef418 := (xf 418 (by decide)).trans ef418
          have hfE := hfE.trans xf (by decide)
          have eg290 := (xg 290 (by decide)).trans eg290
          have eg291 := (xg 291 (by decide)).trans eg291
          have eg292 := (xg 292 (by decide)).trans eg292
          have eg424 := (xg 424 (by decide)).trans eg424
          have hgE := hgE.trans xg (by decide)
          have qL := q31
          have hgo := hk.go (i := (tq : Int)) (by omega) (by omega)
          have ef294 := qL.trans hgo.1
          have t2 := hgo.2
          have hst : pNots c (401 - iN) tq bb = pNots c (400 - iN) (tq + 1) (!bb) := by rw [show 401 - iN = (400 - iN) + 1 by omega, pNots, if_pos (by omega)]
          refine z_iinc_3 (TX3_plain_0.at 19 rfl) (Nat.le_of_ble_eq_true rfl) rfl ?_
          refine z_goto (tgt := 4) (TX3_plain_0.at 20 rfl) rfl ?_
          exact ih (iN + 1) (tq + 1) _ _ (!bb) _ _ _ (by omega) (by omega) (by omega) (by rcases hb with ⟨z1, z2⟩ | ⟨z1, z2⟩ <;> subst z1 <;> simp <;> omega) (by rw [show 401 - (iN + 1) = 400 - iN by omega, ← hst]; exact hp) (by omega) (by omega) (by omega) eg290 eg291 eg292 eg424 ef289 ef293 (ef294.trans (by omega)) ef295 ef296 ef417 ef418 hfE hgE hH hA
        · skip
          refine z_iconst (TX3_plain_0.at 13 rfl) ?_
          refine z_goto (tgt := 29) (TX3_plain_0.at 14 rfl) rfl ?_
          refine z_ist_2 (TX3_plain_0.at 16 rfl) (Nat.le_of_ble_eq_true rfl) rfl ?_
          refine z_ald_0 (TX3_plain_0.at 17 rfl) ?_
          refine zc_callV0 (m := 9) (c_goOn ef293 ef294 (by omega) (by omega) (by omega) (by omega) ) (hH.lv (by decide)) (TX3_plain_0.at 18 rfl) c3_179 rfl rfl hH hA (by omega) (Nat.le_of_ble_eq_true rfl) (fun f31 g31 j31 h q31 hH hA => ?_)
          obtain ⟨q31, xf, xg, xj⟩ := q31
          rw [xj] at hH
          have ef289 := (xf 289 (by decide)).trans ef289
          have ef293 := (xf 293 (by decide)).trans ef293
          have ef295 := (xf 295 (by decide)).trans ef295
          have ef296 := (xf 296 (by decide)).trans ef296
          have ef417 := (xf 417 (by decide)).trans ef417
          have ef418 := (xf 418 (by decide)).trans ef418
          have hfE := hfE.trans xf (by decide)
          have eg290 := (xg 290 (by decide)).trans eg290
          have eg291 := (xg 291 (by decide)).trans eg291
          have eg292 := (xg 292 (by decide)).trans eg292
          have eg424 := (xg 424 (by decide)).trans eg424
          have hgE := hgE.trans xg (by decide)
          have qL := q31
          have hgo := hk.go (i := (tq : Int)) (by omega) (by omega)
          have ef294 := qL.trans hgo.1
          have t2 := hgo.2
          have hst : pNots c (401 - iN) tq bb = pNots c (400 - iN) (tq + 1) (!bb) := by rw [show 401 - iN = (400 - iN) + 1 by omega, pNots, if_pos (by omega)]
          refine z_iinc_3 (TX3_plain_0.at 19 rfl) (Nat.le_of_ble_eq_true rfl) rfl ?_
          refine z_goto (tgt := 4) (TX3_plain_0.at 20 rfl) rfl ?_
          exact ih (iN + 1) (tq + 1) _ _ (!bb) _ _ _ (by omega) (by omega) (by omega) (by rcases hb with ⟨z1, z2⟩ | ⟨z1, z2⟩ <;> subst z1 <;> simp <;> omega) (by rw [show 401 - (iN + 1) = 400 - iN by omega, ← hst]; exact hp) (by omega) (by omega) (by omega) eg290 eg291 eg292 eg424 ef289 ef293 (ef294.trans (by omega)) ef295 ef296 ef417 ef418 hfE hgE hH hA

set_option maxHeartbeats 4000000 in
set_option maxRecDepth 100000 in
theorem dd_pl78 {l : Launch} {E : cE} {d : Nat} {Pz : Option Value → zH → Prop} {h0 h : zH} {f0 f : mF} {g0 g j : mA} {dp b tk fl ag : Int} {o3 : Option Value} {Qx : mF → mA → Prop} (hd : 2 ≤ d) (hzb : zIn b) (hS : DdS tk fl ag f) (hQ : ∀ f' g', DdS tk fl ag f' → Qx f' g') (ePz : Pz = CP E h0 (PV (fun f' g' j' => Qx f' g' ∧ eqx [289, 294, 295, 417, 418] f0 f' ∧ eqx [424] g0 g' ∧ j' = j)))  (hfE : eqx [289, 294, 295, 417, 418] f0 f) (hgE : eqx [424] g0 g) (hH : HC E f g j h) (hA : cAg E h0 h) : Z l MX3_plain d 0 0 Pz 78 [some (.ref (E.1 319)), some (vI dp), some (vI b), o3] [] h 0 0 := by
  subst ePz
  have s1 := hS.1
  have s2 := hS.2.1
  have s3 := hS.2.2.1
  have s4 := hS.2.2.2.1
  have s5 := hS.2.2.2.2.1
  have s8 := hS.2.2.2.2.2.2.2.1
  have s9 := hS.2.2.2.2.2.2.2.2
  refine z_ald_0 (TX3_plain_1.at 1 rfl) ?_
  refine z_bipush (by decide) (TX3_plain_1.at 2 rfl) ?_
  refine zc_callI1 (m := 9) (c_isSign rfl rfl rfl (by omega) (by omega) (by omega) ) (hH.lv (by decide)) (TX3_plain_1.at 3 rfl) c3_175 rfl rfl hH hA (by omega) (Nat.le_of_ble_eq_true rfl) (fun x81 f81 g81 j81 h r81 q81 hH hA => ?_)
  obtain ⟨q81, xf, xg, xj⟩ := q81
  rw [xj] at hH
  have hfE := hfE.trans xf (by decide)
  have hgE := hgE.trans xg (by decide)
  have qL := q81
  have hS := hS.n xf
  have s1 := hS.1
  have s2 := hS.2.1
  have s3 := hS.2.2.1
  have s4 := hS.2.2.2.1
  have s5 := hS.2.2.2.2.1
  have s8 := hS.2.2.2.2.2.2.2.1
  have s9 := hS.2.2.2.2.2.2.2.2
  refine z_if_eq (tgt := 92) (TX3_plain_1.at 4 rfl) rfl (by omega) (fun c1 => ?_) (fun c1 => ?_)
  · skip
    refine z_ald_0 (TX3_plain_1.at 7 rfl) ?_
    refine z_bipush (by decide) (TX3_plain_1.at 8 rfl) ?_
    refine zc_callI1 (m := 9) (c_isSign rfl rfl rfl (by omega) (by omega) (by omega) ) (hH.lv (by decide)) (TX3_plain_1.at 9 rfl) c3_175 rfl rfl hH hA (by omega) (Nat.le_of_ble_eq_true rfl) (fun x95 f95 g95 j95 h r95 q95 hH hA => ?_)
    obtain ⟨q95, xf, xg, xj⟩ := q95
    rw [xj] at hH
    have hfE := hfE.trans xf (by decide)
    have hgE := hgE.trans xg (by decide)
    have qL := q95
    have hS := hS.n xf
    have s1 := hS.1
    have s2 := hS.2.1
    have s3 := hS.2.2.1
    have s4 := hS.2.2.2.1
    have s5 := hS.2.2.2.2.1
    have s8 := hS.2.2.2.2.2.2.2.1
    have s9 := hS.2.2.2.2.2.2.2.2
    refine z_if_eq (tgt := 106) (TX3_plain_1.at 10 rfl) rfl (by omega) (fun c2 => ?_) (fun c2 => ?_)
    · skip
      refine z_bipush (by decide) (TX3_plain_1.at 13 rfl) ?_
      refine z_ist_3 (TX3_plain_1.at 14 rfl) (Nat.le_of_ble_eq_true rfl) rfl ?_
      refine z_ild_3 (TX3_plain_1.at 15 rfl) ?_
      refine z_bipush (by decide) (TX3_plain_1.at 16 rfl) ?_
      refine z_icmp_ne (tgt := 124) (TX3_plain_1.at 17 rfl) rfl (by omega) (by omega) (fun c3 => absurd c3 (by decide)) (fun c3 => ?_)
      refine z_ald_0 (TX3_plain_1.at 18 rfl) ?_
      refine z_bipush (by decide) (TX3_plain_1.at 19 rfl) ?_
      refine zc_callV1 (m := 9) (c_take rfl rfl rfl rfl rfl rfl (by omega) (by omega) (by omega) (by omega) (by omega) ) (hH.lv (by decide)) (TX3_plain_1.at 20 rfl) c3_60 rfl rfl hH hA (by omega) (Nat.le_of_ble_eq_true rfl) (fun f118 g118 j118 h q118 hH hA => ?_)
      obtain ⟨q118, xf, xg, xj⟩ := q118
      rw [xj] at hH
      have hfE := hfE.trans xf (by decide)
      have hgE := hgE.trans xg (by decide)
      have qL := q118
      have hS := hS.c xf qL.1 qL.2
      have s1 := hS.1
      have s2 := hS.2.1
      have s3 := hS.2.2.1
      have s4 := hS.2.2.2.1
      have s5 := hS.2.2.2.2.1
      have s8 := hS.2.2.2.2.2.2.2.1
      have s9 := hS.2.2.2.2.2.2.2.2
      refine z_goto (tgt := 128) (TX3_plain_1.at 21 rfl) rfl ?_
      refine z_ald_0 (TX3_plain_1.at 24 rfl) ?_
      refine zc_getI (m := 9) (s := 1) (k := 289) (hH.lv (by decide)) (TX3_plain_1.at 25 rfl) fl3_20 hH rfl rfl (by decide) (by decide) (fun r129 => ?_)
      refine z_iconst (TX3_plain_1.at 26 rfl) ?_
      refine z_icmp_ne (tgt := 150) (TX3_plain_1.at 27 rfl) rfl (by omega) (by omega) (fun c4 => ?_) (fun c4 => absurd c4 (by omega))
      refine z_ild_2 (TX3_plain_1.at 36 rfl) ?_
      refine z_if_eq (tgt := 164) (TX3_plain_1.at 37 rfl) rfl (by omega) (fun c5 => ?_) (fun c5 => ?_)
      · skip
        refine zc_vret (TX3_plain_2.at 3 rfl) rfl hH hA ?_
        exact ⟨hQ _ _ hS, hfE, hgE, rfl⟩
      · skip
        refine z_ald_0 (TX3_plain_1.at 38 rfl) ?_
        refine zc_getO (m := 9) (s := 0) (k := 447) (hH.lv (by decide)) (TX3_plain_1.at 39 rfl) fl3_14 hH rfl rfl (by decide) (by decide) ?_
        refine z_bipush (by decide) (TX3_plain_2.at 0 rfl) ?_
        refine z_iconst (TX3_plain_2.at 1 rfl) ?_
        refine zc_callV2 (m := 13) (c_put rfl rfl (by omega) (by omega) (by omega) (by omega) (by omega) (by omega) (by omega) ) (hH.lv (by decide)) (TX3_plain_2.at 2 rfl) c3_214 rfl rfl hH hA (by omega) (Nat.le_of_ble_eq_true rfl) (fun f161 g161 j161 h q161 hH hA => ?_)
        obtain ⟨q161, xf, xg, xj⟩ := q161
        rw [xj] at hH
        have hfE := hfE.trans xf (by decide)
        have hgE := hgE.trans xg (by decide)
        have qL := q161
        have hS := hS.p xf qL.1
        have s1 := hS.1
        have s2 := hS.2.1
        have s3 := hS.2.2.1
        have s4 := hS.2.2.2.1
        have s5 := hS.2.2.2.2.1
        have s8 := hS.2.2.2.2.2.2.2.1
        have s9 := hS.2.2.2.2.2.2.2.2
        refine zc_vret (TX3_plain_2.at 3 rfl) rfl hH hA ?_
        exact ⟨hQ _ _ hS, hfE, hgE, rfl⟩
    · skip
      refine z_bipush (by decide) (TX3_plain_1.at 11 rfl) ?_
      refine z_goto (tgt := 108) (TX3_plain_1.at 12 rfl) rfl ?_
      refine z_ist_3 (TX3_plain_1.at 14 rfl) (Nat.le_of_ble_eq_true rfl) rfl ?_
      refine z_ild_3 (TX3_plain_1.at 15 rfl) ?_
      refine z_bipush (by decide) (TX3_plain_1.at 16 rfl) ?_
      refine z_icmp_ne (tgt := 124) (TX3_plain_1.at 17 rfl) rfl (by omega) (by omega) (fun c6 => ?_) (fun c6 => absurd c6 (by decide))
      refine z_ald_0 (TX3_plain_1.at 22 rfl) ?_
      refine zc_callV0 (m := 9) (c_goOn rfl rfl (by omega) (by omega) (by omega) (by omega) ) (hH.lv (by decide)) (TX3_plain_1.at 23 rfl) c3_179 rfl rfl hH hA (by omega) (Nat.le_of_ble_eq_true rfl) (fun f125 g125 j125 h q125 hH hA => ?_)
      obtain ⟨q125, xf, xg, xj⟩ := q125
      rw [xj] at hH
      have hfE := hfE.trans xf (by decide)
      have hgE := hgE.trans xg (by decide)
      have qL := q125
      have hS := hS.b xf qL
      have s1 := hS.1
      have s2 := hS.2.1
      have s3 := hS.2.2.1
      have s4 := hS.2.2.2.1
      have s5 := hS.2.2.2.2.1
      have s8 := hS.2.2.2.2.2.2.2.1
      have s9 := hS.2.2.2.2.2.2.2.2
      refine z_ald_0 (TX3_plain_1.at 24 rfl) ?_
      refine zc_getI (m := 9) (s := 1) (k := 289) (hH.lv (by decide)) (TX3_plain_1.at 25 rfl) fl3_20 hH rfl rfl (by decide) (by decide) (fun r129 => ?_)
      refine z_iconst (TX3_plain_1.at 26 rfl) ?_
      refine z_icmp_ne (tgt := 150) (TX3_plain_1.at 27 rfl) rfl (by omega) (by omega) (fun c7 => ?_) (fun c7 => absurd c7 (by omega))
      refine z_ild_2 (TX3_plain_1.at 36 rfl) ?_
      refine z_if_eq (tgt := 164) (TX3_plain_1.at 37 rfl) rfl (by omega) (fun c8 => ?_) (fun c8 => ?_)
      · skip
        refine zc_vret (TX3_plain_2.at 3 rfl) rfl hH hA ?_
        exact ⟨hQ _ _ hS, hfE, hgE, rfl⟩
      · skip
        refine z_ald_0 (TX3_plain_1.at 38 rfl) ?_
        refine zc_getO (m := 9) (s := 0) (k := 447) (hH.lv (by decide)) (TX3_plain_1.at 39 rfl) fl3_14 hH rfl rfl (by decide) (by decide) ?_
        refine z_bipush (by decide) (TX3_plain_2.at 0 rfl) ?_
        refine z_iconst (TX3_plain_2.at 1 rfl) ?_
        refine zc_callV2 (m := 13) (c_put rfl rfl (by omega) (by omega) (by omega) (by omega) (by omega) (by omega) (by omega) ) (hH.lv (by decide)) (TX3_plain_2.at 2 rfl) c3_214 rfl rfl hH hA (by omega) (Nat.le_of_ble_eq_true rfl) (fun f161 g161 j161 h q161 hH hA => ?_)
        obtain ⟨q161, xf, xg, xj⟩ := q161
        rw [xj] at hH
        have hfE := hfE.trans xf (by decide)
        have hgE := hgE.trans xg (by decide)
        have qL := q161
        have hS := hS.p xf qL.1
        have s1 := hS.1
        have s2 := hS.2.1
        have s3 := hS.2.2.1
        have s4 := hS.2.2.2.1
        have s5 := hS.2.2.2.2.1
        have s8 := hS.2.2.2.2.2.2.2.1
        have s9 := hS.2.2.2.2.2.2.2.2
        refine zc_vret (TX3_plain_2.at 3 rfl) rfl hH hA ?_
        exact ⟨hQ _ _ hS, hfE, hgE, rfl⟩
  · skip
    refine z_bipush (by decide) (TX3_plain_1.at 5 rfl) ?_
    refine z_goto (tgt := 108) (TX3_plain_1.at 6 rfl) rfl ?_
    refine z_ist_3 (TX3_plain_1.at 14 rfl) (Nat.le_of_ble_eq_true rfl) rfl ?_
    refine z_ild_3 (TX3_plain_1.at 15 rfl) ?_
    refine z_bipush (by decide) (TX3_plain_1.at 16 rfl) ?_
    refine z_icmp_ne (tgt := 124) (TX3_plain_1.at 17 rfl) rfl (by omega) (by omega) (fun c9 => ?_) (fun c9 => absurd c9 (by decide))
    refine z_ald_0 (TX3_plain_1.at 22 rfl) ?_
    refine zc_callV0 (m := 9) (c_goOn rfl rfl (by omega) (by omega) (by omega) (by omega) ) (hH.lv (by decide)) (TX3_plain_1.at 23 rfl) c3_179 rfl rfl hH hA (by omega) (Nat.le_of_ble_eq_true rfl) (fun f125 g125 j125 h q125 hH hA => ?_)
    obtain ⟨q125, xf, xg, xj⟩ := q125
    rw [xj] at hH
    have hfE := hfE.trans xf (by decide)
    have hgE := hgE.trans xg (by decide)
    have qL := q125
    have hS := hS.b xf qL
    have s1 := hS.1
    have s2 := hS.2.1
    have s3 := hS.2.2.1
    have s4 := hS.2.2.2.1
    have s5 := hS.2.2.2.2.1
    have s8 := hS.2.2.2.2.2.2.2.1
    have s9 := hS.2.2.2.2.2.2.2.2
    refine z_ald_0 (TX3_plain_1.at 24 rfl) ?_
    refine zc_getI (m := 9) (s := 1) (k := 289) (hH.lv (by decide)) (TX3_plain_1.at 25 rfl) fl3_20 hH rfl rfl (by decide) (by decide) (fun r129 => ?_)
    refine z_iconst (TX3_plain_1.at 26 rfl) ?_
    refine z_icmp_ne (tgt := 150) (TX3_plain_1.at 27 rfl) rfl (by omega) (by omega) (fun c10 => ?_) (fun c10 => absurd c10 (by omega))
    refine z_ild_2 (TX3_plain_1.at 36 rfl) ?_
    refine z_if_eq (tgt := 164) (TX3_plain_1.at 37 rfl) rfl (by omega) (fun c11 => ?_) (fun c11 => ?_)
    · skip
      refine zc_vret (TX3_plain_2.at 3 rfl) rfl hH hA ?_
      exact ⟨hQ _ _ hS, hfE, hgE, rfl⟩
    · skip
      refine z_ald_0 (TX3_plain_1.at 38 rfl) ?_
      refine zc_getO (m := 9) (s := 0) (k := 447) (hH.lv (by decide)) (TX3_plain_1.at 39 rfl) fl3_14 hH rfl rfl (by decide) (by decide) ?_
      refine z_bipush (by decide) (TX3_plain_2.at 0 rfl) ?_
      refine z_iconst (TX3_plain_2.at 1 rfl) ?_
      refine zc_callV2 (m := 13) (c_put rfl rfl (by omega) (by omega) (by omega) (by omega) (by omega) (by omega) (by omega) ) (hH.lv (by decide)) (TX3_plain_2.at 2 rfl) c3_214 rfl rfl hH hA (by omega) (Nat.le_of_ble_eq_true rfl) (fun f161 g161 j161 h q161 hH hA => ?_)
      obtain ⟨q161, xf, xg, xj⟩ := q161
      rw [xj] at hH
      have hfE := hfE.trans xf (by decide)
      have hgE := hgE.trans xg (by decide)
      have qL := q161
      have hS := hS.p xf qL.1
      have s1 := hS.1
      have s2 := hS.2.1
      have s3 := hS.2.2.1
      have s4 := hS.2.2.2.1
      have s5 := hS.2.2.2.2.1
      have s8 := hS.2.2.2.2.2.2.2.1
      have s9 := hS.2.2.2.2.2.2.2.2
      refine zc_vret (TX3_plain_2.at 3 rfl) rfl hH hA ?_
      exact ⟨hQ _ _ hS, hfE, hgE, rfl⟩

set_option maxHeartbeats 4000000 in
set_option maxRecDepth 100000 in
theorem v_pl150 {l : Launch} {E : cE} {d : Nat} {Pz : Option Value → zH → Prop} {h0 h : zH} {f0 f : mF} {g0 g j : mA} {dp b tk N ag : Int} {o3 : Option Value} {Qx : mF → mA → Prop} {Pl C : Int → Int} {w t tq : Nat} {R : PR} {bb : Bool} (hd : 2 ≤ d) (hb : (bb = true ∧ b = 1) ∨ (bb = false ∧ b = 0)) (hq : LvQ Pl w R tq N ag tk C f g) (ht : t ≤ tq) (ht2 : bb = true → t < tq) (hN : 0 ≤ N ∧ N ≤ t) (htk : 1 ≤ tk ∧ tk ≤ 401) (hw : 1 ≤ w) (hB : B01R R) (hQ : ∀ f' g', LvQ Pl w (mNot bb R) t N ag tk C f' g' → Qx f' g') (ePz : Pz = CP E h0 (PV (fun f' g' j' => Qx f' g' ∧ eqx [289, 294, 295, 417, 418] f0 f' ∧ eqx [424] g0 g' ∧ j' = j)))  (hfE : eqx [289, 294, 295, 417, 418] f0 f) (hgE : eqx [424] g0 g) (hH : HC E f g j h) (hA : cAg E h0 h) : Z l MX3_plain d 0 0 Pz 150 [some (.ref (E.1 319)), some (vI dp), some (vI b), o3] [] h 0 0 := by
  subst ePz
  have hps := hq.ps htk (by omega)
  have b5 := hps.2.2.2.2.1
  have hbi : b = 0 ∨ b = 1 := by rcases hb with z | z <;> omega
  refine z_ild_2 (TX3_plain_1.at 36 rfl) ?_
  refine z_if_eq (tgt := 164) (TX3_plain_1.at 37 rfl) rfl (by omega) (fun c1 => ?_) (fun c1 => ?_)
  · skip
    refine zc_vret (TX3_plain_2.at 3 rfl) rfl hH hA ?_
    exact ⟨hQ _ _ (by rcases hb with z | z; exfalso; omega; rw [z.1]; exact LvQ_not0 hq ht), hfE, hgE, rfl⟩
  · skip
    refine z_ald_0 (TX3_plain_1.at 38 rfl) ?_
    refine zc_getO (m := 9) (s := 0) (k := 447) (hH.lv (by decide)) (TX3_plain_1.at 39 rfl) fl3_14 hH rfl rfl (by decide) (by decide) ?_
    refine z_bipush (by decide) (TX3_plain_2.at 0 rfl) ?_
    refine z_iconst (TX3_plain_2.at 1 rfl) ?_
    refine zc_callV2 (m := 13) (c_put rfl rfl (by omega) (by omega) (by omega) (by omega) (by omega) (by omega) (by omega) ) (hH.lv (by decide)) (TX3_plain_2.at 2 rfl) c3_214 rfl rfl hH hA (by omega) (Nat.le_of_ble_eq_true rfl) (fun f161 g161 j161 h q161 hH hA => ?_)
    obtain ⟨q161, xf, xg, xj⟩ := q161
    rw [xj] at hH
    have hfE := hfE.trans xf (by decide)
    have hgE := hgE.trans xg (by decide)
    have qL := q161
    have hfin := LvQ_not1 hq (ht2 (by rcases hb with z | z; exact z.1; omega)) hN htk.2 hw hB xf qL.1 qL.2
    refine zc_vret (TX3_plain_2.at 3 rfl) rfl hH hA ?_
    exact ⟨hQ _ _ (by rcases hb with z | z; rw [z.1]; exact hfin; exfalso; omega), hfE, hgE, rfl⟩

theorem cmpOp_y {x o : Int} (h : (x = 160 ∧ o = 8) ∨ (x = 162 ∧ o = 9) ∨ (x = 161 ∧ o = 10)) : cmpOp x = some o := by
  rcases h with ⟨rfl, rfl⟩ | ⟨rfl, rfl⟩ | ⟨rfl, rfl⟩ <;> decide
theorem cmpOp_n {x : Int} (h : x ≠ 160 ∧ x ≠ 162 ∧ x ≠ 161) : cmpOp x = none := by unfold cmpOp; rw [if_neg h.1, if_neg h.2.1, if_neg h.2.2]
theorem take_tk {Kd Vl Pl c v : Int → Int} {tk i s F1 F2 : Int} (h : TkH Kd Vl Pl tk c v) (i0 : 0 ≤ i) (i1 : i < tk) (s0 : 0 ≤ s) (q : F1 = (if isK Kd Vl i 3 s then -1 else flF (-1) (Pl i)) ∧ F2 = (if isK Kd Vl i 3 s then gnF tk i else i)) : (c i = 100 + s ∧ F1 = -1 ∧ F2 = i + 1 ∧ i + 1 < tk) ∨ (c i ≠ 100 + s ∧ F1 = Pl i ∧ F1 ≠ -1 ∧ F2 = i) := by
  have hi := h.2.1 i i0 i1
  have e := tk_sg (s := s) hi.1 s0
  by_cases z : c i = 100 + s
  · rw [if_pos (e.mpr z), if_pos (e.mpr z)] at q
    have g := h.go i1 (by omega)
    exact Or.inl ⟨z, q.1, by omega, g.2⟩
  · rw [if_neg (fun y => z (e.mp y)), if_neg (fun y => z (e.mp y))] at q
    have q1 : F1 = Pl i := q.1.trans (if_pos rfl)
    exact Or.inr ⟨z, q1, by omega, q.2⟩
set_option maxHeartbeats 4000000 in
set_option maxRecDepth 100000 in
theorem v_plain {l : Launch} {E : cE} {f : mF} {g j : mA} {Kd : Int → Int} {Vl : Int → Int} {Pl : Int → Int} {C : Int → Int} {tk : Int} {lf : Int} {N : Int} {ag : Int} {dp : Int} {t p wi ws e : Nat} {c v : Int → Int} {sumF : Nat → Nat → PR} {inner : Option (Nat → Nat → PR)} (eg290 : g 290 = Kd) (eg291 : g 291 = Vl) (eg292 : g 292 = Pl) (eg424 : g 424 = C) (ef289 : f 289 = (-1)) (ef293 : f 293 = tk) (ef294 : f 294 = (t : Int)) (ef295 : f 295 = (p : Int)) (ef296 : f 296 = lf) (ef417 : f 417 = N) (ef418 : f 418 = ag) (hdp : zIn dp) (hk : TkH Kd Vl Pl tk c v) (t1 : (t : Int) < tk) (p1 : p ≤ 50) (hN : 0 ≤ N ∧ N ≤ t) (ha : in01 ag) (hwi : 1 ≤ wi) (he : dp = 8 - (e : Int)) (e8 : e ≤ 8) (hsum : LvM l E MX3_sum (3 * e + 6) [vI dp] Kd Vl Pl tk lf ws sumF) (hws : ws ≤ wi) (hin : (e = 0 ∧ inner = none) ∨ ∃ (e2 : Nat) (g : Nat → Nat → PR), e = e2 + 1 ∧ inner = some g ∧ (∀ t p, B01R (g t p)) ∧ LvM l E MX3_test (3 * e2 + 9) [vI (8 - (e2 : Int))] Kd Vl Pl tk lf (wi + 1) g) : CM l E MX3_plain (3 * e + 7) [.ref (E.1 319), vI dp] f g j (PV (fun f' g' j' => (LvQ Pl (wi + 1) (pPlain c sumF inner t p) t N ag tk C f' g') ∧ eqx [289, 294, 295, 417, 418] f f' ∧ eqx [424] g g' ∧ j' = j)) := by
  refine CM.intro [some (.ref (E.1 319)), some (vI dp), none, none] (by decide) (Nat.le_of_ble_eq_true rfl) rfl (fun d hd h0 h hH hA => ?_)
  have hfE : eqx [289, 294, 295, 417, 418] f f := eqx.rf
  have hgE : eqx [424] g g := eqx.rf
  have htk := hk.1
  have hp0 := (hk.2.1 t (by omega) t1).2
  have hti := (hk.2.1 t (by omega) t1).1
  refine z_iconst (TX3_plain_0.at 0 rfl) ?_
  refine z_ist_2 (TX3_plain_0.at 1 rfl) (Nat.le_of_ble_eq_true rfl) rfl ?_
  refine z_iconst (TX3_plain_0.at 2 rfl) ?_
  refine z_ist_3 (TX3_plain_0.at 3 rfl) (Nat.le_of_ble_eq_true rfl) rfl ?_
  refine lp_not (dp := dp) (by omega) hk (fun b9 i9 bb tq f4 g4 h hb hnt htq htq2 tq1 ef294 xf xg hH hA => ?_) 401 0 t 0 0 false _ _ _ rfl (by omega) (by omega) (Or.inr ⟨rfl, rfl⟩) rfl rfl t1 (fun _ => rfl) eg290 eg291 eg292 eg424 ef289 ef293 ef294 ef295 ef296 ef417 ef418 eqx.rf eqx.rf hH hA
  have ef289 := (xf 289 (by decide)).trans ef289
  have ef293 := (xf 293 (by decide)).trans ef293
  have ef295 := (xf 295 (by decide)).trans ef295
  have ef296 := (xf 296 (by decide)).trans ef296
  have ef417 := (xf 417 (by decide)).trans ef417
  have ef418 := (xf 418 (by decide)).trans ef418
  have hfE := hfE.trans xf (by decide)
  have eg290 := (xg 290 (by decide)).trans eg290
  have eg291 := (xg 291 (by decide)).trans eg291
  have eg292 := (xg 292 (by decide)).trans eg292
  have eg424 := (xg 424 (by decide)).trans eg424
  have hgE := hgE.trans xg (by decide)
  have hp1 := (hk.2.1 tq (by omega) tq1).2
  refine z_ald_0 (TX3_plain_0.at 21 rfl) ?_
  refine z_bipush (by decide) (TX3_plain_0.at 22 rfl) ?_
  refine zc_callI1 (m := 9) (c_isSign eg290 eg291 ef294 (by omega) (by omega) (by omega) ) (hH.lv (by decide)) (TX3_plain_0.at 23 rfl) c3_175 rfl rfl hH hA (by omega) (Nat.le_of_ble_eq_true rfl) (fun x43 f43 g43 j43 h r43 q43 hH hA => ?_)
  obtain ⟨q43, xf, xg, xj⟩ := q43
  rw [xj] at hH
  have ef289 := (xf 289 (by decide)).trans ef289
  have ef293 := (xf 293 (by decide)).trans ef293
  have ef294 := (xf 294 (by decide)).trans ef294
  have ef295 := (xf 295 (by decide)).trans ef295
  have ef296 := (xf 296 (by decide)).trans ef296
  have ef417 := (xf 417 (by decide)).trans ef417
  have ef418 := (xf 418 (by decide)).trans ef418
  have hfE := hfE.trans xf (by decide)
  have eg290 := (xg 290 (by decide)).trans eg290
  have eg291 := (xg 291 (by decide)).trans eg291
  have eg292 := (xg 292 (by decide)).trans eg292
  have eg424 := (xg 424 (by decide)).trans eg424
  have hgE := hgE.trans xg (by decide)
  have qL := q43
  rw [b2i_cg (tk_sg (hk.2.1 tq (by omega) (by omega)).1 (by decide))] at qL
  subst qL
  refine z_if_eqB (tgt := 73) (TX3_plain_0.at 24 rfl) rfl (fun c1 => ?_) (fun c1 => ?_)
  · skip
    refine z_ald_0 (TX3_plain_0.at 38 rfl) ?_
    refine z_ild_1 (TX3_plain_0.at 39 rfl) ?_
    refine zc_callV1 (m := 9) (hsum tq p N ag C _ _ _ eg290 eg291 eg292 eg424 ef289 ef293 ef294 ef295 ef296 ef417 ef418 tq1 p1 (by omega) ha) (hH.lv (by decide)) (TX3_plain_1.at 0 rfl) c3_217 rfl rfl hH hA (by omega) (Nat.le_of_ble_eq_true rfl) (fun f75 g75 j75 h q75 hH hA => ?_)
    obtain ⟨q75, xf, xg, xj⟩ := q75
    rw [xj] at hH
    have ef293 := (xf 293 (by decide)).trans ef293
    have ef296 := (xf 296 (by decide)).trans ef296
    have hfE := hfE.trans xf (by decide)
    have eg290 := (xg 290 (by decide)).trans eg290
    have eg291 := (xg 291 (by decide)).trans eg291
    have eg292 := (xg 292 (by decide)).trans eg292
    have hgE := hgE.trans xg (by decide)
    have qL := q75
    have hq := LvQ.mono qL hws
    rcases hs : sumF tq p with e | r
    · rw [hs] at hq
      exact dd_pl78 (o3 := some (vI i9)) (by omega) (by rcases hb with z | z <;> omega) (show DdS tk (Pl e) ag _ from hq) (fun f' g' hX => by rw [pPlain_eq hnt, if_neg (show ¬ c tq = 140 by omega)]; exact LvQ.er (by unfold pCmp; rw [hs]; rfl) hX) rfl hfE hgE hH hA
    obtain ⟨t2, p2, k1⟩ := r
    rw [hs] at hq
    obtain ⟨h1, h2, h3, h4, h5, h6, h7, h8, h9, h10, h11, h12, h13⟩ := hq
    have ef289 := h1
    have ef294 := h3
    have ef295 := h4
    obtain ⟨N1, ef417⟩ : ∃ z, f75 417 = z := ⟨_, rfl⟩
    obtain ⟨ag1, ef418⟩ : ∃ z, f75 418 = z := ⟨_, rfl⟩
    obtain ⟨C1, eg424⟩ : ∃ z, g75 424 = z := ⟨_, rfl⟩
    rw [ef417] at h7 h8 h12
    rw [ef418] at h9 h10 h13
    rw [eg424] at h11 h12
    refine z_ald_0 (TX3_plain_1.at 1 rfl) ?_
    refine z_bipush (by decide) (TX3_plain_1.at 2 rfl) ?_
    refine zc_callI1 (m := 9) (c_isSign eg290 eg291 ef294 (by omega) (by omega) (by omega) ) (hH.lv (by decide)) (TX3_plain_1.at 3 rfl) c3_175 rfl rfl hH hA (by omega) (Nat.le_of_ble_eq_true rfl) (fun x81 f81 g81 j81 h r81 q81 hH hA => ?_)
    obtain ⟨q81, xf, xg, xj⟩ := q81
    rw [xj] at hH
    have ef289 := (xf 289 (by decide)).trans ef289
    have ef293 := (xf 293 (by decide)).trans ef293
    have ef294 := (xf 294 (by decide)).trans ef294
    have ef295 := (xf 295 (by decide)).trans ef295
    have ef296 := (xf 296 (by decide)).trans ef296
    have ef417 := (xf 417 (by decide)).trans ef417
    have ef418 := (xf 418 (by decide)).trans ef418
    have hfE := hfE.trans xf (by decide)
    have eg290 := (xg 290 (by decide)).trans eg290
    have eg291 := (xg 291 (by decide)).trans eg291
    have eg292 := (xg 292 (by decide)).trans eg292
    have eg424 := (xg 424 (by decide)).trans eg424
    have hgE := hgE.trans xg (by decide)
    have qL := q81
    rw [b2i_cg (tk_sg (hk.2.1 t2 (by omega) (by omega)).1 (by decide))] at qL
    subst qL
    refine z_if_eqB (tgt := 92) (TX3_plain_1.at 4 rfl) rfl (fun c2 => ?_) (fun c2 => ?_)
    · skip
      refine z_ald_0 (TX3_plain_1.at 7 rfl) ?_
      refine z_bipush (by decide) (TX3_plain_1.at 8 rfl) ?_
      refine zc_callI1 (m := 9) (c_isSign eg290 eg291 ef294 (by omega) (by omega) (by omega) ) (hH.lv (by decide)) (TX3_plain_1.at 9 rfl) c3_175 rfl rfl hH hA (by omega) (Nat.le_of_ble_eq_true rfl) (fun x95 f95 g95 j95 h r95 q95 hH hA => ?_)
      obtain ⟨q95, xf, xg, xj⟩ := q95
      rw [xj] at hH
      have ef289 := (xf 289 (by decide)).trans ef289
      have ef293 := (xf 293 (by decide)).trans ef293
      have ef294 := (xf 294 (by decide)).trans ef294
      have ef295 := (xf 295 (by decide)).trans ef295
      have ef296 := (xf 296 (by decide)).trans ef296
      have ef417 := (xf 417 (by decide)).trans ef417
      have ef418 := (xf 418 (by decide)).trans ef418
      have hfE := hfE.trans xf (by decide)
      have eg290 := (xg 290 (by decide)).trans eg290
      have eg291 := (xg 291 (by decide)).trans eg291
      have eg292 := (xg 292 (by decide)).trans eg292
      have eg424 := (xg 424 (by decide)).trans eg424
      have hgE := hgE.trans xg (by decide)
      have qL := q95
      rw [b2i_cg (tk_sg (hk.2.1 t2 (by omega) (by omega)).1 (by decide))] at qL
      subst qL
      refine z_if_eqB (tgt := 106) (TX3_plain_1.at 10 rfl) rfl (fun c3 => ?_) (fun c3 => ?_)
      · skip
        refine z_bipush (by decide) (TX3_plain_1.at 13 rfl) ?_
        refine z_ist_3 (TX3_plain_1.at 14 rfl) (Nat.le_of_ble_eq_true rfl) rfl ?_
        refine z_ild_3 (TX3_plain_1.at 15 rfl) ?_
        refine z_bipush (by decide) (TX3_plain_1.at 16 rfl) ?_
        refine z_icmp_ne (tgt := 124) (TX3_plain_1.at 17 rfl) rfl (by omega) (by omega) (fun c4 => absurd c4 (by decide)) (fun c4 => ?_)
        refine z_ald_0 (TX3_plain_1.at 18 rfl) ?_
        refine z_bipush (by decide) (TX3_plain_1.at 19 rfl) ?_
        refine zc_callV1 (m := 9) (c_take eg290 eg291 eg292 ef289 ef293 ef294 (by omega) (by omega) (by omega) (by omega) (by omega) ) (hH.lv (by decide)) (TX3_plain_1.at 20 rfl) c3_60 rfl rfl hH hA (by omega) (Nat.le_of_ble_eq_true rfl) (fun f118 g118 j118 h q118 hH hA => ?_)
        obtain ⟨q118, xf, xg, xj⟩ := q118
        rw [xj] at hH
        have ef293 := (xf 293 (by decide)).trans ef293
        have ef295 := (xf 295 (by decide)).trans ef295
        have ef296 := (xf 296 (by decide)).trans ef296
        have ef417 := (xf 417 (by decide)).trans ef417
        have ef418 := (xf 418 (by decide)).trans ef418
        have hfE := hfE.trans xf (by decide)
        have eg290 := (xg 290 (by decide)).trans eg290
        have eg291 := (xg 291 (by decide)).trans eg291
        have eg292 := (xg 292 (by decide)).trans eg292
        have eg424 := (xg 424 (by decide)).trans eg424
        have hgE := hgE.trans xg (by decide)
        have qL := q118
        have htt := take_tk (s := 61) (i := (t2 : Int)) hk (by omega) (by omega) (by decide) qL
        obtain ⟨fl9, ef289⟩ : ∃ z, f118 289 = z := ⟨_, rfl⟩
        obtain ⟨nx9, ef294⟩ : ∃ z, f118 294 = z := ⟨_, rfl⟩
        rw [ef289, ef294] at htt
        refine z_goto (tgt := 128) (TX3_plain_1.at 21 rfl) rfl ?_
        refine z_ald_0 (TX3_plain_1.at 24 rfl) ?_
        refine zc_getIE (m := 9) (s := 1) (k := 289) (hH.lv (by decide)) ef289 (TX3_plain_1.at 25 rfl) fl3_20 hH rfl rfl (by decide) (by decide) (fun r129 => ?_)
        refine z_iconst (TX3_plain_1.at 26 rfl) ?_
        refine z_icmp_ne (tgt := 150) (TX3_plain_1.at 27 rfl) rfl (by omega) (by omega) (fun c5 => ?_) (fun c5 => ?_)
        · skip
          rcases htt with htt | htt
          · exfalso; omega
          obtain ⟨y1, y2, y3, y4⟩ := htt
          exact v_pl150 (C := C) (Pl := Pl) (w := wi + 1) (R := if c tq = 140 then pPar inner c tq p else pCmp c sumF tq p) (bb := bb) (by omega) hb (by rw [if_neg (show ¬ c tq = 140 by omega)]; exact LvQ.er (e := t2) (by unfold pCmp; rw [hs]; simp only [cmpOp_n (show c t2 ≠ 160 ∧ c t2 ≠ 162 ∧ c t2 ≠ 161 by omega)]) (mkD ef293 (ef294.trans y4) ef295 ef417 ef418 (ef289.trans y2) htk (by omega) (by omega) (by omega) h9 h10 (by omega))) htq htq2 hN htk (by omega) (by first | (rw [if_neg (show ¬ c tq = 140 by omega)]; exact B01R_cmp)) (fun f' g' hX => by rw [pPlain_eq hnt]; exact hX) rfl hfE hgE hH hA
        · skip
          rcases htt with htt | htt
          rotate_left
          · exfalso; omega
          obtain ⟨y1, y2, y3, y4⟩ := htt
          have ef289 := ef289.trans y2
          have ef294 := ef294.trans y3
          refine z_ald_0 (TX3_plain_1.at 28 rfl) ?_
          refine z_ild_1 (TX3_plain_1.at 29 rfl) ?_
          refine zc_callV1 (m := 9) (hsum (t2 + 1) p2 N1 ag1 C1 _ _ _ eg290 eg291 eg292 eg424 ef289 ef293 (ef294.trans (by omega)) ef295 ef296 ef417 ef418 (by omega) h6 (by omega) h9) (hH.lv (by decide)) (TX3_plain_1.at 30 rfl) c3_217 rfl rfl hH hA (by omega) (Nat.le_of_ble_eq_true rfl) (fun f138 g138 j138 h q138 hH hA => ?_)
          obtain ⟨q138, xf, xg, xj⟩ := q138
          rw [xj] at hH
          have ef293 := (xf 293 (by decide)).trans ef293
          have ef296 := (xf 296 (by decide)).trans ef296
          have hfE := hfE.trans xf (by decide)
          have eg290 := (xg 290 (by decide)).trans eg290
          have eg291 := (xg 291 (by decide)).trans eg291
          have eg292 := (xg 292 (by decide)).trans eg292
          have hgE := hgE.trans xg (by decide)
          have qL := q138
          have hq2 := LvQ.mono qL hws
          have hps := hq2.ps htk (by omega)
          have b5 := hps.2.2.2.2.1
          refine z_ald_0 (TX3_plain_1.at 31 rfl) ?_
          refine zc_getO (m := 9) (s := 0) (k := 447) (hH.lv (by decide)) (TX3_plain_1.at 32 rfl) fl3_14 hH rfl rfl (by decide) (by decide) ?_
          refine z_ild_3 (TX3_plain_1.at 33 rfl) ?_
          refine z_iconst (TX3_plain_1.at 34 rfl) ?_
          refine zc_callV2 (m := 13) (c_put rfl rfl (by omega) (by omega) (by omega) (by omega) (by omega) (by omega) (by omega) ) (hH.lv (by decide)) (TX3_plain_1.at 35 rfl) c3_214 rfl rfl hH hA (by omega) (Nat.le_of_ble_eq_true rfl) (fun f147 g147 j147 h q147 hH hA => ?_)
          obtain ⟨q147, xf, xg, xj⟩ := q147
          rw [xj] at hH
          have ef293 := (xf 293 (by decide)).trans ef293
          have ef296 := (xf 296 (by decide)).trans ef296
          have hfE := hfE.trans xf (by decide)
          have eg290 := (xg 290 (by decide)).trans eg290
          have eg291 := (xg 291 (by decide)).trans eg291
          have eg292 := (xg 292 (by decide)).trans eg292
          have hgE := hgE.trans xg (by decide)
          have qL := q147
          have hfin := cmp_step (c := c) (o := 10) hs (cmpOp_y (show (c t2 = 160 ∧ 10 = 8) ∨ (c t2 = 162 ∧ 10 = 9) ∨ (c t2 = 161 ∧ 10 = 10) by omega)) (by decide) (by decide) h7 h8 (by omega) h9 h10 h11 h12 h13 hq2 htk.2 (by omega) xf qL.1 qL.2
          exact v_pl150 (C := C) (Pl := Pl) (w := wi + 1) (R := if c tq = 140 then pPar inner c tq p else pCmp c sumF tq p) (bb := bb) (by omega) hb (by rw [if_neg (show ¬ c tq = 140 by omega)]; exact hfin) htq htq2 hN htk (by omega) (by first | (rw [if_neg (show ¬ c tq = 140 by omega)]; exact B01R_cmp)) (fun f' g' hX => by rw [pPlain_eq hnt]; exact hX) rfl hfE hgE hH hA
      · skip
        refine z_bipush (by decide) (TX3_plain_1.at 11 rfl) ?_
        refine z_goto (tgt := 108) (TX3_plain_1.at 12 rfl) rfl ?_
        refine z_ist_3 (TX3_plain_1.at 14 rfl) (Nat.le_of_ble_eq_true rfl) rfl ?_
        refine z_ild_3 (TX3_plain_1.at 15 rfl) ?_
        refine z_bipush (by decide) (TX3_plain_1.at 16 rfl) ?_
        refine z_icmp_ne (tgt := 124) (TX3_plain_1.at 17 rfl) rfl (by omega) (by omega) (fun c6 => ?_) (fun c6 => absurd c6 (by decide))
        refine z_ald_0 (TX3_plain_1.at 22 rfl) ?_
        refine zc_callV0 (m := 9) (c_goOn ef293 ef294 (by omega) (by omega) (by omega) (by omega) ) (hH.lv (by decide)) (TX3_plain_1.at 23 rfl) c3_179 rfl rfl hH hA (by omega) (Nat.le_of_ble_eq_true rfl) (fun f125 g125 j125 h q125 hH hA => ?_)
        obtain ⟨q125, xf, xg, xj⟩ := q125
        rw [xj] at hH
        have ef289 := (xf 289 (by decide)).trans ef289
        have ef293 := (xf 293 (by decide)).trans ef293
        have ef295 := (xf 295 (by decide)).trans ef295
        have ef296 := (xf 296 (by decide)).trans ef296
        have ef417 := (xf 417 (by decide)).trans ef417
        have ef418 := (xf 418 (by decide)).trans ef418
        have hfE := hfE.trans xf (by decide)
        have eg290 := (xg 290 (by decide)).trans eg290
        have eg291 := (xg 291 (by decide)).trans eg291
        have eg292 := (xg 292 (by decide)).trans eg292
        have eg424 := (xg 424 (by decide)).trans eg424
        have hgE := hgE.trans xg (by decide)
        have qL := q125
        have hgo := hk.go (i := (t2 : Int)) (by omega) (by omega)
        have ef294 := qL.trans hgo.1
        have t3 := hgo.2
        refine z_ald_0 (TX3_plain_1.at 24 rfl) ?_
        refine zc_getIE (m := 9) (s := 1) (k := 289) (hH.lv (by decide)) ef289 (TX3_plain_1.at 25 rfl) fl3_20 hH rfl rfl (by decide) (by decide) (fun r129 => ?_)
        refine z_iconst (TX3_plain_1.at 26 rfl) ?_
        refine z_icmp_ne (tgt := 150) (TX3_plain_1.at 27 rfl) rfl (by omega) (by omega) (fun c7 => absurd c7 (by omega)) (fun c7 => ?_)
        refine z_ald_0 (TX3_plain_1.at 28 rfl) ?_
        refine z_ild_1 (TX3_plain_1.at 29 rfl) ?_
        refine zc_callV1 (m := 9) (hsum (t2 + 1) p2 N1 ag1 C1 _ _ _ eg290 eg291 eg292 eg424 ef289 ef293 (ef294.trans (by omega)) ef295 ef296 ef417 ef418 (by omega) h6 (by omega) h9) (hH.lv (by decide)) (TX3_plain_1.at 30 rfl) c3_217 rfl rfl hH hA (by omega) (Nat.le_of_ble_eq_true rfl) (fun f138 g138 j138 h q138 hH hA => ?_)
        obtain ⟨q138, xf, xg, xj⟩ := q138
        rw [xj] at hH
        have ef293 := (xf 293 (by decide)).trans ef293
        have ef296 := (xf 296 (by decide)).trans ef296
        have hfE := hfE.trans xf (by decide)
        have eg290 := (xg 290 (by decide)).trans eg290
        have eg291 := (xg 291 (by decide)).trans eg291
        have eg292 := (xg 292 (by decide)).trans eg292
        have hgE := hgE.trans xg (by decide)
        have qL := q138
        have hq2 := LvQ.mono qL hws
        have hps := hq2.ps htk (by omega)
        have b5 := hps.2.2.2.2.1
        refine z_ald_0 (TX3_plain_1.at 31 rfl) ?_
        refine zc_getO (m := 9) (s := 0) (k := 447) (hH.lv (by decide)) (TX3_plain_1.at 32 rfl) fl3_14 hH rfl rfl (by decide) (by decide) ?_
        refine z_ild_3 (TX3_plain_1.at 33 rfl) ?_
        refine z_iconst (TX3_plain_1.at 34 rfl) ?_
        refine zc_callV2 (m := 13) (c_put rfl rfl (by omega) (by omega) (by omega) (by omega) (by omega) (by omega) (by omega) ) (hH.lv (by decide)) (TX3_plain_1.at 35 rfl) c3_214 rfl rfl hH hA (by omega) (Nat.le_of_ble_eq_true rfl) (fun f147 g147 j147 h q147 hH hA => ?_)
        obtain ⟨q147, xf, xg, xj⟩ := q147
        rw [xj] at hH
        have ef293 := (xf 293 (by decide)).trans ef293
        have ef296 := (xf 296 (by decide)).trans ef296
        have hfE := hfE.trans xf (by decide)
        have eg290 := (xg 290 (by decide)).trans eg290
        have eg291 := (xg 291 (by decide)).trans eg291
        have eg292 := (xg 292 (by decide)).trans eg292
        have hgE := hgE.trans xg (by decide)
        have qL := q147
        have hfin := cmp_step (c := c) (o := 9) hs (cmpOp_y (show (c t2 = 160 ∧ 9 = 8) ∨ (c t2 = 162 ∧ 9 = 9) ∨ (c t2 = 161 ∧ 9 = 10) by omega)) (by decide) (by decide) h7 h8 (by omega) h9 h10 h11 h12 h13 hq2 htk.2 (by omega) xf qL.1 qL.2
        exact v_pl150 (C := C) (Pl := Pl) (w := wi + 1) (R := if c tq = 140 then pPar inner c tq p else pCmp c sumF tq p) (bb := bb) (by omega) hb (by rw [if_neg (show ¬ c tq = 140 by omega)]; exact hfin) htq htq2 hN htk (by omega) (by first | (rw [if_neg (show ¬ c tq = 140 by omega)]; exact B01R_cmp)) (fun f' g' hX => by rw [pPlain_eq hnt]; exact hX) rfl hfE hgE hH hA
    · skip
      refine z_bipush (by decide) (TX3_plain_1.at 5 rfl) ?_
      refine z_goto (tgt := 108) (TX3_plain_1.at 6 rfl) rfl ?_
      refine z_ist_3 (TX3_plain_1.at 14 rfl) (Nat.le_of_ble_eq_true rfl) rfl ?_
      refine z_ild_3 (TX3_plain_1.at 15 rfl) ?_
      refine z_bipush (by decide) (TX3_plain_1.at 16 rfl) ?_
      refine z_icmp_ne (tgt := 124) (TX3_plain_1.at 17 rfl) rfl (by omega) (by omega) (fun c8 => ?_) (fun c8 => absurd c8 (by decide))
      refine z_ald_0 (TX3_plain_1.at 22 rfl) ?_
      refine zc_callV0 (m := 9) (c_goOn ef293 ef294 (by omega) (by omega) (by omega) (by omega) ) (hH.lv (by decide)) (TX3_plain_1.at 23 rfl) c3_179 rfl rfl hH hA (by omega) (Nat.le_of_ble_eq_true rfl) (fun f125 g125 j125 h q125 hH hA => ?_)
      obtain ⟨q125, xf, xg, xj⟩ := q125
      rw [xj] at hH
      have ef289 := (xf 289 (by decide)).trans ef289
      have ef293 := (xf 293 (by decide)).trans ef293
      have ef295 := (xf 295 (by decide)).trans ef295
      have ef296 := (xf 296 (by decide)).trans ef296
      have ef417 := (xf 417 (by decide)).trans ef417
      have ef418 := (xf 418 (by decide)).trans ef418
      have hfE := hfE.trans xf (by decide)
      have eg290 := (xg 290 (by decide)).trans eg290
      have eg291 := (xg 291 (by decide)).trans eg291
      have eg292 := (xg 292 (by decide)).trans eg292
      have eg424 := (xg 424 (by decide)).trans eg424
      have hgE := hgE.trans xg (by decide)
      have qL := q125
      have hgo := hk.go (i := (t2 : Int)) (by omega) (by omega)
      have ef294 := qL.trans hgo.1
      have t3 := hgo.2
      refine z_ald_0 (TX3_plain_1.at 24 rfl) ?_
      refine zc_getIE (m := 9) (s := 1) (k := 289) (hH.lv (by decide)) ef289 (TX3_plain_1.at 25 rfl) fl3_20 hH rfl rfl (by decide) (by decide) (fun r129 => ?_)
      refine z_iconst (TX3_plain_1.at 26 rfl) ?_
      refine z_icmp_ne (tgt := 150) (TX3_plain_1.at 27 rfl) rfl (by omega) (by omega) (fun c9 => absurd c9 (by omega)) (fun c9 => ?_)
      refine z_ald_0 (TX3_plain_1.at 28 rfl) ?_
      refine z_ild_1 (TX3_plain_1.at 29 rfl) ?_
      refine zc_callV1 (m := 9) (hsum (t2 + 1) p2 N1 ag1 C1 _ _ _ eg290 eg291 eg292 eg424 ef289 ef293 (ef294.trans (by omega)) ef295 ef296 ef417 ef418 (by omega) h6 (by omega) h9) (hH.lv (by decide)) (TX3_plain_1.at 30 rfl) c3_217 rfl rfl hH hA (by omega) (Nat.le_of_ble_eq_true rfl) (fun f138 g138 j138 h q138 hH hA => ?_)
      obtain ⟨q138, xf, xg, xj⟩ := q138
      rw [xj] at hH
      have ef293 := (xf 293 (by decide)).trans ef293
      have ef296 := (xf 296 (by decide)).trans ef296
      have hfE := hfE.trans xf (by decide)
      have eg290 := (xg 290 (by decide)).trans eg290
      have eg291 := (xg 291 (by decide)).trans eg291
      have eg292 := (xg 292 (by decide)).trans eg292
      have hgE := hgE.trans xg (by decide)
      have qL := q138
      have hq2 := LvQ.mono qL hws
      have hps := hq2.ps htk (by omega)
      have b5 := hps.2.2.2.2.1
      refine z_ald_0 (TX3_plain_1.at 31 rfl) ?_
      refine zc_getO (m := 9) (s := 0) (k := 447) (hH.lv (by decide)) (TX3_plain_1.at 32 rfl) fl3_14 hH rfl rfl (by decide) (by decide) ?_
      refine z_ild_3 (TX3_plain_1.at 33 rfl) ?_
      refine z_iconst (TX3_plain_1.at 34 rfl) ?_
      refine zc_callV2 (m := 13) (c_put rfl rfl (by omega) (by omega) (by omega) (by omega) (by omega) (by omega) (by omega) ) (hH.lv (by decide)) (TX3_plain_1.at 35 rfl) c3_214 rfl rfl hH hA (by omega) (Nat.le_of_ble_eq_true rfl) (fun f147 g147 j147 h q147 hH hA => ?_)
      obtain ⟨q147, xf, xg, xj⟩ := q147
      rw [xj] at hH
      have ef293 := (xf 293 (by decide)).trans ef293
      have ef296 := (xf 296 (by decide)).trans ef296
      have hfE := hfE.trans xf (by decide)
      have eg290 := (xg 290 (by decide)).trans eg290
      have eg291 := (xg 291 (by decide)).trans eg291
      have eg292 := (xg 292 (by decide)).trans eg292
      have hgE := hgE.trans xg (by decide)
      have qL := q147
      have hfin := cmp_step (c := c) (o := 8) hs (cmpOp_y (show (c t2 = 160 ∧ 8 = 8) ∨ (c t2 = 162 ∧ 8 = 9) ∨ (c t2 = 161 ∧ 8 = 10) by omega)) (by decide) (by decide) h7 h8 (by omega) h9 h10 h11 h12 h13 hq2 htk.2 (by omega) xf qL.1 qL.2
      exact v_pl150 (C := C) (Pl := Pl) (w := wi + 1) (R := if c tq = 140 then pPar inner c tq p else pCmp c sumF tq p) (bb := bb) (by omega) hb (by rw [if_neg (show ¬ c tq = 140 by omega)]; exact hfin) htq htq2 hN htk (by omega) (by first | (rw [if_neg (show ¬ c tq = 140 by omega)]; exact B01R_cmp)) (fun f' g' hX => by rw [pPlain_eq hnt]; exact hX) rfl hfE hgE hH hA
  · skip
    refine z_ald_0 (TX3_plain_0.at 25 rfl) ?_
    refine z_ild_1 (TX3_plain_0.at 26 rfl) ?_
    refine zc_callI1 (m := 9) (c_opened eg292 ef289 ef293 ef294 (by omega) (by omega) (by omega) (by omega) (by omega) ) (hH.lv (by decide)) (TX3_plain_0.at 27 rfl) c3_229 rfl rfl hH hA (by omega) (Nat.le_of_ble_eq_true rfl) (fun x51 f51 g51 j51 h r51 q51 hH hA => ?_)
    obtain ⟨q51, xf, xg, xj⟩ := q51
    rw [xj] at hH
    have ef293 := (xf 293 (by decide)).trans ef293
    have ef295 := (xf 295 (by decide)).trans ef295
    have ef296 := (xf 296 (by decide)).trans ef296
    have ef417 := (xf 417 (by decide)).trans ef417
    have ef418 := (xf 418 (by decide)).trans ef418
    have hfE := hfE.trans xf (by decide)
    have eg290 := (xg 290 (by decide)).trans eg290
    have eg291 := (xg 291 (by decide)).trans eg291
    have eg292 := (xg 292 (by decide)).trans eg292
    have eg424 := (xg 424 (by decide)).trans eg424
    have hgE := hgE.trans xg (by decide)
    have qL := q51
    obtain ⟨fl9, ef289⟩ : ∃ z, f51 289 = z := ⟨_, rfl⟩
    obtain ⟨nx9, ef294⟩ : ∃ z, f51 294 = z := ⟨_, rfl⟩
    rw [ef289, ef294] at qL
    obtain ⟨qe, o1, o2⟩ := qL
    subst qe
    refine z_if_eqB (tgt := 150) (TX3_plain_0.at 28 rfl) rfl (fun c10 => ?_) (fun c10 => ?_)
    · skip
      rw [if_neg (show ¬ dp < 8 by omega)] at o1 o2
      rcases hin with ⟨he0, hinn⟩ | ⟨e2, gg, he2, -, -, -⟩
      rotate_left
      · exfalso; omega
      exact v_pl150 (C := C) (Pl := Pl) (w := wi + 1) (R := if c tq = 140 then pPar inner c tq p else pCmp c sumF tq p) (bb := bb) (by omega) hb (by rw [if_pos (show c tq = 140 by omega)]; exact LvQ.er (e := tq) (by rw [hinn]; rfl) (mkD ef293 (ef294.trans o2) ef295 ef417 ef418 (ef289.trans (o1.trans (if_pos rfl))) htk (by omega) (by omega) (by omega) ha id (by omega))) htq htq2 hN htk (by omega) (by rw [if_pos (show c tq = 140 by omega), hinn]; intro t' p' k hh; exact absurd hh (by simp [pPar])) (fun f' g' hX => by rw [pPlain_eq hnt]; exact hX) rfl hfE hgE hH hA
    · skip
      rw [if_pos (show dp < 8 by omega)] at o1 o2
      rcases hin with hin | ⟨e2, gg, he2, hinn, hBg, hte⟩
      · exfalso; omega
      obtain rfl := he2
      have hgo := hk.go (i := (tq : Int)) (by omega) (by omega)
      rw [hgo.1] at o2
      have t3 := hgo.2
      refine z_ald_0 (TX3_plain_0.at 29 rfl) ?_
      refine z_ild_1 (TX3_plain_0.at 30 rfl) ?_
      refine z_iconst (TX3_plain_0.at 31 rfl) ?_
      refine z_iadd (TX3_plain_0.at 32 rfl) ?_
      rw [show dp + 1 = 8 - (e2 : Int) by omega]
      refine zc_callV1 (m := 9) (hte (tq + 1) p N ag C _ _ _ eg290 eg291 eg292 eg424 (ef289.trans o1) ef293 (ef294.trans (by omega)) ef295 ef296 ef417 ef418 (by omega) p1 (by omega) ha) (hH.lv (by decide)) (TX3_plain_0.at 33 rfl) c3_212 rfl rfl hH hA (by omega) (Nat.le_of_ble_eq_true rfl) (fun f61 g61 j61 h q61 hH hA => ?_)
      obtain ⟨q61, xf, xg, xj⟩ := q61
      rw [xj] at hH
      have ef293 := (xf 293 (by decide)).trans ef293
      have ef296 := (xf 296 (by decide)).trans ef296
      have hfE := hfE.trans xf (by decide)
      have eg290 := (xg 290 (by decide)).trans eg290
      have eg291 := (xg 291 (by decide)).trans eg291
      have eg292 := (xg 292 (by decide)).trans eg292
      have hgE := hgE.trans xg (by decide)
      have qL := q61
      have hq := qL
      have hps := hq.ps htk (by omega)
      have b2 := hps.2.2.1
      refine z_ald_0 (TX3_plain_0.at 34 rfl) ?_
      refine z_bipush (by decide) (TX3_plain_0.at 35 rfl) ?_
      refine zc_callV1 (m := 9) (c_take eg290 eg291 eg292 rfl rfl rfl (by omega) (by omega) (by omega) (by omega) (by omega) ) (hH.lv (by decide)) (TX3_plain_0.at 36 rfl) c3_60 rfl rfl hH hA (by omega) (Nat.le_of_ble_eq_true rfl) (fun f67 g67 j67 h q67 hH hA => ?_)
      obtain ⟨q67, xf, xg, xj⟩ := q67
      rw [xj] at hH
      have ef293 := (xf 293 (by decide)).trans ef293
      have ef296 := (xf 296 (by decide)).trans ef296
      have hfE := hfE.trans xf (by decide)
      have eg290 := (xg 290 (by decide)).trans eg290
      have eg291 := (xg 291 (by decide)).trans eg291
      have eg292 := (xg 292 (by decide)).trans eg292
      have hgE := hgE.trans xg (by decide)
      have qL := q67
      have hfin := LvQ_take hk hq (by omega) (show (0 : Int) ≤ 41 by decide) xf xg qL.1 qL.2
      refine z_goto (tgt := 150) (TX3_plain_0.at 37 rfl) rfl ?_
      exact v_pl150 (C := C) (Pl := Pl) (w := wi + 1) (R := if c tq = 140 then pPar inner c tq p else pCmp c sumF tq p) (bb := bb) (by omega) hb (by rw [if_pos (show c tq = 140 by omega), hinn]; exact hfin) htq htq2 hN htk (by omega) (by rw [if_pos (show c tq = 140 by omega), hinn]; exact B01R_br (hBg _ _)) (fun f' g' hX => by rw [pPlain_eq hnt]; exact hX) rfl hfE hgE hH hA

