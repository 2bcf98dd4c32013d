/-! ===== the class: a law is laid down ===== -/
theorem va_up_crf {E : cE} {X : Int → Int} {i : Int} {x : Nat} (hi : 0 ≤ i) : va_up (fun i : Nat => crf E (X i)) i.toNat (some (E.1 (32 * x + 31))) = fun t : Nat => crf E (iu X i x t) := by
  funext t
  unfold va_up
  by_cases e : t = i.toNat
  · rw [if_pos e, show ((t : Nat) : Int) = i by omega, iu_self]
    unfold crf
    rw [if_neg (by omega)]
    rfl
  · rw [if_neg e, iu_ne (by omega)]
theorem zk_aast {l : Launch} {M : zM} {d mc ms kc ks : Nat} {Pz : Option Value → zH → Prop} {pc pc' : Nat} {L : List (Option Value)} {S : List Value} {h : zH} {E : cE} {f : mF} {g j : mA} {k x : Nat} {i : Int} {r : vw_C} (hH : HC E f g j h) (hk : E.2.1 (k / 32) = true) (hx : E.2.1 x = true) (hd : zAt M 1 pc pc' .aastore) (ht : 2 ≤ cTag k) (ht2 : cTag k < 6) (hr : vwCl[cCls x]? = some r) (hC : zTy (cTag k) = .object r.1) (hi0 : 0 ≤ i) (hi1 : i < E.2.2 k) (hx2 : x < 2147483648) (K : ∀ (h' : zH) (g1 : mA), (∀ q, q ≠ k → g1 q = g q) → g1 k = iu (g k) i x → HC E f g1 j h' → (∀ y, y ≠ E.1 k → h' y = h y) → Z l M d mc ms Pz pc' L S h' kc ks) : Z l M d mc ms Pz pc L (.ref (E.1 (32 * x + 31)) :: vI i :: .ref (E.1 k) :: S) h kc ks := by
  have hc := hH.2.1 k hk ht2
  unfold cCell at hc
  rw [if_neg (by omega), if_neg (by omega)] at hc
  have q := hH.putC (h0 := h) (g' := va_up g k (iu (g k) i x)) (j' := j) (k := k) cAg.refl hk ht2 (fun q e => va_up_ne _ _ e) (fun _ _ => rfl) (by rw [va_up_self]; exact iu_in (hH.2.2.2.2.2.2.2.1 k) ⟨by omega, by omega⟩) (hH.2.2.2.2.2.2.2.2 k)
  refine z_aast hd hc (hH.1 x hx) hr ht2 hC hi0 hi1 (hH.2.2.2.2.2.1 k) ?_
  rw [va_up_crf hi0]
  unfold cCell at q
  rw [if_neg (by omega), if_neg (by omega), va_up_self] at q
  exact K _ _ (fun _ e => va_up_ne _ _ e) (va_up_self _ _ _) q.1 (fun y hy => if_neg hy)
def LwT (U : Int → Int) (z fl cc N ag : Int) (Vb Tm On Ot Te C : Int → Int) : Prop := match txtS true U z with | .error e => fl = pT U z e ∧ 0 ≤ fl | .ok cl => fl = -1 ∧ cc = (cl.length : Int) ∧ (0 ≤ N ∧ N ≤ 400) ∧ in01 ag ∧ RdR true Vb Tm On Ot Te C N ag cl
set_option maxHeartbeats 4000000 in
set_option maxRecDepth 100000 in
theorem sg_law {l : Launch} {E : cE} {d mc ms kc ks : Nat} {Pz : Option Value → zH → Prop} {h0 h : zH} {f0 f : mF} {g0 g j : mA} {U Rf Lr : Int → Int} {n z x14 st y1 y2 y3 y4 y5 y6 y7 : Int} {X419 X420 X421 X422 X423 X424 : Int → Int} (hd : 45 ≤ d) (n0 : 0 ≤ n) (n6 : n ≤ 6) (z0 : 0 ≤ z) (z4 : z ≤ 400) (hU : ∀ i : Int, 0 ≤ i → i < 400 → 0 ≤ U i ∧ U i ≤ 255) (hb : ∀ i, Rf i ≤ 100000) (k26 : ∀ (r : Int) (f' : mF) (g' : mA) (h' : zH), zIn r → ((n = 6 ∧ r = -5 ∧ f' 14 = x14) ∨ (n < 6 ∧ ∃ e, txtS true U z = .error e ∧ r = -6 ∧ f' 14 = pT U z e)) → f' 16 = r → f' 256 = 0 → g' 11 = bumC Rf r → eqx [14, 16, 256, 289, 293, 294, 295, 296, 416, 417, 418] f0 f' → eqx [11, 290, 291, 292, 419, 420, 421, 422, 423, 424] g0 g' → HC E f' g' j h' → cAg E h0 h' → Pz (some (vI r)) h') (k94 : ∀ (fl cc N ag : Int) (Vb Tm On Ot Te C : Int → Int) (f' : mF) (g' : mA) (h' : zH), n < 6 → fl = -1 → LwT U z fl cc N ag Vb Tm On Ot Te C → f' 14 = fl → f' 16 = st → f' 45 = n → f' 256 = 0 → f' 416 = cc → f' 417 = N → f' 418 = ag → g' 46 = Lr → g' 11 = Rf → g' 419 = Vb → g' 420 = Tm → g' 421 = On → g' 422 = Ot → g' 423 = Te → g' 424 = C → eqx [14, 16, 256, 289, 293, 294, 295, 296, 416, 417, 418] f0 f' → eqx [11, 290, 291, 292, 419, 420, 421, 422, 423, 424] g0 g' → HC E f' g' j h' → cAg E h0 h' → Z l MX7_law d mc ms Pz 94 [some (.ref (E.1 31))] [.ref (E.1 447), vI n, .ref (E.1 46)] h' kc ks) (eg257 : g 257 = U) (eg11 : g 11 = Rf) (eg46 : g 46 = Lr) (eg419 : g 419 = X419) (eg420 : g 420 = X420) (eg421 : g 421 = X421) (eg422 : g 422 = X422) (eg423 : g 423 = X423) (eg424 : g 424 = X424) (ef45 : f 45 = n) (ef256 : f 256 = z) (ef14 : f 14 = x14) (ef16 : f 16 = st) (ef289 : f 289 = y1) (ef294 : f 294 = y2) (ef295 : f 295 = y3) (ef296 : f 296 = y4) (ef416 : f 416 = y5) (ef417 : f 417 = y6) (ef418 : f 418 = y7) (hfE : eqx [14, 16, 256, 289, 293, 294, 295, 296, 416, 417, 418] f0 f) (hgE : eqx [11, 290, 291, 292, 419, 420, 421, 422, 423, 424] g0 g) (hH : HC E f g j h) (hA : cAg E h0 h) : Z l MX7_law d mc ms Pz 0 [some (.ref (E.1 31))] [] h kc ks := by
  refine z_ald_0 (TX7_law_0.at 0 rfl) ?_
  refine zk_getO (m := 0) (s := 0) (k := 63) (hH.lv (by decide)) (TX7_law_0.at 1 rfl) fl7_12 hH rfl rfl (by decide) (by decide) ?_
  refine zk_getIE (m := 1) (s := 13) (k := 45) (hH.lv (by decide)) ef45 (TX7_law_0.at 2 rfl) fl7_193 hH rfl rfl (by decide) (by decide) (fun r4 => ?_)
  refine z_bipush (by decide) (TX7_law_0.at 3 rfl) ?_
  refine z_icmp_lt (tgt := 27) (TX7_law_0.at 4 rfl) rfl (by omega) (by omega) (fun c1 => ?_) (fun c1 => ?_)
  · skip
    refine z_ald_0 (TX7_law_0.at 13 rfl) ?_
    refine zk_getO (m := 0) (s := 7) (k := 319) (hH.lv (by decide)) (TX7_law_0.at 14 rfl) fl7_46 hH rfl rfl (by decide) (by decide) ?_
    refine z_ald_0 (TX7_law_0.at 15 rfl) ?_
    refine zk_getO (m := 0) (s := 6) (k := 287) (hH.lv (by decide)) (TX7_law_0.at 16 rfl) fl7_39 hH rfl rfl (by decide) (by decide) ?_
    refine z_iconst (TX7_law_0.at 17 rfl) ?_
    refine zk_callV2 (m := 9) (c_read_true eg257 ef256 ef289 ef294 ef295 ef296 ef416 ef417 ef418 z0 z4 hU) (hH.lv (by decide)) (TX7_law_0.at 18 rfl) c7_196 rfl rfl hH hA (by omega) (Nat.le_of_ble_eq_true rfl) (fun f36 g36 j36 h q36 hH hA => ?_)
    obtain ⟨q36, xf, xg, xj⟩ := q36
    rw [xj] at hH
    have ef45 := (xf 45 (by decide)).trans ef45
    have ef256 := (xf 256 (by decide)).trans ef256
    have ef14 := (xf 14 (by decide)).trans ef14
    have ef16 := (xf 16 (by decide)).trans ef16
    have hfE := hfE.trans xf (by decide)
    have eg257 := (xg 257 (by decide)).trans eg257
    have eg11 := (xg 11 (by decide)).trans eg11
    have eg46 := (xg 46 (by decide)).trans eg46
    have hgE := hgE.trans xg (by decide)
    have qL := q36
    have hrd := qL
    obtain ⟨fl, ef289⟩ : ∃ z, f36 289 = z := ⟨_, rfl⟩
    obtain ⟨w2, ef294⟩ : ∃ z, f36 294 = z := ⟨_, rfl⟩
    obtain ⟨w3, ef295⟩ : ∃ z, f36 295 = z := ⟨_, rfl⟩
    obtain ⟨w4, ef296⟩ : ∃ z, f36 296 = z := ⟨_, rfl⟩
    obtain ⟨cc, ef416⟩ : ∃ z, f36 416 = z := ⟨_, rfl⟩
    obtain ⟨N, ef417⟩ : ∃ z, f36 417 = z := ⟨_, rfl⟩
    obtain ⟨ag, ef418⟩ : ∃ z, f36 418 = z := ⟨_, rfl⟩
    obtain ⟨Vb, eg419⟩ : ∃ z, g36 419 = z := ⟨_, rfl⟩
    obtain ⟨Tm, eg420⟩ : ∃ z, g36 420 = z := ⟨_, rfl⟩
    obtain ⟨On, eg421⟩ : ∃ z, g36 421 = z := ⟨_, rfl⟩
    obtain ⟨Ot, eg422⟩ : ∃ z, g36 422 = z := ⟨_, rfl⟩
    obtain ⟨Te, eg423⟩ : ∃ z, g36 423 = z := ⟨_, rfl⟩
    obtain ⟨C, eg424⟩ : ∃ z, g36 424 = z := ⟨_, rfl⟩
    rw [ef289, ef416, ef417, ef418, eg419, eg420, eg421, eg422, eg423, eg424] at hrd
    replace hrd : LwT U z fl cc N ag Vb Tm On Ot Te C := hrd
    refine z_ald_0 (TX7_law_0.at 19 rfl) ?_
    refine z_ald_0 (TX7_law_0.at 20 rfl) ?_
    refine zk_getO (m := 0) (s := 7) (k := 319) (hH.lv (by decide)) (TX7_law_0.at 21 rfl) fl7_46 hH rfl rfl (by decide) (by decide) ?_
    refine zk_getIE (m := 9) (s := 1) (k := 289) (hH.lv (by decide)) ef289 (TX7_law_0.at 22 rfl) fl7_200 hH rfl rfl (by decide) (by decide) (fun r44 => ?_)
    refine zk_putI (m := 0) (s := 14) (k := 14) (hH.lv (by decide)) (TX7_law_0.at 23 rfl) fp7_79 hH hA rfl rfl (by decide) (by decide) (by first | omega | exact b2i_01 _) (fun h f47 e1 e2 hH hA => ?_)
    have ef45 := (e1 45 (by decide)).trans ef45
    have ef256 := (e1 256 (by decide)).trans ef256
    have ef14 := e2
    have ef16 := (e1 16 (by decide)).trans ef16
    have ef289 := (e1 289 (by decide)).trans ef289
    have ef294 := (e1 294 (by decide)).trans ef294
    have ef295 := (e1 295 (by decide)).trans ef295
    have ef296 := (e1 296 (by decide)).trans ef296
    have ef416 := (e1 416 (by decide)).trans ef416
    have ef417 := (e1 417 (by decide)).trans ef417
    have ef418 := (e1 418 (by decide)).trans ef418
    have hfE := hfE.put e1 (by decide)
    refine z_ald_0 (TX7_law_0.at 24 rfl) ?_
    refine zk_getO (m := 0) (s := 6) (k := 287) (hH.lv (by decide)) (TX7_law_0.at 25 rfl) fl7_39 hH rfl rfl (by decide) (by decide) ?_
    refine z_iconst (TX7_law_0.at 26 rfl) ?_
    refine zk_putI (m := 8) (s := 0) (k := 256) (hH.lv (by decide)) (TX7_law_0.at 27 rfl) fp7_181 hH hA rfl rfl (by decide) (by decide) (by first | omega | exact b2i_01 _) (fun h f55 e1 e2 hH hA => ?_)
    have ef45 := (e1 45 (by decide)).trans ef45
    have ef256 := e2
    have ef14 := (e1 14 (by decide)).trans ef14
    have ef16 := (e1 16 (by decide)).trans ef16
    have ef289 := (e1 289 (by decide)).trans ef289
    have ef294 := (e1 294 (by decide)).trans ef294
    have ef295 := (e1 295 (by decide)).trans ef295
    have ef296 := (e1 296 (by decide)).trans ef296
    have ef416 := (e1 416 (by decide)).trans ef416
    have ef417 := (e1 417 (by decide)).trans ef417
    have ef418 := (e1 418 (by decide)).trans ef418
    have hfE := hfE.put e1 (by decide)
    refine z_ald_0 (TX7_law_0.at 28 rfl) ?_
    refine zk_getIE (m := 0) (s := 14) (k := 14) (hH.lv (by decide)) ef14 (TX7_law_0.at 29 rfl) fl7_79 hH rfl rfl (by decide) (by decide) (fun r59 => ?_)
    refine z_iconst (TX7_law_0.at 30 rfl) ?_
    refine z_icmp_eq (tgt := 73) (TX7_law_0.at 31 rfl) rfl (by omega) (by omega) (fun c2 => ?_) (fun c2 => ?_)
    · skip
      refine z_ald_0 (TX7_law_0.at 36 rfl) ?_
      refine zk_getO (m := 0) (s := 0) (k := 63) (hH.lv (by decide)) (TX7_law_0.at 37 rfl) fl7_12 hH rfl rfl (by decide) (by decide) ?_
      refine zk_getA (m := 1) (s := 14) (k := 46) (hH.lv (by decide)) (TX7_law_0.at 38 rfl) fl7_201 hH rfl rfl (by decide) (by decide) ?_
      refine z_ald_0 (TX7_law_0.at 39 rfl) ?_
      refine zk_getO (m := 0) (s := 0) (k := 63) (hH.lv (by decide)) (TX7_law_1.at 0 rfl) fl7_12 hH rfl rfl (by decide) (by decide) ?_
      refine zk_getIE (m := 1) (s := 13) (k := 45) (hH.lv (by decide)) ef45 (TX7_law_1.at 1 rfl) fl7_193 hH rfl rfl (by decide) (by decide) (fun r84 => ?_)
      refine z_ald_0 (TX7_law_1.at 2 rfl) ?_
      refine zk_getO (m := 0) (s := 7) (k := 319) (hH.lv (by decide)) (TX7_law_1.at 3 rfl) fl7_46 hH rfl rfl (by decide) (by decide) ?_
      refine zk_getO (m := 9) (s := 0) (k := 447) (hH.lv (by decide)) (TX7_law_1.at 4 rfl) fl7_205 hH rfl rfl (by decide) (by decide) ?_
      exact k94 fl cc N ag Vb Tm On Ot Te C _ _ _ (by omega) (by omega) hrd ef14 ef16 ef45 ef256 ef416 ef417 ef418 eg46 eg11 eg419 eg420 eg421 eg422 eg423 eg424 hfE hgE hH hA
    · skip
      rcases hx : txtS true U z with e | cl
      rotate_left
      · exfalso; unfold LwT at hrd; rw [hx] at hrd; have := hrd.1; omega
      unfold LwT at hrd
      rw [hx] at hrd
      have hfl := hrd.1
      refine z_ald_0 (TX7_law_0.at 32 rfl) ?_
      refine z_bipush (by decide) (TX7_law_0.at 33 rfl) ?_
      refine zk_callI1 (m := 0) (c_refused eg11 ef16 (by decide) (by decide) (by decide) hb) (hH.lv (by decide)) (TX7_law_0.at 34 rfl) c7_92 rfl rfl hH hA (by omega) (Nat.le_of_ble_eq_true rfl) (fun x69 f69 g69 j69 h r69 q69 hH hA => ?_)
      obtain ⟨q69, xf, xg, xj⟩ := q69
      rw [xj] at hH
      have ef45 := (xf 45 (by decide)).trans ef45
      have ef256 := (xf 256 (by decide)).trans ef256
      have ef14 := (xf 14 (by decide)).trans ef14
      have ef289 := (xf 289 (by decide)).trans ef289
      have ef294 := (xf 294 (by decide)).trans ef294
      have ef295 := (xf 295 (by decide)).trans ef295
      have ef296 := (xf 296 (by decide)).trans ef296
      have ef416 := (xf 416 (by decide)).trans ef416
      have ef417 := (xf 417 (by decide)).trans ef417
      have ef418 := (xf 418 (by decide)).trans ef418
      have hfE := hfE.trans xf (by decide)
      have eg257 := (xg 257 (by decide)).trans eg257
      have eg46 := (xg 46 (by decide)).trans eg46
      have eg419 := (xg 419 (by decide)).trans eg419
      have eg420 := (xg 420 (by decide)).trans eg420
      have eg421 := (xg 421 (by decide)).trans eg421
      have eg422 := (xg 422 (by decide)).trans eg422
      have eg423 := (xg 423 (by decide)).trans eg423
      have eg424 := (xg 424 (by decide)).trans eg424
      have hgE := hgE.trans xg (by decide)
      have qL := q69
      obtain ⟨r5, ef16, eg11⟩ := qL
      rw [← r5] at ef16 eg11
      exact z_iret (TX7_law_0.at 35 rfl) rfl (k26 _ _ _ _ (by omega) (Or.inr ⟨by omega, e, hx, r5, ef14.trans hfl⟩) ef16 ef256 eg11 hfE hgE hH hA)
  · skip
    refine z_ald_0 (TX7_law_0.at 5 rfl) ?_
    refine zk_getO (m := 0) (s := 6) (k := 287) (hH.lv (by decide)) (TX7_law_0.at 6 rfl) fl7_39 hH rfl rfl (by decide) (by decide) ?_
    refine z_iconst (TX7_law_0.at 7 rfl) ?_
    refine zk_putI (m := 8) (s := 0) (k := 256) (hH.lv (by decide)) (TX7_law_0.at 8 rfl) fp7_181 hH hA rfl rfl (by decide) (by decide) (by first | omega | exact b2i_01 _) (fun h f17 e1 e2 hH hA => ?_)
    have ef45 := (e1 45 (by decide)).trans ef45
    have ef256 := e2
    have ef14 := (e1 14 (by decide)).trans ef14
    have ef16 := (e1 16 (by decide)).trans ef16
    have ef289 := (e1 289 (by decide)).trans ef289
    have ef294 := (e1 294 (by decide)).trans ef294
    have ef295 := (e1 295 (by decide)).trans ef295
    have ef296 := (e1 296 (by decide)).trans ef296
    have ef416 := (e1 416 (by decide)).trans ef416
    have ef417 := (e1 417 (by decide)).trans ef417
    have ef418 := (e1 418 (by decide)).trans ef418
    have hfE := hfE.put e1 (by decide)
    refine z_ald_0 (TX7_law_0.at 9 rfl) ?_
    refine z_bipush (by decide) (TX7_law_0.at 10 rfl) ?_
    refine zk_callI1 (m := 0) (c_refused eg11 ef16 (by decide) (by decide) (by decide) hb) (hH.lv (by decide)) (TX7_law_0.at 11 rfl) c7_92 rfl rfl hH hA (by omega) (Nat.le_of_ble_eq_true rfl) (fun x23 f23 g23 j23 h r23 q23 hH hA => ?_)
    obtain ⟨q23, xf, xg, xj⟩ := q23
    rw [xj] at hH
    have ef45 := (xf 45 (by decide)).trans ef45
    have ef256 := (xf 256 (by decide)).trans ef256
    have ef14 := (xf 14 (by decide)).trans ef14
    have ef289 := (xf 289 (by decide)).trans ef289
    have ef294 := (xf 294 (by decide)).trans ef294
    have ef295 := (xf 295 (by decide)).trans ef295
    have ef296 := (xf 296 (by decide)).trans ef296
    have ef416 := (xf 416 (by decide)).trans ef416
    have ef417 := (xf 417 (by decide)).trans ef417
    have ef418 := (xf 418 (by decide)).trans ef418
    have hfE := hfE.trans xf (by decide)
    have eg257 := (xg 257 (by decide)).trans eg257
    have eg46 := (xg 46 (by decide)).trans eg46
    have eg419 := (xg 419 (by decide)).trans eg419
    have eg420 := (xg 420 (by decide)).trans eg420
    have eg421 := (xg 421 (by decide)).trans eg421
    have eg422 := (xg 422 (by decide)).trans eg422
    have eg423 := (xg 423 (by decide)).trans eg423
    have eg424 := (xg 424 (by decide)).trans eg424
    have hgE := hgE.trans xg (by decide)
    have qL := q23
    obtain ⟨r5, ef16, eg11⟩ := qL
    rw [← r5] at ef16 eg11
    exact z_iret (TX7_law_0.at 12 rfl) rfl (k26 _ _ _ _ (by omega) (Or.inl ⟨by omega, r5, ef14⟩) ef16 ef256 eg11 hfE hgE hH hA)

