/-! ===== the class: ran ===== -/
set_option maxHeartbeats 4000000 in
set_option maxRecDepth 100000 in
theorem lp_ran {l : Launch} {E : cE} {d : Nat} {h0 : zH} {f0 : mF} {g0 : mA} {j : mA} (hd : 7 ≤ d) {K0 : Int → Int} {cl : List Cla} {k : Cla} {w0 : OS} {B0 N ag ci x7 x8 x9 x0 : Int} {Vb Tms On Ot Te C Fr To Kd Lt Sk Ss Lw : Int → Int} (hz : CLz Vb Tms On Ot Te C N ci k) (hg : ClG false k) (hng : ag = 0 → NgC k) (hv : vbR false k.1) (hag : in01 ag) (N4 : N ≤ 400) (ci0 : 0 ≤ ci) (ci1 : ci < 12) (hT : 1 ≤ k.2.2.2.1 ∧ k.2.2.2.1 ≤ 20) (B1 : 0 ≤ B0) (B2 : B0 ≤ 900) (hL0 : LwN E f0 g0 (if 0 ≤ K0 80 ∧ K0 80 < K0 79 then Lw (K0 80) else -1) cl) : ∀ (n : Nat) (i : Int) (K : Int → Int) (X : Int → Int) (u : Int) (dn : Int) (l9 : Int) (Ln : Int → Int) (Mt : Int → Int) (Tm : Int → Int) (D : Int → Int) (O1 : Int → Int) (O2 : Int → Int) (Φ : Int → Int) (dp : Int) (o5 : Option Value) (o6 : Option Value) (f : mF) (g : mA) (h : zH) (i0 : 0 ≤ i) (i1 : i ≤ k.2.2.2.1) (i2 : k.2.2.2.1 < i + n) (hO : OSok K0 (B0 + i) (K, X, u, dn, l9)) (hF : FrV K (K0 76) x7 x8 x9 x0 Fr To Ln Kd dp Mt Lt Sk Ss Tm) (hG : LogK D O1 O2 u X K) (hC : FcT Φ ag dn l9 (gone K cl)) (eT : ordT cl k k.2.2.2.1.toNat w0 = ordT cl k (k.2.2.2.1 - i).toNat (K, X, u, dn, l9)) (eg419 : g 419 = Vb) (eg420 : g 420 = Tms) (eg421 : g 421 = On) (eg422 : g 422 = Ot) (eg423 : g 423 = Te) (eg424 : g 424 = C) (eg33 : g 33 = Fr) (eg34 : g 34 = To) (eg36 : g 36 = Kd) (eg46 : g 46 = Lw) (eg35 : g 35 = Ln) (eg38 : g 38 = Mt) (eg44 : g 44 = Tm) (eg193 : g 193 = D) (eg194 : g 194 = O1) (eg195 : g 195 = O2) (eg10 : g 10 = Φ) (ef32 : f 32 = (K0 76)) (ef37 : f 37 = dp) (ef192 : f 192 = u) (ef417 : f 417 = N) (ef418 : f 418 = ag) (ef45 : f 45 = (K0 79)) (ef47 : f 47 = (K0 80)) (hfE : eqx [37, 192, 354] f0 f) (hgE : eqx [10, 35, 38, 44, 193, 194, 195, 320, 352, 353, 355, 356, 384] g0 g) (hH : HC E f g j h) (hA : cAg E h0 h), Z l MX7_ran d 0 0 (CP E h0 (PI (fun r f' g' j' => ((r = 1 ∧ ∃ w', ordT cl k k.2.2.2.1.toNat w0 = some w' ∧ ORe K0 (B0 + 20) cl ag (K0 76) x7 x8 x9 x0 Fr To Kd Lt Sk Ss w' f' g') ∨ (r = 0 ∧ ordT cl k k.2.2.2.1.toNat w0 = none)) ∧ eqx [37, 192, 354] f0 f' ∧ eqx [10, 35, 38, 44, 193, 194, 195, 320, 352, 353, 355, 356, 384] g0 g' ∧ j' = j))) 10 [some (.ref (E.1 31)), some (.ref (E.1 447)), some (vI ci), some (vI (Vb ci)), some (vI i), o5, o6] [] h 0 0 := by
  intro n
  induction n with
  | zero => intro i K X u dn l9 Ln Mt Tm D O1 O2 Φ dp o5 o6 f g h i0 i1 i2 hO hF hG hC eT eg419 eg420 eg421 eg422 eg423 eg424 eg33 eg34 eg36 eg46 eg35 eg38 eg44 eg193 eg194 eg195 eg10 ef32 ef37 ef192 ef417 ef418 ef45 ef47 hfE hgE hH hA; exfalso; omega
  | succ n ih =>
    intro i K X u dn l9 Ln Mt Tm D O1 O2 Φ dp o5 o6 f g h i0 i1 i2 hO hF hG hC eT eg419 eg420 eg421 eg422 eg423 eg424 eg33 eg34 eg36 eg46 eg35 eg38 eg44 eg193 eg194 eg195 eg10 ef32 ef37 ef192 ef417 ef418 ef45 ef47 hfE hgE hH hA
    have hTm := hz.2.1
    obtain ⟨hK, hR, hu, hdn, hlt⟩ : KOK K ∧ (∀ q, 29 ≤ q → K q = K0 q) ∧ (0 ≤ u ∧ u ≤ 16) ∧ (0 ≤ dn ∧ dn ≤ B0 + i) ∧ (-1 ≤ l9 ∧ l9 ≤ 10) := id hO
    have h76 := hR 76 (by decide)
    have h79 := hR 79 (by decide)
    have h80 := hR 80 (by decide)
    have hn := hK.1
    have hdp := hF.2.2.1.1
    have hd10 := dHi_10 hdp hn.2 hF.2.2.2.1
    have hvv := vz_ran hz.1 hv
    have hv3 : 3 ≤ Vb ci ∧ Vb ci ≤ 6 := by omega
    have hC9 := hC.1
    clear hvv
    refine z_ild_4 (TX7_ran_0.at 7 rfl) ?_
    refine z_ald_1 (TX7_ran_0.at 8 rfl) ?_
    refine zc_getA (m := 13) (s := 4) (k := 420) (hH.lv (by decide)) (TX7_ran_0.at 9 rfl) fl7_238 hH rfl rfl (by decide) (by decide) ?_
    refine z_ild_2 (TX7_ran_0.at 10 rfl) ?_
    refine zcf_iald (k := 420) (N := 12) (hH.lv (by decide)) (by decide) rfl eg420 (TX7_ran_0.at 11 rfl) hH (by decide) (by omega) (show _ < ((12 : Nat) : Int) by omega) (fun r17 => ?_)
    refine z_icmp_ge (tgt := 148) (TX7_ran_0.at 12 rfl) rfl (by omega) (by omega) (fun c1 => ?_) (fun c1 => ?_)
    · skip
      refine z_iconst (TX7_ran_2.at 3 rfl) ?_
      refine zc_zret (TX7_ran_2.at 4 rfl) rfl hH hA (by first | omega | exact b2i_01 _) ?_
      exact ⟨Or.inl ⟨rfl, (K, X, u, dn, l9), eT_e eT (by omega), OSok_w hO (by omega), by rw [eg35, ef37, eg38, eg44]; exact hF, by rw [eg193, eg194, eg195]; exact hG, ef192, by rw [eg10]; exact hC⟩, hfE, hgE, rfl⟩
    · skip
      refine z_ild_4 (TX7_ran_0.at 13 rfl) ?_
      refine z_bipush (by decide) (TX7_ran_0.at 14 rfl) ?_
      refine z_icmp_ge (tgt := 148) (TX7_ran_0.at 15 rfl) rfl (by omega) (by omega) (fun c2 => ?_) (fun c2 => ?_)
      · skip
        refine z_iconst (TX7_ran_2.at 3 rfl) ?_
        refine zc_zret (TX7_ran_2.at 4 rfl) rfl hH hA (by first | omega | exact b2i_01 _) ?_
        exact ⟨Or.inl ⟨rfl, (K, X, u, dn, l9), eT_e eT (by omega), OSok_w hO (by omega), by rw [eg35, ef37, eg38, eg44]; exact hF, by rw [eg193, eg194, eg195]; exact hG, ef192, by rw [eg10]; exact hC⟩, hfE, hgE, rfl⟩
      · skip
        refine z_ald_0 (TX7_ran_0.at 16 rfl) ?_
        refine zc_callV0 (m := 0) (c_tell eg10 eg44 eg38 eg35 ef37 ef32 hdp.1 hd10 (by omega)) (hH.lv (by decide)) (TX7_ran_0.at 17 rfl) c7_241 rfl rfl hH hA (by omega) (Nat.le_of_ble_eq_true rfl) (fun f29 g29 j29 h q29 hH hA => ?_)
        obtain ⟨q29, xf, xg, xj⟩ := q29
        rw [xj] at hH
        have ef32 := (xf 32 (by decide)).trans ef32
        have ef37 := (xf 37 (by decide)).trans ef37
        have ef192 := (xf 192 (by decide)).trans ef192
        have ef417 := (xf 417 (by decide)).trans ef417
        have ef418 := (xf 418 (by decide)).trans ef418
        have ef45 := (xf 45 (by decide)).trans ef45
        have ef47 := (xf 47 (by decide)).trans ef47
        have hfE := hfE.trans xf (by decide)
        have eg419 := (xg 419 (by decide)).trans eg419
        have eg420 := (xg 420 (by decide)).trans eg420
        have eg421 := (xg 421 (by decide)).trans eg421
        have eg422 := (xg 422 (by decide)).trans eg422
        have eg423 := (xg 423 (by decide)).trans eg423
        have eg424 := (xg 424 (by decide)).trans eg424
        have eg33 := (xg 33 (by decide)).trans eg33
        have eg34 := (xg 34 (by decide)).trans eg34
        have eg36 := (xg 36 (by decide)).trans eg36
        have eg46 := (xg 46 (by decide)).trans eg46
        have eg35 := (xg 35 (by decide)).trans eg35
        have eg38 := (xg 38 (by decide)).trans eg38
        have eg44 := (xg 44 (by decide)).trans eg44
        have eg193 := (xg 193 (by decide)).trans eg193
        have eg194 := (xg 194 (by decide)).trans eg194
        have eg195 := (xg 195 (by decide)).trans eg195
        have hgE := hgE.trans xg (by decide)
        have qL := q29
        obtain ⟨φ, hφ⟩ : ∃ z, z = telF Φ Tm Mt Ln (cnt dp 10) (K0 76) := ⟨_, rfl⟩
        have eg10 := qL
        rw [← hφ] at eg10
        have f9 : φ 9 = dn := by rw [hφ, tel_at (by decide) (by decide) (by decide)]; exact hC.1
        have f10 : φ 10 = Φ 10 := by rw [hφ, tel_at (by decide) (by decide) (by decide)]
        have f11 : φ 11 = Φ 11 := by rw [hφ, tel_at (by decide) (by decide) (by decide)]
        have hde : ∀ kk : Den, Dl 8 31 kk → (ag = 0 → Ng kk) → kk φ = kk (phiO K cl dn l9) := by
          intro kk d1 d2
          refine den_eq d1 d2 hag (fun q q0 q1 q2 q3 => ?_) (fun z => ?_)
          · rw [hφ]; exact tel_phi hF hC.1 q q0 q1 q2 q3
          · rw [f10, f11]; exact hC.2 z
        clear hφ
        refine z_ald_0 (TX7_ran_0.at 18 rfl) ?_
        refine z_ald_1 (TX7_ran_0.at 19 rfl) ?_
        refine z_ald_1 (TX7_ran_0.at 20 rfl) ?_
        refine zc_getA (m := 13) (s := 7) (k := 423) (hH.lv (by decide)) (TX7_ran_0.at 21 rfl) fl7_244 hH rfl rfl (by decide) (by decide) ?_
        refine z_ild_2 (TX7_ran_0.at 22 rfl) ?_
        refine zcf_iald (k := 423) (N := 12) (hH.lv (by decide)) (by decide) rfl eg423 (TX7_ran_0.at 23 rfl) hH (by decide) (by omega) (show _ < ((12 : Nat) : Int) by omega) (fun r39 => ?_)
        refine zc_callI2 (m := 0) (c_isSo (r0 := soV k.2.2.2.2 φ) eg424 eg10 ef417 (by omega) N4 (so_ask hz.2.2.2.2 N4 (fun kk z => hg.2.2.2.2 kk z))) (hH.lv (by decide)) (TX7_ran_0.at 24 rfl) c7_247 rfl rfl hH hA (by omega) (Nat.le_of_ble_eq_true rfl) (fun x40 f40 g40 j40 h r40 q40 hH hA => ?_)
        obtain ⟨q40, xf, xg, xj⟩ := q40
        rw [xj] at hH
        have ef32 := (xf 32 (by decide)).trans ef32
        have ef37 := (xf 37 (by decide)).trans ef37
        have ef192 := (xf 192 (by decide)).trans ef192
        have ef417 := (xf 417 (by decide)).trans ef417
        have ef418 := (xf 418 (by decide)).trans ef418
        have ef45 := (xf 45 (by decide)).trans ef45
        have ef47 := (xf 47 (by decide)).trans ef47
        have hfE := hfE.trans xf (by decide)
        have eg419 := (xg 419 (by decide)).trans eg419
        have eg420 := (xg 420 (by decide)).trans eg420
        have eg421 := (xg 421 (by decide)).trans eg421
        have eg422 := (xg 422 (by decide)).trans eg422
        have eg423 := (xg 423 (by decide)).trans eg423
        have eg424 := (xg 424 (by decide)).trans eg424
        have eg33 := (xg 33 (by decide)).trans eg33
        have eg34 := (xg 34 (by decide)).trans eg34
        have eg36 := (xg 36 (by decide)).trans eg36
        have eg46 := (xg 46 (by decide)).trans eg46
        have eg35 := (xg 35 (by decide)).trans eg35
        have eg38 := (xg 38 (by decide)).trans eg38
        have eg44 := (xg 44 (by decide)).trans eg44
        have eg193 := (xg 193 (by decide)).trans eg193
        have eg194 := (xg 194 (by decide)).trans eg194
        have eg195 := (xg 195 (by decide)).trans eg195
        have eg10 := (xg 10 (by decide)).trans eg10
        have hgE := hgE.trans xg (by decide)
        have qL := q40
        have hsx := qL
        have hsq : tellF.isSoB k.2.2.2.2 φ = tellF.isSoB k.2.2.2.2 (phiO K cl dn l9) := by
          cases hq4 : k.2.2.2.2 with
          | none => rfl
          | some kk =>
            show (kk φ == some 1) = (kk (phiO K cl dn l9) == some 1)
            rw [hde kk (hg.2.2.2.2 kk hq4).1 (fun z => (hng z).2.2 kk hq4)]
        have hs2 : x40 = b2i (tellF.isSoB k.2.2.2.2 (phiO K cl dn l9) = true) := by
          rw [hsx, ← hsq]
          unfold b2i
          by_cases z : tellF.isSoB k.2.2.2.2 φ = true
          · rw [if_pos z, if_pos ((so_eq hz.2.2.2.2).mpr z)]
          · rw [if_neg z, if_neg (fun y => z ((so_eq hz.2.2.2.2).mp y))]
        clear hsx qL q40
        unfold b2i at hs2
        refine z_if_ne (tgt := 49) (TX7_ran_0.at 25 rfl) rfl (by omega) (fun c3 => ?_) (fun c3 => ?_)
        · skip
          have hso : tellF.isSoB k.2.2.2.2 (phiO K cl dn l9) = true := by
            by_cases z : tellF.isSoB k.2.2.2.2 (phiO K cl dn l9) = true
            · exact z
            · rw [if_neg z] at hs2; omega
          clear hs2
          refine z_ald_0 (TX7_ran_0.at 27 rfl) ?_
          refine z_ald_1 (TX7_ran_0.at 28 rfl) ?_
          refine z_ald_1 (TX7_ran_0.at 29 rfl) ?_
          refine zc_getA (m := 13) (s := 5) (k := 421) (hH.lv (by decide)) (TX7_ran_0.at 30 rfl) fl7_250 hH rfl rfl (by decide) (by decide) ?_
          refine z_ild_2 (TX7_ran_0.at 31 rfl) ?_
          refine zcf_iald (k := 421) (N := 12) (hH.lv (by decide)) (by decide) rfl eg421 (TX7_ran_0.at 32 rfl) hH (by decide) (by omega) (show _ < ((12 : Nat) : Int) by omega) (fun r56 => ?_)
          refine zc_callI2 (m := 0) (c_asked (r0 := onV (On ci) k.2.1 φ) eg424 eg10 ef417 (by omega) N4 (on_ask (Or.inl hz.2.2.1) N4 hg.1 hg.2.1) onV_n) (hH.lv (by decide)) (TX7_ran_0.at 33 rfl) c7_253 rfl rfl hH hA (by omega) (Nat.le_of_ble_eq_true rfl) (fun x57 f57 g57 j57 h r57 q57 hH hA => ?_)
          obtain ⟨q57, xf, xg, xj⟩ := q57
          rw [xj] at hH
          have ef32 := (xf 32 (by decide)).trans ef32
          have ef37 := (xf 37 (by decide)).trans ef37
          have ef192 := (xf 192 (by decide)).trans ef192
          have ef417 := (xf 417 (by decide)).trans ef417
          have ef418 := (xf 418 (by decide)).trans ef418
          have ef45 := (xf 45 (by decide)).trans ef45
          have ef47 := (xf 47 (by decide)).trans ef47
          have hfE := hfE.trans xf (by decide)
          have eg419 := (xg 419 (by decide)).trans eg419
          have eg420 := (xg 420 (by decide)).trans eg420
          have eg421 := (xg 421 (by decide)).trans eg421
          have eg422 := (xg 422 (by decide)).trans eg422
          have eg423 := (xg 423 (by decide)).trans eg423
          have eg424 := (xg 424 (by decide)).trans eg424
          have eg33 := (xg 33 (by decide)).trans eg33
          have eg34 := (xg 34 (by decide)).trans eg34
          have eg36 := (xg 36 (by decide)).trans eg36
          have eg46 := (xg 46 (by decide)).trans eg46
          have eg35 := (xg 35 (by decide)).trans eg35
          have eg38 := (xg 38 (by decide)).trans eg38
          have eg44 := (xg 44 (by decide)).trans eg44
          have eg193 := (xg 193 (by decide)).trans eg193
          have eg194 := (xg 194 (by decide)).trans eg194
          have eg195 := (xg 195 (by decide)).trans eg195
          have eg10 := (xg 10 (by decide)).trans eg10
          have hgE := hgE.trans xg (by decide)
          have qL := q57
          have hx1 := qL
          clear qL
          refine z_ist_5 (TX7_ran_0.at 34 rfl) (Nat.le_of_ble_eq_true rfl) rfl ?_
          refine z_ald_0 (TX7_ran_0.at 35 rfl) ?_
          refine z_ald_1 (TX7_ran_0.at 36 rfl) ?_
          refine z_ald_1 (TX7_ran_0.at 37 rfl) ?_
          refine zc_getA (m := 13) (s := 6) (k := 422) (hH.lv (by decide)) (TX7_ran_0.at 38 rfl) fl7_257 hH rfl rfl (by decide) (by decide) ?_
          refine z_ild_2 (TX7_ran_0.at 39 rfl) ?_
          refine zcf_iald (k := 422) (N := 12) (hH.lv (by decide)) (by decide) rfl eg422 (TX7_ran_1.at 0 rfl) hH (by decide) (by omega) (show _ < ((12 : Nat) : Int) by omega) (fun r69 => ?_)
          refine zc_callI2 (m := 0) (c_asked (r0 := onV (Ot ci) k.2.2.1 φ) eg424 eg10 ef417 (by omega) N4 (on_ask (Or.inr hz.2.2.2.1) N4 hg.2.2.1 hg.2.2.2.1) onV_n) (hH.lv (by decide)) (TX7_ran_1.at 1 rfl) c7_253 rfl rfl hH hA (by omega) (Nat.le_of_ble_eq_true rfl) (fun x70 f70 g70 j70 h r70 q70 hH hA => ?_)
          obtain ⟨q70, xf, xg, xj⟩ := q70
          rw [xj] at hH
          have ef32 := (xf 32 (by decide)).trans ef32
          have ef37 := (xf 37 (by decide)).trans ef37
          have ef192 := (xf 192 (by decide)).trans ef192
          have ef417 := (xf 417 (by decide)).trans ef417
          have ef418 := (xf 418 (by decide)).trans ef418
          have ef45 := (xf 45 (by decide)).trans ef45
          have ef47 := (xf 47 (by decide)).trans ef47
          have hfE := hfE.trans xf (by decide)
          have eg419 := (xg 419 (by decide)).trans eg419
          have eg420 := (xg 420 (by decide)).trans eg420
          have eg421 := (xg 421 (by decide)).trans eg421
          have eg422 := (xg 422 (by decide)).trans eg422
          have eg423 := (xg 423 (by decide)).trans eg423
          have eg424 := (xg 424 (by decide)).trans eg424
          have eg33 := (xg 33 (by decide)).trans eg33
          have eg34 := (xg 34 (by decide)).trans eg34
          have eg36 := (xg 36 (by decide)).trans eg36
          have eg46 := (xg 46 (by decide)).trans eg46
          have eg35 := (xg 35 (by decide)).trans eg35
          have eg38 := (xg 38 (by decide)).trans eg38
          have eg44 := (xg 44 (by decide)).trans eg44
          have eg193 := (xg 193 (by decide)).trans eg193
          have eg194 := (xg 194 (by decide)).trans eg194
          have eg195 := (xg 195 (by decide)).trans eg195
          have eg10 := (xg 10 (by decide)).trans eg10
          have hgE := hgE.trans xg (by decide)
          have qL := q70
          have hx2 := qL
          clear qL
          refine z_ist_6 (TX7_ran_1.at 2 rfl) (Nat.le_of_ble_eq_true rfl) rfl ?_
          refine z_ald_0 (TX7_ran_1.at 3 rfl) ?_
          refine z_ild_3 (TX7_ran_1.at 4 rfl) ?_
          refine z_ild_5 (TX7_ran_1.at 5 rfl) ?_
          refine z_ild_6 (TX7_ran_1.at 6 rfl) ?_
          refine zc_callI3 (m := 0) (c_deed eg38 eg44 eg35 eg193 eg194 eg195 ef32 ef37 ef192 (by omega) (by omega) (by omega) hv3.1 hv3.2 hu.1 hu.2 (by omega) hdp) (hH.lv (by decide)) (TX7_ran_1.at 7 rfl) c7_260 rfl rfl hH hA (by omega) (Nat.le_of_ble_eq_true rfl) (fun x81 f81 g81 j81 h r81 q81 hH hA => ?_)
          obtain ⟨q81, xf, xg, xj⟩ := q81
          rw [xj] at hH
          have ef32 := (xf 32 (by decide)).trans ef32
          have ef417 := (xf 417 (by decide)).trans ef417
          have ef418 := (xf 418 (by decide)).trans ef418
          have ef45 := (xf 45 (by decide)).trans ef45
          have ef47 := (xf 47 (by decide)).trans ef47
          have hfE := hfE.trans xf (by decide)
          have eg419 := (xg 419 (by decide)).trans eg419
          have eg420 := (xg 420 (by decide)).trans eg420
          have eg421 := (xg 421 (by decide)).trans eg421
          have eg422 := (xg 422 (by decide)).trans eg422
          have eg423 := (xg 423 (by decide)).trans eg423
          have eg424 := (xg 424 (by decide)).trans eg424
          have eg33 := (xg 33 (by decide)).trans eg33
          have eg34 := (xg 34 (by decide)).trans eg34
          have eg36 := (xg 36 (by decide)).trans eg36
          have eg46 := (xg 46 (by decide)).trans eg46
          have eg10 := (xg 10 (by decide)).trans eg10
          have hgE := hgE.trans xg (by decide)
          have qL := q81
          have hqd := qL
          have hvv := vz_ran hz.1 hv
          have a1 : k.1 ≠ 26 → x57 = brk (k.2.1 (phiO K cl dn l9)) := by
            intro z
            have hon : On ci ≠ -1 := by
              rcases hz.2.2.1 with ⟨y, -⟩ | ⟨-, y⟩
              · rcases y with y | y
                · omega
                · exact absurd y z
              · have := y.nn; omega
            rw [hx1, ← hde k.2.1 hg.1 (fun y => (hng y).1)]
            exact if_neg hon
          have a2 : k.1 = 24 → x70 = brk (k.2.2.1 (phiO K cl dn l9)) := by
            intro z
            have hot : Ot ci ≠ -1 := by
              rcases hz.2.2.2.1 with ⟨-, y⟩ | ⟨y, -⟩
              · have := y.nn; omega
              · exact absurd z y
            rw [hx2, ← hde k.2.2.1 hg.2.2.1 (fun y => (hng y).2.1)]
            exact if_neg hot
          have hos := ord_sim (cl := cl) hF hG hvv hso a1 a2 hqd
          clear hqd hvv a1 a2 qL q81
          obtain ⟨L2, eg35⟩ : ∃ z, g81 35 = z := ⟨_, rfl⟩
          obtain ⟨M2, eg38⟩ : ∃ z, g81 38 = z := ⟨_, rfl⟩
          obtain ⟨T2, eg44⟩ : ∃ z, g81 44 = z := ⟨_, rfl⟩
          obtain ⟨D2, eg193⟩ : ∃ z, g81 193 = z := ⟨_, rfl⟩
          obtain ⟨P2, eg194⟩ : ∃ z, g81 194 = z := ⟨_, rfl⟩
          obtain ⟨Q2, eg195⟩ : ∃ z, g81 195 = z := ⟨_, rfl⟩
          obtain ⟨d2, ef37⟩ : ∃ z, f81 37 = z := ⟨_, rfl⟩
          obtain ⟨v2, ef192⟩ : ∃ z, f81 192 = z := ⟨_, rfl⟩
          refine z_if_ge (tgt := 89) (TX7_ran_1.at 8 rfl) rfl (by omega) (fun c4 => ?_) (fun c4 => ?_)
          · skip
            obtain ⟨K2, X2, u2, l2, hoo, hF2, hG2, hu2, hl2⟩ := hos.pos (by omega)
            rw [eg35, ef37, eg38, eg44] at hF2
            rw [eg193, eg194, eg195] at hG2
            have hu3 : v2 = u2 := ef192.symm.trans hu2
            subst hu3
            have hO2 := ordO_ok hO hoo
            obtain ⟨hK2, hR2⟩ : KOK K2 ∧ (∀ q, 29 ≤ q → K2 q = K0 q) := ⟨hO2.1, hO2.2.1⟩
            have hO3 := OSok_w hO2 (show B0 + i + 1 ≤ B0 + (i + 1) by omega)
            have eT2 := eT_s eT (by omega) hoo
            have k76 := hR2 76 (by decide)
            have k79 := hR2 79 (by decide)
            have k80 := hR2 80 (by decide)
            clear hos hoo hO2
            refine z_ald_0 (TX7_ran_1.at 11 rfl) ?_
            refine zc_getA (m := 0) (s := 10) (k := 10) (hH.lv (by decide)) (TX7_ran_1.at 12 rfl) fl7_64 hH rfl rfl (by decide) (by decide) ?_
            refine z_bipush (by decide) (TX7_ran_1.at 13 rfl) ?_
            refine z_dup2 rfl rfl (TX7_ran_1.at 14 rfl) ?_
            refine zcf_iald (k := 10) (N := 31) (hH.lv (by decide)) (by decide) rfl eg10 (TX7_ran_1.at 15 rfl) hH (by decide) (by omega) (show _ < ((31 : Nat) : Int) by omega) (fun r96 => ?_)
            refine z_iconst (TX7_ran_1.at 16 rfl) ?_
            refine z_iadd (TX7_ran_1.at 17 rfl) ?_
            refine zcf_iast (k := 10) (N := 31) (hH.lv (by decide)) (by decide) rfl (TX7_ran_1.at 18 rfl) hH hA (by decide) (by omega) (show _ < ((31 : Nat) : Int) by omega) (by omega) (fun h g99 e1 e2 hH hA => ?_)
            have eg419 := (e1 419 (by decide)).trans eg419
            have eg420 := (e1 420 (by decide)).trans eg420
            have eg421 := (e1 421 (by decide)).trans eg421
            have eg422 := (e1 422 (by decide)).trans eg422
            have eg423 := (e1 423 (by decide)).trans eg423
            have eg424 := (e1 424 (by decide)).trans eg424
            have eg33 := (e1 33 (by decide)).trans eg33
            have eg34 := (e1 34 (by decide)).trans eg34
            have eg36 := (e1 36 (by decide)).trans eg36
            have eg46 := (e1 46 (by decide)).trans eg46
            have eg35 := (e1 35 (by decide)).trans eg35
            have eg38 := (e1 38 (by decide)).trans eg38
            have eg44 := (e1 44 (by decide)).trans eg44
            have eg193 := (e1 193 (by decide)).trans eg193
            have eg194 := (e1 194 (by decide)).trans eg194
            have eg195 := (e1 195 (by decide)).trans eg195
            rw [eg10] at e2; have eg10 := e2
            have hgE := hgE.put e1 (by decide)
            refine z_ald_1 (TX7_ran_1.at 19 rfl) ?_
            refine zc_getIE (m := 13) (s := 2) (k := 418) (hH.lv (by decide)) ef418 (TX7_ran_1.at 20 rfl) fl7_220 hH rfl rfl (by decide) (by decide) (fun r101 => ?_)
            refine z_if_eq (tgt := 122) (TX7_ran_1.at 21 rfl) rfl (by omega) (fun c5 => ?_) (fun c5 => ?_)
            · skip
              refine z_ild_3 (TX7_ran_1.at 30 rfl) ?_
              refine z_bipush (by decide) (TX7_ran_1.at 31 rfl) ?_
              refine z_icmp_ne (tgt := 142) (TX7_ran_1.at 32 rfl) rfl (by omega) (by omega) (fun c6 => ?_) (fun c6 => ?_)
              · skip
                refine z_iinc_4 (TX7_ran_2.at 1 rfl) (Nat.le_of_ble_eq_true rfl) rfl ?_
                refine z_goto (tgt := 10) (TX7_ran_2.at 2 rfl) rfl ?_
                have hvv := vz_ran hz.1 hv
                have hg0 : ag = 0 := by omega
                refine ih (i + 1) K2 X2 v2 (dn + 1) l2 _ _ _ _ _ _ _ _ _ _ _ _ _ (by omega) (by omega) (by omega) hO3 hF2 hG2 (⟨by first | (rw [iu_ne (by decide), iu_self, f9]) | (rw [iu_self, f9]), fun z => absurd (z.symm.trans hg0) (by decide)⟩) eT2 eg419 eg420 eg421 eg422 eg423 eg424 eg33 eg34 eg36 eg46 eg35 eg38 eg44 eg193 eg194 eg195 eg10 ef32 ef37 ef192 ef417 ef418 ef45 ef47 hfE hgE hH hA
              · skip
                refine z_ald_0 (TX7_ran_1.at 33 rfl) ?_
                refine zc_getA (m := 0) (s := 10) (k := 10) (hH.lv (by decide)) (TX7_ran_1.at 34 rfl) fl7_64 hH rfl rfl (by decide) (by decide) ?_
                refine z_bipush (by decide) (TX7_ran_1.at 35 rfl) ?_
                refine z_ald_0 (TX7_ran_1.at 36 rfl) ?_
                refine zc_getA (m := 0) (s := 10) (k := 10) (hH.lv (by decide)) (TX7_ran_1.at 37 rfl) fl7_64 hH rfl rfl (by decide) (by decide) ?_
                refine z_bipush (by decide) (TX7_ran_1.at 38 rfl) ?_
                refine zcf_iald (k := 10) (N := 31) (hH.lv (by decide)) (by decide) rfl eg10 (TX7_ran_1.at 39 rfl) hH (by decide) (by omega) (show _ < ((31 : Nat) : Int) by omega) (fun r140 => ?_)
                refine zcf_iast (k := 10) (N := 31) (hH.lv (by decide)) (by decide) rfl (TX7_ran_2.at 0 rfl) hH hA (by decide) (by omega) (show _ < ((31 : Nat) : Int) by omega) (by omega) (fun h g141 e1 e2 hH hA => ?_)
                have eg419 := (e1 419 (by decide)).trans eg419
                have eg420 := (e1 420 (by decide)).trans eg420
                have eg421 := (e1 421 (by decide)).trans eg421
                have eg422 := (e1 422 (by decide)).trans eg422
                have eg423 := (e1 423 (by decide)).trans eg423
                have eg424 := (e1 424 (by decide)).trans eg424
                have eg33 := (e1 33 (by decide)).trans eg33
                have eg34 := (e1 34 (by decide)).trans eg34
                have eg36 := (e1 36 (by decide)).trans eg36
                have eg46 := (e1 46 (by decide)).trans eg46
                have eg35 := (e1 35 (by decide)).trans eg35
                have eg38 := (e1 38 (by decide)).trans eg38
                have eg44 := (e1 44 (by decide)).trans eg44
                have eg193 := (e1 193 (by decide)).trans eg193
                have eg194 := (e1 194 (by decide)).trans eg194
                have eg195 := (e1 195 (by decide)).trans eg195
                rw [eg10] at e2; have eg10 := e2
                have hgE := hgE.put e1 (by decide)
                refine z_iinc_4 (TX7_ran_2.at 1 rfl) (Nat.le_of_ble_eq_true rfl) rfl ?_
                refine z_goto (tgt := 10) (TX7_ran_2.at 2 rfl) rfl ?_
                have hvv := vz_ran hz.1 hv
                have hg0 : ag = 0 := by omega
                refine ih (i + 1) K2 X2 v2 (dn + 1) l2 _ _ _ _ _ _ _ _ _ _ _ _ _ (by omega) (by omega) (by omega) hO3 hF2 hG2 (⟨by first | (rw [iu_ne (by decide), iu_self, f9]) | (rw [iu_self, f9]), fun z => absurd (z.symm.trans hg0) (by decide)⟩) eT2 eg419 eg420 eg421 eg422 eg423 eg424 eg33 eg34 eg36 eg46 eg35 eg38 eg44 eg193 eg194 eg195 eg10 ef32 ef37 ef192 ef417 ef418 ef45 ef47 hfE hgE hH hA
            · skip
              refine z_ald_0 (TX7_ran_1.at 22 rfl) ?_
              refine zc_getA (m := 0) (s := 10) (k := 10) (hH.lv (by decide)) (TX7_ran_1.at 23 rfl) fl7_64 hH rfl rfl (by decide) (by decide) ?_
              refine z_bipush (by decide) (TX7_ran_1.at 24 rfl) ?_
              refine z_ald_0 (TX7_ran_1.at 25 rfl) ?_
              refine z_ald_0 (TX7_ran_1.at 26 rfl) ?_
              refine zc_getO (m := 0) (s := 0) (k := 63) (hH.lv (by decide)) (TX7_ran_1.at 27 rfl) fl7_12 hH rfl rfl (by decide) (by decide) ?_
              refine zc_callI1 (m := 0) (c_goneIn1 (K := K2) (cl := cl) eg33 eg34 eg35 eg36 eg44 eg46 eg38 (ef32.trans k76.symm) ef37 rfl (ef45.trans k79.symm) (ef47.trans k80.symm) (by rw [k80, k79]; exact LwN_fr hL0 hfE hgE (by decide) (by decide)) hK2 hF2.2.2.1 ⟨hH.2.2.2.2.2.2.1.2, (hH.2.2.2.2.2.2.1.1 354).2⟩ hF2.2.2.2.2.2.2.2.1 hF2.2.2.2.2.2.2.2.2.2 hF2.2.2.2.2.1) (hH.lv (by decide)) (TX7_ran_1.at 28 rfl) c7_224 rfl rfl hH hA (by omega) (Nat.le_of_ble_eq_true rfl) (fun x118 f118 g118 j118 h r118 q118 hH hA => ?_)
              obtain ⟨q118, xf, xg, xj⟩ := q118
              rw [xj] at hH
              have ef32 := (xf 32 (by decide)).trans ef32
              have ef37 := (xf 37 (by decide)).trans ef37
              have ef192 := (xf 192 (by decide)).trans ef192
              have ef417 := (xf 417 (by decide)).trans ef417
              have ef418 := (xf 418 (by decide)).trans ef418
              have ef45 := (xf 45 (by decide)).trans ef45
              have ef47 := (xf 47 (by decide)).trans ef47
              have hfE := hfE.trans xf (by decide)
              have eg419 := (xg 419 (by decide)).trans eg419
              have eg420 := (xg 420 (by decide)).trans eg420
              have eg421 := (xg 421 (by decide)).trans eg421
              have eg422 := (xg 422 (by decide)).trans eg422
              have eg423 := (xg 423 (by decide)).trans eg423
              have eg424 := (xg 424 (by decide)).trans eg424
              have eg33 := (xg 33 (by decide)).trans eg33
              have eg34 := (xg 34 (by decide)).trans eg34
              have eg36 := (xg 36 (by decide)).trans eg36
              have eg46 := (xg 46 (by decide)).trans eg46
              have eg35 := (xg 35 (by decide)).trans eg35
              have eg38 := (xg 38 (by decide)).trans eg38
              have eg44 := (xg 44 (by decide)).trans eg44
              have eg193 := (xg 193 (by decide)).trans eg193
              have eg194 := (xg 194 (by decide)).trans eg194
              have eg195 := (xg 195 (by decide)).trans eg195
              have eg10 := (xg 10 (by decide)).trans eg10
              have hgE := hgE.trans xg (by decide)
              have qL := q118
              have hgo := qL
              subst hgo
              refine zcf_iast (k := 10) (N := 31) (hH.lv (by decide)) (by decide) rfl (TX7_ran_1.at 29 rfl) hH hA (by decide) (by omega) (show _ < ((31 : Nat) : Int) by omega) (by omega) (fun h g121 e1 e2 hH hA => ?_)
              have eg419 := (e1 419 (by decide)).trans eg419
              have eg420 := (e1 420 (by decide)).trans eg420
              have eg421 := (e1 421 (by decide)).trans eg421
              have eg422 := (e1 422 (by decide)).trans eg422
              have eg423 := (e1 423 (by decide)).trans eg423
              have eg424 := (e1 424 (by decide)).trans eg424
              have eg33 := (e1 33 (by decide)).trans eg33
              have eg34 := (e1 34 (by decide)).trans eg34
              have eg36 := (e1 36 (by decide)).trans eg36
              have eg46 := (e1 46 (by decide)).trans eg46
              have eg35 := (e1 35 (by decide)).trans eg35
              have eg38 := (e1 38 (by decide)).trans eg38
              have eg44 := (e1 44 (by decide)).trans eg44
              have eg193 := (e1 193 (by decide)).trans eg193
              have eg194 := (e1 194 (by decide)).trans eg194
              have eg195 := (e1 195 (by decide)).trans eg195
              rw [eg10] at e2; have eg10 := e2
              have hgE := hgE.put e1 (by decide)
              refine z_ild_3 (TX7_ran_1.at 30 rfl) ?_
              refine z_bipush (by decide) (TX7_ran_1.at 31 rfl) ?_
              refine z_icmp_ne (tgt := 142) (TX7_ran_1.at 32 rfl) rfl (by omega) (by omega) (fun c7 => ?_) (fun c7 => ?_)
              · skip
                refine z_iinc_4 (TX7_ran_2.at 1 rfl) (Nat.le_of_ble_eq_true rfl) rfl ?_
                refine z_goto (tgt := 10) (TX7_ran_2.at 2 rfl) rfl ?_
                have hvv := vz_ran hz.1 hv
                have hg1 : ag = 1 := by rcases hag with z | z <;> omega
                refine ih (i + 1) K2 X2 v2 (dn + 1) l2 _ _ _ _ _ _ _ _ _ _ _ _ _ (by omega) (by omega) (by omega) hO3 hF2 hG2 (⟨by rw [iu_ne (by decide), iu_self, f9], fun _ => ⟨by rw [iu_ne (by decide), iu_ne (by decide), f10, hl2, if_neg (by omega)]; exact (hC.2 hg1).1, by rw [iu_self]⟩⟩) eT2 eg419 eg420 eg421 eg422 eg423 eg424 eg33 eg34 eg36 eg46 eg35 eg38 eg44 eg193 eg194 eg195 eg10 ef32 ef37 ef192 ef417 ef418 ef45 ef47 hfE hgE hH hA
              · skip
                refine z_ald_0 (TX7_ran_1.at 33 rfl) ?_
                refine zc_getA (m := 0) (s := 10) (k := 10) (hH.lv (by decide)) (TX7_ran_1.at 34 rfl) fl7_64 hH rfl rfl (by decide) (by decide) ?_
                refine z_bipush (by decide) (TX7_ran_1.at 35 rfl) ?_
                refine z_ald_0 (TX7_ran_1.at 36 rfl) ?_
                refine zc_getA (m := 0) (s := 10) (k := 10) (hH.lv (by decide)) (TX7_ran_1.at 37 rfl) fl7_64 hH rfl rfl (by decide) (by decide) ?_
                refine z_bipush (by decide) (TX7_ran_1.at 38 rfl) ?_
                refine zcf_iald (k := 10) (N := 31) (hH.lv (by decide)) (by decide) rfl eg10 (TX7_ran_1.at 39 rfl) hH (by decide) (by omega) (show _ < ((31 : Nat) : Int) by omega) (fun r140 => ?_)
                refine zcf_iast (k := 10) (N := 31) (hH.lv (by decide)) (by decide) rfl (TX7_ran_2.at 0 rfl) hH hA (by decide) (by omega) (show _ < ((31 : Nat) : Int) by omega) (by omega) (fun h g141 e1 e2 hH hA => ?_)
                have eg419 := (e1 419 (by decide)).trans eg419
                have eg420 := (e1 420 (by decide)).trans eg420
                have eg421 := (e1 421 (by decide)).trans eg421
                have eg422 := (e1 422 (by decide)).trans eg422
                have eg423 := (e1 423 (by decide)).trans eg423
                have eg424 := (e1 424 (by decide)).trans eg424
                have eg33 := (e1 33 (by decide)).trans eg33
                have eg34 := (e1 34 (by decide)).trans eg34
                have eg36 := (e1 36 (by decide)).trans eg36
                have eg46 := (e1 46 (by decide)).trans eg46
                have eg35 := (e1 35 (by decide)).trans eg35
                have eg38 := (e1 38 (by decide)).trans eg38
                have eg44 := (e1 44 (by decide)).trans eg44
                have eg193 := (e1 193 (by decide)).trans eg193
                have eg194 := (e1 194 (by decide)).trans eg194
                have eg195 := (e1 195 (by decide)).trans eg195
                rw [eg10] at e2; have eg10 := e2
                have hgE := hgE.put e1 (by decide)
                refine z_iinc_4 (TX7_ran_2.at 1 rfl) (Nat.le_of_ble_eq_true rfl) rfl ?_
                refine z_goto (tgt := 10) (TX7_ran_2.at 2 rfl) rfl ?_
                have hvv := vz_ran hz.1 hv
                refine ih (i + 1) K2 X2 v2 (dn + 1) l2 _ _ _ _ _ _ _ _ _ _ _ _ _ (by omega) (by omega) (by omega) hO3 hF2 hG2 (⟨by rw [iu_ne (by decide), iu_ne (by decide), iu_self, f9], fun _ => ⟨by rw [iu_self, iu_self, hl2, if_pos (by omega)], by rw [iu_ne (by decide), iu_self]⟩⟩) eT2 eg419 eg420 eg421 eg422 eg423 eg424 eg33 eg34 eg36 eg46 eg35 eg38 eg44 eg193 eg194 eg195 eg10 ef32 ef37 ef192 ef417 ef418 ef45 ef47 hfE hgE hH hA
          · skip
            have hnn := eT_n eT (by omega) (hos.neg (by omega))
            refine z_iconst (TX7_ran_1.at 9 rfl) ?_
            refine zc_zret (TX7_ran_1.at 10 rfl) rfl hH hA (by first | omega | exact b2i_01 _) ?_
            exact ⟨Or.inr ⟨rfl, hnn⟩, hfE, hgE, rfl⟩
        · skip
          have hno : ¬ tellF.isSoB k.2.2.2.2 (phiO K cl dn l9) = true := by
            intro z
            rw [if_pos z] at hs2; omega
          clear hs2
          refine z_goto (tgt := 142) (TX7_ran_0.at 26 rfl) rfl ?_
          refine z_iinc_4 (TX7_ran_2.at 1 rfl) (Nat.le_of_ble_eq_true rfl) rfl ?_
          refine z_goto (tgt := 10) (TX7_ran_2.at 2 rfl) rfl ?_
          refine ih (i + 1) K X u dn l9 _ _ _ _ _ _ _ _ _ _ _ _ _ (by omega) (by omega) (by omega) (OSok_w hO (by omega)) hF hG ⟨f9, fun z => ⟨f10.trans (hC.2 z).1, f11.trans (hC.2 z).2⟩⟩ (eT_s eT (by omega) (ordO_no hno)) eg419 eg420 eg421 eg422 eg423 eg424 eg33 eg34 eg36 eg46 eg35 eg38 eg44 eg193 eg194 eg195 eg10 ef32 ef37 ef192 ef417 ef418 ef45 ef47 hfE hgE hH hA

set_option maxHeartbeats 4000000 in
set_option maxRecDepth 100000 in
theorem c_ran {l : Launch} {E : cE} {f : mF} {g j : mA} {Vb : Int → Int} {Tms : Int → Int} {On : Int → Int} {Ot : Int → Int} {Te : Int → Int} {C : Int → Int} {Fr : Int → Int} {To : Int → Int} {Kd : Int → Int} {Lw : Int → Int} {Ln : Int → Int} {Mt : Int → Int} {Tm : Int → Int} {D : Int → Int} {O1 : Int → Int} {O2 : Int → Int} {Φ : Int → Int} {dp : Int} {u : Int} {N : Int} {ag : Int} {K0 K X : Int → Int} {cl : List Cla} {k : Cla} {w0 : OS} {B0 ci x7 x8 x9 x0 dn l9 : Int} {Lt Sk Ss : Int → Int} (eg419 : g 419 = Vb) (eg420 : g 420 = Tms) (eg421 : g 421 = On) (eg422 : g 422 = Ot) (eg423 : g 423 = Te) (eg424 : g 424 = C) (eg33 : g 33 = Fr) (eg34 : g 34 = To) (eg36 : g 36 = Kd) (eg46 : g 46 = Lw) (eg35 : g 35 = Ln) (eg38 : g 38 = Mt) (eg44 : g 44 = Tm) (eg193 : g 193 = D) (eg194 : g 194 = O1) (eg195 : g 195 = O2) (eg10 : g 10 = Φ) (ef32 : f 32 = (K0 76)) (ef37 : f 37 = dp) (ef192 : f 192 = u) (ef417 : f 417 = N) (ef418 : f 418 = ag) (ef45 : f 45 = (K0 79)) (ef47 : f 47 = (K0 80)) (hz : CLz Vb Tms On Ot Te C N ci k) (hg : ClG false k) (hng : ag = 0 → NgC k) (hv : vbR false k.1) (hag : in01 ag) (N4 : N ≤ 400) (ci0 : 0 ≤ ci) (ci1 : ci < 12) (hT : 1 ≤ k.2.2.2.1 ∧ k.2.2.2.1 ≤ 20) (B1 : 0 ≤ B0) (B2 : B0 ≤ 900) (hL0 : LwN E f g (if 0 ≤ K0 80 ∧ K0 80 < K0 79 then Lw (K0 80) else -1) cl) (ew : w0 = (K, X, u, dn, l9)) (hO : OSok K0 B0 (K, X, u, dn, l9)) (hF : FrV K (K0 76) x7 x8 x9 x0 Fr To Ln Kd dp Mt Lt Sk Ss Tm) (hG : LogK D O1 O2 u X K) (hC : FcT Φ ag dn l9 (gone K cl)) : CM l E MX7_ran 8 [.ref (E.1 31), .ref (E.1 447), vI ci] f g j (PI (fun r f' g' j' => ((r = 1 ∧ ∃ w', ordT cl k k.2.2.2.1.toNat w0 = some w' ∧ ORe K0 (B0 + 20) cl ag (K0 76) x7 x8 x9 x0 Fr To Kd Lt Sk Ss w' f' g') ∨ (r = 0 ∧ ordT cl k k.2.2.2.1.toNat w0 = none)) ∧ eqx [37, 192, 354] f f' ∧ eqx [10, 35, 38, 44, 193, 194, 195, 320, 352, 353, 355, 356, 384] g g' ∧ j' = j)) := by
  refine CM.intro [some (.ref (E.1 31)), some (.ref (E.1 447)), some (vI ci), none, none, none, none] (by decide) (Nat.le_of_ble_eq_true rfl) rfl (fun d hd h0 h hH hA => ?_)
  have hfE : eqx [37, 192, 354] f f := eqx.rf
  have hgE : eqx [10, 35, 38, 44, 193, 194, 195, 320, 352, 353, 355, 356, 384] g g := eqx.rf
  refine z_ald_1 (TX7_ran_0.at 0 rfl) ?_
  refine zc_getA (m := 13) (s := 3) (k := 419) (hH.lv (by decide)) (TX7_ran_0.at 1 rfl) fl7_235 hH rfl rfl (by decide) (by decide) ?_
  refine z_ild_2 (TX7_ran_0.at 2 rfl) ?_
  refine zcf_iald (k := 419) (N := 12) (hH.lv (by decide)) (by decide) rfl eg419 (TX7_ran_0.at 3 rfl) hH (by decide) (by omega) (show _ < ((12 : Nat) : Int) by omega) (fun r5 => ?_)
  refine z_ist_3 (TX7_ran_0.at 4 rfl) (Nat.le_of_ble_eq_true rfl) rfl ?_
  refine z_iconst (TX7_ran_0.at 5 rfl) ?_
  refine z_ist_4 (TX7_ran_0.at 6 rfl) (Nat.le_of_ble_eq_true rfl) rfl ?_
  subst ew
  exact lp_ran (by omega) hz hg hng hv hag N4 ci0 ci1 hT B1 B2 hL0 22 0 K X u dn l9 _ _ _ _ _ _ _ _ _ _ _ _ _ (by omega) (by omega) (by omega) (OSok_w hO (by omega)) hF hG hC (by rw [show k.2.2.2.1 - 0 = k.2.2.2.1 by omega]) eg419 eg420 eg421 eg422 eg423 eg424 eg33 eg34 eg36 eg46 eg35 eg38 eg44 eg193 eg194 eg195 eg10 ef32 ef37 ef192 ef417 ef418 ef45 ef47 hfE hgE hH hA

