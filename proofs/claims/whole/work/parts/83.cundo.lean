/-! ===== the class itself: a deed is undone ===== -/
set_option maxHeartbeats 4000000 in
set_option maxRecDepth 100000 in
theorem c_undo {l : Launch} {E : cE} {f : mF} {g j : mA} {Rf : Int → Int} {Ln : Int → Int} {Mt : Int → Int} {Tm : Int → Int} {D : Int → Int} {O1 : Int → Int} {O2 : Int → Int} {st : Int} {dp : Int} {kp : Int}  (eg11 : g 11 = Rf) (eg35 : g 35 = Ln) (eg38 : g 38 = Mt) (eg44 : g 44 = Tm) (eg193 : g 193 = D) (eg194 : g 194 = O1) (eg195 : g 195 = O2) (ef16 : f 16 = st) (ef37 : f 37 = dp) (ef192 : f 192 = kp) (hb : ∀ i, Rf i ≤ 100000) (kp1 : kp ≤ 16) (hdp : z31 dp) (ht : 0 ≤ Tm 0) (hD : 0 < kp → (0 ≤ D (kp - 1) ∧ D (kp - 1) ≤ 3) ∧ (D (kp - 1) = 0 → 0 ≤ O1 (kp - 1) ∧ O1 (kp - 1) ≤ 7) ∧ (D (kp - 1) = 1 → 0 ≤ O1 (kp - 1) ∧ O1 (kp - 1) ≤ 9) ∧ (D (kp - 1) = 2 → (0 ≤ O1 (kp - 1) ∧ O1 (kp - 1) ≤ 9) ∧ 0 ≤ O2 (kp - 1) ∧ O2 (kp - 1) ≤ 9)) : CM l E MX7_undo 1 [.ref (E.1 31)] f g j (PI (fun r f' g' j' => ((kp ≤ 0 ∧ r = -3 ∧ f' 16 = -3 ∧ g' 11 = bumC Rf (-3) ∧ f' 192 = kp ∧ f' 37 = dp ∧ g' 38 = Mt ∧ g' 35 = Ln ∧ g' 44 = Tm) ∨ (0 < kp ∧ r = D (kp - 1) ∧ f' 16 = 0 ∧ g' 11 = Rf ∧ f' 192 = kp - 1 ∧ f' 37 = (if D (kp - 1) = 1 then zxor dp (zshl 1 (O1 (kp - 1))) else dp) ∧ g' 38 = (if D (kp - 1) = 0 then iu Mt (O1 (kp - 1)) (-1) else Mt) ∧ g' 35 = (if D (kp - 1) = 2 then iu (iu Ln (O1 (kp - 1)) (Ln (O2 (kp - 1)))) (O2 (kp - 1)) (Ln (O1 (kp - 1))) else Ln) ∧ g' 44 = (if D (kp - 1) = 3 then iu Tm 0 (Tm 0 - 1) else Tm))) ∧ eqx [16, 37, 192] f f' ∧ eqx [11, 35, 38, 44] g g' ∧ j' = j)) := by
  refine CM.intro [some (.ref (E.1 31)), none, none] (by decide) (Nat.le_of_ble_eq_true rfl) rfl (fun d hd h0 h hH hA => ?_)
  have hfE : eqx [16, 37, 192] f f := eqx.rf
  have hgE : eqx [11, 35, 38, 44] g g := eqx.rf
  refine z_ald_0 (TX7_undo_0.at 0 rfl) ?_
  refine zc_getO (m := 0) (s := 4) (k := 223) (hH.lv (by decide)) (TX7_undo_0.at 1 rfl) fl7_29 hH rfl rfl (by decide) (by decide) ?_
  refine zc_getIE (m := 6) (s := 0) (k := 192) (hH.lv (by decide)) ef192 (TX7_undo_0.at 2 rfl) fl7_99 hH rfl rfl (by decide) (by decide) (fun r4 => ?_)
  refine z_if_gt (tgt := 17) (TX7_undo_0.at 3 rfl) rfl (by omega) (fun c1 => ?_) (fun c1 => ?_)
  · skip
    have hd0 := hD (by omega)
    refine z_ald_0 (TX7_undo_0.at 8 rfl) ?_
    refine zc_getO (m := 0) (s := 4) (k := 223) (hH.lv (by decide)) (TX7_undo_0.at 9 rfl) fl7_29 hH rfl rfl (by decide) (by decide) ?_
    refine z_dup rfl (TX7_undo_0.at 10 rfl) ?_
    refine zc_getIE (m := 6) (s := 0) (k := 192) (hH.lv (by decide)) ef192 (TX7_undo_0.at 11 rfl) fl7_99 hH rfl rfl (by decide) (by decide) (fun r22 => ?_)
    refine z_iconst (TX7_undo_0.at 12 rfl) ?_
    refine z_isub (TX7_undo_0.at 13 rfl) ?_
    refine zc_putI (m := 6) (s := 0) (k := 192) (hH.lv (by decide)) (TX7_undo_0.at 14 rfl) fp7_99 hH hA rfl rfl (by decide) (by decide) (by first | omega | exact b2i_01 _) (fun h f27 e1 e2 hH hA => ?_)
    have ef16 := (e1 16 (by decide)).trans ef16
    have ef37 := (e1 37 (by decide)).trans ef37
    have ef192 := e2
    have hfE := hfE.put e1 (by decide)
    refine z_ald_0 (TX7_undo_0.at 15 rfl) ?_
    refine zc_getO (m := 0) (s := 4) (k := 223) (hH.lv (by decide)) (TX7_undo_0.at 16 rfl) fl7_29 hH rfl rfl (by decide) (by decide) ?_
    refine zc_getA (m := 6) (s := 2) (k := 194) (hH.lv (by decide)) (TX7_undo_0.at 17 rfl) fl7_301 hH rfl rfl (by decide) (by decide) ?_
    refine z_ald_0 (TX7_undo_0.at 18 rfl) ?_
    refine zc_getO (m := 0) (s := 4) (k := 223) (hH.lv (by decide)) (TX7_undo_0.at 19 rfl) fl7_29 hH rfl rfl (by decide) (by decide) ?_
    refine zc_getIE (m := 6) (s := 0) (k := 192) (hH.lv (by decide)) ef192 (TX7_undo_0.at 20 rfl) fl7_99 hH rfl rfl (by decide) (by decide) (fun r41 => ?_)
    refine zcf_iald (k := 194) (N := 16) (hH.lv (by decide)) (by decide) rfl eg194 (TX7_undo_0.at 21 rfl) hH (by decide) (by omega) (show _ < ((16 : Nat) : Int) by omega) (fun r44 => ?_)
    refine z_ist_1 (TX7_undo_0.at 22 rfl) (Nat.le_of_ble_eq_true rfl) rfl ?_
    refine z_ald_0 (TX7_undo_0.at 23 rfl) ?_
    refine zc_getO (m := 0) (s := 4) (k := 223) (hH.lv (by decide)) (TX7_undo_0.at 24 rfl) fl7_29 hH rfl rfl (by decide) (by decide) ?_
    refine zc_getA (m := 6) (s := 1) (k := 193) (hH.lv (by decide)) (TX7_undo_0.at 25 rfl) fl7_302 hH rfl rfl (by decide) (by decide) ?_
    refine z_ald_0 (TX7_undo_0.at 26 rfl) ?_
    refine zc_getO (m := 0) (s := 4) (k := 223) (hH.lv (by decide)) (TX7_undo_0.at 27 rfl) fl7_29 hH rfl rfl (by decide) (by decide) ?_
    refine zc_getIE (m := 6) (s := 0) (k := 192) (hH.lv (by decide)) ef192 (TX7_undo_0.at 28 rfl) fl7_99 hH rfl rfl (by decide) (by decide) (fun r57 => ?_)
    refine zcf_iald (k := 193) (N := 16) (hH.lv (by decide)) (by decide) rfl eg193 (TX7_undo_0.at 29 rfl) hH (by decide) (by omega) (show _ < ((16 : Nat) : Int) by omega) (fun r60 => ?_)
    refine z_ist_2 (TX7_undo_0.at 30 rfl) (Nat.le_of_ble_eq_true rfl) rfl ?_
    refine z_ild_2 (TX7_undo_0.at 31 rfl) ?_
    rcases (show D (kp - 1) = 0 ∨ D (kp - 1) = 1 ∨ D (kp - 1) = 2 ∨ (D (kp - 1) < 0 ∨ 2 < D (kp - 1)) by omega) with sw0 | sw1 | sw2 | sw3
    · refine z_swIn (off := 25) (tgt := 88) (TX7_undo_0.at 32 rfl) (by omega) (by omega) (by omega) (by rw [sw0]; rfl) rfl ?_
      have hd1 := hd0.2.1 (by omega)
      refine z_ald_0 (TX7_undo_0.at 33 rfl) ?_
      refine zc_getO (m := 0) (s := 0) (k := 63) (hH.lv (by decide)) (TX7_undo_0.at 34 rfl) fl7_12 hH rfl rfl (by decide) (by decide) ?_
      refine zc_getA (m := 1) (s := 6) (k := 38) (hH.lv (by decide)) (TX7_undo_0.at 35 rfl) fl7_160 hH rfl rfl (by decide) (by decide) ?_
      refine z_ild_1 (TX7_undo_0.at 36 rfl) ?_
      refine z_iconst (TX7_undo_0.at 37 rfl) ?_
      refine zcf_iast (k := 38) (N := 8) (hH.lv (by decide)) (by decide) rfl (TX7_undo_0.at 38 rfl) hH hA (by decide) (by omega) (show _ < ((8 : Nat) : Int) by omega) (by omega) (fun h g97 e1 e2 hH hA => ?_)
      have eg11 := (e1 11 (by decide)).trans eg11
      have eg35 := (e1 35 (by decide)).trans eg35
      rw [eg38] at e2; have eg38 := e2
      have eg44 := (e1 44 (by decide)).trans eg44
      have eg193 := (e1 193 (by decide)).trans eg193
      have eg194 := (e1 194 (by decide)).trans eg194
      have eg195 := (e1 195 (by decide)).trans eg195
      have hgE := hgE.put e1 (by decide)
      refine z_goto (tgt := 158) (TX7_undo_0.at 39 rfl) rfl ?_
      refine z_ald_0 (TX7_undo_1.at 31 rfl) ?_
      refine z_ild_2 (TX7_undo_1.at 32 rfl) ?_
      refine zc_callI1 (m := 0) (c_answered ef16 (by omega)) (hH.lv (by decide)) (TX7_undo_1.at 33 rfl) c7_106 rfl rfl hH hA (by omega) (Nat.le_of_ble_eq_true rfl) (fun x160 f160 g160 j160 h r160 q160 hH hA => ?_)
      obtain ⟨q160, xf, xg, xj⟩ := q160
      rw [xj] at hH
      have ef37 := (xf 37 (by decide)).trans ef37
      have ef192 := (xf 192 (by decide)).trans ef192
      have hfE := hfE.trans xf (by decide)
      have eg11 := (xg 11 (by decide)).trans eg11
      have eg35 := (xg 35 (by decide)).trans eg35
      have eg38 := (xg 38 (by decide)).trans eg38
      have eg44 := (xg 44 (by decide)).trans eg44
      have eg193 := (xg 193 (by decide)).trans eg193
      have eg194 := (xg 194 (by decide)).trans eg194
      have eg195 := (xg 195 (by decide)).trans eg195
      have hgE := hgE.trans xg (by decide)
      have qL := q160
      have ef16 := qL.2
      have qe := qL.1.symm
      subst qe
      refine zc_iret (TX7_undo_1.at 34 rfl) rfl hH hA (by omega) ?_
      exact ⟨Or.inr ⟨by omega, rfl, ef16, eg11, ef192, (by first | (have hw : D (kp - 1) = 1 := (by omega); rw [if_pos hw]; exact ef37) | (have hw : ¬ D (kp - 1) = 1 := (by omega); rw [if_neg hw]; exact ef37)), (by first | (have hw : D (kp - 1) = 0 := (by omega); rw [if_pos hw]; exact eg38) | (have hw : ¬ D (kp - 1) = 0 := (by omega); rw [if_neg hw]; exact eg38)), (by first | (have hw : D (kp - 1) = 2 := (by omega); rw [if_pos hw]; exact eg35) | (have hw : ¬ D (kp - 1) = 2 := (by omega); rw [if_neg hw]; exact eg35)), (by first | (have hw : D (kp - 1) = 3 := (by omega); rw [if_pos hw]; exact eg44) | (have hw : ¬ D (kp - 1) = 3 := (by omega); rw [if_neg hw]; exact eg44))⟩, hfE, hgE, rfl⟩
    · refine z_swIn (off := 38) (tgt := 101) (TX7_undo_0.at 32 rfl) (by omega) (by omega) (by omega) (by rw [sw1]; rfl) rfl ?_
      have hd1 := hd0.2.2.1 (by omega)
      have hz1 := shl_31 (i := O1 (kp - 1)) (by omega) (by omega)
      have hz2 := zxor_31 hdp hz1
      refine z_ald_0 (TX7_undo_1.at 0 rfl) ?_
      refine zc_getO (m := 0) (s := 0) (k := 63) (hH.lv (by decide)) (TX7_undo_1.at 1 rfl) fl7_12 hH rfl rfl (by decide) (by decide) ?_
      refine z_dup rfl (TX7_undo_1.at 2 rfl) ?_
      refine zc_getIE (m := 1) (s := 5) (k := 37) (hH.lv (by decide)) ef37 (TX7_undo_1.at 3 rfl) fl7_125 hH rfl rfl (by decide) (by decide) (fun r106 => ?_)
      refine z_iconst (TX7_undo_1.at 4 rfl) ?_
      refine z_ild_1 (TX7_undo_1.at 5 rfl) ?_
      refine z_ishl (TX7_undo_1.at 6 rfl) ?_
      refine z_ixor (TX7_undo_1.at 7 rfl) ?_
      refine zc_putI (m := 1) (s := 5) (k := 37) (hH.lv (by decide)) (TX7_undo_1.at 8 rfl) fp7_125 hH hA rfl rfl (by decide) (by decide) (by first | omega | exact b2i_01 _) (fun h f113 e1 e2 hH hA => ?_)
      have ef16 := (e1 16 (by decide)).trans ef16
      have ef37 := e2
      have ef192 := (e1 192 (by decide)).trans ef192
      have hfE := hfE.put e1 (by decide)
      refine z_goto (tgt := 158) (TX7_undo_1.at 9 rfl) rfl ?_
      refine z_ald_0 (TX7_undo_1.at 31 rfl) ?_
      refine z_ild_2 (TX7_undo_1.at 32 rfl) ?_
      refine zc_callI1 (m := 0) (c_answered ef16 (by omega)) (hH.lv (by decide)) (TX7_undo_1.at 33 rfl) c7_106 rfl rfl hH hA (by omega) (Nat.le_of_ble_eq_true rfl) (fun x160 f160 g160 j160 h r160 q160 hH hA => ?_)
      obtain ⟨q160, xf, xg, xj⟩ := q160
      rw [xj] at hH
      have ef37 := (xf 37 (by decide)).trans ef37
      have ef192 := (xf 192 (by decide)).trans ef192
      have hfE := hfE.trans xf (by decide)
      have eg11 := (xg 11 (by decide)).trans eg11
      have eg35 := (xg 35 (by decide)).trans eg35
      have eg38 := (xg 38 (by decide)).trans eg38
      have eg44 := (xg 44 (by decide)).trans eg44
      have eg193 := (xg 193 (by decide)).trans eg193
      have eg194 := (xg 194 (by decide)).trans eg194
      have eg195 := (xg 195 (by decide)).trans eg195
      have hgE := hgE.trans xg (by decide)
      have qL := q160
      have ef16 := qL.2
      have qe := qL.1.symm
      subst qe
      refine zc_iret (TX7_undo_1.at 34 rfl) rfl hH hA (by omega) ?_
      exact ⟨Or.inr ⟨by omega, rfl, ef16, eg11, ef192, (by first | (have hw : D (kp - 1) = 1 := (by omega); rw [if_pos hw]; exact ef37) | (have hw : ¬ D (kp - 1) = 1 := (by omega); rw [if_neg hw]; exact ef37)), (by first | (have hw : D (kp - 1) = 0 := (by omega); rw [if_pos hw]; exact eg38) | (have hw : ¬ D (kp - 1) = 0 := (by omega); rw [if_neg hw]; exact eg38)), (by first | (have hw : D (kp - 1) = 2 := (by omega); rw [if_pos hw]; exact eg35) | (have hw : ¬ D (kp - 1) = 2 := (by omega); rw [if_neg hw]; exact eg35)), (by first | (have hw : D (kp - 1) = 3 := (by omega); rw [if_pos hw]; exact eg44) | (have hw : ¬ D (kp - 1) = 3 := (by omega); rw [if_neg hw]; exact eg44))⟩, hfE, hgE, rfl⟩
    · refine z_swIn (off := 56) (tgt := 119) (TX7_undo_0.at 32 rfl) (by omega) (by omega) (by omega) (by rw [sw2]; rfl) rfl ?_
      have hd1 := hd0.2.2.2 (by omega)
      refine z_ald_0 (TX7_undo_1.at 10 rfl) ?_
      refine zc_getO (m := 0) (s := 0) (k := 63) (hH.lv (by decide)) (TX7_undo_1.at 11 rfl) fl7_12 hH rfl rfl (by decide) (by decide) ?_
      refine z_ild_1 (TX7_undo_1.at 12 rfl) ?_
      refine z_ald_0 (TX7_undo_1.at 13 rfl) ?_
      refine zc_getO (m := 0) (s := 4) (k := 223) (hH.lv (by decide)) (TX7_undo_1.at 14 rfl) fl7_29 hH rfl rfl (by decide) (by decide) ?_
      refine zc_getA (m := 6) (s := 3) (k := 195) (hH.lv (by decide)) (TX7_undo_1.at 15 rfl) fl7_304 hH rfl rfl (by decide) (by decide) ?_
      refine z_ald_0 (TX7_undo_1.at 16 rfl) ?_
      refine zc_getO (m := 0) (s := 4) (k := 223) (hH.lv (by decide)) (TX7_undo_1.at 17 rfl) fl7_29 hH rfl rfl (by decide) (by decide) ?_
      refine zc_getIE (m := 6) (s := 0) (k := 192) (hH.lv (by decide)) ef192 (TX7_undo_1.at 18 rfl) fl7_99 hH rfl rfl (by decide) (by decide) (fun r135 => ?_)
      refine zcf_iald (k := 195) (N := 16) (hH.lv (by decide)) (by decide) rfl eg195 (TX7_undo_1.at 19 rfl) hH (by decide) (by omega) (show _ < ((16 : Nat) : Int) by omega) (fun r138 => ?_)
      refine zc_callV2 (m := 1) (c_swapL eg35 (by omega) (by omega) (by omega) (by omega) (by omega) (by omega)) (hH.lv (by decide)) (TX7_undo_1.at 20 rfl) c7_297 rfl rfl hH hA (by omega) (Nat.le_of_ble_eq_true rfl) (fun f139 g139 j139 h q139 hH hA => ?_)
      obtain ⟨q139, xf, xg, xj⟩ := q139
      rw [xj] at hH
      have ef16 := (xf 16 (by decide)).trans ef16
      have ef37 := (xf 37 (by decide)).trans ef37
      have ef192 := (xf 192 (by decide)).trans ef192
      have hfE := hfE.trans xf (by decide)
      have eg11 := (xg 11 (by decide)).trans eg11
      have eg38 := (xg 38 (by decide)).trans eg38
      have eg44 := (xg 44 (by decide)).trans eg44
      have eg193 := (xg 193 (by decide)).trans eg193
      have eg194 := (xg 194 (by decide)).trans eg194
      have eg195 := (xg 195 (by decide)).trans eg195
      have hgE := hgE.trans xg (by decide)
      have qL := q139
      have eg35 := qL
      refine z_goto (tgt := 158) (TX7_undo_1.at 21 rfl) rfl ?_
      refine z_ald_0 (TX7_undo_1.at 31 rfl) ?_
      refine z_ild_2 (TX7_undo_1.at 32 rfl) ?_
      refine zc_callI1 (m := 0) (c_answered ef16 (by omega)) (hH.lv (by decide)) (TX7_undo_1.at 33 rfl) c7_106 rfl rfl hH hA (by omega) (Nat.le_of_ble_eq_true rfl) (fun x160 f160 g160 j160 h r160 q160 hH hA => ?_)
      obtain ⟨q160, xf, xg, xj⟩ := q160
      rw [xj] at hH
      have ef37 := (xf 37 (by decide)).trans ef37
      have ef192 := (xf 192 (by decide)).trans ef192
      have hfE := hfE.trans xf (by decide)
      have eg11 := (xg 11 (by decide)).trans eg11
      have eg35 := (xg 35 (by decide)).trans eg35
      have eg38 := (xg 38 (by decide)).trans eg38
      have eg44 := (xg 44 (by decide)).trans eg44
      have eg193 := (xg 193 (by decide)).trans eg193
      have eg194 := (xg 194 (by decide)).trans eg194
      have eg195 := (xg 195 (by decide)).trans eg195
      have hgE := hgE.trans xg (by decide)
      have qL := q160
      have ef16 := qL.2
      have qe := qL.1.symm
      subst qe
      refine zc_iret (TX7_undo_1.at 34 rfl) rfl hH hA (by omega) ?_
      exact ⟨Or.inr ⟨by omega, rfl, ef16, eg11, ef192, (by first | (have hw : D (kp - 1) = 1 := (by omega); rw [if_pos hw]; exact ef37) | (have hw : ¬ D (kp - 1) = 1 := (by omega); rw [if_neg hw]; exact ef37)), (by first | (have hw : D (kp - 1) = 0 := (by omega); rw [if_pos hw]; exact eg38) | (have hw : ¬ D (kp - 1) = 0 := (by omega); rw [if_neg hw]; exact eg38)), (by first | (have hw : D (kp - 1) = 2 := (by omega); rw [if_pos hw]; exact eg35) | (have hw : ¬ D (kp - 1) = 2 := (by omega); rw [if_neg hw]; exact eg35)), (by first | (have hw : D (kp - 1) = 3 := (by omega); rw [if_pos hw]; exact eg44) | (have hw : ¬ D (kp - 1) = 3 := (by omega); rw [if_neg hw]; exact eg44))⟩, hfE, hgE, rfl⟩
    · refine z_swOut (tgt := 145) (TX7_undo_0.at 32 rfl) (by omega) sw3 rfl ?_
      refine z_ald_0 (TX7_undo_1.at 22 rfl) ?_
      refine zc_getO (m := 0) (s := 0) (k := 63) (hH.lv (by decide)) (TX7_undo_1.at 23 rfl) fl7_12 hH rfl rfl (by decide) (by decide) ?_
      refine zc_getA (m := 1) (s := 12) (k := 44) (hH.lv (by decide)) (TX7_undo_1.at 24 rfl) fl7_178 hH rfl rfl (by decide) (by decide) ?_
      refine z_iconst (TX7_undo_1.at 25 rfl) ?_
      refine z_dup2 rfl rfl (TX7_undo_1.at 26 rfl) ?_
      refine zcf_iald (k := 44) (N := 3) (hH.lv (by decide)) (by decide) rfl eg44 (TX7_undo_1.at 27 rfl) hH (by decide) (by omega) (show _ < ((3 : Nat) : Int) by omega) (fun r154 => ?_)
      refine z_iconst (TX7_undo_1.at 28 rfl) ?_
      refine z_isub (TX7_undo_1.at 29 rfl) ?_
      refine zcf_iast (k := 44) (N := 3) (hH.lv (by decide)) (by decide) rfl (TX7_undo_1.at 30 rfl) hH hA (by decide) (by omega) (show _ < ((3 : Nat) : Int) by omega) (by omega) (fun h g157 e1 e2 hH hA => ?_)
      have eg11 := (e1 11 (by decide)).trans eg11
      have eg35 := (e1 35 (by decide)).trans eg35
      have eg38 := (e1 38 (by decide)).trans eg38
      rw [eg44] at e2; have eg44 := e2
      have eg193 := (e1 193 (by decide)).trans eg193
      have eg194 := (e1 194 (by decide)).trans eg194
      have eg195 := (e1 195 (by decide)).trans eg195
      have hgE := hgE.put e1 (by decide)
      refine z_ald_0 (TX7_undo_1.at 31 rfl) ?_
      refine z_ild_2 (TX7_undo_1.at 32 rfl) ?_
      refine zc_callI1 (m := 0) (c_answered ef16 (by omega)) (hH.lv (by decide)) (TX7_undo_1.at 33 rfl) c7_106 rfl rfl hH hA (by omega) (Nat.le_of_ble_eq_true rfl) (fun x160 f160 g160 j160 h r160 q160 hH hA => ?_)
      obtain ⟨q160, xf, xg, xj⟩ := q160
      rw [xj] at hH
      have ef37 := (xf 37 (by decide)).trans ef37
      have ef192 := (xf 192 (by decide)).trans ef192
      have hfE := hfE.trans xf (by decide)
      have eg11 := (xg 11 (by decide)).trans eg11
      have eg35 := (xg 35 (by decide)).trans eg35
      have eg38 := (xg 38 (by decide)).trans eg38
      have eg44 := (xg 44 (by decide)).trans eg44
      have eg193 := (xg 193 (by decide)).trans eg193
      have eg194 := (xg 194 (by decide)).trans eg194
      have eg195 := (xg 195 (by decide)).trans eg195
      have hgE := hgE.trans xg (by decide)
      have qL := q160
      have ef16 := qL.2
      have qe := qL.1.symm
      subst qe
      refine zc_iret (TX7_undo_1.at 34 rfl) rfl hH hA (by omega) ?_
      exact ⟨Or.inr ⟨by omega, rfl, ef16, eg11, ef192, (by first | (have hw : D (kp - 1) = 1 := (by omega); rw [if_pos hw]; exact ef37) | (have hw : ¬ D (kp - 1) = 1 := (by omega); rw [if_neg hw]; exact ef37)), (by first | (have hw : D (kp - 1) = 0 := (by omega); rw [if_pos hw]; exact eg38) | (have hw : ¬ D (kp - 1) = 0 := (by omega); rw [if_neg hw]; exact eg38)), (by first | (have hw : D (kp - 1) = 2 := (by omega); rw [if_pos hw]; exact eg35) | (have hw : ¬ D (kp - 1) = 2 := (by omega); rw [if_neg hw]; exact eg35)), (by first | (have hw : D (kp - 1) = 3 := (by omega); rw [if_pos hw]; exact eg44) | (have hw : ¬ D (kp - 1) = 3 := (by omega); rw [if_neg hw]; exact eg44))⟩, hfE, hgE, rfl⟩
  · skip
    refine z_ald_0 (TX7_undo_0.at 4 rfl) ?_
    refine z_bipush (by decide) (TX7_undo_0.at 5 rfl) ?_
    refine zc_callI1 (m := 0) (c_refused eg11 ef16 (by omega) (by omega) (by omega) hb) (hH.lv (by decide)) (TX7_undo_0.at 6 rfl) c7_92 rfl rfl hH hA (by omega) (Nat.le_of_ble_eq_true rfl) (fun x13 f13 g13 j13 h r13 q13 hH hA => ?_)
    obtain ⟨q13, xf, xg, xj⟩ := q13
    rw [xj] at hH
    have ef37 := (xf 37 (by decide)).trans ef37
    have ef192 := (xf 192 (by decide)).trans ef192
    have hfE := hfE.trans xf (by decide)
    have eg35 := (xg 35 (by decide)).trans eg35
    have eg38 := (xg 38 (by decide)).trans eg38
    have eg44 := (xg 44 (by decide)).trans eg44
    have eg193 := (xg 193 (by decide)).trans eg193
    have eg194 := (xg 194 (by decide)).trans eg194
    have eg195 := (xg 195 (by decide)).trans eg195
    have hgE := hgE.trans xg (by decide)
    have qL := q13
    have ef16 := qL.2.1
    have eg11 := qL.2.2
    have qe := qL.1.symm
    subst qe
    refine zc_iret (TX7_undo_0.at 7 rfl) rfl hH hA (by omega) ?_
    exact ⟨Or.inl ⟨by omega, rfl, ef16, eg11, ef192, ef37, eg38, eg35, eg44⟩, hfE, hgE, rfl⟩

