/-! ===== the class: a frame becomes another; laws by number ===== -/
set_option maxHeartbeats 4000000 in
set_option maxRecDepth 100000 in
theorem lp_bec1_2 {l : Launch} {E : cE} {d : Nat} {Pz : Option Value → zH → Prop} {h0 : zH} {f0 : mF} {g0 : mA} {j : mA}  {X Y : Int → Int} (hOK : ∀ q : Int, 0 ≤ q → q < 6 → okR E 4 (Y q)) (kx : ∀ (f : mF) (g : mA) (h : zH), g 46 = cpy X Y 0 0 6 → eqx [] f0 f → eqx [46] g0 g → HC E f g j h → cAg E h0 h → Z l MX1_become d 0 0 Pz 199 [some (.ref (E.1 63)), some (.ref (E.1 95)), some (vI 6)] [] h 0 0)  : ∀ (n : Nat) (i : Int) (f : mF) (g : mA) (h : zH) (i0 : 0 ≤ i) (i1 : i ≤ 6) (i2 : 6 < i + n) (eg46 : g 46 = cpy X Y 0 0 i) (eg78 : g 78 = Y) (hfE : eqx [] f0 f) (hgE : eqx [46] g0 g) (hH : HC E f g j h) (hA : cAg E h0 h), Z l MX1_become d 0 0 Pz 175 [some (.ref (E.1 63)), some (.ref (E.1 95)), some (vI i)] [] h 0 0 := by
  intro n
  induction n with
  | zero => intro i f g h i0 i1 i2 eg46 eg78 hfE hgE hH hA; exfalso; omega
  | succ n ih =>
    intro i f g h i0 i1 i2 eg46 eg78 hfE hgE hH hA
    refine z_ild_2 (TX1_become_2.at 14 rfl) ?_
    refine z_bipush (by decide) (TX1_become_2.at 15 rfl) ?_
    refine z_icmp_ge (tgt := 199) (TX1_become_2.at 16 rfl) rfl (by omega) (by omega) (fun c1 => ?_) (fun c1 => ?_)
    · skip
      obtain rfl : i = 6 := by omega
      exact kx _ _ _ eg46 hfE hgE hH hA
    · skip
      refine z_ald_0 (TX1_become_2.at 17 rfl) ?_
      refine zc_getA (m := 1) (s := 14) (k := 46) (hH.lv (by decide)) (TX1_become_2.at 18 rfl) fl1_57 hH rfl rfl (by decide) (by decide) ?_
      refine z_ild_2 (TX1_become_2.at 19 rfl) ?_
      refine z_ald_1 (TX1_become_2.at 20 rfl) ?_
      refine zc_getA (m := 2) (s := 14) (k := 78) (hH.lv (by decide)) (TX1_become_2.at 21 rfl) fl1_57 hH rfl rfl (by decide) (by decide) ?_
      refine z_ild_2 (TX1_become_2.at 22 rfl) ?_
      refine zcf_aald (k := 78) (N := 6) (hH.lv (by decide)) (by decide) rfl eg78 (TX1_become_2.at 23 rfl) hH (by decide) (by omega) (show _ < ((6 : Nat) : Int) by omega) ?_
      refine zcf_aast (k := 46) (N := 6) (hH.lv (by decide)) (by decide) rfl (TX1_become_2.at 24 rfl) hH hA (by decide) (by omega) (show _ < ((6 : Nat) : Int) by omega) (by exact hOK i i0 (by omega)) (fun h g192 e1 e2 hH hA => ?_)
      rw [eg46] at e2; have eg46 := e2
      have eg78 := (e1 78 (by decide)).trans eg78
      have hgE := hgE.put e1 (by decide)
      refine z_iinc_2 (TX1_become_2.at 25 rfl) (Nat.le_of_ble_eq_true rfl) rfl ?_
      refine z_goto (tgt := 175) (TX1_become_2.at 26 rfl) rfl ?_
      exact ih (i + 1) _ _ _ (by omega) (by omega) (by omega) (by rw [cpy_s (by omega) (by omega) (by omega)] at eg46; exact eg46) eg78 hfE hgE hH hA

set_option maxHeartbeats 4000000 in
set_option maxRecDepth 100000 in
theorem c_bec1_2 {l : Launch} {E : cE} {f : mF} {g j : mA} {X1 : Int → Int} {Y1 : Int → Int} {X2 : Int → Int} {Y2 : Int → Int} {X3 : Int → Int} {Y3 : Int → Int} {X4 : Int → Int} {Y4 : Int → Int} {X6 : Int → Int} {Y6 : Int → Int} {X8 : Int → Int} {Y8 : Int → Int} {X10 : Int → Int} {Y10 : Int → Int} {X11 : Int → Int} {Y11 : Int → Int} {X12 : Int → Int} {Y12 : Int → Int} {X14 : Int → Int} {Y14 : Int → Int} {y0 : Int} {y5 : Int} {y7 : Int} {y9 : Int} {y13 : Int} {y15 : Int}  (eg33 : g 33 = X1) (eg65 : g 65 = Y1) (eg34 : g 34 = X2) (eg66 : g 66 = Y2) (eg35 : g 35 = X3) (eg67 : g 67 = Y3) (eg36 : g 36 = X4) (eg68 : g 68 = Y4) (eg38 : g 38 = X6) (eg70 : g 70 = Y6) (eg40 : g 40 = X8) (eg72 : g 72 = Y8) (eg42 : g 42 = X10) (eg74 : g 74 = Y10) (eg43 : g 43 = X11) (eg75 : g 75 = Y11) (eg44 : g 44 = X12) (eg76 : g 76 = Y12) (eg46 : g 46 = X14) (eg78 : g 78 = Y14) (ef64 : f 64 = y0) (ef69 : f 69 = y5) (ef71 : f 71 = y7) (ef73 : f 73 = y9) (ef77 : f 77 = y13) (ef79 : f 79 = y15) (hOK : ∀ q : Int, 0 ≤ q → q < 6 → okR E 4 (Y14 q)) : CM l E MX1_become 1 [.ref (E.1 63), .ref (E.1 95)] f g j (PV (fun f' g' j' => (f' 32 = y0 ∧ f' 37 = y5 ∧ f' 39 = y7 ∧ f' 41 = y9 ∧ f' 45 = y13 ∧ f' 47 = y15 ∧ g' 33 = cpy X1 Y1 0 0 10 ∧ g' 34 = cpy X2 Y2 0 0 10 ∧ g' 35 = cpy X3 Y3 0 0 10 ∧ g' 36 = cpy X4 Y4 0 0 10 ∧ g' 38 = cpy X6 Y6 0 0 8 ∧ g' 40 = cpy X8 Y8 0 0 3 ∧ g' 42 = cpy X10 Y10 0 0 6 ∧ g' 43 = cpy X11 Y11 0 0 6 ∧ g' 44 = cpy X12 Y12 0 0 3 ∧ g' 46 = cpy X14 Y14 0 0 6) ∧ eqx [32, 37, 39, 41, 45, 47] f f' ∧ eqx [33, 34, 35, 36, 38, 40, 42, 43, 44, 46] g g' ∧ j' = j)) := by
  refine CM.intro [some (.ref (E.1 63)), some (.ref (E.1 95)), none] (by decide) (Nat.le_of_ble_eq_true rfl) rfl (fun d hd h0 h hH hA => ?_)
  have hfE : eqx [32, 37, 39, 41, 45, 47] f f := eqx.rf
  have hgE : eqx [33, 34, 35, 36, 38, 40, 42, 43, 44, 46] g g := eqx.rf
  refine z_ald_0 (TX1_become_0.at 0 rfl) ?_
  refine z_ald_1 (TX1_become_0.at 1 rfl) ?_
  refine zc_getIE (m := 2) (s := 0) (k := 64) (hH.lv (by decide)) ef64 (TX1_become_0.at 2 rfl) fl1_9 hH rfl rfl (by decide) (by decide) (fun r2 => ?_)
  refine zc_putI (m := 1) (s := 0) (k := 32) (hH.lv (by decide)) (TX1_become_0.at 3 rfl) fp1_9 hH hA rfl rfl (by decide) (by decide) (by first | omega | exact b2i_01 _) (fun h f5 e1 e2 hH hA => ?_)
  have ef32 := e2
  have ef64 := (e1 64 (by decide)).trans ef64
  have ef69 := (e1 69 (by decide)).trans ef69
  have ef71 := (e1 71 (by decide)).trans ef71
  have ef73 := (e1 73 (by decide)).trans ef73
  have ef77 := (e1 77 (by decide)).trans ef77
  have ef79 := (e1 79 (by decide)).trans ef79
  have hfE := hfE.put e1 (by decide)
  refine z_ald_1 (TX1_become_0.at 4 rfl) ?_
  refine zc_getA (m := 2) (s := 1) (k := 65) (hH.lv (by decide)) (TX1_become_0.at 5 rfl) fl1_15 hH rfl rfl (by decide) (by decide) ?_
  refine z_iconst (TX1_become_0.at 6 rfl) ?_
  refine z_ald_0 (TX1_become_0.at 7 rfl) ?_
  refine zc_getA (m := 1) (s := 1) (k := 33) (hH.lv (by decide)) (TX1_become_0.at 8 rfl) fl1_15 hH rfl rfl (by decide) (by decide) ?_
  refine z_iconst (TX1_become_0.at 9 rfl) ?_
  refine z_bipush (by decide) (TX1_become_0.at 10 rfl) ?_
  refine zcf_copy (ks := 65) (kd := 33) (Ns := 10) (Nd := 10) (hH.lv (by decide)) (hH.lv (by decide)) (by decide) (by decide) rfl rfl eg65 (TX1_become_0.at 11 rfl) cp1_70 hH hA (by decide) (by decide) (by omega) (by omega) (by omega) (show _ ≤ ((10 : Nat) : Int) by omega) (show _ ≤ ((10 : Nat) : Int) by omega) (by omega) (fun h g20 e1 e2 hH hA => ?_)
  rw [eg33] at e2; have eg33 := e2
  have eg65 := (e1 65 (by decide)).trans eg65
  have eg34 := (e1 34 (by decide)).trans eg34
  have eg66 := (e1 66 (by decide)).trans eg66
  have eg35 := (e1 35 (by decide)).trans eg35
  have eg67 := (e1 67 (by decide)).trans eg67
  have eg36 := (e1 36 (by decide)).trans eg36
  have eg68 := (e1 68 (by decide)).trans eg68
  have eg38 := (e1 38 (by decide)).trans eg38
  have eg70 := (e1 70 (by decide)).trans eg70
  have eg40 := (e1 40 (by decide)).trans eg40
  have eg72 := (e1 72 (by decide)).trans eg72
  have eg42 := (e1 42 (by decide)).trans eg42
  have eg74 := (e1 74 (by decide)).trans eg74
  have eg43 := (e1 43 (by decide)).trans eg43
  have eg75 := (e1 75 (by decide)).trans eg75
  have eg44 := (e1 44 (by decide)).trans eg44
  have eg76 := (e1 76 (by decide)).trans eg76
  have eg46 := (e1 46 (by decide)).trans eg46
  have eg78 := (e1 78 (by decide)).trans eg78
  have hgE := hgE.put e1 (by decide)
  refine z_ald_1 (TX1_become_0.at 12 rfl) ?_
  refine zc_getA (m := 2) (s := 2) (k := 66) (hH.lv (by decide)) (TX1_become_0.at 13 rfl) fl1_19 hH rfl rfl (by decide) (by decide) ?_
  refine z_iconst (TX1_become_0.at 14 rfl) ?_
  refine z_ald_0 (TX1_become_0.at 15 rfl) ?_
  refine zc_getA (m := 1) (s := 2) (k := 34) (hH.lv (by decide)) (TX1_become_0.at 16 rfl) fl1_19 hH rfl rfl (by decide) (by decide) ?_
  refine z_iconst (TX1_become_0.at 17 rfl) ?_
  refine z_bipush (by decide) (TX1_become_0.at 18 rfl) ?_
  refine zcf_copy (ks := 66) (kd := 34) (Ns := 10) (Nd := 10) (hH.lv (by decide)) (hH.lv (by decide)) (by decide) (by decide) rfl rfl eg66 (TX1_become_0.at 19 rfl) cp1_70 hH hA (by decide) (by decide) (by omega) (by omega) (by omega) (show _ ≤ ((10 : Nat) : Int) by omega) (show _ ≤ ((10 : Nat) : Int) by omega) (by omega) (fun h g35 e1 e2 hH hA => ?_)
  have eg33 := (e1 33 (by decide)).trans eg33
  have eg65 := (e1 65 (by decide)).trans eg65
  rw [eg34] at e2; have eg34 := e2
  have eg66 := (e1 66 (by decide)).trans eg66
  have eg35 := (e1 35 (by decide)).trans eg35
  have eg67 := (e1 67 (by decide)).trans eg67
  have eg36 := (e1 36 (by decide)).trans eg36
  have eg68 := (e1 68 (by decide)).trans eg68
  have eg38 := (e1 38 (by decide)).trans eg38
  have eg70 := (e1 70 (by decide)).trans eg70
  have eg40 := (e1 40 (by decide)).trans eg40
  have eg72 := (e1 72 (by decide)).trans eg72
  have eg42 := (e1 42 (by decide)).trans eg42
  have eg74 := (e1 74 (by decide)).trans eg74
  have eg43 := (e1 43 (by decide)).trans eg43
  have eg75 := (e1 75 (by decide)).trans eg75
  have eg44 := (e1 44 (by decide)).trans eg44
  have eg76 := (e1 76 (by decide)).trans eg76
  have eg46 := (e1 46 (by decide)).trans eg46
  have eg78 := (e1 78 (by decide)).trans eg78
  have hgE := hgE.put e1 (by decide)
  refine z_ald_1 (TX1_become_0.at 20 rfl) ?_
  refine zc_getA (m := 2) (s := 3) (k := 67) (hH.lv (by decide)) (TX1_become_0.at 21 rfl) fl1_22 hH rfl rfl (by decide) (by decide) ?_
  refine z_iconst (TX1_become_0.at 22 rfl) ?_
  refine z_ald_0 (TX1_become_0.at 23 rfl) ?_
  refine zc_getA (m := 1) (s := 3) (k := 35) (hH.lv (by decide)) (TX1_become_0.at 24 rfl) fl1_22 hH rfl rfl (by decide) (by decide) ?_
  refine z_iconst (TX1_become_0.at 25 rfl) ?_
  refine z_bipush (by decide) (TX1_become_0.at 26 rfl) ?_
  refine zcf_copy (ks := 67) (kd := 35) (Ns := 10) (Nd := 10) (hH.lv (by decide)) (hH.lv (by decide)) (by decide) (by decide) rfl rfl eg67 (TX1_become_0.at 27 rfl) cp1_70 hH hA (by decide) (by decide) (by omega) (by omega) (by omega) (show _ ≤ ((10 : Nat) : Int) by omega) (show _ ≤ ((10 : Nat) : Int) by omega) (by omega) (fun h g50 e1 e2 hH hA => ?_)
  have eg33 := (e1 33 (by decide)).trans eg33
  have eg65 := (e1 65 (by decide)).trans eg65
  have eg34 := (e1 34 (by decide)).trans eg34
  have eg66 := (e1 66 (by decide)).trans eg66
  rw [eg35] at e2; have eg35 := e2
  have eg67 := (e1 67 (by decide)).trans eg67
  have eg36 := (e1 36 (by decide)).trans eg36
  have eg68 := (e1 68 (by decide)).trans eg68
  have eg38 := (e1 38 (by decide)).trans eg38
  have eg70 := (e1 70 (by decide)).trans eg70
  have eg40 := (e1 40 (by decide)).trans eg40
  have eg72 := (e1 72 (by decide)).trans eg72
  have eg42 := (e1 42 (by decide)).trans eg42
  have eg74 := (e1 74 (by decide)).trans eg74
  have eg43 := (e1 43 (by decide)).trans eg43
  have eg75 := (e1 75 (by decide)).trans eg75
  have eg44 := (e1 44 (by decide)).trans eg44
  have eg76 := (e1 76 (by decide)).trans eg76
  have eg46 := (e1 46 (by decide)).trans eg46
  have eg78 := (e1 78 (by decide)).trans eg78
  have hgE := hgE.put e1 (by decide)
  refine z_ald_1 (TX1_become_0.at 28 rfl) ?_
  refine zc_getA (m := 2) (s := 4) (k := 68) (hH.lv (by decide)) (TX1_become_0.at 29 rfl) fl1_25 hH rfl rfl (by decide) (by decide) ?_
  refine z_iconst (TX1_become_0.at 30 rfl) ?_
  refine z_ald_0 (TX1_become_0.at 31 rfl) ?_
  refine zc_getA (m := 1) (s := 4) (k := 36) (hH.lv (by decide)) (TX1_become_0.at 32 rfl) fl1_25 hH rfl rfl (by decide) (by decide) ?_
  refine z_iconst (TX1_become_0.at 33 rfl) ?_
  refine z_bipush (by decide) (TX1_become_0.at 34 rfl) ?_
  refine zcf_copy (ks := 68) (kd := 36) (Ns := 10) (Nd := 10) (hH.lv (by decide)) (hH.lv (by decide)) (by decide) (by decide) rfl rfl eg68 (TX1_become_0.at 35 rfl) cp1_70 hH hA (by decide) (by decide) (by omega) (by omega) (by omega) (show _ ≤ ((10 : Nat) : Int) by omega) (show _ ≤ ((10 : Nat) : Int) by omega) (by omega) (fun h g65 e1 e2 hH hA => ?_)
  have eg33 := (e1 33 (by decide)).trans eg33
  have eg65 := (e1 65 (by decide)).trans eg65
  have eg34 := (e1 34 (by decide)).trans eg34
  have eg66 := (e1 66 (by decide)).trans eg66
  have eg35 := (e1 35 (by decide)).trans eg35
  have eg67 := (e1 67 (by decide)).trans eg67
  rw [eg36] at e2; have eg36 := e2
  have eg68 := (e1 68 (by decide)).trans eg68
  have eg38 := (e1 38 (by decide)).trans eg38
  have eg70 := (e1 70 (by decide)).trans eg70
  have eg40 := (e1 40 (by decide)).trans eg40
  have eg72 := (e1 72 (by decide)).trans eg72
  have eg42 := (e1 42 (by decide)).trans eg42
  have eg74 := (e1 74 (by decide)).trans eg74
  have eg43 := (e1 43 (by decide)).trans eg43
  have eg75 := (e1 75 (by decide)).trans eg75
  have eg44 := (e1 44 (by decide)).trans eg44
  have eg76 := (e1 76 (by decide)).trans eg76
  have eg46 := (e1 46 (by decide)).trans eg46
  have eg78 := (e1 78 (by decide)).trans eg78
  have hgE := hgE.put e1 (by decide)
  refine z_ald_0 (TX1_become_0.at 36 rfl) ?_
  refine z_ald_1 (TX1_become_0.at 37 rfl) ?_
  refine zc_getIE (m := 2) (s := 5) (k := 69) (hH.lv (by decide)) ef69 (TX1_become_0.at 38 rfl) fl1_28 hH rfl rfl (by decide) (by decide) (fun r70 => ?_)
  refine zc_putI (m := 1) (s := 5) (k := 37) (hH.lv (by decide)) (TX1_become_0.at 39 rfl) fp1_28 hH hA rfl rfl (by decide) (by decide) (by first | omega | exact b2i_01 _) (fun h f73 e1 e2 hH hA => ?_)
  have ef32 := (e1 32 (by decide)).trans ef32
  have ef37 := e2
  have ef64 := (e1 64 (by decide)).trans ef64
  have ef69 := (e1 69 (by decide)).trans ef69
  have ef71 := (e1 71 (by decide)).trans ef71
  have ef73 := (e1 73 (by decide)).trans ef73
  have ef77 := (e1 77 (by decide)).trans ef77
  have ef79 := (e1 79 (by decide)).trans ef79
  have hfE := hfE.put e1 (by decide)
  refine z_ald_1 (TX1_become_1.at 0 rfl) ?_
  refine zc_getA (m := 2) (s := 6) (k := 70) (hH.lv (by decide)) (TX1_become_1.at 1 rfl) fl1_31 hH rfl rfl (by decide) (by decide) ?_
  refine z_iconst (TX1_become_1.at 2 rfl) ?_
  refine z_ald_0 (TX1_become_1.at 3 rfl) ?_
  refine zc_getA (m := 1) (s := 6) (k := 38) (hH.lv (by decide)) (TX1_become_1.at 4 rfl) fl1_31 hH rfl rfl (by decide) (by decide) ?_
  refine z_iconst (TX1_become_1.at 5 rfl) ?_
  refine z_bipush (by decide) (TX1_become_1.at 6 rfl) ?_
  refine zcf_copy (ks := 70) (kd := 38) (Ns := 8) (Nd := 8) (hH.lv (by decide)) (hH.lv (by decide)) (by decide) (by decide) rfl rfl eg70 (TX1_become_1.at 7 rfl) cp1_70 hH hA (by decide) (by decide) (by omega) (by omega) (by omega) (show _ ≤ ((8 : Nat) : Int) by omega) (show _ ≤ ((8 : Nat) : Int) by omega) (by omega) (fun h g88 e1 e2 hH hA => ?_)
  have eg33 := (e1 33 (by decide)).trans eg33
  have eg65 := (e1 65 (by decide)).trans eg65
  have eg34 := (e1 34 (by decide)).trans eg34
  have eg66 := (e1 66 (by decide)).trans eg66
  have eg35 := (e1 35 (by decide)).trans eg35
  have eg67 := (e1 67 (by decide)).trans eg67
  have eg36 := (e1 36 (by decide)).trans eg36
  have eg68 := (e1 68 (by decide)).trans eg68
  rw [eg38] at e2; have eg38 := e2
  have eg70 := (e1 70 (by decide)).trans eg70
  have eg40 := (e1 40 (by decide)).trans eg40
  have eg72 := (e1 72 (by decide)).trans eg72
  have eg42 := (e1 42 (by decide)).trans eg42
  have eg74 := (e1 74 (by decide)).trans eg74
  have eg43 := (e1 43 (by decide)).trans eg43
  have eg75 := (e1 75 (by decide)).trans eg75
  have eg44 := (e1 44 (by decide)).trans eg44
  have eg76 := (e1 76 (by decide)).trans eg76
  have eg46 := (e1 46 (by decide)).trans eg46
  have eg78 := (e1 78 (by decide)).trans eg78
  have hgE := hgE.put e1 (by decide)
  refine z_ald_0 (TX1_become_1.at 8 rfl) ?_
  refine z_ald_1 (TX1_become_1.at 9 rfl) ?_
  refine zc_getIE (m := 2) (s := 7) (k := 71) (hH.lv (by decide)) ef71 (TX1_become_1.at 10 rfl) fl1_34 hH rfl rfl (by decide) (by decide) (fun r93 => ?_)
  refine zc_putI (m := 1) (s := 7) (k := 39) (hH.lv (by decide)) (TX1_become_1.at 11 rfl) fp1_34 hH hA rfl rfl (by decide) (by decide) (by first | omega | exact b2i_01 _) (fun h f96 e1 e2 hH hA => ?_)
  have ef32 := (e1 32 (by decide)).trans ef32
  have ef37 := (e1 37 (by decide)).trans ef37
  have ef39 := e2
  have ef64 := (e1 64 (by decide)).trans ef64
  have ef69 := (e1 69 (by decide)).trans ef69
  have ef71 := (e1 71 (by decide)).trans ef71
  have ef73 := (e1 73 (by decide)).trans ef73
  have ef77 := (e1 77 (by decide)).trans ef77
  have ef79 := (e1 79 (by decide)).trans ef79
  have hfE := hfE.put e1 (by decide)
  refine z_ald_1 (TX1_become_1.at 12 rfl) ?_
  refine zc_getA (m := 2) (s := 8) (k := 72) (hH.lv (by decide)) (TX1_become_1.at 13 rfl) fl1_37 hH rfl rfl (by decide) (by decide) ?_
  refine z_iconst (TX1_become_1.at 14 rfl) ?_
  refine z_ald_0 (TX1_become_1.at 15 rfl) ?_
  refine zc_getA (m := 1) (s := 8) (k := 40) (hH.lv (by decide)) (TX1_become_1.at 16 rfl) fl1_37 hH rfl rfl (by decide) (by decide) ?_
  refine z_iconst (TX1_become_1.at 17 rfl) ?_
  refine z_iconst (TX1_become_1.at 18 rfl) ?_
  refine zcf_copy (ks := 72) (kd := 40) (Ns := 3) (Nd := 3) (hH.lv (by decide)) (hH.lv (by decide)) (by decide) (by decide) rfl rfl eg72 (TX1_become_1.at 19 rfl) cp1_70 hH hA (by decide) (by decide) (by omega) (by omega) (by omega) (show _ ≤ ((3 : Nat) : Int) by omega) (show _ ≤ ((3 : Nat) : Int) by omega) (by omega) (fun h g110 e1 e2 hH hA => ?_)
  have eg33 := (e1 33 (by decide)).trans eg33
  have eg65 := (e1 65 (by decide)).trans eg65
  have eg34 := (e1 34 (by decide)).trans eg34
  have eg66 := (e1 66 (by decide)).trans eg66
  have eg35 := (e1 35 (by decide)).trans eg35
  have eg67 := (e1 67 (by decide)).trans eg67
  have eg36 := (e1 36 (by decide)).trans eg36
  have eg68 := (e1 68 (by decide)).trans eg68
  have eg38 := (e1 38 (by decide)).trans eg38
  have eg70 := (e1 70 (by decide)).trans eg70
  rw [eg40] at e2; have eg40 := e2
  have eg72 := (e1 72 (by decide)).trans eg72
  have eg42 := (e1 42 (by decide)).trans eg42
  have eg74 := (e1 74 (by decide)).trans eg74
  have eg43 := (e1 43 (by decide)).trans eg43
  have eg75 := (e1 75 (by decide)).trans eg75
  have eg44 := (e1 44 (by decide)).trans eg44
  have eg76 := (e1 76 (by decide)).trans eg76
  have eg46 := (e1 46 (by decide)).trans eg46
  have eg78 := (e1 78 (by decide)).trans eg78
  have hgE := hgE.put e1 (by decide)
  refine z_ald_0 (TX1_become_1.at 20 rfl) ?_
  refine z_ald_1 (TX1_become_1.at 21 rfl) ?_
  refine zc_getIE (m := 2) (s := 9) (k := 73) (hH.lv (by decide)) ef73 (TX1_become_1.at 22 rfl) fl1_40 hH rfl rfl (by decide) (by decide) (fun r115 => ?_)
  refine zc_putI (m := 1) (s := 9) (k := 41) (hH.lv (by decide)) (TX1_become_1.at 23 rfl) fp1_40 hH hA rfl rfl (by decide) (by decide) (by first | omega | exact b2i_01 _) (fun h f118 e1 e2 hH hA => ?_)
  have ef32 := (e1 32 (by decide)).trans ef32
  have ef37 := (e1 37 (by decide)).trans ef37
  have ef39 := (e1 39 (by decide)).trans ef39
  have ef41 := e2
  have ef64 := (e1 64 (by decide)).trans ef64
  have ef69 := (e1 69 (by decide)).trans ef69
  have ef71 := (e1 71 (by decide)).trans ef71
  have ef73 := (e1 73 (by decide)).trans ef73
  have ef77 := (e1 77 (by decide)).trans ef77
  have ef79 := (e1 79 (by decide)).trans ef79
  have hfE := hfE.put e1 (by decide)
  refine z_ald_1 (TX1_become_1.at 24 rfl) ?_
  refine zc_getA (m := 2) (s := 10) (k := 74) (hH.lv (by decide)) (TX1_become_1.at 25 rfl) fl1_43 hH rfl rfl (by decide) (by decide) ?_
  refine z_iconst (TX1_become_1.at 26 rfl) ?_
  refine z_ald_0 (TX1_become_1.at 27 rfl) ?_
  refine zc_getA (m := 1) (s := 10) (k := 42) (hH.lv (by decide)) (TX1_become_1.at 28 rfl) fl1_43 hH rfl rfl (by decide) (by decide) ?_
  refine z_iconst (TX1_become_1.at 29 rfl) ?_
  refine z_bipush (by decide) (TX1_become_1.at 30 rfl) ?_
  refine zcf_copy (ks := 74) (kd := 42) (Ns := 6) (Nd := 6) (hH.lv (by decide)) (hH.lv (by decide)) (by decide) (by decide) rfl rfl eg74 (TX1_become_1.at 31 rfl) cp1_70 hH hA (by decide) (by decide) (by omega) (by omega) (by omega) (show _ ≤ ((6 : Nat) : Int) by omega) (show _ ≤ ((6 : Nat) : Int) by omega) (by omega) (fun h g133 e1 e2 hH hA => ?_)
  have eg33 := (e1 33 (by decide)).trans eg33
  have eg65 := (e1 65 (by decide)).trans eg65
  have eg34 := (e1 34 (by decide)).trans eg34
  have eg66 := (e1 66 (by decide)).trans eg66
  have eg35 := (e1 35 (by decide)).trans eg35
  have eg67 := (e1 67 (by decide)).trans eg67
  have eg36 := (e1 36 (by decide)).trans eg36
  have eg68 := (e1 68 (by decide)).trans eg68
  have eg38 := (e1 38 (by decide)).trans eg38
  have eg70 := (e1 70 (by decide)).trans eg70
  have eg40 := (e1 40 (by decide)).trans eg40
  have eg72 := (e1 72 (by decide)).trans eg72
  rw [eg42] at e2; have eg42 := e2
  have eg74 := (e1 74 (by decide)).trans eg74
  have eg43 := (e1 43 (by decide)).trans eg43
  have eg75 := (e1 75 (by decide)).trans eg75
  have eg44 := (e1 44 (by decide)).trans eg44
  have eg76 := (e1 76 (by decide)).trans eg76
  have eg46 := (e1 46 (by decide)).trans eg46
  have eg78 := (e1 78 (by decide)).trans eg78
  have hgE := hgE.put e1 (by decide)
  refine z_ald_1 (TX1_become_1.at 32 rfl) ?_
  refine zc_getA (m := 2) (s := 11) (k := 75) (hH.lv (by decide)) (TX1_become_1.at 33 rfl) fl1_46 hH rfl rfl (by decide) (by decide) ?_
  refine z_iconst (TX1_become_1.at 34 rfl) ?_
  refine z_ald_0 (TX1_become_1.at 35 rfl) ?_
  refine zc_getA (m := 1) (s := 11) (k := 43) (hH.lv (by decide)) (TX1_become_1.at 36 rfl) fl1_46 hH rfl rfl (by decide) (by decide) ?_
  refine z_iconst (TX1_become_1.at 37 rfl) ?_
  refine z_bipush (by decide) (TX1_become_1.at 38 rfl) ?_
  refine zcf_copy (ks := 75) (kd := 43) (Ns := 6) (Nd := 6) (hH.lv (by decide)) (hH.lv (by decide)) (by decide) (by decide) rfl rfl eg75 (TX1_become_1.at 39 rfl) cp1_70 hH hA (by decide) (by decide) (by omega) (by omega) (by omega) (show _ ≤ ((6 : Nat) : Int) by omega) (show _ ≤ ((6 : Nat) : Int) by omega) (by omega) (fun h g148 e1 e2 hH hA => ?_)
  have eg33 := (e1 33 (by decide)).trans eg33
  have eg65 := (e1 65 (by decide)).trans eg65
  have eg34 := (e1 34 (by decide)).trans eg34
  have eg66 := (e1 66 (by decide)).trans eg66
  have eg35 := (e1 35 (by decide)).trans eg35
  have eg67 := (e1 67 (by decide)).trans eg67
  have eg36 := (e1 36 (by decide)).trans eg36
  have eg68 := (e1 68 (by decide)).trans eg68
  have eg38 := (e1 38 (by decide)).trans eg38
  have eg70 := (e1 70 (by decide)).trans eg70
  have eg40 := (e1 40 (by decide)).trans eg40
  have eg72 := (e1 72 (by decide)).trans eg72
  have eg42 := (e1 42 (by decide)).trans eg42
  have eg74 := (e1 74 (by decide)).trans eg74
  rw [eg43] at e2; have eg43 := e2
  have eg75 := (e1 75 (by decide)).trans eg75
  have eg44 := (e1 44 (by decide)).trans eg44
  have eg76 := (e1 76 (by decide)).trans eg76
  have eg46 := (e1 46 (by decide)).trans eg46
  have eg78 := (e1 78 (by decide)).trans eg78
  have hgE := hgE.put e1 (by decide)
  refine z_ald_1 (TX1_become_2.at 0 rfl) ?_
  refine zc_getA (m := 2) (s := 12) (k := 76) (hH.lv (by decide)) (TX1_become_2.at 1 rfl) fl1_49 hH rfl rfl (by decide) (by decide) ?_
  refine z_iconst (TX1_become_2.at 2 rfl) ?_
  refine z_ald_0 (TX1_become_2.at 3 rfl) ?_
  refine zc_getA (m := 1) (s := 12) (k := 44) (hH.lv (by decide)) (TX1_become_2.at 4 rfl) fl1_49 hH rfl rfl (by decide) (by decide) ?_
  refine z_iconst (TX1_become_2.at 5 rfl) ?_
  refine z_iconst (TX1_become_2.at 6 rfl) ?_
  refine zcf_copy (ks := 76) (kd := 44) (Ns := 3) (Nd := 3) (hH.lv (by decide)) (hH.lv (by decide)) (by decide) (by decide) rfl rfl eg76 (TX1_become_2.at 7 rfl) cp1_70 hH hA (by decide) (by decide) (by omega) (by omega) (by omega) (show _ ≤ ((3 : Nat) : Int) by omega) (show _ ≤ ((3 : Nat) : Int) by omega) (by omega) (fun h g162 e1 e2 hH hA => ?_)
  have eg33 := (e1 33 (by decide)).trans eg33
  have eg65 := (e1 65 (by decide)).trans eg65
  have eg34 := (e1 34 (by decide)).trans eg34
  have eg66 := (e1 66 (by decide)).trans eg66
  have eg35 := (e1 35 (by decide)).trans eg35
  have eg67 := (e1 67 (by decide)).trans eg67
  have eg36 := (e1 36 (by decide)).trans eg36
  have eg68 := (e1 68 (by decide)).trans eg68
  have eg38 := (e1 38 (by decide)).trans eg38
  have eg70 := (e1 70 (by decide)).trans eg70
  have eg40 := (e1 40 (by decide)).trans eg40
  have eg72 := (e1 72 (by decide)).trans eg72
  have eg42 := (e1 42 (by decide)).trans eg42
  have eg74 := (e1 74 (by decide)).trans eg74
  have eg43 := (e1 43 (by decide)).trans eg43
  have eg75 := (e1 75 (by decide)).trans eg75
  rw [eg44] at e2; have eg44 := e2
  have eg76 := (e1 76 (by decide)).trans eg76
  have eg46 := (e1 46 (by decide)).trans eg46
  have eg78 := (e1 78 (by decide)).trans eg78
  have hgE := hgE.put e1 (by decide)
  refine z_ald_0 (TX1_become_2.at 8 rfl) ?_
  refine z_ald_1 (TX1_become_2.at 9 rfl) ?_
  refine zc_getIE (m := 2) (s := 13) (k := 77) (hH.lv (by decide)) ef77 (TX1_become_2.at 10 rfl) fl1_52 hH rfl rfl (by decide) (by decide) (fun r167 => ?_)
  refine zc_putI (m := 1) (s := 13) (k := 45) (hH.lv (by decide)) (TX1_become_2.at 11 rfl) fp1_52 hH hA rfl rfl (by decide) (by decide) (by first | omega | exact b2i_01 _) (fun h f170 e1 e2 hH hA => ?_)
  have ef32 := (e1 32 (by decide)).trans ef32
  have ef37 := (e1 37 (by decide)).trans ef37
  have ef39 := (e1 39 (by decide)).trans ef39
  have ef41 := (e1 41 (by decide)).trans ef41
  have ef45 := e2
  have ef64 := (e1 64 (by decide)).trans ef64
  have ef69 := (e1 69 (by decide)).trans ef69
  have ef71 := (e1 71 (by decide)).trans ef71
  have ef73 := (e1 73 (by decide)).trans ef73
  have ef77 := (e1 77 (by decide)).trans ef77
  have ef79 := (e1 79 (by decide)).trans ef79
  have hfE := hfE.put e1 (by decide)
  refine z_iconst (TX1_become_2.at 12 rfl) ?_
  refine z_ist_2 (TX1_become_2.at 13 rfl) (Nat.le_of_ble_eq_true rfl) rfl ?_
  refine lp_bec1_2  hOK (fun f175 g175 h eg46 xf xg hH hA => ?_) 7 0 _ _ _ (by omega) (by omega) (by omega) (eg46.trans (cpy_0 _ _ _ _).symm) eg78 eqx.rf eqx.rf hH hA
  have ef32 := (xf 32 (by decide)).trans ef32
  have ef37 := (xf 37 (by decide)).trans ef37
  have ef39 := (xf 39 (by decide)).trans ef39
  have ef41 := (xf 41 (by decide)).trans ef41
  have ef45 := (xf 45 (by decide)).trans ef45
  have ef64 := (xf 64 (by decide)).trans ef64
  have ef69 := (xf 69 (by decide)).trans ef69
  have ef71 := (xf 71 (by decide)).trans ef71
  have ef73 := (xf 73 (by decide)).trans ef73
  have ef77 := (xf 77 (by decide)).trans ef77
  have ef79 := (xf 79 (by decide)).trans ef79
  have hfE := hfE.trans xf (by decide)
  have eg33 := (xg 33 (by decide)).trans eg33
  have eg65 := (xg 65 (by decide)).trans eg65
  have eg34 := (xg 34 (by decide)).trans eg34
  have eg66 := (xg 66 (by decide)).trans eg66
  have eg35 := (xg 35 (by decide)).trans eg35
  have eg67 := (xg 67 (by decide)).trans eg67
  have eg36 := (xg 36 (by decide)).trans eg36
  have eg68 := (xg 68 (by decide)).trans eg68
  have eg38 := (xg 38 (by decide)).trans eg38
  have eg70 := (xg 70 (by decide)).trans eg70
  have eg40 := (xg 40 (by decide)).trans eg40
  have eg72 := (xg 72 (by decide)).trans eg72
  have eg42 := (xg 42 (by decide)).trans eg42
  have eg74 := (xg 74 (by decide)).trans eg74
  have eg43 := (xg 43 (by decide)).trans eg43
  have eg75 := (xg 75 (by decide)).trans eg75
  have eg44 := (xg 44 (by decide)).trans eg44
  have eg76 := (xg 76 (by decide)).trans eg76
  have eg78 := (xg 78 (by decide)).trans eg78
  have hgE := hgE.trans xg (by decide)
  refine z_ald_0 (TX1_become_2.at 27 rfl) ?_
  refine z_ald_1 (TX1_become_2.at 28 rfl) ?_
  refine zc_getIE (m := 2) (s := 15) (k := 79) (hH.lv (by decide)) ef79 (TX1_become_2.at 29 rfl) fl1_61 hH rfl rfl (by decide) (by decide) (fun r201 => ?_)
  refine zc_putI (m := 1) (s := 15) (k := 47) (hH.lv (by decide)) (TX1_become_2.at 30 rfl) fp1_61 hH hA rfl rfl (by decide) (by decide) (by first | omega | exact b2i_01 _) (fun h f204 e1 e2 hH hA => ?_)
  have ef32 := (e1 32 (by decide)).trans ef32
  have ef37 := (e1 37 (by decide)).trans ef37
  have ef39 := (e1 39 (by decide)).trans ef39
  have ef41 := (e1 41 (by decide)).trans ef41
  have ef45 := (e1 45 (by decide)).trans ef45
  have ef47 := e2
  have ef64 := (e1 64 (by decide)).trans ef64
  have ef69 := (e1 69 (by decide)).trans ef69
  have ef71 := (e1 71 (by decide)).trans ef71
  have ef73 := (e1 73 (by decide)).trans ef73
  have ef77 := (e1 77 (by decide)).trans ef77
  have ef79 := (e1 79 (by decide)).trans ef79
  have hfE := hfE.put e1 (by decide)
  refine zc_vret (TX1_become_2.at 31 rfl) rfl hH hA ?_
  exact ⟨⟨ef32, ef37, ef39, ef41, ef45, ef47, eg33, eg34, eg35, eg36, eg38, eg40, eg42, eg43, eg44, eg46⟩, hfE, hgE, rfl⟩

set_option maxHeartbeats 4000000 in
set_option maxRecDepth 100000 in
theorem lp_bec2_1 {l : Launch} {E : cE} {d : Nat} {Pz : Option Value → zH → Prop} {h0 : zH} {f0 : mF} {g0 : mA} {j : mA}  {X Y : Int → Int} (hOK : ∀ q : Int, 0 ≤ q → q < 6 → okR E 4 (Y q)) (kx : ∀ (f : mF) (g : mA) (h : zH), g 78 = cpy X Y 0 0 6 → eqx [] f0 f → eqx [78] g0 g → HC E f g j h → cAg E h0 h → Z l MX1_become d 0 0 Pz 199 [some (.ref (E.1 95)), some (.ref (E.1 63)), some (vI 6)] [] h 0 0)  : ∀ (n : Nat) (i : Int) (f : mF) (g : mA) (h : zH) (i0 : 0 ≤ i) (i1 : i ≤ 6) (i2 : 6 < i + n) (eg78 : g 78 = cpy X Y 0 0 i) (eg46 : g 46 = Y) (hfE : eqx [] f0 f) (hgE : eqx [78] g0 g) (hH : HC E f g j h) (hA : cAg E h0 h), Z l MX1_become d 0 0 Pz 175 [some (.ref (E.1 95)), some (.ref (E.1 63)), some (vI i)] [] h 0 0 := by
  intro n
  induction n with
  | zero => intro i f g h i0 i1 i2 eg78 eg46 hfE hgE hH hA; exfalso; omega
  | succ n ih =>
    intro i f g h i0 i1 i2 eg78 eg46 hfE hgE hH hA
    refine z_ild_2 (TX1_become_2.at 14 rfl) ?_
    refine z_bipush (by decide) (TX1_become_2.at 15 rfl) ?_
    refine z_icmp_ge (tgt := 199) (TX1_become_2.at 16 rfl) rfl (by omega) (by omega) (fun c1 => ?_) (fun c1 => ?_)
    · skip
      obtain rfl : i = 6 := by omega
      exact kx _ _ _ eg78 hfE hgE hH hA
    · skip
      refine z_ald_0 (TX1_become_2.at 17 rfl) ?_
      refine zc_getA (m := 2) (s := 14) (k := 78) (hH.lv (by decide)) (TX1_become_2.at 18 rfl) fl1_57 hH rfl rfl (by decide) (by decide) ?_
      refine z_ild_2 (TX1_become_2.at 19 rfl) ?_
      refine z_ald_1 (TX1_become_2.at 20 rfl) ?_
      refine zc_getA (m := 1) (s := 14) (k := 46) (hH.lv (by decide)) (TX1_become_2.at 21 rfl) fl1_57 hH rfl rfl (by decide) (by decide) ?_
      refine z_ild_2 (TX1_become_2.at 22 rfl) ?_
      refine zcf_aald (k := 46) (N := 6) (hH.lv (by decide)) (by decide) rfl eg46 (TX1_become_2.at 23 rfl) hH (by decide) (by omega) (show _ < ((6 : Nat) : Int) by omega) ?_
      refine zcf_aast (k := 78) (N := 6) (hH.lv (by decide)) (by decide) rfl (TX1_become_2.at 24 rfl) hH hA (by decide) (by omega) (show _ < ((6 : Nat) : Int) by omega) (by exact hOK i i0 (by omega)) (fun h g192 e1 e2 hH hA => ?_)
      rw [eg78] at e2; have eg78 := e2
      have eg46 := (e1 46 (by decide)).trans eg46
      have hgE := hgE.put e1 (by decide)
      refine z_iinc_2 (TX1_become_2.at 25 rfl) (Nat.le_of_ble_eq_true rfl) rfl ?_
      refine z_goto (tgt := 175) (TX1_become_2.at 26 rfl) rfl ?_
      exact ih (i + 1) _ _ _ (by omega) (by omega) (by omega) (by rw [cpy_s (by omega) (by omega) (by omega)] at eg78; exact eg78) eg46 hfE hgE hH hA

set_option maxHeartbeats 4000000 in
set_option maxRecDepth 100000 in
theorem c_bec2_1 {l : Launch} {E : cE} {f : mF} {g j : mA} {X1 : Int → Int} {Y1 : Int → Int} {X2 : Int → Int} {Y2 : Int → Int} {X3 : Int → Int} {Y3 : Int → Int} {X4 : Int → Int} {Y4 : Int → Int} {X6 : Int → Int} {Y6 : Int → Int} {X8 : Int → Int} {Y8 : Int → Int} {X10 : Int → Int} {Y10 : Int → Int} {X11 : Int → Int} {Y11 : Int → Int} {X12 : Int → Int} {Y12 : Int → Int} {X14 : Int → Int} {Y14 : Int → Int} {y0 : Int} {y5 : Int} {y7 : Int} {y9 : Int} {y13 : Int} {y15 : Int}  (eg65 : g 65 = X1) (eg33 : g 33 = Y1) (eg66 : g 66 = X2) (eg34 : g 34 = Y2) (eg67 : g 67 = X3) (eg35 : g 35 = Y3) (eg68 : g 68 = X4) (eg36 : g 36 = Y4) (eg70 : g 70 = X6) (eg38 : g 38 = Y6) (eg72 : g 72 = X8) (eg40 : g 40 = Y8) (eg74 : g 74 = X10) (eg42 : g 42 = Y10) (eg75 : g 75 = X11) (eg43 : g 43 = Y11) (eg76 : g 76 = X12) (eg44 : g 44 = Y12) (eg78 : g 78 = X14) (eg46 : g 46 = Y14) (ef32 : f 32 = y0) (ef37 : f 37 = y5) (ef39 : f 39 = y7) (ef41 : f 41 = y9) (ef45 : f 45 = y13) (ef47 : f 47 = y15) (hOK : ∀ q : Int, 0 ≤ q → q < 6 → okR E 4 (Y14 q)) : CM l E MX1_become 1 [.ref (E.1 95), .ref (E.1 63)] f g j (PV (fun f' g' j' => (f' 64 = y0 ∧ f' 69 = y5 ∧ f' 71 = y7 ∧ f' 73 = y9 ∧ f' 77 = y13 ∧ f' 79 = y15 ∧ g' 65 = cpy X1 Y1 0 0 10 ∧ g' 66 = cpy X2 Y2 0 0 10 ∧ g' 67 = cpy X3 Y3 0 0 10 ∧ g' 68 = cpy X4 Y4 0 0 10 ∧ g' 70 = cpy X6 Y6 0 0 8 ∧ g' 72 = cpy X8 Y8 0 0 3 ∧ g' 74 = cpy X10 Y10 0 0 6 ∧ g' 75 = cpy X11 Y11 0 0 6 ∧ g' 76 = cpy X12 Y12 0 0 3 ∧ g' 78 = cpy X14 Y14 0 0 6) ∧ eqx [64, 69, 71, 73, 77, 79] f f' ∧ eqx [65, 66, 67, 68, 70, 72, 74, 75, 76, 78] g g' ∧ j' = j)) := by
  refine CM.intro [some (.ref (E.1 95)), some (.ref (E.1 63)), none] (by decide) (Nat.le_of_ble_eq_true rfl) rfl (fun d hd h0 h hH hA => ?_)
  have hfE : eqx [64, 69, 71, 73, 77, 79] f f := eqx.rf
  have hgE : eqx [65, 66, 67, 68, 70, 72, 74, 75, 76, 78] g g := eqx.rf
  refine z_ald_0 (TX1_become_0.at 0 rfl) ?_
  refine z_ald_1 (TX1_become_0.at 1 rfl) ?_
  refine zc_getIE (m := 1) (s := 0) (k := 32) (hH.lv (by decide)) ef32 (TX1_become_0.at 2 rfl) fl1_9 hH rfl rfl (by decide) (by decide) (fun r2 => ?_)
  refine zc_putI (m := 2) (s := 0) (k := 64) (hH.lv (by decide)) (TX1_become_0.at 3 rfl) fp1_9 hH hA rfl rfl (by decide) (by decide) (by first | omega | exact b2i_01 _) (fun h f5 e1 e2 hH hA => ?_)
  have ef64 := e2
  have ef32 := (e1 32 (by decide)).trans ef32
  have ef37 := (e1 37 (by decide)).trans ef37
  have ef39 := (e1 39 (by decide)).trans ef39
  have ef41 := (e1 41 (by decide)).trans ef41
  have ef45 := (e1 45 (by decide)).trans ef45
  have ef47 := (e1 47 (by decide)).trans ef47
  have hfE := hfE.put e1 (by decide)
  refine z_ald_1 (TX1_become_0.at 4 rfl) ?_
  refine zc_getA (m := 1) (s := 1) (k := 33) (hH.lv (by decide)) (TX1_become_0.at 5 rfl) fl1_15 hH rfl rfl (by decide) (by decide) ?_
  refine z_iconst (TX1_become_0.at 6 rfl) ?_
  refine z_ald_0 (TX1_become_0.at 7 rfl) ?_
  refine zc_getA (m := 2) (s := 1) (k := 65) (hH.lv (by decide)) (TX1_become_0.at 8 rfl) fl1_15 hH rfl rfl (by decide) (by decide) ?_
  refine z_iconst (TX1_become_0.at 9 rfl) ?_
  refine z_bipush (by decide) (TX1_become_0.at 10 rfl) ?_
  refine zcf_copy (ks := 33) (kd := 65) (Ns := 10) (Nd := 10) (hH.lv (by decide)) (hH.lv (by decide)) (by decide) (by decide) rfl rfl eg33 (TX1_become_0.at 11 rfl) cp1_70 hH hA (by decide) (by decide) (by omega) (by omega) (by omega) (show _ ≤ ((10 : Nat) : Int) by omega) (show _ ≤ ((10 : Nat) : Int) by omega) (by omega) (fun h g20 e1 e2 hH hA => ?_)
  rw [eg65] at e2; have eg65 := e2
  have eg33 := (e1 33 (by decide)).trans eg33
  have eg66 := (e1 66 (by decide)).trans eg66
  have eg34 := (e1 34 (by decide)).trans eg34
  have eg67 := (e1 67 (by decide)).trans eg67
  have eg35 := (e1 35 (by decide)).trans eg35
  have eg68 := (e1 68 (by decide)).trans eg68
  have eg36 := (e1 36 (by decide)).trans eg36
  have eg70 := (e1 70 (by decide)).trans eg70
  have eg38 := (e1 38 (by decide)).trans eg38
  have eg72 := (e1 72 (by decide)).trans eg72
  have eg40 := (e1 40 (by decide)).trans eg40
  have eg74 := (e1 74 (by decide)).trans eg74
  have eg42 := (e1 42 (by decide)).trans eg42
  have eg75 := (e1 75 (by decide)).trans eg75
  have eg43 := (e1 43 (by decide)).trans eg43
  have eg76 := (e1 76 (by decide)).trans eg76
  have eg44 := (e1 44 (by decide)).trans eg44
  have eg78 := (e1 78 (by decide)).trans eg78
  have eg46 := (e1 46 (by decide)).trans eg46
  have hgE := hgE.put e1 (by decide)
  refine z_ald_1 (TX1_become_0.at 12 rfl) ?_
  refine zc_getA (m := 1) (s := 2) (k := 34) (hH.lv (by decide)) (TX1_become_0.at 13 rfl) fl1_19 hH rfl rfl (by decide) (by decide) ?_
  refine z_iconst (TX1_become_0.at 14 rfl) ?_
  refine z_ald_0 (TX1_become_0.at 15 rfl) ?_
  refine zc_getA (m := 2) (s := 2) (k := 66) (hH.lv (by decide)) (TX1_become_0.at 16 rfl) fl1_19 hH rfl rfl (by decide) (by decide) ?_
  refine z_iconst (TX1_become_0.at 17 rfl) ?_
  refine z_bipush (by decide) (TX1_become_0.at 18 rfl) ?_
  refine zcf_copy (ks := 34) (kd := 66) (Ns := 10) (Nd := 10) (hH.lv (by decide)) (hH.lv (by decide)) (by decide) (by decide) rfl rfl eg34 (TX1_become_0.at 19 rfl) cp1_70 hH hA (by decide) (by decide) (by omega) (by omega) (by omega) (show _ ≤ ((10 : Nat) : Int) by omega) (show _ ≤ ((10 : Nat) : Int) by omega) (by omega) (fun h g35 e1 e2 hH hA => ?_)
  have eg65 := (e1 65 (by decide)).trans eg65
  have eg33 := (e1 33 (by decide)).trans eg33
  rw [eg66] at e2; have eg66 := e2
  have eg34 := (e1 34 (by decide)).trans eg34
  have eg67 := (e1 67 (by decide)).trans eg67
  have eg35 := (e1 35 (by decide)).trans eg35
  have eg68 := (e1 68 (by decide)).trans eg68
  have eg36 := (e1 36 (by decide)).trans eg36
  have eg70 := (e1 70 (by decide)).trans eg70
  have eg38 := (e1 38 (by decide)).trans eg38
  have eg72 := (e1 72 (by decide)).trans eg72
  have eg40 := (e1 40 (by decide)).trans eg40
  have eg74 := (e1 74 (by decide)).trans eg74
  have eg42 := (e1 42 (by decide)).trans eg42
  have eg75 := (e1 75 (by decide)).trans eg75
  have eg43 := (e1 43 (by decide)).trans eg43
  have eg76 := (e1 76 (by decide)).trans eg76
  have eg44 := (e1 44 (by decide)).trans eg44
  have eg78 := (e1 78 (by decide)).trans eg78
  have eg46 := (e1 46 (by decide)).trans eg46
  have hgE := hgE.put e1 (by decide)
  refine z_ald_1 (TX1_become_0.at 20 rfl) ?_
  refine zc_getA (m := 1) (s := 3) (k := 35) (hH.lv (by decide)) (TX1_become_0.at 21 rfl) fl1_22 hH rfl rfl (by decide) (by decide) ?_
  refine z_iconst (TX1_become_0.at 22 rfl) ?_
  refine z_ald_0 (TX1_become_0.at 23 rfl) ?_
  refine zc_getA (m := 2) (s := 3) (k := 67) (hH.lv (by decide)) (TX1_become_0.at 24 rfl) fl1_22 hH rfl rfl (by decide) (by decide) ?_
  refine z_iconst (TX1_become_0.at 25 rfl) ?_
  refine z_bipush (by decide) (TX1_become_0.at 26 rfl) ?_
  refine zcf_copy (ks := 35) (kd := 67) (Ns := 10) (Nd := 10) (hH.lv (by decide)) (hH.lv (by decide)) (by decide) (by decide) rfl rfl eg35 (TX1_become_0.at 27 rfl) cp1_70 hH hA (by decide) (by decide) (by omega) (by omega) (by omega) (show _ ≤ ((10 : Nat) : Int) by omega) (show _ ≤ ((10 : Nat) : Int) by omega) (by omega) (fun h g50 e1 e2 hH hA => ?_)
  have eg65 := (e1 65 (by decide)).trans eg65
  have eg33 := (e1 33 (by decide)).trans eg33
  have eg66 := (e1 66 (by decide)).trans eg66
  have eg34 := (e1 34 (by decide)).trans eg34
  rw [eg67] at e2; have eg67 := e2
  have eg35 := (e1 35 (by decide)).trans eg35
  have eg68 := (e1 68 (by decide)).trans eg68
  have eg36 := (e1 36 (by decide)).trans eg36
  have eg70 := (e1 70 (by decide)).trans eg70
  have eg38 := (e1 38 (by decide)).trans eg38
  have eg72 := (e1 72 (by decide)).trans eg72
  have eg40 := (e1 40 (by decide)).trans eg40
  have eg74 := (e1 74 (by decide)).trans eg74
  have eg42 := (e1 42 (by decide)).trans eg42
  have eg75 := (e1 75 (by decide)).trans eg75
  have eg43 := (e1 43 (by decide)).trans eg43
  have eg76 := (e1 76 (by decide)).trans eg76
  have eg44 := (e1 44 (by decide)).trans eg44
  have eg78 := (e1 78 (by decide)).trans eg78
  have eg46 := (e1 46 (by decide)).trans eg46
  have hgE := hgE.put e1 (by decide)
  refine z_ald_1 (TX1_become_0.at 28 rfl) ?_
  refine zc_getA (m := 1) (s := 4) (k := 36) (hH.lv (by decide)) (TX1_become_0.at 29 rfl) fl1_25 hH rfl rfl (by decide) (by decide) ?_
  refine z_iconst (TX1_become_0.at 30 rfl) ?_
  refine z_ald_0 (TX1_become_0.at 31 rfl) ?_
  refine zc_getA (m := 2) (s := 4) (k := 68) (hH.lv (by decide)) (TX1_become_0.at 32 rfl) fl1_25 hH rfl rfl (by decide) (by decide) ?_
  refine z_iconst (TX1_become_0.at 33 rfl) ?_
  refine z_bipush (by decide) (TX1_become_0.at 34 rfl) ?_
  refine zcf_copy (ks := 36) (kd := 68) (Ns := 10) (Nd := 10) (hH.lv (by decide)) (hH.lv (by decide)) (by decide) (by decide) rfl rfl eg36 (TX1_become_0.at 35 rfl) cp1_70 hH hA (by decide) (by decide) (by omega) (by omega) (by omega) (show _ ≤ ((10 : Nat) : Int) by omega) (show _ ≤ ((10 : Nat) : Int) by omega) (by omega) (fun h g65 e1 e2 hH hA => ?_)
  have eg65 := (e1 65 (by decide)).trans eg65
  have eg33 := (e1 33 (by decide)).trans eg33
  have eg66 := (e1 66 (by decide)).trans eg66
  have eg34 := (e1 34 (by decide)).trans eg34
  have eg67 := (e1 67 (by decide)).trans eg67
  have eg35 := (e1 35 (by decide)).trans eg35
  rw [eg68] at e2; have eg68 := e2
  have eg36 := (e1 36 (by decide)).trans eg36
  have eg70 := (e1 70 (by decide)).trans eg70
  have eg38 := (e1 38 (by decide)).trans eg38
  have eg72 := (e1 72 (by decide)).trans eg72
  have eg40 := (e1 40 (by decide)).trans eg40
  have eg74 := (e1 74 (by decide)).trans eg74
  have eg42 := (e1 42 (by decide)).trans eg42
  have eg75 := (e1 75 (by decide)).trans eg75
  have eg43 := (e1 43 (by decide)).trans eg43
  have eg76 := (e1 76 (by decide)).trans eg76
  have eg44 := (e1 44 (by decide)).trans eg44
  have eg78 := (e1 78 (by decide)).trans eg78
  have eg46 := (e1 46 (by decide)).trans eg46
  have hgE := hgE.put e1 (by decide)
  refine z_ald_0 (TX1_become_0.at 36 rfl) ?_
  refine z_ald_1 (TX1_become_0.at 37 rfl) ?_
  refine zc_getIE (m := 1) (s := 5) (k := 37) (hH.lv (by decide)) ef37 (TX1_become_0.at 38 rfl) fl1_28 hH rfl rfl (by decide) (by decide) (fun r70 => ?_)
  refine zc_putI (m := 2) (s := 5) (k := 69) (hH.lv (by decide)) (TX1_become_0.at 39 rfl) fp1_28 hH hA rfl rfl (by decide) (by decide) (by first | omega | exact b2i_01 _) (fun h f73 e1 e2 hH hA => ?_)
  have ef64 := (e1 64 (by decide)).trans ef64
  have ef69 := e2
  have ef32 := (e1 32 (by decide)).trans ef32
  have ef37 := (e1 37 (by decide)).trans ef37
  have ef39 := (e1 39 (by decide)).trans ef39
  have ef41 := (e1 41 (by decide)).trans ef41
  have ef45 := (e1 45 (by decide)).trans ef45
  have ef47 := (e1 47 (by decide)).trans ef47
  have hfE := hfE.put e1 (by decide)
  refine z_ald_1 (TX1_become_1.at 0 rfl) ?_
  refine zc_getA (m := 1) (s := 6) (k := 38) (hH.lv (by decide)) (TX1_become_1.at 1 rfl) fl1_31 hH rfl rfl (by decide) (by decide) ?_
  refine z_iconst (TX1_become_1.at 2 rfl) ?_
  refine z_ald_0 (TX1_become_1.at 3 rfl) ?_
  refine zc_getA (m := 2) (s := 6) (k := 70) (hH.lv (by decide)) (TX1_become_1.at 4 rfl) fl1_31 hH rfl rfl (by decide) (by decide) ?_
  refine z_iconst (TX1_become_1.at 5 rfl) ?_
  refine z_bipush (by decide) (TX1_become_1.at 6 rfl) ?_
  refine zcf_copy (ks := 38) (kd := 70) (Ns := 8) (Nd := 8) (hH.lv (by decide)) (hH.lv (by decide)) (by decide) (by decide) rfl rfl eg38 (TX1_become_1.at 7 rfl) cp1_70 hH hA (by decide) (by decide) (by omega) (by omega) (by omega) (show _ ≤ ((8 : Nat) : Int) by omega) (show _ ≤ ((8 : Nat) : Int) by omega) (by omega) (fun h g88 e1 e2 hH hA => ?_)
  have eg65 := (e1 65 (by decide)).trans eg65
  have eg33 := (e1 33 (by decide)).trans eg33
  have eg66 := (e1 66 (by decide)).trans eg66
  have eg34 := (e1 34 (by decide)).trans eg34
  have eg67 := (e1 67 (by decide)).trans eg67
  have eg35 := (e1 35 (by decide)).trans eg35
  have eg68 := (e1 68 (by decide)).trans eg68
  have eg36 := (e1 36 (by decide)).trans eg36
  rw [eg70] at e2; have eg70 := e2
  have eg38 := (e1 38 (by decide)).trans eg38
  have eg72 := (e1 72 (by decide)).trans eg72
  have eg40 := (e1 40 (by decide)).trans eg40
  have eg74 := (e1 74 (by decide)).trans eg74
  have eg42 := (e1 42 (by decide)).trans eg42
  have eg75 := (e1 75 (by decide)).trans eg75
  have eg43 := (e1 43 (by decide)).trans eg43
  have eg76 := (e1 76 (by decide)).trans eg76
  have eg44 := (e1 44 (by decide)).trans eg44
  have eg78 := (e1 78 (by decide)).trans eg78
  have eg46 := (e1 46 (by decide)).trans eg46
  have hgE := hgE.put e1 (by decide)
  refine z_ald_0 (TX1_become_1.at 8 rfl) ?_
  refine z_ald_1 (TX1_become_1.at 9 rfl) ?_
  refine zc_getIE (m := 1) (s := 7) (k := 39) (hH.lv (by decide)) ef39 (TX1_become_1.at 10 rfl) fl1_34 hH rfl rfl (by decide) (by decide) (fun r93 => ?_)
  refine zc_putI (m := 2) (s := 7) (k := 71) (hH.lv (by decide)) (TX1_become_1.at 11 rfl) fp1_34 hH hA rfl rfl (by decide) (by decide) (by first | omega | exact b2i_01 _) (fun h f96 e1 e2 hH hA => ?_)
  have ef64 := (e1 64 (by decide)).trans ef64
  have ef69 := (e1 69 (by decide)).trans ef69
  have ef71 := e2
  have ef32 := (e1 32 (by decide)).trans ef32
  have ef37 := (e1 37 (by decide)).trans ef37
  have ef39 := (e1 39 (by decide)).trans ef39
  have ef41 := (e1 41 (by decide)).trans ef41
  have ef45 := (e1 45 (by decide)).trans ef45
  have ef47 := (e1 47 (by decide)).trans ef47
  have hfE := hfE.put e1 (by decide)
  refine z_ald_1 (TX1_become_1.at 12 rfl) ?_
  refine zc_getA (m := 1) (s := 8) (k := 40) (hH.lv (by decide)) (TX1_become_1.at 13 rfl) fl1_37 hH rfl rfl (by decide) (by decide) ?_
  refine z_iconst (TX1_become_1.at 14 rfl) ?_
  refine z_ald_0 (TX1_become_1.at 15 rfl) ?_
  refine zc_getA (m := 2) (s := 8) (k := 72) (hH.lv (by decide)) (TX1_become_1.at 16 rfl) fl1_37 hH rfl rfl (by decide) (by decide) ?_
  refine z_iconst (TX1_become_1.at 17 rfl) ?_
  refine z_iconst (TX1_become_1.at 18 rfl) ?_
  refine zcf_copy (ks := 40) (kd := 72) (Ns := 3) (Nd := 3) (hH.lv (by decide)) (hH.lv (by decide)) (by decide) (by decide) rfl rfl eg40 (TX1_become_1.at 19 rfl) cp1_70 hH hA (by decide) (by decide) (by omega) (by omega) (by omega) (show _ ≤ ((3 : Nat) : Int) by omega) (show _ ≤ ((3 : Nat) : Int) by omega) (by omega) (fun h g110 e1 e2 hH hA => ?_)
  have eg65 := (e1 65 (by decide)).trans eg65
  have eg33 := (e1 33 (by decide)).trans eg33
  have eg66 := (e1 66 (by decide)).trans eg66
  have eg34 := (e1 34 (by decide)).trans eg34
  have eg67 := (e1 67 (by decide)).trans eg67
  have eg35 := (e1 35 (by decide)).trans eg35
  have eg68 := (e1 68 (by decide)).trans eg68
  have eg36 := (e1 36 (by decide)).trans eg36
  have eg70 := (e1 70 (by decide)).trans eg70
  have eg38 := (e1 38 (by decide)).trans eg38
  rw [eg72] at e2; have eg72 := e2
  have eg40 := (e1 40 (by decide)).trans eg40
  have eg74 := (e1 74 (by decide)).trans eg74
  have eg42 := (e1 42 (by decide)).trans eg42
  have eg75 := (e1 75 (by decide)).trans eg75
  have eg43 := (e1 43 (by decide)).trans eg43
  have eg76 := (e1 76 (by decide)).trans eg76
  have eg44 := (e1 44 (by decide)).trans eg44
  have eg78 := (e1 78 (by decide)).trans eg78
  have eg46 := (e1 46 (by decide)).trans eg46
  have hgE := hgE.put e1 (by decide)
  refine z_ald_0 (TX1_become_1.at 20 rfl) ?_
  refine z_ald_1 (TX1_become_1.at 21 rfl) ?_
  refine zc_getIE (m := 1) (s := 9) (k := 41) (hH.lv (by decide)) ef41 (TX1_become_1.at 22 rfl) fl1_40 hH rfl rfl (by decide) (by decide) (fun r115 => ?_)
  refine zc_putI (m := 2) (s := 9) (k := 73) (hH.lv (by decide)) (TX1_become_1.at 23 rfl) fp1_40 hH hA rfl rfl (by decide) (by decide) (by first | omega | exact b2i_01 _) (fun h f118 e1 e2 hH hA => ?_)
  have ef64 := (e1 64 (by decide)).trans ef64
  have ef69 := (e1 69 (by decide)).trans ef69
  have ef71 := (e1 71 (by decide)).trans ef71
  have ef73 := e2
  have ef32 := (e1 32 (by decide)).trans ef32
  have ef37 := (e1 37 (by decide)).trans ef37
  have ef39 := (e1 39 (by decide)).trans ef39
  have ef41 := (e1 41 (by decide)).trans ef41
  have ef45 := (e1 45 (by decide)).trans ef45
  have ef47 := (e1 47 (by decide)).trans ef47
  have hfE := hfE.put e1 (by decide)
  refine z_ald_1 (TX1_become_1.at 24 rfl) ?_
  refine zc_getA (m := 1) (s := 10) (k := 42) (hH.lv (by decide)) (TX1_become_1.at 25 rfl) fl1_43 hH rfl rfl (by decide) (by decide) ?_
  refine z_iconst (TX1_become_1.at 26 rfl) ?_
  refine z_ald_0 (TX1_become_1.at 27 rfl) ?_
  refine zc_getA (m := 2) (s := 10) (k := 74) (hH.lv (by decide)) (TX1_become_1.at 28 rfl) fl1_43 hH rfl rfl (by decide) (by decide) ?_
  refine z_iconst (TX1_become_1.at 29 rfl) ?_
  refine z_bipush (by decide) (TX1_become_1.at 30 rfl) ?_
  refine zcf_copy (ks := 42) (kd := 74) (Ns := 6) (Nd := 6) (hH.lv (by decide)) (hH.lv (by decide)) (by decide) (by decide) rfl rfl eg42 (TX1_become_1.at 31 rfl) cp1_70 hH hA (by decide) (by decide) (by omega) (by omega) (by omega) (show _ ≤ ((6 : Nat) : Int) by omega) (show _ ≤ ((6 : Nat) : Int) by omega) (by omega) (fun h g133 e1 e2 hH hA => ?_)
  have eg65 := (e1 65 (by decide)).trans eg65
  have eg33 := (e1 33 (by decide)).trans eg33
  have eg66 := (e1 66 (by decide)).trans eg66
  have eg34 := (e1 34 (by decide)).trans eg34
  have eg67 := (e1 67 (by decide)).trans eg67
  have eg35 := (e1 35 (by decide)).trans eg35
  have eg68 := (e1 68 (by decide)).trans eg68
  have eg36 := (e1 36 (by decide)).trans eg36
  have eg70 := (e1 70 (by decide)).trans eg70
  have eg38 := (e1 38 (by decide)).trans eg38
  have eg72 := (e1 72 (by decide)).trans eg72
  have eg40 := (e1 40 (by decide)).trans eg40
  rw [eg74] at e2; have eg74 := e2
  have eg42 := (e1 42 (by decide)).trans eg42
  have eg75 := (e1 75 (by decide)).trans eg75
  have eg43 := (e1 43 (by decide)).trans eg43
  have eg76 := (e1 76 (by decide)).trans eg76
  have eg44 := (e1 44 (by decide)).trans eg44
  have eg78 := (e1 78 (by decide)).trans eg78
  have eg46 := (e1 46 (by decide)).trans eg46
  have hgE := hgE.put e1 (by decide)
  refine z_ald_1 (TX1_become_1.at 32 rfl) ?_
  refine zc_getA (m := 1) (s := 11) (k := 43) (hH.lv (by decide)) (TX1_become_1.at 33 rfl) fl1_46 hH rfl rfl (by decide) (by decide) ?_
  refine z_iconst (TX1_become_1.at 34 rfl) ?_
  refine z_ald_0 (TX1_become_1.at 35 rfl) ?_
  refine zc_getA (m := 2) (s := 11) (k := 75) (hH.lv (by decide)) (TX1_become_1.at 36 rfl) fl1_46 hH rfl rfl (by decide) (by decide) ?_
  refine z_iconst (TX1_become_1.at 37 rfl) ?_
  refine z_bipush (by decide) (TX1_become_1.at 38 rfl) ?_
  refine zcf_copy (ks := 43) (kd := 75) (Ns := 6) (Nd := 6) (hH.lv (by decide)) (hH.lv (by decide)) (by decide) (by decide) rfl rfl eg43 (TX1_become_1.at 39 rfl) cp1_70 hH hA (by decide) (by decide) (by omega) (by omega) (by omega) (show _ ≤ ((6 : Nat) : Int) by omega) (show _ ≤ ((6 : Nat) : Int) by omega) (by omega) (fun h g148 e1 e2 hH hA => ?_)
  have eg65 := (e1 65 (by decide)).trans eg65
  have eg33 := (e1 33 (by decide)).trans eg33
  have eg66 := (e1 66 (by decide)).trans eg66
  have eg34 := (e1 34 (by decide)).trans eg34
  have eg67 := (e1 67 (by decide)).trans eg67
  have eg35 := (e1 35 (by decide)).trans eg35
  have eg68 := (e1 68 (by decide)).trans eg68
  have eg36 := (e1 36 (by decide)).trans eg36
  have eg70 := (e1 70 (by decide)).trans eg70
  have eg38 := (e1 38 (by decide)).trans eg38
  have eg72 := (e1 72 (by decide)).trans eg72
  have eg40 := (e1 40 (by decide)).trans eg40
  have eg74 := (e1 74 (by decide)).trans eg74
  have eg42 := (e1 42 (by decide)).trans eg42
  rw [eg75] at e2; have eg75 := e2
  have eg43 := (e1 43 (by decide)).trans eg43
  have eg76 := (e1 76 (by decide)).trans eg76
  have eg44 := (e1 44 (by decide)).trans eg44
  have eg78 := (e1 78 (by decide)).trans eg78
  have eg46 := (e1 46 (by decide)).trans eg46
  have hgE := hgE.put e1 (by decide)
  refine z_ald_1 (TX1_become_2.at 0 rfl) ?_
  refine zc_getA (m := 1) (s := 12) (k := 44) (hH.lv (by decide)) (TX1_become_2.at 1 rfl) fl1_49 hH rfl rfl (by decide) (by decide) ?_
  refine z_iconst (TX1_become_2.at 2 rfl) ?_
  refine z_ald_0 (TX1_become_2.at 3 rfl) ?_
  refine zc_getA (m := 2) (s := 12) (k := 76) (hH.lv (by decide)) (TX1_become_2.at 4 rfl) fl1_49 hH rfl rfl (by decide) (by decide) ?_
  refine z_iconst (TX1_become_2.at 5 rfl) ?_
  refine z_iconst (TX1_become_2.at 6 rfl) ?_
  refine zcf_copy (ks := 44) (kd := 76) (Ns := 3) (Nd := 3) (hH.lv (by decide)) (hH.lv (by decide)) (by decide) (by decide) rfl rfl eg44 (TX1_become_2.at 7 rfl) cp1_70 hH hA (by decide) (by decide) (by omega) (by omega) (by omega) (show _ ≤ ((3 : Nat) : Int) by omega) (show _ ≤ ((3 : Nat) : Int) by omega) (by omega) (fun h g162 e1 e2 hH hA => ?_)
  have eg65 := (e1 65 (by decide)).trans eg65
  have eg33 := (e1 33 (by decide)).trans eg33
  have eg66 := (e1 66 (by decide)).trans eg66
  have eg34 := (e1 34 (by decide)).trans eg34
  have eg67 := (e1 67 (by decide)).trans eg67
  have eg35 := (e1 35 (by decide)).trans eg35
  have eg68 := (e1 68 (by decide)).trans eg68
  have eg36 := (e1 36 (by decide)).trans eg36
  have eg70 := (e1 70 (by decide)).trans eg70
  have eg38 := (e1 38 (by decide)).trans eg38
  have eg72 := (e1 72 (by decide)).trans eg72
  have eg40 := (e1 40 (by decide)).trans eg40
  have eg74 := (e1 74 (by decide)).trans eg74
  have eg42 := (e1 42 (by decide)).trans eg42
  have eg75 := (e1 75 (by decide)).trans eg75
  have eg43 := (e1 43 (by decide)).trans eg43
  rw [eg76] at e2; have eg76 := e2
  have eg44 := (e1 44 (by decide)).trans eg44
  have eg78 := (e1 78 (by decide)).trans eg78
  have eg46 := (e1 46 (by decide)).trans eg46
  have hgE := hgE.put e1 (by decide)
  refine z_ald_0 (TX1_become_2.at 8 rfl) ?_
  refine z_ald_1 (TX1_become_2.at 9 rfl) ?_
  refine zc_getIE (m := 1) (s := 13) (k := 45) (hH.lv (by decide)) ef45 (TX1_become_2.at 10 rfl) fl1_52 hH rfl rfl (by decide) (by decide) (fun r167 => ?_)
  refine zc_putI (m := 2) (s := 13) (k := 77) (hH.lv (by decide)) (TX1_become_2.at 11 rfl) fp1_52 hH hA rfl rfl (by decide) (by decide) (by first | omega | exact b2i_01 _) (fun h f170 e1 e2 hH hA => ?_)
  have ef64 := (e1 64 (by decide)).trans ef64
  have ef69 := (e1 69 (by decide)).trans ef69
  have ef71 := (e1 71 (by decide)).trans ef71
  have ef73 := (e1 73 (by decide)).trans ef73
  have ef77 := e2
  have ef32 := (e1 32 (by decide)).trans ef32
  have ef37 := (e1 37 (by decide)).trans ef37
  have ef39 := (e1 39 (by decide)).trans ef39
  have ef41 := (e1 41 (by decide)).trans ef41
  have ef45 := (e1 45 (by decide)).trans ef45
  have ef47 := (e1 47 (by decide)).trans ef47
  have hfE := hfE.put e1 (by decide)
  refine z_iconst (TX1_become_2.at 12 rfl) ?_
  refine z_ist_2 (TX1_become_2.at 13 rfl) (Nat.le_of_ble_eq_true rfl) rfl ?_
  refine lp_bec2_1  hOK (fun f175 g175 h eg78 xf xg hH hA => ?_) 7 0 _ _ _ (by omega) (by omega) (by omega) (eg78.trans (cpy_0 _ _ _ _).symm) eg46 eqx.rf eqx.rf hH hA
  have ef64 := (xf 64 (by decide)).trans ef64
  have ef69 := (xf 69 (by decide)).trans ef69
  have ef71 := (xf 71 (by decide)).trans ef71
  have ef73 := (xf 73 (by decide)).trans ef73
  have ef77 := (xf 77 (by decide)).trans ef77
  have ef32 := (xf 32 (by decide)).trans ef32
  have ef37 := (xf 37 (by decide)).trans ef37
  have ef39 := (xf 39 (by decide)).trans ef39
  have ef41 := (xf 41 (by decide)).trans ef41
  have ef45 := (xf 45 (by decide)).trans ef45
  have ef47 := (xf 47 (by decide)).trans ef47
  have hfE := hfE.trans xf (by decide)
  have eg65 := (xg 65 (by decide)).trans eg65
  have eg33 := (xg 33 (by decide)).trans eg33
  have eg66 := (xg 66 (by decide)).trans eg66
  have eg34 := (xg 34 (by decide)).trans eg34
  have eg67 := (xg 67 (by decide)).trans eg67
  have eg35 := (xg 35 (by decide)).trans eg35
  have eg68 := (xg 68 (by decide)).trans eg68
  have eg36 := (xg 36 (by decide)).trans eg36
  have eg70 := (xg 70 (by decide)).trans eg70
  have eg38 := (xg 38 (by decide)).trans eg38
  have eg72 := (xg 72 (by decide)).trans eg72
  have eg40 := (xg 40 (by decide)).trans eg40
  have eg74 := (xg 74 (by decide)).trans eg74
  have eg42 := (xg 42 (by decide)).trans eg42
  have eg75 := (xg 75 (by decide)).trans eg75
  have eg43 := (xg 43 (by decide)).trans eg43
  have eg76 := (xg 76 (by decide)).trans eg76
  have eg44 := (xg 44 (by decide)).trans eg44
  have eg46 := (xg 46 (by decide)).trans eg46
  have hgE := hgE.trans xg (by decide)
  refine z_ald_0 (TX1_become_2.at 27 rfl) ?_
  refine z_ald_1 (TX1_become_2.at 28 rfl) ?_
  refine zc_getIE (m := 1) (s := 15) (k := 47) (hH.lv (by decide)) ef47 (TX1_become_2.at 29 rfl) fl1_61 hH rfl rfl (by decide) (by decide) (fun r201 => ?_)
  refine zc_putI (m := 2) (s := 15) (k := 79) (hH.lv (by decide)) (TX1_become_2.at 30 rfl) fp1_61 hH hA rfl rfl (by decide) (by decide) (by first | omega | exact b2i_01 _) (fun h f204 e1 e2 hH hA => ?_)
  have ef64 := (e1 64 (by decide)).trans ef64
  have ef69 := (e1 69 (by decide)).trans ef69
  have ef71 := (e1 71 (by decide)).trans ef71
  have ef73 := (e1 73 (by decide)).trans ef73
  have ef77 := (e1 77 (by decide)).trans ef77
  have ef79 := e2
  have ef32 := (e1 32 (by decide)).trans ef32
  have ef37 := (e1 37 (by decide)).trans ef37
  have ef39 := (e1 39 (by decide)).trans ef39
  have ef41 := (e1 41 (by decide)).trans ef41
  have ef45 := (e1 45 (by decide)).trans ef45
  have ef47 := (e1 47 (by decide)).trans ef47
  have hfE := hfE.put e1 (by decide)
  refine zc_vret (TX1_become_2.at 31 rfl) rfl hH hA ?_
  exact ⟨⟨ef64, ef69, ef71, ef73, ef77, ef79, eg65, eg66, eg67, eg68, eg70, eg72, eg74, eg75, eg76, eg78⟩, hfE, hgE, rfl⟩

set_option maxHeartbeats 4000000 in
set_option maxRecDepth 100000 in
theorem lp_bec3_1 {l : Launch} {E : cE} {d : Nat} {Pz : Option Value → zH → Prop} {h0 : zH} {f0 : mF} {g0 : mA} {j : mA}  {X Y : Int → Int} (hOK : ∀ q : Int, 0 ≤ q → q < 6 → okR E 4 (Y q)) (kx : ∀ (f : mF) (g : mA) (h : zH), g 110 = cpy X Y 0 0 6 → eqx [] f0 f → eqx [110] g0 g → HC E f g j h → cAg E h0 h → Z l MX1_become d 0 0 Pz 199 [some (.ref (E.1 127)), some (.ref (E.1 63)), some (vI 6)] [] h 0 0)  : ∀ (n : Nat) (i : Int) (f : mF) (g : mA) (h : zH) (i0 : 0 ≤ i) (i1 : i ≤ 6) (i2 : 6 < i + n) (eg110 : g 110 = cpy X Y 0 0 i) (eg46 : g 46 = Y) (hfE : eqx [] f0 f) (hgE : eqx [110] g0 g) (hH : HC E f g j h) (hA : cAg E h0 h), Z l MX1_become d 0 0 Pz 175 [some (.ref (E.1 127)), some (.ref (E.1 63)), some (vI i)] [] h 0 0 := by
  intro n
  induction n with
  | zero => intro i f g h i0 i1 i2 eg110 eg46 hfE hgE hH hA; exfalso; omega
  | succ n ih =>
    intro i f g h i0 i1 i2 eg110 eg46 hfE hgE hH hA
    refine z_ild_2 (TX1_become_2.at 14 rfl) ?_
    refine z_bipush (by decide) (TX1_become_2.at 15 rfl) ?_
    refine z_icmp_ge (tgt := 199) (TX1_become_2.at 16 rfl) rfl (by omega) (by omega) (fun c1 => ?_) (fun c1 => ?_)
    · skip
      obtain rfl : i = 6 := by omega
      exact kx _ _ _ eg110 hfE hgE hH hA
    · skip
      refine z_ald_0 (TX1_become_2.at 17 rfl) ?_
      refine zc_getA (m := 3) (s := 14) (k := 110) (hH.lv (by decide)) (TX1_become_2.at 18 rfl) fl1_57 hH rfl rfl (by decide) (by decide) ?_
      refine z_ild_2 (TX1_become_2.at 19 rfl) ?_
      refine z_ald_1 (TX1_become_2.at 20 rfl) ?_
      refine zc_getA (m := 1) (s := 14) (k := 46) (hH.lv (by decide)) (TX1_become_2.at 21 rfl) fl1_57 hH rfl rfl (by decide) (by decide) ?_
      refine z_ild_2 (TX1_become_2.at 22 rfl) ?_
      refine zcf_aald (k := 46) (N := 6) (hH.lv (by decide)) (by decide) rfl eg46 (TX1_become_2.at 23 rfl) hH (by decide) (by omega) (show _ < ((6 : Nat) : Int) by omega) ?_
      refine zcf_aast (k := 110) (N := 6) (hH.lv (by decide)) (by decide) rfl (TX1_become_2.at 24 rfl) hH hA (by decide) (by omega) (show _ < ((6 : Nat) : Int) by omega) (by exact hOK i i0 (by omega)) (fun h g192 e1 e2 hH hA => ?_)
      rw [eg110] at e2; have eg110 := e2
      have eg46 := (e1 46 (by decide)).trans eg46
      have hgE := hgE.put e1 (by decide)
      refine z_iinc_2 (TX1_become_2.at 25 rfl) (Nat.le_of_ble_eq_true rfl) rfl ?_
      refine z_goto (tgt := 175) (TX1_become_2.at 26 rfl) rfl ?_
      exact ih (i + 1) _ _ _ (by omega) (by omega) (by omega) (by rw [cpy_s (by omega) (by omega) (by omega)] at eg110; exact eg110) eg46 hfE hgE hH hA

set_option maxHeartbeats 4000000 in
set_option maxRecDepth 100000 in
theorem c_bec3_1 {l : Launch} {E : cE} {f : mF} {g j : mA} {X1 : Int → Int} {Y1 : Int → Int} {X2 : Int → Int} {Y2 : Int → Int} {X3 : Int → Int} {Y3 : Int → Int} {X4 : Int → Int} {Y4 : Int → Int} {X6 : Int → Int} {Y6 : Int → Int} {X8 : Int → Int} {Y8 : Int → Int} {X10 : Int → Int} {Y10 : Int → Int} {X11 : Int → Int} {Y11 : Int → Int} {X12 : Int → Int} {Y12 : Int → Int} {X14 : Int → Int} {Y14 : Int → Int} {y0 : Int} {y5 : Int} {y7 : Int} {y9 : Int} {y13 : Int} {y15 : Int}  (eg97 : g 97 = X1) (eg33 : g 33 = Y1) (eg98 : g 98 = X2) (eg34 : g 34 = Y2) (eg99 : g 99 = X3) (eg35 : g 35 = Y3) (eg100 : g 100 = X4) (eg36 : g 36 = Y4) (eg102 : g 102 = X6) (eg38 : g 38 = Y6) (eg104 : g 104 = X8) (eg40 : g 40 = Y8) (eg106 : g 106 = X10) (eg42 : g 42 = Y10) (eg107 : g 107 = X11) (eg43 : g 43 = Y11) (eg108 : g 108 = X12) (eg44 : g 44 = Y12) (eg110 : g 110 = X14) (eg46 : g 46 = Y14) (ef32 : f 32 = y0) (ef37 : f 37 = y5) (ef39 : f 39 = y7) (ef41 : f 41 = y9) (ef45 : f 45 = y13) (ef47 : f 47 = y15) (hOK : ∀ q : Int, 0 ≤ q → q < 6 → okR E 4 (Y14 q)) : CM l E MX1_become 1 [.ref (E.1 127), .ref (E.1 63)] f g j (PV (fun f' g' j' => (f' 96 = y0 ∧ f' 101 = y5 ∧ f' 103 = y7 ∧ f' 105 = y9 ∧ f' 109 = y13 ∧ f' 111 = y15 ∧ g' 97 = cpy X1 Y1 0 0 10 ∧ g' 98 = cpy X2 Y2 0 0 10 ∧ g' 99 = cpy X3 Y3 0 0 10 ∧ g' 100 = cpy X4 Y4 0 0 10 ∧ g' 102 = cpy X6 Y6 0 0 8 ∧ g' 104 = cpy X8 Y8 0 0 3 ∧ g' 106 = cpy X10 Y10 0 0 6 ∧ g' 107 = cpy X11 Y11 0 0 6 ∧ g' 108 = cpy X12 Y12 0 0 3 ∧ g' 110 = cpy X14 Y14 0 0 6) ∧ eqx [96, 101, 103, 105, 109, 111] f f' ∧ eqx [97, 98, 99, 100, 102, 104, 106, 107, 108, 110] g g' ∧ j' = j)) := by
  refine CM.intro [some (.ref (E.1 127)), some (.ref (E.1 63)), none] (by decide) (Nat.le_of_ble_eq_true rfl) rfl (fun d hd h0 h hH hA => ?_)
  have hfE : eqx [96, 101, 103, 105, 109, 111] f f := eqx.rf
  have hgE : eqx [97, 98, 99, 100, 102, 104, 106, 107, 108, 110] g g := eqx.rf
  refine z_ald_0 (TX1_become_0.at 0 rfl) ?_
  refine z_ald_1 (TX1_become_0.at 1 rfl) ?_
  refine zc_getIE (m := 1) (s := 0) (k := 32) (hH.lv (by decide)) ef32 (TX1_become_0.at 2 rfl) fl1_9 hH rfl rfl (by decide) (by decide) (fun r2 => ?_)
  refine zc_putI (m := 3) (s := 0) (k := 96) (hH.lv (by decide)) (TX1_become_0.at 3 rfl) fp1_9 hH hA rfl rfl (by decide) (by decide) (by first | omega | exact b2i_01 _) (fun h f5 e1 e2 hH hA => ?_)
  have ef96 := e2
  have ef32 := (e1 32 (by decide)).trans ef32
  have ef37 := (e1 37 (by decide)).trans ef37
  have ef39 := (e1 39 (by decide)).trans ef39
  have ef41 := (e1 41 (by decide)).trans ef41
  have ef45 := (e1 45 (by decide)).trans ef45
  have ef47 := (e1 47 (by decide)).trans ef47
  have hfE := hfE.put e1 (by decide)
  refine z_ald_1 (TX1_become_0.at 4 rfl) ?_
  refine zc_getA (m := 1) (s := 1) (k := 33) (hH.lv (by decide)) (TX1_become_0.at 5 rfl) fl1_15 hH rfl rfl (by decide) (by decide) ?_
  refine z_iconst (TX1_become_0.at 6 rfl) ?_
  refine z_ald_0 (TX1_become_0.at 7 rfl) ?_
  refine zc_getA (m := 3) (s := 1) (k := 97) (hH.lv (by decide)) (TX1_become_0.at 8 rfl) fl1_15 hH rfl rfl (by decide) (by decide) ?_
  refine z_iconst (TX1_become_0.at 9 rfl) ?_
  refine z_bipush (by decide) (TX1_become_0.at 10 rfl) ?_
  refine zcf_copy (ks := 33) (kd := 97) (Ns := 10) (Nd := 10) (hH.lv (by decide)) (hH.lv (by decide)) (by decide) (by decide) rfl rfl eg33 (TX1_become_0.at 11 rfl) cp1_70 hH hA (by decide) (by decide) (by omega) (by omega) (by omega) (show _ ≤ ((10 : Nat) : Int) by omega) (show _ ≤ ((10 : Nat) : Int) by omega) (by omega) (fun h g20 e1 e2 hH hA => ?_)
  rw [eg97] at e2; have eg97 := e2
  have eg33 := (e1 33 (by decide)).trans eg33
  have eg98 := (e1 98 (by decide)).trans eg98
  have eg34 := (e1 34 (by decide)).trans eg34
  have eg99 := (e1 99 (by decide)).trans eg99
  have eg35 := (e1 35 (by decide)).trans eg35
  have eg100 := (e1 100 (by decide)).trans eg100
  have eg36 := (e1 36 (by decide)).trans eg36
  have eg102 := (e1 102 (by decide)).trans eg102
  have eg38 := (e1 38 (by decide)).trans eg38
  have eg104 := (e1 104 (by decide)).trans eg104
  have eg40 := (e1 40 (by decide)).trans eg40
  have eg106 := (e1 106 (by decide)).trans eg106
  have eg42 := (e1 42 (by decide)).trans eg42
  have eg107 := (e1 107 (by decide)).trans eg107
  have eg43 := (e1 43 (by decide)).trans eg43
  have eg108 := (e1 108 (by decide)).trans eg108
  have eg44 := (e1 44 (by decide)).trans eg44
  have eg110 := (e1 110 (by decide)).trans eg110
  have eg46 := (e1 46 (by decide)).trans eg46
  have hgE := hgE.put e1 (by decide)
  refine z_ald_1 (TX1_become_0.at 12 rfl) ?_
  refine zc_getA (m := 1) (s := 2) (k := 34) (hH.lv (by decide)) (TX1_become_0.at 13 rfl) fl1_19 hH rfl rfl (by decide) (by decide) ?_
  refine z_iconst (TX1_become_0.at 14 rfl) ?_
  refine z_ald_0 (TX1_become_0.at 15 rfl) ?_
  refine zc_getA (m := 3) (s := 2) (k := 98) (hH.lv (by decide)) (TX1_become_0.at 16 rfl) fl1_19 hH rfl rfl (by decide) (by decide) ?_
  refine z_iconst (TX1_become_0.at 17 rfl) ?_
  refine z_bipush (by decide) (TX1_become_0.at 18 rfl) ?_
  refine zcf_copy (ks := 34) (kd := 98) (Ns := 10) (Nd := 10) (hH.lv (by decide)) (hH.lv (by decide)) (by decide) (by decide) rfl rfl eg34 (TX1_become_0.at 19 rfl) cp1_70 hH hA (by decide) (by decide) (by omega) (by omega) (by omega) (show _ ≤ ((10 : Nat) : Int) by omega) (show _ ≤ ((10 : Nat) : Int) by omega) (by omega) (fun h g35 e1 e2 hH hA => ?_)
  have eg97 := (e1 97 (by decide)).trans eg97
  have eg33 := (e1 33 (by decide)).trans eg33
  rw [eg98] at e2; have eg98 := e2
  have eg34 := (e1 34 (by decide)).trans eg34
  have eg99 := (e1 99 (by decide)).trans eg99
  have eg35 := (e1 35 (by decide)).trans eg35
  have eg100 := (e1 100 (by decide)).trans eg100
  have eg36 := (e1 36 (by decide)).trans eg36
  have eg102 := (e1 102 (by decide)).trans eg102
  have eg38 := (e1 38 (by decide)).trans eg38
  have eg104 := (e1 104 (by decide)).trans eg104
  have eg40 := (e1 40 (by decide)).trans eg40
  have eg106 := (e1 106 (by decide)).trans eg106
  have eg42 := (e1 42 (by decide)).trans eg42
  have eg107 := (e1 107 (by decide)).trans eg107
  have eg43 := (e1 43 (by decide)).trans eg43
  have eg108 := (e1 108 (by decide)).trans eg108
  have eg44 := (e1 44 (by decide)).trans eg44
  have eg110 := (e1 110 (by decide)).trans eg110
  have eg46 := (e1 46 (by decide)).trans eg46
  have hgE := hgE.put e1 (by decide)
  refine z_ald_1 (TX1_become_0.at 20 rfl) ?_
  refine zc_getA (m := 1) (s := 3) (k := 35) (hH.lv (by decide)) (TX1_become_0.at 21 rfl) fl1_22 hH rfl rfl (by decide) (by decide) ?_
  refine z_iconst (TX1_become_0.at 22 rfl) ?_
  refine z_ald_0 (TX1_become_0.at 23 rfl) ?_
  refine zc_getA (m := 3) (s := 3) (k := 99) (hH.lv (by decide)) (TX1_become_0.at 24 rfl) fl1_22 hH rfl rfl (by decide) (by decide) ?_
  refine z_iconst (TX1_become_0.at 25 rfl) ?_
  refine z_bipush (by decide) (TX1_become_0.at 26 rfl) ?_
  refine zcf_copy (ks := 35) (kd := 99) (Ns := 10) (Nd := 10) (hH.lv (by decide)) (hH.lv (by decide)) (by decide) (by decide) rfl rfl eg35 (TX1_become_0.at 27 rfl) cp1_70 hH hA (by decide) (by decide) (by omega) (by omega) (by omega) (show _ ≤ ((10 : Nat) : Int) by omega) (show _ ≤ ((10 : Nat) : Int) by omega) (by omega) (fun h g50 e1 e2 hH hA => ?_)
  have eg97 := (e1 97 (by decide)).trans eg97
  have eg33 := (e1 33 (by decide)).trans eg33
  have eg98 := (e1 98 (by decide)).trans eg98
  have eg34 := (e1 34 (by decide)).trans eg34
  rw [eg99] at e2; have eg99 := e2
  have eg35 := (e1 35 (by decide)).trans eg35
  have eg100 := (e1 100 (by decide)).trans eg100
  have eg36 := (e1 36 (by decide)).trans eg36
  have eg102 := (e1 102 (by decide)).trans eg102
  have eg38 := (e1 38 (by decide)).trans eg38
  have eg104 := (e1 104 (by decide)).trans eg104
  have eg40 := (e1 40 (by decide)).trans eg40
  have eg106 := (e1 106 (by decide)).trans eg106
  have eg42 := (e1 42 (by decide)).trans eg42
  have eg107 := (e1 107 (by decide)).trans eg107
  have eg43 := (e1 43 (by decide)).trans eg43
  have eg108 := (e1 108 (by decide)).trans eg108
  have eg44 := (e1 44 (by decide)).trans eg44
  have eg110 := (e1 110 (by decide)).trans eg110
  have eg46 := (e1 46 (by decide)).trans eg46
  have hgE := hgE.put e1 (by decide)
  refine z_ald_1 (TX1_become_0.at 28 rfl) ?_
  refine zc_getA (m := 1) (s := 4) (k := 36) (hH.lv (by decide)) (TX1_become_0.at 29 rfl) fl1_25 hH rfl rfl (by decide) (by decide) ?_
  refine z_iconst (TX1_become_0.at 30 rfl) ?_
  refine z_ald_0 (TX1_become_0.at 31 rfl) ?_
  refine zc_getA (m := 3) (s := 4) (k := 100) (hH.lv (by decide)) (TX1_become_0.at 32 rfl) fl1_25 hH rfl rfl (by decide) (by decide) ?_
  refine z_iconst (TX1_become_0.at 33 rfl) ?_
  refine z_bipush (by decide) (TX1_become_0.at 34 rfl) ?_
  refine zcf_copy (ks := 36) (kd := 100) (Ns := 10) (Nd := 10) (hH.lv (by decide)) (hH.lv (by decide)) (by decide) (by decide) rfl rfl eg36 (TX1_become_0.at 35 rfl) cp1_70 hH hA (by decide) (by decide) (by omega) (by omega) (by omega) (show _ ≤ ((10 : Nat) : Int) by omega) (show _ ≤ ((10 : Nat) : Int) by omega) (by omega) (fun h g65 e1 e2 hH hA => ?_)
  have eg97 := (e1 97 (by decide)).trans eg97
  have eg33 := (e1 33 (by decide)).trans eg33
  have eg98 := (e1 98 (by decide)).trans eg98
  have eg34 := (e1 34 (by decide)).trans eg34
  have eg99 := (e1 99 (by decide)).trans eg99
  have eg35 := (e1 35 (by decide)).trans eg35
  rw [eg100] at e2; have eg100 := e2
  have eg36 := (e1 36 (by decide)).trans eg36
  have eg102 := (e1 102 (by decide)).trans eg102
  have eg38 := (e1 38 (by decide)).trans eg38
  have eg104 := (e1 104 (by decide)).trans eg104
  have eg40 := (e1 40 (by decide)).trans eg40
  have eg106 := (e1 106 (by decide)).trans eg106
  have eg42 := (e1 42 (by decide)).trans eg42
  have eg107 := (e1 107 (by decide)).trans eg107
  have eg43 := (e1 43 (by decide)).trans eg43
  have eg108 := (e1 108 (by decide)).trans eg108
  have eg44 := (e1 44 (by decide)).trans eg44
  have eg110 := (e1 110 (by decide)).trans eg110
  have eg46 := (e1 46 (by decide)).trans eg46
  have hgE := hgE.put e1 (by decide)
  refine z_ald_0 (TX1_become_0.at 36 rfl) ?_
  refine z_ald_1 (TX1_become_0.at 37 rfl) ?_
  refine zc_getIE (m := 1) (s := 5) (k := 37) (hH.lv (by decide)) ef37 (TX1_become_0.at 38 rfl) fl1_28 hH rfl rfl (by decide) (by decide) (fun r70 => ?_)
  refine zc_putI (m := 3) (s := 5) (k := 101) (hH.lv (by decide)) (TX1_become_0.at 39 rfl) fp1_28 hH hA rfl rfl (by decide) (by decide) (by first | omega | exact b2i_01 _) (fun h f73 e1 e2 hH hA => ?_)
  have ef96 := (e1 96 (by decide)).trans ef96
  have ef101 := e2
  have ef32 := (e1 32 (by decide)).trans ef32
  have ef37 := (e1 37 (by decide)).trans ef37
  have ef39 := (e1 39 (by decide)).trans ef39
  have ef41 := (e1 41 (by decide)).trans ef41
  have ef45 := (e1 45 (by decide)).trans ef45
  have ef47 := (e1 47 (by decide)).trans ef47
  have hfE := hfE.put e1 (by decide)
  refine z_ald_1 (TX1_become_1.at 0 rfl) ?_
  refine zc_getA (m := 1) (s := 6) (k := 38) (hH.lv (by decide)) (TX1_become_1.at 1 rfl) fl1_31 hH rfl rfl (by decide) (by decide) ?_
  refine z_iconst (TX1_become_1.at 2 rfl) ?_
  refine z_ald_0 (TX1_become_1.at 3 rfl) ?_
  refine zc_getA (m := 3) (s := 6) (k := 102) (hH.lv (by decide)) (TX1_become_1.at 4 rfl) fl1_31 hH rfl rfl (by decide) (by decide) ?_
  refine z_iconst (TX1_become_1.at 5 rfl) ?_
  refine z_bipush (by decide) (TX1_become_1.at 6 rfl) ?_
  refine zcf_copy (ks := 38) (kd := 102) (Ns := 8) (Nd := 8) (hH.lv (by decide)) (hH.lv (by decide)) (by decide) (by decide) rfl rfl eg38 (TX1_become_1.at 7 rfl) cp1_70 hH hA (by decide) (by decide) (by omega) (by omega) (by omega) (show _ ≤ ((8 : Nat) : Int) by omega) (show _ ≤ ((8 : Nat) : Int) by omega) (by omega) (fun h g88 e1 e2 hH hA => ?_)
  have eg97 := (e1 97 (by decide)).trans eg97
  have eg33 := (e1 33 (by decide)).trans eg33
  have eg98 := (e1 98 (by decide)).trans eg98
  have eg34 := (e1 34 (by decide)).trans eg34
  have eg99 := (e1 99 (by decide)).trans eg99
  have eg35 := (e1 35 (by decide)).trans eg35
  have eg100 := (e1 100 (by decide)).trans eg100
  have eg36 := (e1 36 (by decide)).trans eg36
  rw [eg102] at e2; have eg102 := e2
  have eg38 := (e1 38 (by decide)).trans eg38
  have eg104 := (e1 104 (by decide)).trans eg104
  have eg40 := (e1 40 (by decide)).trans eg40
  have eg106 := (e1 106 (by decide)).trans eg106
  have eg42 := (e1 42 (by decide)).trans eg42
  have eg107 := (e1 107 (by decide)).trans eg107
  have eg43 := (e1 43 (by decide)).trans eg43
  have eg108 := (e1 108 (by decide)).trans eg108
  have eg44 := (e1 44 (by decide)).trans eg44
  have eg110 := (e1 110 (by decide)).trans eg110
  have eg46 := (e1 46 (by decide)).trans eg46
  have hgE := hgE.put e1 (by decide)
  refine z_ald_0 (TX1_become_1.at 8 rfl) ?_
  refine z_ald_1 (TX1_become_1.at 9 rfl) ?_
  refine zc_getIE (m := 1) (s := 7) (k := 39) (hH.lv (by decide)) ef39 (TX1_become_1.at 10 rfl) fl1_34 hH rfl rfl (by decide) (by decide) (fun r93 => ?_)
  refine zc_putI (m := 3) (s := 7) (k := 103) (hH.lv (by decide)) (TX1_become_1.at 11 rfl) fp1_34 hH hA rfl rfl (by decide) (by decide) (by first | omega | exact b2i_01 _) (fun h f96 e1 e2 hH hA => ?_)
  have ef96 := (e1 96 (by decide)).trans ef96
  have ef101 := (e1 101 (by decide)).trans ef101
  have ef103 := e2
  have ef32 := (e1 32 (by decide)).trans ef32
  have ef37 := (e1 37 (by decide)).trans ef37
  have ef39 := (e1 39 (by decide)).trans ef39
  have ef41 := (e1 41 (by decide)).trans ef41
  have ef45 := (e1 45 (by decide)).trans ef45
  have ef47 := (e1 47 (by decide)).trans ef47
  have hfE := hfE.put e1 (by decide)
  refine z_ald_1 (TX1_become_1.at 12 rfl) ?_
  refine zc_getA (m := 1) (s := 8) (k := 40) (hH.lv (by decide)) (TX1_become_1.at 13 rfl) fl1_37 hH rfl rfl (by decide) (by decide) ?_
  refine z_iconst (TX1_become_1.at 14 rfl) ?_
  refine z_ald_0 (TX1_become_1.at 15 rfl) ?_
  refine zc_getA (m := 3) (s := 8) (k := 104) (hH.lv (by decide)) (TX1_become_1.at 16 rfl) fl1_37 hH rfl rfl (by decide) (by decide) ?_
  refine z_iconst (TX1_become_1.at 17 rfl) ?_
  refine z_iconst (TX1_become_1.at 18 rfl) ?_
  refine zcf_copy (ks := 40) (kd := 104) (Ns := 3) (Nd := 3) (hH.lv (by decide)) (hH.lv (by decide)) (by decide) (by decide) rfl rfl eg40 (TX1_become_1.at 19 rfl) cp1_70 hH hA (by decide) (by decide) (by omega) (by omega) (by omega) (show _ ≤ ((3 : Nat) : Int) by omega) (show _ ≤ ((3 : Nat) : Int) by omega) (by omega) (fun h g110 e1 e2 hH hA => ?_)
  have eg97 := (e1 97 (by decide)).trans eg97
  have eg33 := (e1 33 (by decide)).trans eg33
  have eg98 := (e1 98 (by decide)).trans eg98
  have eg34 := (e1 34 (by decide)).trans eg34
  have eg99 := (e1 99 (by decide)).trans eg99
  have eg35 := (e1 35 (by decide)).trans eg35
  have eg100 := (e1 100 (by decide)).trans eg100
  have eg36 := (e1 36 (by decide)).trans eg36
  have eg102 := (e1 102 (by decide)).trans eg102
  have eg38 := (e1 38 (by decide)).trans eg38
  rw [eg104] at e2; have eg104 := e2
  have eg40 := (e1 40 (by decide)).trans eg40
  have eg106 := (e1 106 (by decide)).trans eg106
  have eg42 := (e1 42 (by decide)).trans eg42
  have eg107 := (e1 107 (by decide)).trans eg107
  have eg43 := (e1 43 (by decide)).trans eg43
  have eg108 := (e1 108 (by decide)).trans eg108
  have eg44 := (e1 44 (by decide)).trans eg44
  have eg110 := (e1 110 (by decide)).trans eg110
  have eg46 := (e1 46 (by decide)).trans eg46
  have hgE := hgE.put e1 (by decide)
  refine z_ald_0 (TX1_become_1.at 20 rfl) ?_
  refine z_ald_1 (TX1_become_1.at 21 rfl) ?_
  refine zc_getIE (m := 1) (s := 9) (k := 41) (hH.lv (by decide)) ef41 (TX1_become_1.at 22 rfl) fl1_40 hH rfl rfl (by decide) (by decide) (fun r115 => ?_)
  refine zc_putI (m := 3) (s := 9) (k := 105) (hH.lv (by decide)) (TX1_become_1.at 23 rfl) fp1_40 hH hA rfl rfl (by decide) (by decide) (by first | omega | exact b2i_01 _) (fun h f118 e1 e2 hH hA => ?_)
  have ef96 := (e1 96 (by decide)).trans ef96
  have ef101 := (e1 101 (by decide)).trans ef101
  have ef103 := (e1 103 (by decide)).trans ef103
  have ef105 := e2
  have ef32 := (e1 32 (by decide)).trans ef32
  have ef37 := (e1 37 (by decide)).trans ef37
  have ef39 := (e1 39 (by decide)).trans ef39
  have ef41 := (e1 41 (by decide)).trans ef41
  have ef45 := (e1 45 (by decide)).trans ef45
  have ef47 := (e1 47 (by decide)).trans ef47
  have hfE := hfE.put e1 (by decide)
  refine z_ald_1 (TX1_become_1.at 24 rfl) ?_
  refine zc_getA (m := 1) (s := 10) (k := 42) (hH.lv (by decide)) (TX1_become_1.at 25 rfl) fl1_43 hH rfl rfl (by decide) (by decide) ?_
  refine z_iconst (TX1_become_1.at 26 rfl) ?_
  refine z_ald_0 (TX1_become_1.at 27 rfl) ?_
  refine zc_getA (m := 3) (s := 10) (k := 106) (hH.lv (by decide)) (TX1_become_1.at 28 rfl) fl1_43 hH rfl rfl (by decide) (by decide) ?_
  refine z_iconst (TX1_become_1.at 29 rfl) ?_
  refine z_bipush (by decide) (TX1_become_1.at 30 rfl) ?_
  refine zcf_copy (ks := 42) (kd := 106) (Ns := 6) (Nd := 6) (hH.lv (by decide)) (hH.lv (by decide)) (by decide) (by decide) rfl rfl eg42 (TX1_become_1.at 31 rfl) cp1_70 hH hA (by decide) (by decide) (by omega) (by omega) (by omega) (show _ ≤ ((6 : Nat) : Int) by omega) (show _ ≤ ((6 : Nat) : Int) by omega) (by omega) (fun h g133 e1 e2 hH hA => ?_)
  have eg97 := (e1 97 (by decide)).trans eg97
  have eg33 := (e1 33 (by decide)).trans eg33
  have eg98 := (e1 98 (by decide)).trans eg98
  have eg34 := (e1 34 (by decide)).trans eg34
  have eg99 := (e1 99 (by decide)).trans eg99
  have eg35 := (e1 35 (by decide)).trans eg35
  have eg100 := (e1 100 (by decide)).trans eg100
  have eg36 := (e1 36 (by decide)).trans eg36
  have eg102 := (e1 102 (by decide)).trans eg102
  have eg38 := (e1 38 (by decide)).trans eg38
  have eg104 := (e1 104 (by decide)).trans eg104
  have eg40 := (e1 40 (by decide)).trans eg40
  rw [eg106] at e2; have eg106 := e2
  have eg42 := (e1 42 (by decide)).trans eg42
  have eg107 := (e1 107 (by decide)).trans eg107
  have eg43 := (e1 43 (by decide)).trans eg43
  have eg108 := (e1 108 (by decide)).trans eg108
  have eg44 := (e1 44 (by decide)).trans eg44
  have eg110 := (e1 110 (by decide)).trans eg110
  have eg46 := (e1 46 (by decide)).trans eg46
  have hgE := hgE.put e1 (by decide)
  refine z_ald_1 (TX1_become_1.at 32 rfl) ?_
  refine zc_getA (m := 1) (s := 11) (k := 43) (hH.lv (by decide)) (TX1_become_1.at 33 rfl) fl1_46 hH rfl rfl (by decide) (by decide) ?_
  refine z_iconst (TX1_become_1.at 34 rfl) ?_
  refine z_ald_0 (TX1_become_1.at 35 rfl) ?_
  refine zc_getA (m := 3) (s := 11) (k := 107) (hH.lv (by decide)) (TX1_become_1.at 36 rfl) fl1_46 hH rfl rfl (by decide) (by decide) ?_
  refine z_iconst (TX1_become_1.at 37 rfl) ?_
  refine z_bipush (by decide) (TX1_become_1.at 38 rfl) ?_
  refine zcf_copy (ks := 43) (kd := 107) (Ns := 6) (Nd := 6) (hH.lv (by decide)) (hH.lv (by decide)) (by decide) (by decide) rfl rfl eg43 (TX1_become_1.at 39 rfl) cp1_70 hH hA (by decide) (by decide) (by omega) (by omega) (by omega) (show _ ≤ ((6 : Nat) : Int) by omega) (show _ ≤ ((6 : Nat) : Int) by omega) (by omega) (fun h g148 e1 e2 hH hA => ?_)
  have eg97 := (e1 97 (by decide)).trans eg97
  have eg33 := (e1 33 (by decide)).trans eg33
  have eg98 := (e1 98 (by decide)).trans eg98
  have eg34 := (e1 34 (by decide)).trans eg34
  have eg99 := (e1 99 (by decide)).trans eg99
  have eg35 := (e1 35 (by decide)).trans eg35
  have eg100 := (e1 100 (by decide)).trans eg100
  have eg36 := (e1 36 (by decide)).trans eg36
  have eg102 := (e1 102 (by decide)).trans eg102
  have eg38 := (e1 38 (by decide)).trans eg38
  have eg104 := (e1 104 (by decide)).trans eg104
  have eg40 := (e1 40 (by decide)).trans eg40
  have eg106 := (e1 106 (by decide)).trans eg106
  have eg42 := (e1 42 (by decide)).trans eg42
  rw [eg107] at e2; have eg107 := e2
  have eg43 := (e1 43 (by decide)).trans eg43
  have eg108 := (e1 108 (by decide)).trans eg108
  have eg44 := (e1 44 (by decide)).trans eg44
  have eg110 := (e1 110 (by decide)).trans eg110
  have eg46 := (e1 46 (by decide)).trans eg46
  have hgE := hgE.put e1 (by decide)
  refine z_ald_1 (TX1_become_2.at 0 rfl) ?_
  refine zc_getA (m := 1) (s := 12) (k := 44) (hH.lv (by decide)) (TX1_become_2.at 1 rfl) fl1_49 hH rfl rfl (by decide) (by decide) ?_
  refine z_iconst (TX1_become_2.at 2 rfl) ?_
  refine z_ald_0 (TX1_become_2.at 3 rfl) ?_
  refine zc_getA (m := 3) (s := 12) (k := 108) (hH.lv (by decide)) (TX1_become_2.at 4 rfl) fl1_49 hH rfl rfl (by decide) (by decide) ?_
  refine z_iconst (TX1_become_2.at 5 rfl) ?_
  refine z_iconst (TX1_become_2.at 6 rfl) ?_
  refine zcf_copy (ks := 44) (kd := 108) (Ns := 3) (Nd := 3) (hH.lv (by decide)) (hH.lv (by decide)) (by decide) (by decide) rfl rfl eg44 (TX1_become_2.at 7 rfl) cp1_70 hH hA (by decide) (by decide) (by omega) (by omega) (by omega) (show _ ≤ ((3 : Nat) : Int) by omega) (show _ ≤ ((3 : Nat) : Int) by omega) (by omega) (fun h g162 e1 e2 hH hA => ?_)
  have eg97 := (e1 97 (by decide)).trans eg97
  have eg33 := (e1 33 (by decide)).trans eg33
  have eg98 := (e1 98 (by decide)).trans eg98
  have eg34 := (e1 34 (by decide)).trans eg34
  have eg99 := (e1 99 (by decide)).trans eg99
  have eg35 := (e1 35 (by decide)).trans eg35
  have eg100 := (e1 100 (by decide)).trans eg100
  have eg36 := (e1 36 (by decide)).trans eg36
  have eg102 := (e1 102 (by decide)).trans eg102
  have eg38 := (e1 38 (by decide)).trans eg38
  have eg104 := (e1 104 (by decide)).trans eg104
  have eg40 := (e1 40 (by decide)).trans eg40
  have eg106 := (e1 106 (by decide)).trans eg106
  have eg42 := (e1 42 (by decide)).trans eg42
  have eg107 := (e1 107 (by decide)).trans eg107
  have eg43 := (e1 43 (by decide)).trans eg43
  rw [eg108] at e2; have eg108 := e2
  have eg44 := (e1 44 (by decide)).trans eg44
  have eg110 := (e1 110 (by decide)).trans eg110
  have eg46 := (e1 46 (by decide)).trans eg46
  have hgE := hgE.put e1 (by decide)
  refine z_ald_0 (TX1_become_2.at 8 rfl) ?_
  refine z_ald_1 (TX1_become_2.at 9 rfl) ?_
  refine zc_getIE (m := 1) (s := 13) (k := 45) (hH.lv (by decide)) ef45 (TX1_become_2.at 10 rfl) fl1_52 hH rfl rfl (by decide) (by decide) (fun r167 => ?_)
  refine zc_putI (m := 3) (s := 13) (k := 109) (hH.lv (by decide)) (TX1_become_2.at 11 rfl) fp1_52 hH hA rfl rfl (by decide) (by decide) (by first | omega | exact b2i_01 _) (fun h f170 e1 e2 hH hA => ?_)
  have ef96 := (e1 96 (by decide)).trans ef96
  have ef101 := (e1 101 (by decide)).trans ef101
  have ef103 := (e1 103 (by decide)).trans ef103
  have ef105 := (e1 105 (by decide)).trans ef105
  have ef109 := e2
  have ef32 := (e1 32 (by decide)).trans ef32
  have ef37 := (e1 37 (by decide)).trans ef37
  have ef39 := (e1 39 (by decide)).trans ef39
  have ef41 := (e1 41 (by decide)).trans ef41
  have ef45 := (e1 45 (by decide)).trans ef45
  have ef47 := (e1 47 (by decide)).trans ef47
  have hfE := hfE.put e1 (by decide)
  refine z_iconst (TX1_become_2.at 12 rfl) ?_
  refine z_ist_2 (TX1_become_2.at 13 rfl) (Nat.le_of_ble_eq_true rfl) rfl ?_
  refine lp_bec3_1  hOK (fun f175 g175 h eg110 xf xg hH hA => ?_) 7 0 _ _ _ (by omega) (by omega) (by omega) (eg110.trans (cpy_0 _ _ _ _).symm) eg46 eqx.rf eqx.rf hH hA
  have ef96 := (xf 96 (by decide)).trans ef96
  have ef101 := (xf 101 (by decide)).trans ef101
  have ef103 := (xf 103 (by decide)).trans ef103
  have ef105 := (xf 105 (by decide)).trans ef105
  have ef109 := (xf 109 (by decide)).trans ef109
  have ef32 := (xf 32 (by decide)).trans ef32
  have ef37 := (xf 37 (by decide)).trans ef37
  have ef39 := (xf 39 (by decide)).trans ef39
  have ef41 := (xf 41 (by decide)).trans ef41
  have ef45 := (xf 45 (by decide)).trans ef45
  have ef47 := (xf 47 (by decide)).trans ef47
  have hfE := hfE.trans xf (by decide)
  have eg97 := (xg 97 (by decide)).trans eg97
  have eg33 := (xg 33 (by decide)).trans eg33
  have eg98 := (xg 98 (by decide)).trans eg98
  have eg34 := (xg 34 (by decide)).trans eg34
  have eg99 := (xg 99 (by decide)).trans eg99
  have eg35 := (xg 35 (by decide)).trans eg35
  have eg100 := (xg 100 (by decide)).trans eg100
  have eg36 := (xg 36 (by decide)).trans eg36
  have eg102 := (xg 102 (by decide)).trans eg102
  have eg38 := (xg 38 (by decide)).trans eg38
  have eg104 := (xg 104 (by decide)).trans eg104
  have eg40 := (xg 40 (by decide)).trans eg40
  have eg106 := (xg 106 (by decide)).trans eg106
  have eg42 := (xg 42 (by decide)).trans eg42
  have eg107 := (xg 107 (by decide)).trans eg107
  have eg43 := (xg 43 (by decide)).trans eg43
  have eg108 := (xg 108 (by decide)).trans eg108
  have eg44 := (xg 44 (by decide)).trans eg44
  have eg46 := (xg 46 (by decide)).trans eg46
  have hgE := hgE.trans xg (by decide)
  refine z_ald_0 (TX1_become_2.at 27 rfl) ?_
  refine z_ald_1 (TX1_become_2.at 28 rfl) ?_
  refine zc_getIE (m := 1) (s := 15) (k := 47) (hH.lv (by decide)) ef47 (TX1_become_2.at 29 rfl) fl1_61 hH rfl rfl (by decide) (by decide) (fun r201 => ?_)
  refine zc_putI (m := 3) (s := 15) (k := 111) (hH.lv (by decide)) (TX1_become_2.at 30 rfl) fp1_61 hH hA rfl rfl (by decide) (by decide) (by first | omega | exact b2i_01 _) (fun h f204 e1 e2 hH hA => ?_)
  have ef96 := (e1 96 (by decide)).trans ef96
  have ef101 := (e1 101 (by decide)).trans ef101
  have ef103 := (e1 103 (by decide)).trans ef103
  have ef105 := (e1 105 (by decide)).trans ef105
  have ef109 := (e1 109 (by decide)).trans ef109
  have ef111 := e2
  have ef32 := (e1 32 (by decide)).trans ef32
  have ef37 := (e1 37 (by decide)).trans ef37
  have ef39 := (e1 39 (by decide)).trans ef39
  have ef41 := (e1 41 (by decide)).trans ef41
  have ef45 := (e1 45 (by decide)).trans ef45
  have ef47 := (e1 47 (by decide)).trans ef47
  have hfE := hfE.put e1 (by decide)
  refine zc_vret (TX1_become_2.at 31 rfl) rfl hH hA ?_
  exact ⟨⟨ef96, ef101, ef103, ef105, ef109, ef111, eg97, eg98, eg99, eg100, eg102, eg104, eg106, eg107, eg108, eg110⟩, hfE, hgE, rfl⟩

set_option maxHeartbeats 4000000 in
set_option maxRecDepth 100000 in
theorem lp_bec4_1 {l : Launch} {E : cE} {d : Nat} {Pz : Option Value → zH → Prop} {h0 : zH} {f0 : mF} {g0 : mA} {j : mA}  {X Y : Int → Int} (hl4 : E.2.1 4 = true) (hOK : ∀ q : Int, 0 ≤ q → q < 6 → okR E 4 (Y q)) (kx : ∀ (f : mF) (g : mA) (h : zH), g 142 = cpy X Y 0 0 6 → eqx [] f0 f → eqx [142] g0 g → HC E f g j h → cAg E h0 h → Z l MX1_become d 0 0 Pz 199 [some (.ref (E.1 159)), some (.ref (E.1 63)), some (vI 6)] [] h 0 0)  : ∀ (n : Nat) (i : Int) (f : mF) (g : mA) (h : zH) (i0 : 0 ≤ i) (i1 : i ≤ 6) (i2 : 6 < i + n) (eg142 : g 142 = cpy X Y 0 0 i) (eg46 : g 46 = Y) (hfE : eqx [] f0 f) (hgE : eqx [142] g0 g) (hH : HC E f g j h) (hA : cAg E h0 h), Z l MX1_become d 0 0 Pz 175 [some (.ref (E.1 159)), some (.ref (E.1 63)), some (vI i)] [] h 0 0 := by
  intro n
  induction n with
  | zero => intro i f g h i0 i1 i2 eg142 eg46 hfE hgE hH hA; exfalso; omega
  | succ n ih =>
    intro i f g h i0 i1 i2 eg142 eg46 hfE hgE hH hA
    refine z_ild_2 (TX1_become_2.at 14 rfl) ?_
    refine z_bipush (by decide) (TX1_become_2.at 15 rfl) ?_
    refine z_icmp_ge (tgt := 199) (TX1_become_2.at 16 rfl) rfl (by omega) (by omega) (fun c1 => ?_) (fun c1 => ?_)
    · skip
      obtain rfl : i = 6 := by omega
      exact kx _ _ _ eg142 hfE hgE hH hA
    · skip
      refine z_ald_0 (TX1_become_2.at 17 rfl) ?_
      refine zc_getA (m := 4) (s := 14) (k := 142) hl4 (TX1_become_2.at 18 rfl) fl1_57 hH rfl rfl (by decide) (by decide) ?_
      refine z_ild_2 (TX1_become_2.at 19 rfl) ?_
      refine z_ald_1 (TX1_become_2.at 20 rfl) ?_
      refine zc_getA (m := 1) (s := 14) (k := 46) (hH.lv (by decide)) (TX1_become_2.at 21 rfl) fl1_57 hH rfl rfl (by decide) (by decide) ?_
      refine z_ild_2 (TX1_become_2.at 22 rfl) ?_
      refine zcf_aald (k := 46) (N := 6) (hH.lv (by decide)) (by decide) rfl eg46 (TX1_become_2.at 23 rfl) hH (by decide) (by omega) (show _ < ((6 : Nat) : Int) by omega) ?_
      refine zcf_aast (k := 142) (N := 6) hl4 (by decide) rfl (TX1_become_2.at 24 rfl) hH hA (by decide) (by omega) (show _ < ((6 : Nat) : Int) by omega) (by exact hOK i i0 (by omega)) (fun h g192 e1 e2 hH hA => ?_)
      rw [eg142] at e2; have eg142 := e2
      have eg46 := (e1 46 (by decide)).trans eg46
      have hgE := hgE.put e1 (by decide)
      refine z_iinc_2 (TX1_become_2.at 25 rfl) (Nat.le_of_ble_eq_true rfl) rfl ?_
      refine z_goto (tgt := 175) (TX1_become_2.at 26 rfl) rfl ?_
      exact ih (i + 1) _ _ _ (by omega) (by omega) (by omega) (by rw [cpy_s (by omega) (by omega) (by omega)] at eg142; exact eg142) eg46 hfE hgE hH hA

set_option maxHeartbeats 4000000 in
set_option maxRecDepth 100000 in
theorem c_bec4_1 {l : Launch} {E : cE} {f : mF} {g j : mA} {X1 : Int → Int} {Y1 : Int → Int} {X2 : Int → Int} {Y2 : Int → Int} {X3 : Int → Int} {Y3 : Int → Int} {X4 : Int → Int} {Y4 : Int → Int} {X6 : Int → Int} {Y6 : Int → Int} {X8 : Int → Int} {Y8 : Int → Int} {X10 : Int → Int} {Y10 : Int → Int} {X11 : Int → Int} {Y11 : Int → Int} {X12 : Int → Int} {Y12 : Int → Int} {X14 : Int → Int} {Y14 : Int → Int} {y0 : Int} {y5 : Int} {y7 : Int} {y9 : Int} {y13 : Int} {y15 : Int}  (eg129 : g 129 = X1) (eg33 : g 33 = Y1) (eg130 : g 130 = X2) (eg34 : g 34 = Y2) (eg131 : g 131 = X3) (eg35 : g 35 = Y3) (eg132 : g 132 = X4) (eg36 : g 36 = Y4) (eg134 : g 134 = X6) (eg38 : g 38 = Y6) (eg136 : g 136 = X8) (eg40 : g 40 = Y8) (eg138 : g 138 = X10) (eg42 : g 42 = Y10) (eg139 : g 139 = X11) (eg43 : g 43 = Y11) (eg140 : g 140 = X12) (eg44 : g 44 = Y12) (eg142 : g 142 = X14) (eg46 : g 46 = Y14) (ef32 : f 32 = y0) (ef37 : f 37 = y5) (ef39 : f 39 = y7) (ef41 : f 41 = y9) (ef45 : f 45 = y13) (ef47 : f 47 = y15) (hl4 : E.2.1 4 = true) (hOK : ∀ q : Int, 0 ≤ q → q < 6 → okR E 4 (Y14 q)) : CM l E MX1_become 1 [.ref (E.1 159), .ref (E.1 63)] f g j (PV (fun f' g' j' => (f' 128 = y0 ∧ f' 133 = y5 ∧ f' 135 = y7 ∧ f' 137 = y9 ∧ f' 141 = y13 ∧ f' 143 = y15 ∧ g' 129 = cpy X1 Y1 0 0 10 ∧ g' 130 = cpy X2 Y2 0 0 10 ∧ g' 131 = cpy X3 Y3 0 0 10 ∧ g' 132 = cpy X4 Y4 0 0 10 ∧ g' 134 = cpy X6 Y6 0 0 8 ∧ g' 136 = cpy X8 Y8 0 0 3 ∧ g' 138 = cpy X10 Y10 0 0 6 ∧ g' 139 = cpy X11 Y11 0 0 6 ∧ g' 140 = cpy X12 Y12 0 0 3 ∧ g' 142 = cpy X14 Y14 0 0 6) ∧ eqx [128, 133, 135, 137, 141, 143] f f' ∧ eqx [129, 130, 131, 132, 134, 136, 138, 139, 140, 142] g g' ∧ j' = j)) := by
  refine CM.intro [some (.ref (E.1 159)), some (.ref (E.1 63)), none] (by decide) (Nat.le_of_ble_eq_true rfl) rfl (fun d hd h0 h hH hA => ?_)
  have hfE : eqx [128, 133, 135, 137, 141, 143] f f := eqx.rf
  have hgE : eqx [129, 130, 131, 132, 134, 136, 138, 139, 140, 142] g g := eqx.rf
  refine z_ald_0 (TX1_become_0.at 0 rfl) ?_
  refine z_ald_1 (TX1_become_0.at 1 rfl) ?_
  refine zc_getIE (m := 1) (s := 0) (k := 32) (hH.lv (by decide)) ef32 (TX1_become_0.at 2 rfl) fl1_9 hH rfl rfl (by decide) (by decide) (fun r2 => ?_)
  refine zc_putI (m := 4) (s := 0) (k := 128) hl4 (TX1_become_0.at 3 rfl) fp1_9 hH hA rfl rfl (by decide) (by decide) (by first | omega | exact b2i_01 _) (fun h f5 e1 e2 hH hA => ?_)
  have ef128 := e2
  have ef32 := (e1 32 (by decide)).trans ef32
  have ef37 := (e1 37 (by decide)).trans ef37
  have ef39 := (e1 39 (by decide)).trans ef39
  have ef41 := (e1 41 (by decide)).trans ef41
  have ef45 := (e1 45 (by decide)).trans ef45
  have ef47 := (e1 47 (by decide)).trans ef47
  have hfE := hfE.put e1 (by decide)
  refine z_ald_1 (TX1_become_0.at 4 rfl) ?_
  refine zc_getA (m := 1) (s := 1) (k := 33) (hH.lv (by decide)) (TX1_become_0.at 5 rfl) fl1_15 hH rfl rfl (by decide) (by decide) ?_
  refine z_iconst (TX1_become_0.at 6 rfl) ?_
  refine z_ald_0 (TX1_become_0.at 7 rfl) ?_
  refine zc_getA (m := 4) (s := 1) (k := 129) hl4 (TX1_become_0.at 8 rfl) fl1_15 hH rfl rfl (by decide) (by decide) ?_
  refine z_iconst (TX1_become_0.at 9 rfl) ?_
  refine z_bipush (by decide) (TX1_become_0.at 10 rfl) ?_
  refine zcf_copy (ks := 33) (kd := 129) (Ns := 10) (Nd := 10) (hH.lv (by decide)) hl4 (by decide) (by decide) rfl rfl eg33 (TX1_become_0.at 11 rfl) cp1_70 hH hA (by decide) (by decide) (by omega) (by omega) (by omega) (show _ ≤ ((10 : Nat) : Int) by omega) (show _ ≤ ((10 : Nat) : Int) by omega) (by omega) (fun h g20 e1 e2 hH hA => ?_)
  rw [eg129] at e2; have eg129 := e2
  have eg33 := (e1 33 (by decide)).trans eg33
  have eg130 := (e1 130 (by decide)).trans eg130
  have eg34 := (e1 34 (by decide)).trans eg34
  have eg131 := (e1 131 (by decide)).trans eg131
  have eg35 := (e1 35 (by decide)).trans eg35
  have eg132 := (e1 132 (by decide)).trans eg132
  have eg36 := (e1 36 (by decide)).trans eg36
  have eg134 := (e1 134 (by decide)).trans eg134
  have eg38 := (e1 38 (by decide)).trans eg38
  have eg136 := (e1 136 (by decide)).trans eg136
  have eg40 := (e1 40 (by decide)).trans eg40
  have eg138 := (e1 138 (by decide)).trans eg138
  have eg42 := (e1 42 (by decide)).trans eg42
  have eg139 := (e1 139 (by decide)).trans eg139
  have eg43 := (e1 43 (by decide)).trans eg43
  have eg140 := (e1 140 (by decide)).trans eg140
  have eg44 := (e1 44 (by decide)).trans eg44
  have eg142 := (e1 142 (by decide)).trans eg142
  have eg46 := (e1 46 (by decide)).trans eg46
  have hgE := hgE.put e1 (by decide)
  refine z_ald_1 (TX1_become_0.at 12 rfl) ?_
  refine zc_getA (m := 1) (s := 2) (k := 34) (hH.lv (by decide)) (TX1_become_0.at 13 rfl) fl1_19 hH rfl rfl (by decide) (by decide) ?_
  refine z_iconst (TX1_become_0.at 14 rfl) ?_
  refine z_ald_0 (TX1_become_0.at 15 rfl) ?_
  refine zc_getA (m := 4) (s := 2) (k := 130) hl4 (TX1_become_0.at 16 rfl) fl1_19 hH rfl rfl (by decide) (by decide) ?_
  refine z_iconst (TX1_become_0.at 17 rfl) ?_
  refine z_bipush (by decide) (TX1_become_0.at 18 rfl) ?_
  refine zcf_copy (ks := 34) (kd := 130) (Ns := 10) (Nd := 10) (hH.lv (by decide)) hl4 (by decide) (by decide) rfl rfl eg34 (TX1_become_0.at 19 rfl) cp1_70 hH hA (by decide) (by decide) (by omega) (by omega) (by omega) (show _ ≤ ((10 : Nat) : Int) by omega) (show _ ≤ ((10 : Nat) : Int) by omega) (by omega) (fun h g35 e1 e2 hH hA => ?_)
  have eg129 := (e1 129 (by decide)).trans eg129
  have eg33 := (e1 33 (by decide)).trans eg33
  rw [eg130] at e2; have eg130 := e2
  have eg34 := (e1 34 (by decide)).trans eg34
  have eg131 := (e1 131 (by decide)).trans eg131
  have eg35 := (e1 35 (by decide)).trans eg35
  have eg132 := (e1 132 (by decide)).trans eg132
  have eg36 := (e1 36 (by decide)).trans eg36
  have eg134 := (e1 134 (by decide)).trans eg134
  have eg38 := (e1 38 (by decide)).trans eg38
  have eg136 := (e1 136 (by decide)).trans eg136
  have eg40 := (e1 40 (by decide)).trans eg40
  have eg138 := (e1 138 (by decide)).trans eg138
  have eg42 := (e1 42 (by decide)).trans eg42
  have eg139 := (e1 139 (by decide)).trans eg139
  have eg43 := (e1 43 (by decide)).trans eg43
  have eg140 := (e1 140 (by decide)).trans eg140
  have eg44 := (e1 44 (by decide)).trans eg44
  have eg142 := (e1 142 (by decide)).trans eg142
  have eg46 := (e1 46 (by decide)).trans eg46
  have hgE := hgE.put e1 (by decide)
  refine z_ald_1 (TX1_become_0.at 20 rfl) ?_
  refine zc_getA (m := 1) (s := 3) (k := 35) (hH.lv (by decide)) (TX1_become_0.at 21 rfl) fl1_22 hH rfl rfl (by decide) (by decide) ?_
  refine z_iconst (TX1_become_0.at 22 rfl) ?_
  refine z_ald_0 (TX1_become_0.at 23 rfl) ?_
  refine zc_getA (m := 4) (s := 3) (k := 131) hl4 (TX1_become_0.at 24 rfl) fl1_22 hH rfl rfl (by decide) (by decide) ?_
  refine z_iconst (TX1_become_0.at 25 rfl) ?_
  refine z_bipush (by decide) (TX1_become_0.at 26 rfl) ?_
  refine zcf_copy (ks := 35) (kd := 131) (Ns := 10) (Nd := 10) (hH.lv (by decide)) hl4 (by decide) (by decide) rfl rfl eg35 (TX1_become_0.at 27 rfl) cp1_70 hH hA (by decide) (by decide) (by omega) (by omega) (by omega) (show _ ≤ ((10 : Nat) : Int) by omega) (show _ ≤ ((10 : Nat) : Int) by omega) (by omega) (fun h g50 e1 e2 hH hA => ?_)
  have eg129 := (e1 129 (by decide)).trans eg129
  have eg33 := (e1 33 (by decide)).trans eg33
  have eg130 := (e1 130 (by decide)).trans eg130
  have eg34 := (e1 34 (by decide)).trans eg34
  rw [eg131] at e2; have eg131 := e2
  have eg35 := (e1 35 (by decide)).trans eg35
  have eg132 := (e1 132 (by decide)).trans eg132
  have eg36 := (e1 36 (by decide)).trans eg36
  have eg134 := (e1 134 (by decide)).trans eg134
  have eg38 := (e1 38 (by decide)).trans eg38
  have eg136 := (e1 136 (by decide)).trans eg136
  have eg40 := (e1 40 (by decide)).trans eg40
  have eg138 := (e1 138 (by decide)).trans eg138
  have eg42 := (e1 42 (by decide)).trans eg42
  have eg139 := (e1 139 (by decide)).trans eg139
  have eg43 := (e1 43 (by decide)).trans eg43
  have eg140 := (e1 140 (by decide)).trans eg140
  have eg44 := (e1 44 (by decide)).trans eg44
  have eg142 := (e1 142 (by decide)).trans eg142
  have eg46 := (e1 46 (by decide)).trans eg46
  have hgE := hgE.put e1 (by decide)
  refine z_ald_1 (TX1_become_0.at 28 rfl) ?_
  refine zc_getA (m := 1) (s := 4) (k := 36) (hH.lv (by decide)) (TX1_become_0.at 29 rfl) fl1_25 hH rfl rfl (by decide) (by decide) ?_
  refine z_iconst (TX1_become_0.at 30 rfl) ?_
  refine z_ald_0 (TX1_become_0.at 31 rfl) ?_
  refine zc_getA (m := 4) (s := 4) (k := 132) hl4 (TX1_become_0.at 32 rfl) fl1_25 hH rfl rfl (by decide) (by decide) ?_
  refine z_iconst (TX1_become_0.at 33 rfl) ?_
  refine z_bipush (by decide) (TX1_become_0.at 34 rfl) ?_
  refine zcf_copy (ks := 36) (kd := 132) (Ns := 10) (Nd := 10) (hH.lv (by decide)) hl4 (by decide) (by decide) rfl rfl eg36 (TX1_become_0.at 35 rfl) cp1_70 hH hA (by decide) (by decide) (by omega) (by omega) (by omega) (show _ ≤ ((10 : Nat) : Int) by omega) (show _ ≤ ((10 : Nat) : Int) by omega) (by omega) (fun h g65 e1 e2 hH hA => ?_)
  have eg129 := (e1 129 (by decide)).trans eg129
  have eg33 := (e1 33 (by decide)).trans eg33
  have eg130 := (e1 130 (by decide)).trans eg130
  have eg34 := (e1 34 (by decide)).trans eg34
  have eg131 := (e1 131 (by decide)).trans eg131
  have eg35 := (e1 35 (by decide)).trans eg35
  rw [eg132] at e2; have eg132 := e2
  have eg36 := (e1 36 (by decide)).trans eg36
  have eg134 := (e1 134 (by decide)).trans eg134
  have eg38 := (e1 38 (by decide)).trans eg38
  have eg136 := (e1 136 (by decide)).trans eg136
  have eg40 := (e1 40 (by decide)).trans eg40
  have eg138 := (e1 138 (by decide)).trans eg138
  have eg42 := (e1 42 (by decide)).trans eg42
  have eg139 := (e1 139 (by decide)).trans eg139
  have eg43 := (e1 43 (by decide)).trans eg43
  have eg140 := (e1 140 (by decide)).trans eg140
  have eg44 := (e1 44 (by decide)).trans eg44
  have eg142 := (e1 142 (by decide)).trans eg142
  have eg46 := (e1 46 (by decide)).trans eg46
  have hgE := hgE.put e1 (by decide)
  refine z_ald_0 (TX1_become_0.at 36 rfl) ?_
  refine z_ald_1 (TX1_become_0.at 37 rfl) ?_
  refine zc_getIE (m := 1) (s := 5) (k := 37) (hH.lv (by decide)) ef37 (TX1_become_0.at 38 rfl) fl1_28 hH rfl rfl (by decide) (by decide) (fun r70 => ?_)
  refine zc_putI (m := 4) (s := 5) (k := 133) hl4 (TX1_become_0.at 39 rfl) fp1_28 hH hA rfl rfl (by decide) (by decide) (by first | omega | exact b2i_01 _) (fun h f73 e1 e2 hH hA => ?_)
  have ef128 := (e1 128 (by decide)).trans ef128
  have ef133 := e2
  have ef32 := (e1 32 (by decide)).trans ef32
  have ef37 := (e1 37 (by decide)).trans ef37
  have ef39 := (e1 39 (by decide)).trans ef39
  have ef41 := (e1 41 (by decide)).trans ef41
  have ef45 := (e1 45 (by decide)).trans ef45
  have ef47 := (e1 47 (by decide)).trans ef47
  have hfE := hfE.put e1 (by decide)
  refine z_ald_1 (TX1_become_1.at 0 rfl) ?_
  refine zc_getA (m := 1) (s := 6) (k := 38) (hH.lv (by decide)) (TX1_become_1.at 1 rfl) fl1_31 hH rfl rfl (by decide) (by decide) ?_
  refine z_iconst (TX1_become_1.at 2 rfl) ?_
  refine z_ald_0 (TX1_become_1.at 3 rfl) ?_
  refine zc_getA (m := 4) (s := 6) (k := 134) hl4 (TX1_become_1.at 4 rfl) fl1_31 hH rfl rfl (by decide) (by decide) ?_
  refine z_iconst (TX1_become_1.at 5 rfl) ?_
  refine z_bipush (by decide) (TX1_become_1.at 6 rfl) ?_
  refine zcf_copy (ks := 38) (kd := 134) (Ns := 8) (Nd := 8) (hH.lv (by decide)) hl4 (by decide) (by decide) rfl rfl eg38 (TX1_become_1.at 7 rfl) cp1_70 hH hA (by decide) (by decide) (by omega) (by omega) (by omega) (show _ ≤ ((8 : Nat) : Int) by omega) (show _ ≤ ((8 : Nat) : Int) by omega) (by omega) (fun h g88 e1 e2 hH hA => ?_)
  have eg129 := (e1 129 (by decide)).trans eg129
  have eg33 := (e1 33 (by decide)).trans eg33
  have eg130 := (e1 130 (by decide)).trans eg130
  have eg34 := (e1 34 (by decide)).trans eg34
  have eg131 := (e1 131 (by decide)).trans eg131
  have eg35 := (e1 35 (by decide)).trans eg35
  have eg132 := (e1 132 (by decide)).trans eg132
  have eg36 := (e1 36 (by decide)).trans eg36
  rw [eg134] at e2; have eg134 := e2
  have eg38 := (e1 38 (by decide)).trans eg38
  have eg136 := (e1 136 (by decide)).trans eg136
  have eg40 := (e1 40 (by decide)).trans eg40
  have eg138 := (e1 138 (by decide)).trans eg138
  have eg42 := (e1 42 (by decide)).trans eg42
  have eg139 := (e1 139 (by decide)).trans eg139
  have eg43 := (e1 43 (by decide)).trans eg43
  have eg140 := (e1 140 (by decide)).trans eg140
  have eg44 := (e1 44 (by decide)).trans eg44
  have eg142 := (e1 142 (by decide)).trans eg142
  have eg46 := (e1 46 (by decide)).trans eg46
  have hgE := hgE.put e1 (by decide)
  refine z_ald_0 (TX1_become_1.at 8 rfl) ?_
  refine z_ald_1 (TX1_become_1.at 9 rfl) ?_
  refine zc_getIE (m := 1) (s := 7) (k := 39) (hH.lv (by decide)) ef39 (TX1_become_1.at 10 rfl) fl1_34 hH rfl rfl (by decide) (by decide) (fun r93 => ?_)
  refine zc_putI (m := 4) (s := 7) (k := 135) hl4 (TX1_become_1.at 11 rfl) fp1_34 hH hA rfl rfl (by decide) (by decide) (by first | omega | exact b2i_01 _) (fun h f96 e1 e2 hH hA => ?_)
  have ef128 := (e1 128 (by decide)).trans ef128
  have ef133 := (e1 133 (by decide)).trans ef133
  have ef135 := e2
  have ef32 := (e1 32 (by decide)).trans ef32
  have ef37 := (e1 37 (by decide)).trans ef37
  have ef39 := (e1 39 (by decide)).trans ef39
  have ef41 := (e1 41 (by decide)).trans ef41
  have ef45 := (e1 45 (by decide)).trans ef45
  have ef47 := (e1 47 (by decide)).trans ef47
  have hfE := hfE.put e1 (by decide)
  refine z_ald_1 (TX1_become_1.at 12 rfl) ?_
  refine zc_getA (m := 1) (s := 8) (k := 40) (hH.lv (by decide)) (TX1_become_1.at 13 rfl) fl1_37 hH rfl rfl (by decide) (by decide) ?_
  refine z_iconst (TX1_become_1.at 14 rfl) ?_
  refine z_ald_0 (TX1_become_1.at 15 rfl) ?_
  refine zc_getA (m := 4) (s := 8) (k := 136) hl4 (TX1_become_1.at 16 rfl) fl1_37 hH rfl rfl (by decide) (by decide) ?_
  refine z_iconst (TX1_become_1.at 17 rfl) ?_
  refine z_iconst (TX1_become_1.at 18 rfl) ?_
  refine zcf_copy (ks := 40) (kd := 136) (Ns := 3) (Nd := 3) (hH.lv (by decide)) hl4 (by decide) (by decide) rfl rfl eg40 (TX1_become_1.at 19 rfl) cp1_70 hH hA (by decide) (by decide) (by omega) (by omega) (by omega) (show _ ≤ ((3 : Nat) : Int) by omega) (show _ ≤ ((3 : Nat) : Int) by omega) (by omega) (fun h g110 e1 e2 hH hA => ?_)
  have eg129 := (e1 129 (by decide)).trans eg129
  have eg33 := (e1 33 (by decide)).trans eg33
  have eg130 := (e1 130 (by decide)).trans eg130
  have eg34 := (e1 34 (by decide)).trans eg34
  have eg131 := (e1 131 (by decide)).trans eg131
  have eg35 := (e1 35 (by decide)).trans eg35
  have eg132 := (e1 132 (by decide)).trans eg132
  have eg36 := (e1 36 (by decide)).trans eg36
  have eg134 := (e1 134 (by decide)).trans eg134
  have eg38 := (e1 38 (by decide)).trans eg38
  rw [eg136] at e2; have eg136 := e2
  have eg40 := (e1 40 (by decide)).trans eg40
  have eg138 := (e1 138 (by decide)).trans eg138
  have eg42 := (e1 42 (by decide)).trans eg42
  have eg139 := (e1 139 (by decide)).trans eg139
  have eg43 := (e1 43 (by decide)).trans eg43
  have eg140 := (e1 140 (by decide)).trans eg140
  have eg44 := (e1 44 (by decide)).trans eg44
  have eg142 := (e1 142 (by decide)).trans eg142
  have eg46 := (e1 46 (by decide)).trans eg46
  have hgE := hgE.put e1 (by decide)
  refine z_ald_0 (TX1_become_1.at 20 rfl) ?_
  refine z_ald_1 (TX1_become_1.at 21 rfl) ?_
  refine zc_getIE (m := 1) (s := 9) (k := 41) (hH.lv (by decide)) ef41 (TX1_become_1.at 22 rfl) fl1_40 hH rfl rfl (by decide) (by decide) (fun r115 => ?_)
  refine zc_putI (m := 4) (s := 9) (k := 137) hl4 (TX1_become_1.at 23 rfl) fp1_40 hH hA rfl rfl (by decide) (by decide) (by first | omega | exact b2i_01 _) (fun h f118 e1 e2 hH hA => ?_)
  have ef128 := (e1 128 (by decide)).trans ef128
  have ef133 := (e1 133 (by decide)).trans ef133
  have ef135 := (e1 135 (by decide)).trans ef135
  have ef137 := e2
  have ef32 := (e1 32 (by decide)).trans ef32
  have ef37 := (e1 37 (by decide)).trans ef37
  have ef39 := (e1 39 (by decide)).trans ef39
  have ef41 := (e1 41 (by decide)).trans ef41
  have ef45 := (e1 45 (by decide)).trans ef45
  have ef47 := (e1 47 (by decide)).trans ef47
  have hfE := hfE.put e1 (by decide)
  refine z_ald_1 (TX1_become_1.at 24 rfl) ?_
  refine zc_getA (m := 1) (s := 10) (k := 42) (hH.lv (by decide)) (TX1_become_1.at 25 rfl) fl1_43 hH rfl rfl (by decide) (by decide) ?_
  refine z_iconst (TX1_become_1.at 26 rfl) ?_
  refine z_ald_0 (TX1_become_1.at 27 rfl) ?_
  refine zc_getA (m := 4) (s := 10) (k := 138) hl4 (TX1_become_1.at 28 rfl) fl1_43 hH rfl rfl (by decide) (by decide) ?_
  refine z_iconst (TX1_become_1.at 29 rfl) ?_
  refine z_bipush (by decide) (TX1_become_1.at 30 rfl) ?_
  refine zcf_copy (ks := 42) (kd := 138) (Ns := 6) (Nd := 6) (hH.lv (by decide)) hl4 (by decide) (by decide) rfl rfl eg42 (TX1_become_1.at 31 rfl) cp1_70 hH hA (by decide) (by decide) (by omega) (by omega) (by omega) (show _ ≤ ((6 : Nat) : Int) by omega) (show _ ≤ ((6 : Nat) : Int) by omega) (by omega) (fun h g133 e1 e2 hH hA => ?_)
  have eg129 := (e1 129 (by decide)).trans eg129
  have eg33 := (e1 33 (by decide)).trans eg33
  have eg130 := (e1 130 (by decide)).trans eg130
  have eg34 := (e1 34 (by decide)).trans eg34
  have eg131 := (e1 131 (by decide)).trans eg131
  have eg35 := (e1 35 (by decide)).trans eg35
  have eg132 := (e1 132 (by decide)).trans eg132
  have eg36 := (e1 36 (by decide)).trans eg36
  have eg134 := (e1 134 (by decide)).trans eg134
  have eg38 := (e1 38 (by decide)).trans eg38
  have eg136 := (e1 136 (by decide)).trans eg136
  have eg40 := (e1 40 (by decide)).trans eg40
  rw [eg138] at e2; have eg138 := e2
  have eg42 := (e1 42 (by decide)).trans eg42
  have eg139 := (e1 139 (by decide)).trans eg139
  have eg43 := (e1 43 (by decide)).trans eg43
  have eg140 := (e1 140 (by decide)).trans eg140
  have eg44 := (e1 44 (by decide)).trans eg44
  have eg142 := (e1 142 (by decide)).trans eg142
  have eg46 := (e1 46 (by decide)).trans eg46
  have hgE := hgE.put e1 (by decide)
  refine z_ald_1 (TX1_become_1.at 32 rfl) ?_
  refine zc_getA (m := 1) (s := 11) (k := 43) (hH.lv (by decide)) (TX1_become_1.at 33 rfl) fl1_46 hH rfl rfl (by decide) (by decide) ?_
  refine z_iconst (TX1_become_1.at 34 rfl) ?_
  refine z_ald_0 (TX1_become_1.at 35 rfl) ?_
  refine zc_getA (m := 4) (s := 11) (k := 139) hl4 (TX1_become_1.at 36 rfl) fl1_46 hH rfl rfl (by decide) (by decide) ?_
  refine z_iconst (TX1_become_1.at 37 rfl) ?_
  refine z_bipush (by decide) (TX1_become_1.at 38 rfl) ?_
  refine zcf_copy (ks := 43) (kd := 139) (Ns := 6) (Nd := 6) (hH.lv (by decide)) hl4 (by decide) (by decide) rfl rfl eg43 (TX1_become_1.at 39 rfl) cp1_70 hH hA (by decide) (by decide) (by omega) (by omega) (by omega) (show _ ≤ ((6 : Nat) : Int) by omega) (show _ ≤ ((6 : Nat) : Int) by omega) (by omega) (fun h g148 e1 e2 hH hA => ?_)
  have eg129 := (e1 129 (by decide)).trans eg129
  have eg33 := (e1 33 (by decide)).trans eg33
  have eg130 := (e1 130 (by decide)).trans eg130
  have eg34 := (e1 34 (by decide)).trans eg34
  have eg131 := (e1 131 (by decide)).trans eg131
  have eg35 := (e1 35 (by decide)).trans eg35
  have eg132 := (e1 132 (by decide)).trans eg132
  have eg36 := (e1 36 (by decide)).trans eg36
  have eg134 := (e1 134 (by decide)).trans eg134
  have eg38 := (e1 38 (by decide)).trans eg38
  have eg136 := (e1 136 (by decide)).trans eg136
  have eg40 := (e1 40 (by decide)).trans eg40
  have eg138 := (e1 138 (by decide)).trans eg138
  have eg42 := (e1 42 (by decide)).trans eg42
  rw [eg139] at e2; have eg139 := e2
  have eg43 := (e1 43 (by decide)).trans eg43
  have eg140 := (e1 140 (by decide)).trans eg140
  have eg44 := (e1 44 (by decide)).trans eg44
  have eg142 := (e1 142 (by decide)).trans eg142
  have eg46 := (e1 46 (by decide)).trans eg46
  have hgE := hgE.put e1 (by decide)
  refine z_ald_1 (TX1_become_2.at 0 rfl) ?_
  refine zc_getA (m := 1) (s := 12) (k := 44) (hH.lv (by decide)) (TX1_become_2.at 1 rfl) fl1_49 hH rfl rfl (by decide) (by decide) ?_
  refine z_iconst (TX1_become_2.at 2 rfl) ?_
  refine z_ald_0 (TX1_become_2.at 3 rfl) ?_
  refine zc_getA (m := 4) (s := 12) (k := 140) hl4 (TX1_become_2.at 4 rfl) fl1_49 hH rfl rfl (by decide) (by decide) ?_
  refine z_iconst (TX1_become_2.at 5 rfl) ?_
  refine z_iconst (TX1_become_2.at 6 rfl) ?_
  refine zcf_copy (ks := 44) (kd := 140) (Ns := 3) (Nd := 3) (hH.lv (by decide)) hl4 (by decide) (by decide) rfl rfl eg44 (TX1_become_2.at 7 rfl) cp1_70 hH hA (by decide) (by decide) (by omega) (by omega) (by omega) (show _ ≤ ((3 : Nat) : Int) by omega) (show _ ≤ ((3 : Nat) : Int) by omega) (by omega) (fun h g162 e1 e2 hH hA => ?_)
  have eg129 := (e1 129 (by decide)).trans eg129
  have eg33 := (e1 33 (by decide)).trans eg33
  have eg130 := (e1 130 (by decide)).trans eg130
  have eg34 := (e1 34 (by decide)).trans eg34
  have eg131 := (e1 131 (by decide)).trans eg131
  have eg35 := (e1 35 (by decide)).trans eg35
  have eg132 := (e1 132 (by decide)).trans eg132
  have eg36 := (e1 36 (by decide)).trans eg36
  have eg134 := (e1 134 (by decide)).trans eg134
  have eg38 := (e1 38 (by decide)).trans eg38
  have eg136 := (e1 136 (by decide)).trans eg136
  have eg40 := (e1 40 (by decide)).trans eg40
  have eg138 := (e1 138 (by decide)).trans eg138
  have eg42 := (e1 42 (by decide)).trans eg42
  have eg139 := (e1 139 (by decide)).trans eg139
  have eg43 := (e1 43 (by decide)).trans eg43
  rw [eg140] at e2; have eg140 := e2
  have eg44 := (e1 44 (by decide)).trans eg44
  have eg142 := (e1 142 (by decide)).trans eg142
  have eg46 := (e1 46 (by decide)).trans eg46
  have hgE := hgE.put e1 (by decide)
  refine z_ald_0 (TX1_become_2.at 8 rfl) ?_
  refine z_ald_1 (TX1_become_2.at 9 rfl) ?_
  refine zc_getIE (m := 1) (s := 13) (k := 45) (hH.lv (by decide)) ef45 (TX1_become_2.at 10 rfl) fl1_52 hH rfl rfl (by decide) (by decide) (fun r167 => ?_)
  refine zc_putI (m := 4) (s := 13) (k := 141) hl4 (TX1_become_2.at 11 rfl) fp1_52 hH hA rfl rfl (by decide) (by decide) (by first | omega | exact b2i_01 _) (fun h f170 e1 e2 hH hA => ?_)
  have ef128 := (e1 128 (by decide)).trans ef128
  have ef133 := (e1 133 (by decide)).trans ef133
  have ef135 := (e1 135 (by decide)).trans ef135
  have ef137 := (e1 137 (by decide)).trans ef137
  have ef141 := e2
  have ef32 := (e1 32 (by decide)).trans ef32
  have ef37 := (e1 37 (by decide)).trans ef37
  have ef39 := (e1 39 (by decide)).trans ef39
  have ef41 := (e1 41 (by decide)).trans ef41
  have ef45 := (e1 45 (by decide)).trans ef45
  have ef47 := (e1 47 (by decide)).trans ef47
  have hfE := hfE.put e1 (by decide)
  refine z_iconst (TX1_become_2.at 12 rfl) ?_
  refine z_ist_2 (TX1_become_2.at 13 rfl) (Nat.le_of_ble_eq_true rfl) rfl ?_
  refine lp_bec4_1 hl4 hOK (fun f175 g175 h eg142 xf xg hH hA => ?_) 7 0 _ _ _ (by omega) (by omega) (by omega) (eg142.trans (cpy_0 _ _ _ _).symm) eg46 eqx.rf eqx.rf hH hA
  have ef128 := (xf 128 (by decide)).trans ef128
  have ef133 := (xf 133 (by decide)).trans ef133
  have ef135 := (xf 135 (by decide)).trans ef135
  have ef137 := (xf 137 (by decide)).trans ef137
  have ef141 := (xf 141 (by decide)).trans ef141
  have ef32 := (xf 32 (by decide)).trans ef32
  have ef37 := (xf 37 (by decide)).trans ef37
  have ef39 := (xf 39 (by decide)).trans ef39
  have ef41 := (xf 41 (by decide)).trans ef41
  have ef45 := (xf 45 (by decide)).trans ef45
  have ef47 := (xf 47 (by decide)).trans ef47
  have hfE := hfE.trans xf (by decide)
  have eg129 := (xg 129 (by decide)).trans eg129
  have eg33 := (xg 33 (by decide)).trans eg33
  have eg130 := (xg 130 (by decide)).trans eg130
  have eg34 := (xg 34 (by decide)).trans eg34
  have eg131 := (xg 131 (by decide)).trans eg131
  have eg35 := (xg 35 (by decide)).trans eg35
  have eg132 := (xg 132 (by decide)).trans eg132
  have eg36 := (xg 36 (by decide)).trans eg36
  have eg134 := (xg 134 (by decide)).trans eg134
  have eg38 := (xg 38 (by decide)).trans eg38
  have eg136 := (xg 136 (by decide)).trans eg136
  have eg40 := (xg 40 (by decide)).trans eg40
  have eg138 := (xg 138 (by decide)).trans eg138
  have eg42 := (xg 42 (by decide)).trans eg42
  have eg139 := (xg 139 (by decide)).trans eg139
  have eg43 := (xg 43 (by decide)).trans eg43
  have eg140 := (xg 140 (by decide)).trans eg140
  have eg44 := (xg 44 (by decide)).trans eg44
  have eg46 := (xg 46 (by decide)).trans eg46
  have hgE := hgE.trans xg (by decide)
  refine z_ald_0 (TX1_become_2.at 27 rfl) ?_
  refine z_ald_1 (TX1_become_2.at 28 rfl) ?_
  refine zc_getIE (m := 1) (s := 15) (k := 47) (hH.lv (by decide)) ef47 (TX1_become_2.at 29 rfl) fl1_61 hH rfl rfl (by decide) (by decide) (fun r201 => ?_)
  refine zc_putI (m := 4) (s := 15) (k := 143) hl4 (TX1_become_2.at 30 rfl) fp1_61 hH hA rfl rfl (by decide) (by decide) (by first | omega | exact b2i_01 _) (fun h f204 e1 e2 hH hA => ?_)
  have ef128 := (e1 128 (by decide)).trans ef128
  have ef133 := (e1 133 (by decide)).trans ef133
  have ef135 := (e1 135 (by decide)).trans ef135
  have ef137 := (e1 137 (by decide)).trans ef137
  have ef141 := (e1 141 (by decide)).trans ef141
  have ef143 := e2
  have ef32 := (e1 32 (by decide)).trans ef32
  have ef37 := (e1 37 (by decide)).trans ef37
  have ef39 := (e1 39 (by decide)).trans ef39
  have ef41 := (e1 41 (by decide)).trans ef41
  have ef45 := (e1 45 (by decide)).trans ef45
  have ef47 := (e1 47 (by decide)).trans ef47
  have hfE := hfE.put e1 (by decide)
  refine zc_vret (TX1_become_2.at 31 rfl) rfl hH hA ?_
  exact ⟨⟨ef128, ef133, ef135, ef137, ef141, ef143, eg129, eg130, eg131, eg132, eg134, eg136, eg138, eg139, eg140, eg142⟩, hfE, hgE, rfl⟩

set_option maxHeartbeats 4000000 in
set_option maxRecDepth 100000 in
theorem lp_bec5_1 {l : Launch} {E : cE} {d : Nat} {Pz : Option Value → zH → Prop} {h0 : zH} {f0 : mF} {g0 : mA} {j : mA}  {X Y : Int → Int} (hl5 : E.2.1 5 = true) (hOK : ∀ q : Int, 0 ≤ q → q < 6 → okR E 4 (Y q)) (kx : ∀ (f : mF) (g : mA) (h : zH), g 174 = cpy X Y 0 0 6 → eqx [] f0 f → eqx [174] g0 g → HC E f g j h → cAg E h0 h → Z l MX1_become d 0 0 Pz 199 [some (.ref (E.1 191)), some (.ref (E.1 63)), some (vI 6)] [] h 0 0)  : ∀ (n : Nat) (i : Int) (f : mF) (g : mA) (h : zH) (i0 : 0 ≤ i) (i1 : i ≤ 6) (i2 : 6 < i + n) (eg174 : g 174 = cpy X Y 0 0 i) (eg46 : g 46 = Y) (hfE : eqx [] f0 f) (hgE : eqx [174] g0 g) (hH : HC E f g j h) (hA : cAg E h0 h), Z l MX1_become d 0 0 Pz 175 [some (.ref (E.1 191)), some (.ref (E.1 63)), some (vI i)] [] h 0 0 := by
  intro n
  induction n with
  | zero => intro i f g h i0 i1 i2 eg174 eg46 hfE hgE hH hA; exfalso; omega
  | succ n ih =>
    intro i f g h i0 i1 i2 eg174 eg46 hfE hgE hH hA
    refine z_ild_2 (TX1_become_2.at 14 rfl) ?_
    refine z_bipush (by decide) (TX1_become_2.at 15 rfl) ?_
    refine z_icmp_ge (tgt := 199) (TX1_become_2.at 16 rfl) rfl (by omega) (by omega) (fun c1 => ?_) (fun c1 => ?_)
    · skip
      obtain rfl : i = 6 := by omega
      exact kx _ _ _ eg174 hfE hgE hH hA
    · skip
      refine z_ald_0 (TX1_become_2.at 17 rfl) ?_
      refine zc_getA (m := 5) (s := 14) (k := 174) hl5 (TX1_become_2.at 18 rfl) fl1_57 hH rfl rfl (by decide) (by decide) ?_
      refine z_ild_2 (TX1_become_2.at 19 rfl) ?_
      refine z_ald_1 (TX1_become_2.at 20 rfl) ?_
      refine zc_getA (m := 1) (s := 14) (k := 46) (hH.lv (by decide)) (TX1_become_2.at 21 rfl) fl1_57 hH rfl rfl (by decide) (by decide) ?_
      refine z_ild_2 (TX1_become_2.at 22 rfl) ?_
      refine zcf_aald (k := 46) (N := 6) (hH.lv (by decide)) (by decide) rfl eg46 (TX1_become_2.at 23 rfl) hH (by decide) (by omega) (show _ < ((6 : Nat) : Int) by omega) ?_
      refine zcf_aast (k := 174) (N := 6) hl5 (by decide) rfl (TX1_become_2.at 24 rfl) hH hA (by decide) (by omega) (show _ < ((6 : Nat) : Int) by omega) (by exact hOK i i0 (by omega)) (fun h g192 e1 e2 hH hA => ?_)
      rw [eg174] at e2; have eg174 := e2
      have eg46 := (e1 46 (by decide)).trans eg46
      have hgE := hgE.put e1 (by decide)
      refine z_iinc_2 (TX1_become_2.at 25 rfl) (Nat.le_of_ble_eq_true rfl) rfl ?_
      refine z_goto (tgt := 175) (TX1_become_2.at 26 rfl) rfl ?_
      exact ih (i + 1) _ _ _ (by omega) (by omega) (by omega) (by rw [cpy_s (by omega) (by omega) (by omega)] at eg174; exact eg174) eg46 hfE hgE hH hA

set_option maxHeartbeats 4000000 in
set_option maxRecDepth 100000 in
theorem c_bec5_1 {l : Launch} {E : cE} {f : mF} {g j : mA} {X1 : Int → Int} {Y1 : Int → Int} {X2 : Int → Int} {Y2 : Int → Int} {X3 : Int → Int} {Y3 : Int → Int} {X4 : Int → Int} {Y4 : Int → Int} {X6 : Int → Int} {Y6 : Int → Int} {X8 : Int → Int} {Y8 : Int → Int} {X10 : Int → Int} {Y10 : Int → Int} {X11 : Int → Int} {Y11 : Int → Int} {X12 : Int → Int} {Y12 : Int → Int} {X14 : Int → Int} {Y14 : Int → Int} {y0 : Int} {y5 : Int} {y7 : Int} {y9 : Int} {y13 : Int} {y15 : Int}  (eg161 : g 161 = X1) (eg33 : g 33 = Y1) (eg162 : g 162 = X2) (eg34 : g 34 = Y2) (eg163 : g 163 = X3) (eg35 : g 35 = Y3) (eg164 : g 164 = X4) (eg36 : g 36 = Y4) (eg166 : g 166 = X6) (eg38 : g 38 = Y6) (eg168 : g 168 = X8) (eg40 : g 40 = Y8) (eg170 : g 170 = X10) (eg42 : g 42 = Y10) (eg171 : g 171 = X11) (eg43 : g 43 = Y11) (eg172 : g 172 = X12) (eg44 : g 44 = Y12) (eg174 : g 174 = X14) (eg46 : g 46 = Y14) (ef32 : f 32 = y0) (ef37 : f 37 = y5) (ef39 : f 39 = y7) (ef41 : f 41 = y9) (ef45 : f 45 = y13) (ef47 : f 47 = y15) (hl5 : E.2.1 5 = true) (hOK : ∀ q : Int, 0 ≤ q → q < 6 → okR E 4 (Y14 q)) : CM l E MX1_become 1 [.ref (E.1 191), .ref (E.1 63)] f g j (PV (fun f' g' j' => (f' 160 = y0 ∧ f' 165 = y5 ∧ f' 167 = y7 ∧ f' 169 = y9 ∧ f' 173 = y13 ∧ f' 175 = y15 ∧ g' 161 = cpy X1 Y1 0 0 10 ∧ g' 162 = cpy X2 Y2 0 0 10 ∧ g' 163 = cpy X3 Y3 0 0 10 ∧ g' 164 = cpy X4 Y4 0 0 10 ∧ g' 166 = cpy X6 Y6 0 0 8 ∧ g' 168 = cpy X8 Y8 0 0 3 ∧ g' 170 = cpy X10 Y10 0 0 6 ∧ g' 171 = cpy X11 Y11 0 0 6 ∧ g' 172 = cpy X12 Y12 0 0 3 ∧ g' 174 = cpy X14 Y14 0 0 6) ∧ eqx [160, 165, 167, 169, 173, 175] f f' ∧ eqx [161, 162, 163, 164, 166, 168, 170, 171, 172, 174] g g' ∧ j' = j)) := by
  refine CM.intro [some (.ref (E.1 191)), some (.ref (E.1 63)), none] (by decide) (Nat.le_of_ble_eq_true rfl) rfl (fun d hd h0 h hH hA => ?_)
  have hfE : eqx [160, 165, 167, 169, 173, 175] f f := eqx.rf
  have hgE : eqx [161, 162, 163, 164, 166, 168, 170, 171, 172, 174] g g := eqx.rf
  refine z_ald_0 (TX1_become_0.at 0 rfl) ?_
  refine z_ald_1 (TX1_become_0.at 1 rfl) ?_
  refine zc_getIE (m := 1) (s := 0) (k := 32) (hH.lv (by decide)) ef32 (TX1_become_0.at 2 rfl) fl1_9 hH rfl rfl (by decide) (by decide) (fun r2 => ?_)
  refine zc_putI (m := 5) (s := 0) (k := 160) hl5 (TX1_become_0.at 3 rfl) fp1_9 hH hA rfl rfl (by decide) (by decide) (by first | omega | exact b2i_01 _) (fun h f5 e1 e2 hH hA => ?_)
  have ef160 := e2
  have ef32 := (e1 32 (by decide)).trans ef32
  have ef37 := (e1 37 (by decide)).trans ef37
  have ef39 := (e1 39 (by decide)).trans ef39
  have ef41 := (e1 41 (by decide)).trans ef41
  have ef45 := (e1 45 (by decide)).trans ef45
  have ef47 := (e1 47 (by decide)).trans ef47
  have hfE := hfE.put e1 (by decide)
  refine z_ald_1 (TX1_become_0.at 4 rfl) ?_
  refine zc_getA (m := 1) (s := 1) (k := 33) (hH.lv (by decide)) (TX1_become_0.at 5 rfl) fl1_15 hH rfl rfl (by decide) (by decide) ?_
  refine z_iconst (TX1_become_0.at 6 rfl) ?_
  refine z_ald_0 (TX1_become_0.at 7 rfl) ?_
  refine zc_getA (m := 5) (s := 1) (k := 161) hl5 (TX1_become_0.at 8 rfl) fl1_15 hH rfl rfl (by decide) (by decide) ?_
  refine z_iconst (TX1_become_0.at 9 rfl) ?_
  refine z_bipush (by decide) (TX1_become_0.at 10 rfl) ?_
  refine zcf_copy (ks := 33) (kd := 161) (Ns := 10) (Nd := 10) (hH.lv (by decide)) hl5 (by decide) (by decide) rfl rfl eg33 (TX1_become_0.at 11 rfl) cp1_70 hH hA (by decide) (by decide) (by omega) (by omega) (by omega) (show _ ≤ ((10 : Nat) : Int) by omega) (show _ ≤ ((10 : Nat) : Int) by omega) (by omega) (fun h g20 e1 e2 hH hA => ?_)
  rw [eg161] at e2; have eg161 := e2
  have eg33 := (e1 33 (by decide)).trans eg33
  have eg162 := (e1 162 (by decide)).trans eg162
  have eg34 := (e1 34 (by decide)).trans eg34
  have eg163 := (e1 163 (by decide)).trans eg163
  have eg35 := (e1 35 (by decide)).trans eg35
  have eg164 := (e1 164 (by decide)).trans eg164
  have eg36 := (e1 36 (by decide)).trans eg36
  have eg166 := (e1 166 (by decide)).trans eg166
  have eg38 := (e1 38 (by decide)).trans eg38
  have eg168 := (e1 168 (by decide)).trans eg168
  have eg40 := (e1 40 (by decide)).trans eg40
  have eg170 := (e1 170 (by decide)).trans eg170
  have eg42 := (e1 42 (by decide)).trans eg42
  have eg171 := (e1 171 (by decide)).trans eg171
  have eg43 := (e1 43 (by decide)).trans eg43
  have eg172 := (e1 172 (by decide)).trans eg172
  have eg44 := (e1 44 (by decide)).trans eg44
  have eg174 := (e1 174 (by decide)).trans eg174
  have eg46 := (e1 46 (by decide)).trans eg46
  have hgE := hgE.put e1 (by decide)
  refine z_ald_1 (TX1_become_0.at 12 rfl) ?_
  refine zc_getA (m := 1) (s := 2) (k := 34) (hH.lv (by decide)) (TX1_become_0.at 13 rfl) fl1_19 hH rfl rfl (by decide) (by decide) ?_
  refine z_iconst (TX1_become_0.at 14 rfl) ?_
  refine z_ald_0 (TX1_become_0.at 15 rfl) ?_
  refine zc_getA (m := 5) (s := 2) (k := 162) hl5 (TX1_become_0.at 16 rfl) fl1_19 hH rfl rfl (by decide) (by decide) ?_
  refine z_iconst (TX1_become_0.at 17 rfl) ?_
  refine z_bipush (by decide) (TX1_become_0.at 18 rfl) ?_
  refine zcf_copy (ks := 34) (kd := 162) (Ns := 10) (Nd := 10) (hH.lv (by decide)) hl5 (by decide) (by decide) rfl rfl eg34 (TX1_become_0.at 19 rfl) cp1_70 hH hA (by decide) (by decide) (by omega) (by omega) (by omega) (show _ ≤ ((10 : Nat) : Int) by omega) (show _ ≤ ((10 : Nat) : Int) by omega) (by omega) (fun h g35 e1 e2 hH hA => ?_)
  have eg161 := (e1 161 (by decide)).trans eg161
  have eg33 := (e1 33 (by decide)).trans eg33
  rw [eg162] at e2; have eg162 := e2
  have eg34 := (e1 34 (by decide)).trans eg34
  have eg163 := (e1 163 (by decide)).trans eg163
  have eg35 := (e1 35 (by decide)).trans eg35
  have eg164 := (e1 164 (by decide)).trans eg164
  have eg36 := (e1 36 (by decide)).trans eg36
  have eg166 := (e1 166 (by decide)).trans eg166
  have eg38 := (e1 38 (by decide)).trans eg38
  have eg168 := (e1 168 (by decide)).trans eg168
  have eg40 := (e1 40 (by decide)).trans eg40
  have eg170 := (e1 170 (by decide)).trans eg170
  have eg42 := (e1 42 (by decide)).trans eg42
  have eg171 := (e1 171 (by decide)).trans eg171
  have eg43 := (e1 43 (by decide)).trans eg43
  have eg172 := (e1 172 (by decide)).trans eg172
  have eg44 := (e1 44 (by decide)).trans eg44
  have eg174 := (e1 174 (by decide)).trans eg174
  have eg46 := (e1 46 (by decide)).trans eg46
  have hgE := hgE.put e1 (by decide)
  refine z_ald_1 (TX1_become_0.at 20 rfl) ?_
  refine zc_getA (m := 1) (s := 3) (k := 35) (hH.lv (by decide)) (TX1_become_0.at 21 rfl) fl1_22 hH rfl rfl (by decide) (by decide) ?_
  refine z_iconst (TX1_become_0.at 22 rfl) ?_
  refine z_ald_0 (TX1_become_0.at 23 rfl) ?_
  refine zc_getA (m := 5) (s := 3) (k := 163) hl5 (TX1_become_0.at 24 rfl) fl1_22 hH rfl rfl (by decide) (by decide) ?_
  refine z_iconst (TX1_become_0.at 25 rfl) ?_
  refine z_bipush (by decide) (TX1_become_0.at 26 rfl) ?_
  refine zcf_copy (ks := 35) (kd := 163) (Ns := 10) (Nd := 10) (hH.lv (by decide)) hl5 (by decide) (by decide) rfl rfl eg35 (TX1_become_0.at 27 rfl) cp1_70 hH hA (by decide) (by decide) (by omega) (by omega) (by omega) (show _ ≤ ((10 : Nat) : Int) by omega) (show _ ≤ ((10 : Nat) : Int) by omega) (by omega) (fun h g50 e1 e2 hH hA => ?_)
  have eg161 := (e1 161 (by decide)).trans eg161
  have eg33 := (e1 33 (by decide)).trans eg33
  have eg162 := (e1 162 (by decide)).trans eg162
  have eg34 := (e1 34 (by decide)).trans eg34
  rw [eg163] at e2; have eg163 := e2
  have eg35 := (e1 35 (by decide)).trans eg35
  have eg164 := (e1 164 (by decide)).trans eg164
  have eg36 := (e1 36 (by decide)).trans eg36
  have eg166 := (e1 166 (by decide)).trans eg166
  have eg38 := (e1 38 (by decide)).trans eg38
  have eg168 := (e1 168 (by decide)).trans eg168
  have eg40 := (e1 40 (by decide)).trans eg40
  have eg170 := (e1 170 (by decide)).trans eg170
  have eg42 := (e1 42 (by decide)).trans eg42
  have eg171 := (e1 171 (by decide)).trans eg171
  have eg43 := (e1 43 (by decide)).trans eg43
  have eg172 := (e1 172 (by decide)).trans eg172
  have eg44 := (e1 44 (by decide)).trans eg44
  have eg174 := (e1 174 (by decide)).trans eg174
  have eg46 := (e1 46 (by decide)).trans eg46
  have hgE := hgE.put e1 (by decide)
  refine z_ald_1 (TX1_become_0.at 28 rfl) ?_
  refine zc_getA (m := 1) (s := 4) (k := 36) (hH.lv (by decide)) (TX1_become_0.at 29 rfl) fl1_25 hH rfl rfl (by decide) (by decide) ?_
  refine z_iconst (TX1_become_0.at 30 rfl) ?_
  refine z_ald_0 (TX1_become_0.at 31 rfl) ?_
  refine zc_getA (m := 5) (s := 4) (k := 164) hl5 (TX1_become_0.at 32 rfl) fl1_25 hH rfl rfl (by decide) (by decide) ?_
  refine z_iconst (TX1_become_0.at 33 rfl) ?_
  refine z_bipush (by decide) (TX1_become_0.at 34 rfl) ?_
  refine zcf_copy (ks := 36) (kd := 164) (Ns := 10) (Nd := 10) (hH.lv (by decide)) hl5 (by decide) (by decide) rfl rfl eg36 (TX1_become_0.at 35 rfl) cp1_70 hH hA (by decide) (by decide) (by omega) (by omega) (by omega) (show _ ≤ ((10 : Nat) : Int) by omega) (show _ ≤ ((10 : Nat) : Int) by omega) (by omega) (fun h g65 e1 e2 hH hA => ?_)
  have eg161 := (e1 161 (by decide)).trans eg161
  have eg33 := (e1 33 (by decide)).trans eg33
  have eg162 := (e1 162 (by decide)).trans eg162
  have eg34 := (e1 34 (by decide)).trans eg34
  have eg163 := (e1 163 (by decide)).trans eg163
  have eg35 := (e1 35 (by decide)).trans eg35
  rw [eg164] at e2; have eg164 := e2
  have eg36 := (e1 36 (by decide)).trans eg36
  have eg166 := (e1 166 (by decide)).trans eg166
  have eg38 := (e1 38 (by decide)).trans eg38
  have eg168 := (e1 168 (by decide)).trans eg168
  have eg40 := (e1 40 (by decide)).trans eg40
  have eg170 := (e1 170 (by decide)).trans eg170
  have eg42 := (e1 42 (by decide)).trans eg42
  have eg171 := (e1 171 (by decide)).trans eg171
  have eg43 := (e1 43 (by decide)).trans eg43
  have eg172 := (e1 172 (by decide)).trans eg172
  have eg44 := (e1 44 (by decide)).trans eg44
  have eg174 := (e1 174 (by decide)).trans eg174
  have eg46 := (e1 46 (by decide)).trans eg46
  have hgE := hgE.put e1 (by decide)
  refine z_ald_0 (TX1_become_0.at 36 rfl) ?_
  refine z_ald_1 (TX1_become_0.at 37 rfl) ?_
  refine zc_getIE (m := 1) (s := 5) (k := 37) (hH.lv (by decide)) ef37 (TX1_become_0.at 38 rfl) fl1_28 hH rfl rfl (by decide) (by decide) (fun r70 => ?_)
  refine zc_putI (m := 5) (s := 5) (k := 165) hl5 (TX1_become_0.at 39 rfl) fp1_28 hH hA rfl rfl (by decide) (by decide) (by first | omega | exact b2i_01 _) (fun h f73 e1 e2 hH hA => ?_)
  have ef160 := (e1 160 (by decide)).trans ef160
  have ef165 := e2
  have ef32 := (e1 32 (by decide)).trans ef32
  have ef37 := (e1 37 (by decide)).trans ef37
  have ef39 := (e1 39 (by decide)).trans ef39
  have ef41 := (e1 41 (by decide)).trans ef41
  have ef45 := (e1 45 (by decide)).trans ef45
  have ef47 := (e1 47 (by decide)).trans ef47
  have hfE := hfE.put e1 (by decide)
  refine z_ald_1 (TX1_become_1.at 0 rfl) ?_
  refine zc_getA (m := 1) (s := 6) (k := 38) (hH.lv (by decide)) (TX1_become_1.at 1 rfl) fl1_31 hH rfl rfl (by decide) (by decide) ?_
  refine z_iconst (TX1_become_1.at 2 rfl) ?_
  refine z_ald_0 (TX1_become_1.at 3 rfl) ?_
  refine zc_getA (m := 5) (s := 6) (k := 166) hl5 (TX1_become_1.at 4 rfl) fl1_31 hH rfl rfl (by decide) (by decide) ?_
  refine z_iconst (TX1_become_1.at 5 rfl) ?_
  refine z_bipush (by decide) (TX1_become_1.at 6 rfl) ?_
  refine zcf_copy (ks := 38) (kd := 166) (Ns := 8) (Nd := 8) (hH.lv (by decide)) hl5 (by decide) (by decide) rfl rfl eg38 (TX1_become_1.at 7 rfl) cp1_70 hH hA (by decide) (by decide) (by omega) (by omega) (by omega) (show _ ≤ ((8 : Nat) : Int) by omega) (show _ ≤ ((8 : Nat) : Int) by omega) (by omega) (fun h g88 e1 e2 hH hA => ?_)
  have eg161 := (e1 161 (by decide)).trans eg161
  have eg33 := (e1 33 (by decide)).trans eg33
  have eg162 := (e1 162 (by decide)).trans eg162
  have eg34 := (e1 34 (by decide)).trans eg34
  have eg163 := (e1 163 (by decide)).trans eg163
  have eg35 := (e1 35 (by decide)).trans eg35
  have eg164 := (e1 164 (by decide)).trans eg164
  have eg36 := (e1 36 (by decide)).trans eg36
  rw [eg166] at e2; have eg166 := e2
  have eg38 := (e1 38 (by decide)).trans eg38
  have eg168 := (e1 168 (by decide)).trans eg168
  have eg40 := (e1 40 (by decide)).trans eg40
  have eg170 := (e1 170 (by decide)).trans eg170
  have eg42 := (e1 42 (by decide)).trans eg42
  have eg171 := (e1 171 (by decide)).trans eg171
  have eg43 := (e1 43 (by decide)).trans eg43
  have eg172 := (e1 172 (by decide)).trans eg172
  have eg44 := (e1 44 (by decide)).trans eg44
  have eg174 := (e1 174 (by decide)).trans eg174
  have eg46 := (e1 46 (by decide)).trans eg46
  have hgE := hgE.put e1 (by decide)
  refine z_ald_0 (TX1_become_1.at 8 rfl) ?_
  refine z_ald_1 (TX1_become_1.at 9 rfl) ?_
  refine zc_getIE (m := 1) (s := 7) (k := 39) (hH.lv (by decide)) ef39 (TX1_become_1.at 10 rfl) fl1_34 hH rfl rfl (by decide) (by decide) (fun r93 => ?_)
  refine zc_putI (m := 5) (s := 7) (k := 167) hl5 (TX1_become_1.at 11 rfl) fp1_34 hH hA rfl rfl (by decide) (by decide) (by first | omega | exact b2i_01 _) (fun h f96 e1 e2 hH hA => ?_)
  have ef160 := (e1 160 (by decide)).trans ef160
  have ef165 := (e1 165 (by decide)).trans ef165
  have ef167 := e2
  have ef32 := (e1 32 (by decide)).trans ef32
  have ef37 := (e1 37 (by decide)).trans ef37
  have ef39 := (e1 39 (by decide)).trans ef39
  have ef41 := (e1 41 (by decide)).trans ef41
  have ef45 := (e1 45 (by decide)).trans ef45
  have ef47 := (e1 47 (by decide)).trans ef47
  have hfE := hfE.put e1 (by decide)
  refine z_ald_1 (TX1_become_1.at 12 rfl) ?_
  refine zc_getA (m := 1) (s := 8) (k := 40) (hH.lv (by decide)) (TX1_become_1.at 13 rfl) fl1_37 hH rfl rfl (by decide) (by decide) ?_
  refine z_iconst (TX1_become_1.at 14 rfl) ?_
  refine z_ald_0 (TX1_become_1.at 15 rfl) ?_
  refine zc_getA (m := 5) (s := 8) (k := 168) hl5 (TX1_become_1.at 16 rfl) fl1_37 hH rfl rfl (by decide) (by decide) ?_
  refine z_iconst (TX1_become_1.at 17 rfl) ?_
  refine z_iconst (TX1_become_1.at 18 rfl) ?_
  refine zcf_copy (ks := 40) (kd := 168) (Ns := 3) (Nd := 3) (hH.lv (by decide)) hl5 (by decide) (by decide) rfl rfl eg40 (TX1_become_1.at 19 rfl) cp1_70 hH hA (by decide) (by decide) (by omega) (by omega) (by omega) (show _ ≤ ((3 : Nat) : Int) by omega) (show _ ≤ ((3 : Nat) : Int) by omega) (by omega) (fun h g110 e1 e2 hH hA => ?_)
  have eg161 := (e1 161 (by decide)).trans eg161
  have eg33 := (e1 33 (by decide)).trans eg33
  have eg162 := (e1 162 (by decide)).trans eg162
  have eg34 := (e1 34 (by decide)).trans eg34
  have eg163 := (e1 163 (by decide)).trans eg163
  have eg35 := (e1 35 (by decide)).trans eg35
  have eg164 := (e1 164 (by decide)).trans eg164
  have eg36 := (e1 36 (by decide)).trans eg36
  have eg166 := (e1 166 (by decide)).trans eg166
  have eg38 := (e1 38 (by decide)).trans eg38
  rw [eg168] at e2; have eg168 := e2
  have eg40 := (e1 40 (by decide)).trans eg40
  have eg170 := (e1 170 (by decide)).trans eg170
  have eg42 := (e1 42 (by decide)).trans eg42
  have eg171 := (e1 171 (by decide)).trans eg171
  have eg43 := (e1 43 (by decide)).trans eg43
  have eg172 := (e1 172 (by decide)).trans eg172
  have eg44 := (e1 44 (by decide)).trans eg44
  have eg174 := (e1 174 (by decide)).trans eg174
  have eg46 := (e1 46 (by decide)).trans eg46
  have hgE := hgE.put e1 (by decide)
  refine z_ald_0 (TX1_become_1.at 20 rfl) ?_
  refine z_ald_1 (TX1_become_1.at 21 rfl) ?_
  refine zc_getIE (m := 1) (s := 9) (k := 41) (hH.lv (by decide)) ef41 (TX1_become_1.at 22 rfl) fl1_40 hH rfl rfl (by decide) (by decide) (fun r115 => ?_)
  refine zc_putI (m := 5) (s := 9) (k := 169) hl5 (TX1_become_1.at 23 rfl) fp1_40 hH hA rfl rfl (by decide) (by decide) (by first | omega | exact b2i_01 _) (fun h f118 e1 e2 hH hA => ?_)
  have ef160 := (e1 160 (by decide)).trans ef160
  have ef165 := (e1 165 (by decide)).trans ef165
  have ef167 := (e1 167 (by decide)).trans ef167
  have ef169 := e2
  have ef32 := (e1 32 (by decide)).trans ef32
  have ef37 := (e1 37 (by decide)).trans ef37
  have ef39 := (e1 39 (by decide)).trans ef39
  have ef41 := (e1 41 (by decide)).trans ef41
  have ef45 := (e1 45 (by decide)).trans ef45
  have ef47 := (e1 47 (by decide)).trans ef47
  have hfE := hfE.put e1 (by decide)
  refine z_ald_1 (TX1_become_1.at 24 rfl) ?_
  refine zc_getA (m := 1) (s := 10) (k := 42) (hH.lv (by decide)) (TX1_become_1.at 25 rfl) fl1_43 hH rfl rfl (by decide) (by decide) ?_
  refine z_iconst (TX1_become_1.at 26 rfl) ?_
  refine z_ald_0 (TX1_become_1.at 27 rfl) ?_
  refine zc_getA (m := 5) (s := 10) (k := 170) hl5 (TX1_become_1.at 28 rfl) fl1_43 hH rfl rfl (by decide) (by decide) ?_
  refine z_iconst (TX1_become_1.at 29 rfl) ?_
  refine z_bipush (by decide) (TX1_become_1.at 30 rfl) ?_
  refine zcf_copy (ks := 42) (kd := 170) (Ns := 6) (Nd := 6) (hH.lv (by decide)) hl5 (by decide) (by decide) rfl rfl eg42 (TX1_become_1.at 31 rfl) cp1_70 hH hA (by decide) (by decide) (by omega) (by omega) (by omega) (show _ ≤ ((6 : Nat) : Int) by omega) (show _ ≤ ((6 : Nat) : Int) by omega) (by omega) (fun h g133 e1 e2 hH hA => ?_)
  have eg161 := (e1 161 (by decide)).trans eg161
  have eg33 := (e1 33 (by decide)).trans eg33
  have eg162 := (e1 162 (by decide)).trans eg162
  have eg34 := (e1 34 (by decide)).trans eg34
  have eg163 := (e1 163 (by decide)).trans eg163
  have eg35 := (e1 35 (by decide)).trans eg35
  have eg164 := (e1 164 (by decide)).trans eg164
  have eg36 := (e1 36 (by decide)).trans eg36
  have eg166 := (e1 166 (by decide)).trans eg166
  have eg38 := (e1 38 (by decide)).trans eg38
  have eg168 := (e1 168 (by decide)).trans eg168
  have eg40 := (e1 40 (by decide)).trans eg40
  rw [eg170] at e2; have eg170 := e2
  have eg42 := (e1 42 (by decide)).trans eg42
  have eg171 := (e1 171 (by decide)).trans eg171
  have eg43 := (e1 43 (by decide)).trans eg43
  have eg172 := (e1 172 (by decide)).trans eg172
  have eg44 := (e1 44 (by decide)).trans eg44
  have eg174 := (e1 174 (by decide)).trans eg174
  have eg46 := (e1 46 (by decide)).trans eg46
  have hgE := hgE.put e1 (by decide)
  refine z_ald_1 (TX1_become_1.at 32 rfl) ?_
  refine zc_getA (m := 1) (s := 11) (k := 43) (hH.lv (by decide)) (TX1_become_1.at 33 rfl) fl1_46 hH rfl rfl (by decide) (by decide) ?_
  refine z_iconst (TX1_become_1.at 34 rfl) ?_
  refine z_ald_0 (TX1_become_1.at 35 rfl) ?_
  refine zc_getA (m := 5) (s := 11) (k := 171) hl5 (TX1_become_1.at 36 rfl) fl1_46 hH rfl rfl (by decide) (by decide) ?_
  refine z_iconst (TX1_become_1.at 37 rfl) ?_
  refine z_bipush (by decide) (TX1_become_1.at 38 rfl) ?_
  refine zcf_copy (ks := 43) (kd := 171) (Ns := 6) (Nd := 6) (hH.lv (by decide)) hl5 (by decide) (by decide) rfl rfl eg43 (TX1_become_1.at 39 rfl) cp1_70 hH hA (by decide) (by decide) (by omega) (by omega) (by omega) (show _ ≤ ((6 : Nat) : Int) by omega) (show _ ≤ ((6 : Nat) : Int) by omega) (by omega) (fun h g148 e1 e2 hH hA => ?_)
  have eg161 := (e1 161 (by decide)).trans eg161
  have eg33 := (e1 33 (by decide)).trans eg33
  have eg162 := (e1 162 (by decide)).trans eg162
  have eg34 := (e1 34 (by decide)).trans eg34
  have eg163 := (e1 163 (by decide)).trans eg163
  have eg35 := (e1 35 (by decide)).trans eg35
  have eg164 := (e1 164 (by decide)).trans eg164
  have eg36 := (e1 36 (by decide)).trans eg36
  have eg166 := (e1 166 (by decide)).trans eg166
  have eg38 := (e1 38 (by decide)).trans eg38
  have eg168 := (e1 168 (by decide)).trans eg168
  have eg40 := (e1 40 (by decide)).trans eg40
  have eg170 := (e1 170 (by decide)).trans eg170
  have eg42 := (e1 42 (by decide)).trans eg42
  rw [eg171] at e2; have eg171 := e2
  have eg43 := (e1 43 (by decide)).trans eg43
  have eg172 := (e1 172 (by decide)).trans eg172
  have eg44 := (e1 44 (by decide)).trans eg44
  have eg174 := (e1 174 (by decide)).trans eg174
  have eg46 := (e1 46 (by decide)).trans eg46
  have hgE := hgE.put e1 (by decide)
  refine z_ald_1 (TX1_become_2.at 0 rfl) ?_
  refine zc_getA (m := 1) (s := 12) (k := 44) (hH.lv (by decide)) (TX1_become_2.at 1 rfl) fl1_49 hH rfl rfl (by decide) (by decide) ?_
  refine z_iconst (TX1_become_2.at 2 rfl) ?_
  refine z_ald_0 (TX1_become_2.at 3 rfl) ?_
  refine zc_getA (m := 5) (s := 12) (k := 172) hl5 (TX1_become_2.at 4 rfl) fl1_49 hH rfl rfl (by decide) (by decide) ?_
  refine z_iconst (TX1_become_2.at 5 rfl) ?_
  refine z_iconst (TX1_become_2.at 6 rfl) ?_
  refine zcf_copy (ks := 44) (kd := 172) (Ns := 3) (Nd := 3) (hH.lv (by decide)) hl5 (by decide) (by decide) rfl rfl eg44 (TX1_become_2.at 7 rfl) cp1_70 hH hA (by decide) (by decide) (by omega) (by omega) (by omega) (show _ ≤ ((3 : Nat) : Int) by omega) (show _ ≤ ((3 : Nat) : Int) by omega) (by omega) (fun h g162 e1 e2 hH hA => ?_)
  have eg161 := (e1 161 (by decide)).trans eg161
  have eg33 := (e1 33 (by decide)).trans eg33
  have eg162 := (e1 162 (by decide)).trans eg162
  have eg34 := (e1 34 (by decide)).trans eg34
  have eg163 := (e1 163 (by decide)).trans eg163
  have eg35 := (e1 35 (by decide)).trans eg35
  have eg164 := (e1 164 (by decide)).trans eg164
  have eg36 := (e1 36 (by decide)).trans eg36
  have eg166 := (e1 166 (by decide)).trans eg166
  have eg38 := (e1 38 (by decide)).trans eg38
  have eg168 := (e1 168 (by decide)).trans eg168
  have eg40 := (e1 40 (by decide)).trans eg40
  have eg170 := (e1 170 (by decide)).trans eg170
  have eg42 := (e1 42 (by decide)).trans eg42
  have eg171 := (e1 171 (by decide)).trans eg171
  have eg43 := (e1 43 (by decide)).trans eg43
  rw [eg172] at e2; have eg172 := e2
  have eg44 := (e1 44 (by decide)).trans eg44
  have eg174 := (e1 174 (by decide)).trans eg174
  have eg46 := (e1 46 (by decide)).trans eg46
  have hgE := hgE.put e1 (by decide)
  refine z_ald_0 (TX1_become_2.at 8 rfl) ?_
  refine z_ald_1 (TX1_become_2.at 9 rfl) ?_
  refine zc_getIE (m := 1) (s := 13) (k := 45) (hH.lv (by decide)) ef45 (TX1_become_2.at 10 rfl) fl1_52 hH rfl rfl (by decide) (by decide) (fun r167 => ?_)
  refine zc_putI (m := 5) (s := 13) (k := 173) hl5 (TX1_become_2.at 11 rfl) fp1_52 hH hA rfl rfl (by decide) (by decide) (by first | omega | exact b2i_01 _) (fun h f170 e1 e2 hH hA => ?_)
  have ef160 := (e1 160 (by decide)).trans ef160
  have ef165 := (e1 165 (by decide)).trans ef165
  have ef167 := (e1 167 (by decide)).trans ef167
  have ef169 := (e1 169 (by decide)).trans ef169
  have ef173 := e2
  have ef32 := (e1 32 (by decide)).trans ef32
  have ef37 := (e1 37 (by decide)).trans ef37
  have ef39 := (e1 39 (by decide)).trans ef39
  have ef41 := (e1 41 (by decide)).trans ef41
  have ef45 := (e1 45 (by decide)).trans ef45
  have ef47 := (e1 47 (by decide)).trans ef47
  have hfE := hfE.put e1 (by decide)
  refine z_iconst (TX1_become_2.at 12 rfl) ?_
  refine z_ist_2 (TX1_become_2.at 13 rfl) (Nat.le_of_ble_eq_true rfl) rfl ?_
  refine lp_bec5_1 hl5 hOK (fun f175 g175 h eg174 xf xg hH hA => ?_) 7 0 _ _ _ (by omega) (by omega) (by omega) (eg174.trans (cpy_0 _ _ _ _).symm) eg46 eqx.rf eqx.rf hH hA
  have ef160 := (xf 160 (by decide)).trans ef160
  have ef165 := (xf 165 (by decide)).trans ef165
  have ef167 := (xf 167 (by decide)).trans ef167
  have ef169 := (xf 169 (by decide)).trans ef169
  have ef173 := (xf 173 (by decide)).trans ef173
  have ef32 := (xf 32 (by decide)).trans ef32
  have ef37 := (xf 37 (by decide)).trans ef37
  have ef39 := (xf 39 (by decide)).trans ef39
  have ef41 := (xf 41 (by decide)).trans ef41
  have ef45 := (xf 45 (by decide)).trans ef45
  have ef47 := (xf 47 (by decide)).trans ef47
  have hfE := hfE.trans xf (by decide)
  have eg161 := (xg 161 (by decide)).trans eg161
  have eg33 := (xg 33 (by decide)).trans eg33
  have eg162 := (xg 162 (by decide)).trans eg162
  have eg34 := (xg 34 (by decide)).trans eg34
  have eg163 := (xg 163 (by decide)).trans eg163
  have eg35 := (xg 35 (by decide)).trans eg35
  have eg164 := (xg 164 (by decide)).trans eg164
  have eg36 := (xg 36 (by decide)).trans eg36
  have eg166 := (xg 166 (by decide)).trans eg166
  have eg38 := (xg 38 (by decide)).trans eg38
  have eg168 := (xg 168 (by decide)).trans eg168
  have eg40 := (xg 40 (by decide)).trans eg40
  have eg170 := (xg 170 (by decide)).trans eg170
  have eg42 := (xg 42 (by decide)).trans eg42
  have eg171 := (xg 171 (by decide)).trans eg171
  have eg43 := (xg 43 (by decide)).trans eg43
  have eg172 := (xg 172 (by decide)).trans eg172
  have eg44 := (xg 44 (by decide)).trans eg44
  have eg46 := (xg 46 (by decide)).trans eg46
  have hgE := hgE.trans xg (by decide)
  refine z_ald_0 (TX1_become_2.at 27 rfl) ?_
  refine z_ald_1 (TX1_become_2.at 28 rfl) ?_
  refine zc_getIE (m := 1) (s := 15) (k := 47) (hH.lv (by decide)) ef47 (TX1_become_2.at 29 rfl) fl1_61 hH rfl rfl (by decide) (by decide) (fun r201 => ?_)
  refine zc_putI (m := 5) (s := 15) (k := 175) hl5 (TX1_become_2.at 30 rfl) fp1_61 hH hA rfl rfl (by decide) (by decide) (by first | omega | exact b2i_01 _) (fun h f204 e1 e2 hH hA => ?_)
  have ef160 := (e1 160 (by decide)).trans ef160
  have ef165 := (e1 165 (by decide)).trans ef165
  have ef167 := (e1 167 (by decide)).trans ef167
  have ef169 := (e1 169 (by decide)).trans ef169
  have ef173 := (e1 173 (by decide)).trans ef173
  have ef175 := e2
  have ef32 := (e1 32 (by decide)).trans ef32
  have ef37 := (e1 37 (by decide)).trans ef37
  have ef39 := (e1 39 (by decide)).trans ef39
  have ef41 := (e1 41 (by decide)).trans ef41
  have ef45 := (e1 45 (by decide)).trans ef45
  have ef47 := (e1 47 (by decide)).trans ef47
  have hfE := hfE.put e1 (by decide)
  refine zc_vret (TX1_become_2.at 31 rfl) rfl hH hA ?_
  exact ⟨⟨ef160, ef165, ef167, ef169, ef173, ef175, eg161, eg162, eg163, eg164, eg166, eg168, eg170, eg171, eg172, eg174⟩, hfE, hgE, rfl⟩

set_option maxHeartbeats 4000000 in
set_option maxRecDepth 100000 in
theorem lp_bec1_4 {l : Launch} {E : cE} {d : Nat} {Pz : Option Value → zH → Prop} {h0 : zH} {f0 : mF} {g0 : mA} {j : mA}  {X Y : Int → Int} (hl4 : E.2.1 4 = true) (hOK : ∀ q : Int, 0 ≤ q → q < 6 → okR E 4 (Y q)) (kx : ∀ (f : mF) (g : mA) (h : zH), g 46 = cpy X Y 0 0 6 → eqx [] f0 f → eqx [46] g0 g → HC E f g j h → cAg E h0 h → Z l MX1_become d 0 0 Pz 199 [some (.ref (E.1 63)), some (.ref (E.1 159)), some (vI 6)] [] h 0 0)  : ∀ (n : Nat) (i : Int) (f : mF) (g : mA) (h : zH) (i0 : 0 ≤ i) (i1 : i ≤ 6) (i2 : 6 < i + n) (eg46 : g 46 = cpy X Y 0 0 i) (eg142 : g 142 = Y) (hfE : eqx [] f0 f) (hgE : eqx [46] g0 g) (hH : HC E f g j h) (hA : cAg E h0 h), Z l MX1_become d 0 0 Pz 175 [some (.ref (E.1 63)), some (.ref (E.1 159)), some (vI i)] [] h 0 0 := by
  intro n
  induction n with
  | zero => intro i f g h i0 i1 i2 eg46 eg142 hfE hgE hH hA; exfalso; omega
  | succ n ih =>
    intro i f g h i0 i1 i2 eg46 eg142 hfE hgE hH hA
    refine z_ild_2 (TX1_become_2.at 14 rfl) ?_
    refine z_bipush (by decide) (TX1_become_2.at 15 rfl) ?_
    refine z_icmp_ge (tgt := 199) (TX1_become_2.at 16 rfl) rfl (by omega) (by omega) (fun c1 => ?_) (fun c1 => ?_)
    · skip
      obtain rfl : i = 6 := by omega
      exact kx _ _ _ eg46 hfE hgE hH hA
    · skip
      refine z_ald_0 (TX1_become_2.at 17 rfl) ?_
      refine zc_getA (m := 1) (s := 14) (k := 46) (hH.lv (by decide)) (TX1_become_2.at 18 rfl) fl1_57 hH rfl rfl (by decide) (by decide) ?_
      refine z_ild_2 (TX1_become_2.at 19 rfl) ?_
      refine z_ald_1 (TX1_become_2.at 20 rfl) ?_
      refine zc_getA (m := 4) (s := 14) (k := 142) hl4 (TX1_become_2.at 21 rfl) fl1_57 hH rfl rfl (by decide) (by decide) ?_
      refine z_ild_2 (TX1_become_2.at 22 rfl) ?_
      refine zcf_aald (k := 142) (N := 6) hl4 (by decide) rfl eg142 (TX1_become_2.at 23 rfl) hH (by decide) (by omega) (show _ < ((6 : Nat) : Int) by omega) ?_
      refine zcf_aast (k := 46) (N := 6) (hH.lv (by decide)) (by decide) rfl (TX1_become_2.at 24 rfl) hH hA (by decide) (by omega) (show _ < ((6 : Nat) : Int) by omega) (by exact hOK i i0 (by omega)) (fun h g192 e1 e2 hH hA => ?_)
      rw [eg46] at e2; have eg46 := e2
      have eg142 := (e1 142 (by decide)).trans eg142
      have hgE := hgE.put e1 (by decide)
      refine z_iinc_2 (TX1_become_2.at 25 rfl) (Nat.le_of_ble_eq_true rfl) rfl ?_
      refine z_goto (tgt := 175) (TX1_become_2.at 26 rfl) rfl ?_
      exact ih (i + 1) _ _ _ (by omega) (by omega) (by omega) (by rw [cpy_s (by omega) (by omega) (by omega)] at eg46; exact eg46) eg142 hfE hgE hH hA

set_option maxHeartbeats 4000000 in
set_option maxRecDepth 100000 in
theorem c_bec1_4 {l : Launch} {E : cE} {f : mF} {g j : mA} {X1 : Int → Int} {Y1 : Int → Int} {X2 : Int → Int} {Y2 : Int → Int} {X3 : Int → Int} {Y3 : Int → Int} {X4 : Int → Int} {Y4 : Int → Int} {X6 : Int → Int} {Y6 : Int → Int} {X8 : Int → Int} {Y8 : Int → Int} {X10 : Int → Int} {Y10 : Int → Int} {X11 : Int → Int} {Y11 : Int → Int} {X12 : Int → Int} {Y12 : Int → Int} {X14 : Int → Int} {Y14 : Int → Int} {y0 : Int} {y5 : Int} {y7 : Int} {y9 : Int} {y13 : Int} {y15 : Int}  (eg33 : g 33 = X1) (eg129 : g 129 = Y1) (eg34 : g 34 = X2) (eg130 : g 130 = Y2) (eg35 : g 35 = X3) (eg131 : g 131 = Y3) (eg36 : g 36 = X4) (eg132 : g 132 = Y4) (eg38 : g 38 = X6) (eg134 : g 134 = Y6) (eg40 : g 40 = X8) (eg136 : g 136 = Y8) (eg42 : g 42 = X10) (eg138 : g 138 = Y10) (eg43 : g 43 = X11) (eg139 : g 139 = Y11) (eg44 : g 44 = X12) (eg140 : g 140 = Y12) (eg46 : g 46 = X14) (eg142 : g 142 = Y14) (ef128 : f 128 = y0) (ef133 : f 133 = y5) (ef135 : f 135 = y7) (ef137 : f 137 = y9) (ef141 : f 141 = y13) (ef143 : f 143 = y15) (hl4 : E.2.1 4 = true) (hOK : ∀ q : Int, 0 ≤ q → q < 6 → okR E 4 (Y14 q)) : CM l E MX1_become 1 [.ref (E.1 63), .ref (E.1 159)] f g j (PV (fun f' g' j' => (f' 32 = y0 ∧ f' 37 = y5 ∧ f' 39 = y7 ∧ f' 41 = y9 ∧ f' 45 = y13 ∧ f' 47 = y15 ∧ g' 33 = cpy X1 Y1 0 0 10 ∧ g' 34 = cpy X2 Y2 0 0 10 ∧ g' 35 = cpy X3 Y3 0 0 10 ∧ g' 36 = cpy X4 Y4 0 0 10 ∧ g' 38 = cpy X6 Y6 0 0 8 ∧ g' 40 = cpy X8 Y8 0 0 3 ∧ g' 42 = cpy X10 Y10 0 0 6 ∧ g' 43 = cpy X11 Y11 0 0 6 ∧ g' 44 = cpy X12 Y12 0 0 3 ∧ g' 46 = cpy X14 Y14 0 0 6) ∧ eqx [32, 37, 39, 41, 45, 47] f f' ∧ eqx [33, 34, 35, 36, 38, 40, 42, 43, 44, 46] g g' ∧ j' = j)) := by
  refine CM.intro [some (.ref (E.1 63)), some (.ref (E.1 159)), none] (by decide) (Nat.le_of_ble_eq_true rfl) rfl (fun d hd h0 h hH hA => ?_)
  have hfE : eqx [32, 37, 39, 41, 45, 47] f f := eqx.rf
  have hgE : eqx [33, 34, 35, 36, 38, 40, 42, 43, 44, 46] g g := eqx.rf
  refine z_ald_0 (TX1_become_0.at 0 rfl) ?_
  refine z_ald_1 (TX1_become_0.at 1 rfl) ?_
  refine zc_getIE (m := 4) (s := 0) (k := 128) hl4 ef128 (TX1_become_0.at 2 rfl) fl1_9 hH rfl rfl (by decide) (by decide) (fun r2 => ?_)
  refine zc_putI (m := 1) (s := 0) (k := 32) (hH.lv (by decide)) (TX1_become_0.at 3 rfl) fp1_9 hH hA rfl rfl (by decide) (by decide) (by first | omega | exact b2i_01 _) (fun h f5 e1 e2 hH hA => ?_)
  have ef32 := e2
  have ef128 := (e1 128 (by decide)).trans ef128
  have ef133 := (e1 133 (by decide)).trans ef133
  have ef135 := (e1 135 (by decide)).trans ef135
  have ef137 := (e1 137 (by decide)).trans ef137
  have ef141 := (e1 141 (by decide)).trans ef141
  have ef143 := (e1 143 (by decide)).trans ef143
  have hfE := hfE.put e1 (by decide)
  refine z_ald_1 (TX1_become_0.at 4 rfl) ?_
  refine zc_getA (m := 4) (s := 1) (k := 129) hl4 (TX1_become_0.at 5 rfl) fl1_15 hH rfl rfl (by decide) (by decide) ?_
  refine z_iconst (TX1_become_0.at 6 rfl) ?_
  refine z_ald_0 (TX1_become_0.at 7 rfl) ?_
  refine zc_getA (m := 1) (s := 1) (k := 33) (hH.lv (by decide)) (TX1_become_0.at 8 rfl) fl1_15 hH rfl rfl (by decide) (by decide) ?_
  refine z_iconst (TX1_become_0.at 9 rfl) ?_
  refine z_bipush (by decide) (TX1_become_0.at 10 rfl) ?_
  refine zcf_copy (ks := 129) (kd := 33) (Ns := 10) (Nd := 10) hl4 (hH.lv (by decide)) (by decide) (by decide) rfl rfl eg129 (TX1_become_0.at 11 rfl) cp1_70 hH hA (by decide) (by decide) (by omega) (by omega) (by omega) (show _ ≤ ((10 : Nat) : Int) by omega) (show _ ≤ ((10 : Nat) : Int) by omega) (by omega) (fun h g20 e1 e2 hH hA => ?_)
  rw [eg33] at e2; have eg33 := e2
  have eg129 := (e1 129 (by decide)).trans eg129
  have eg34 := (e1 34 (by decide)).trans eg34
  have eg130 := (e1 130 (by decide)).trans eg130
  have eg35 := (e1 35 (by decide)).trans eg35
  have eg131 := (e1 131 (by decide)).trans eg131
  have eg36 := (e1 36 (by decide)).trans eg36
  have eg132 := (e1 132 (by decide)).trans eg132
  have eg38 := (e1 38 (by decide)).trans eg38
  have eg134 := (e1 134 (by decide)).trans eg134
  have eg40 := (e1 40 (by decide)).trans eg40
  have eg136 := (e1 136 (by decide)).trans eg136
  have eg42 := (e1 42 (by decide)).trans eg42
  have eg138 := (e1 138 (by decide)).trans eg138
  have eg43 := (e1 43 (by decide)).trans eg43
  have eg139 := (e1 139 (by decide)).trans eg139
  have eg44 := (e1 44 (by decide)).trans eg44
  have eg140 := (e1 140 (by decide)).trans eg140
  have eg46 := (e1 46 (by decide)).trans eg46
  have eg142 := (e1 142 (by decide)).trans eg142
  have hgE := hgE.put e1 (by decide)
  refine z_ald_1 (TX1_become_0.at 12 rfl) ?_
  refine zc_getA (m := 4) (s := 2) (k := 130) hl4 (TX1_become_0.at 13 rfl) fl1_19 hH rfl rfl (by decide) (by decide) ?_
  refine z_iconst (TX1_become_0.at 14 rfl) ?_
  refine z_ald_0 (TX1_become_0.at 15 rfl) ?_
  refine zc_getA (m := 1) (s := 2) (k := 34) (hH.lv (by decide)) (TX1_become_0.at 16 rfl) fl1_19 hH rfl rfl (by decide) (by decide) ?_
  refine z_iconst (TX1_become_0.at 17 rfl) ?_
  refine z_bipush (by decide) (TX1_become_0.at 18 rfl) ?_
  refine zcf_copy (ks := 130) (kd := 34) (Ns := 10) (Nd := 10) hl4 (hH.lv (by decide)) (by decide) (by decide) rfl rfl eg130 (TX1_become_0.at 19 rfl) cp1_70 hH hA (by decide) (by decide) (by omega) (by omega) (by omega) (show _ ≤ ((10 : Nat) : Int) by omega) (show _ ≤ ((10 : Nat) : Int) by omega) (by omega) (fun h g35 e1 e2 hH hA => ?_)
  have eg33 := (e1 33 (by decide)).trans eg33
  have eg129 := (e1 129 (by decide)).trans eg129
  rw [eg34] at e2; have eg34 := e2
  have eg130 := (e1 130 (by decide)).trans eg130
  have eg35 := (e1 35 (by decide)).trans eg35
  have eg131 := (e1 131 (by decide)).trans eg131
  have eg36 := (e1 36 (by decide)).trans eg36
  have eg132 := (e1 132 (by decide)).trans eg132
  have eg38 := (e1 38 (by decide)).trans eg38
  have eg134 := (e1 134 (by decide)).trans eg134
  have eg40 := (e1 40 (by decide)).trans eg40
  have eg136 := (e1 136 (by decide)).trans eg136
  have eg42 := (e1 42 (by decide)).trans eg42
  have eg138 := (e1 138 (by decide)).trans eg138
  have eg43 := (e1 43 (by decide)).trans eg43
  have eg139 := (e1 139 (by decide)).trans eg139
  have eg44 := (e1 44 (by decide)).trans eg44
  have eg140 := (e1 140 (by decide)).trans eg140
  have eg46 := (e1 46 (by decide)).trans eg46
  have eg142 := (e1 142 (by decide)).trans eg142
  have hgE := hgE.put e1 (by decide)
  refine z_ald_1 (TX1_become_0.at 20 rfl) ?_
  refine zc_getA (m := 4) (s := 3) (k := 131) hl4 (TX1_become_0.at 21 rfl) fl1_22 hH rfl rfl (by decide) (by decide) ?_
  refine z_iconst (TX1_become_0.at 22 rfl) ?_
  refine z_ald_0 (TX1_become_0.at 23 rfl) ?_
  refine zc_getA (m := 1) (s := 3) (k := 35) (hH.lv (by decide)) (TX1_become_0.at 24 rfl) fl1_22 hH rfl rfl (by decide) (by decide) ?_
  refine z_iconst (TX1_become_0.at 25 rfl) ?_
  refine z_bipush (by decide) (TX1_become_0.at 26 rfl) ?_
  refine zcf_copy (ks := 131) (kd := 35) (Ns := 10) (Nd := 10) hl4 (hH.lv (by decide)) (by decide) (by decide) rfl rfl eg131 (TX1_become_0.at 27 rfl) cp1_70 hH hA (by decide) (by decide) (by omega) (by omega) (by omega) (show _ ≤ ((10 : Nat) : Int) by omega) (show _ ≤ ((10 : Nat) : Int) by omega) (by omega) (fun h g50 e1 e2 hH hA => ?_)
  have eg33 := (e1 33 (by decide)).trans eg33
  have eg129 := (e1 129 (by decide)).trans eg129
  have eg34 := (e1 34 (by decide)).trans eg34
  have eg130 := (e1 130 (by decide)).trans eg130
  rw [eg35] at e2; have eg35 := e2
  have eg131 := (e1 131 (by decide)).trans eg131
  have eg36 := (e1 36 (by decide)).trans eg36
  have eg132 := (e1 132 (by decide)).trans eg132
  have eg38 := (e1 38 (by decide)).trans eg38
  have eg134 := (e1 134 (by decide)).trans eg134
  have eg40 := (e1 40 (by decide)).trans eg40
  have eg136 := (e1 136 (by decide)).trans eg136
  have eg42 := (e1 42 (by decide)).trans eg42
  have eg138 := (e1 138 (by decide)).trans eg138
  have eg43 := (e1 43 (by decide)).trans eg43
  have eg139 := (e1 139 (by decide)).trans eg139
  have eg44 := (e1 44 (by decide)).trans eg44
  have eg140 := (e1 140 (by decide)).trans eg140
  have eg46 := (e1 46 (by decide)).trans eg46
  have eg142 := (e1 142 (by decide)).trans eg142
  have hgE := hgE.put e1 (by decide)
  refine z_ald_1 (TX1_become_0.at 28 rfl) ?_
  refine zc_getA (m := 4) (s := 4) (k := 132) hl4 (TX1_become_0.at 29 rfl) fl1_25 hH rfl rfl (by decide) (by decide) ?_
  refine z_iconst (TX1_become_0.at 30 rfl) ?_
  refine z_ald_0 (TX1_become_0.at 31 rfl) ?_
  refine zc_getA (m := 1) (s := 4) (k := 36) (hH.lv (by decide)) (TX1_become_0.at 32 rfl) fl1_25 hH rfl rfl (by decide) (by decide) ?_
  refine z_iconst (TX1_become_0.at 33 rfl) ?_
  refine z_bipush (by decide) (TX1_become_0.at 34 rfl) ?_
  refine zcf_copy (ks := 132) (kd := 36) (Ns := 10) (Nd := 10) hl4 (hH.lv (by decide)) (by decide) (by decide) rfl rfl eg132 (TX1_become_0.at 35 rfl) cp1_70 hH hA (by decide) (by decide) (by omega) (by omega) (by omega) (show _ ≤ ((10 : Nat) : Int) by omega) (show _ ≤ ((10 : Nat) : Int) by omega) (by omega) (fun h g65 e1 e2 hH hA => ?_)
  have eg33 := (e1 33 (by decide)).trans eg33
  have eg129 := (e1 129 (by decide)).trans eg129
  have eg34 := (e1 34 (by decide)).trans eg34
  have eg130 := (e1 130 (by decide)).trans eg130
  have eg35 := (e1 35 (by decide)).trans eg35
  have eg131 := (e1 131 (by decide)).trans eg131
  rw [eg36] at e2; have eg36 := e2
  have eg132 := (e1 132 (by decide)).trans eg132
  have eg38 := (e1 38 (by decide)).trans eg38
  have eg134 := (e1 134 (by decide)).trans eg134
  have eg40 := (e1 40 (by decide)).trans eg40
  have eg136 := (e1 136 (by decide)).trans eg136
  have eg42 := (e1 42 (by decide)).trans eg42
  have eg138 := (e1 138 (by decide)).trans eg138
  have eg43 := (e1 43 (by decide)).trans eg43
  have eg139 := (e1 139 (by decide)).trans eg139
  have eg44 := (e1 44 (by decide)).trans eg44
  have eg140 := (e1 140 (by decide)).trans eg140
  have eg46 := (e1 46 (by decide)).trans eg46
  have eg142 := (e1 142 (by decide)).trans eg142
  have hgE := hgE.put e1 (by decide)
  refine z_ald_0 (TX1_become_0.at 36 rfl) ?_
  refine z_ald_1 (TX1_become_0.at 37 rfl) ?_
  refine zc_getIE (m := 4) (s := 5) (k := 133) hl4 ef133 (TX1_become_0.at 38 rfl) fl1_28 hH rfl rfl (by decide) (by decide) (fun r70 => ?_)
  refine zc_putI (m := 1) (s := 5) (k := 37) (hH.lv (by decide)) (TX1_become_0.at 39 rfl) fp1_28 hH hA rfl rfl (by decide) (by decide) (by first | omega | exact b2i_01 _) (fun h f73 e1 e2 hH hA => ?_)
  have ef32 := (e1 32 (by decide)).trans ef32
  have ef37 := e2
  have ef128 := (e1 128 (by decide)).trans ef128
  have ef133 := (e1 133 (by decide)).trans ef133
  have ef135 := (e1 135 (by decide)).trans ef135
  have ef137 := (e1 137 (by decide)).trans ef137
  have ef141 := (e1 141 (by decide)).trans ef141
  have ef143 := (e1 143 (by decide)).trans ef143
  have hfE := hfE.put e1 (by decide)
  refine z_ald_1 (TX1_become_1.at 0 rfl) ?_
  refine zc_getA (m := 4) (s := 6) (k := 134) hl4 (TX1_become_1.at 1 rfl) fl1_31 hH rfl rfl (by decide) (by decide) ?_
  refine z_iconst (TX1_become_1.at 2 rfl) ?_
  refine z_ald_0 (TX1_become_1.at 3 rfl) ?_
  refine zc_getA (m := 1) (s := 6) (k := 38) (hH.lv (by decide)) (TX1_become_1.at 4 rfl) fl1_31 hH rfl rfl (by decide) (by decide) ?_
  refine z_iconst (TX1_become_1.at 5 rfl) ?_
  refine z_bipush (by decide) (TX1_become_1.at 6 rfl) ?_
  refine zcf_copy (ks := 134) (kd := 38) (Ns := 8) (Nd := 8) hl4 (hH.lv (by decide)) (by decide) (by decide) rfl rfl eg134 (TX1_become_1.at 7 rfl) cp1_70 hH hA (by decide) (by decide) (by omega) (by omega) (by omega) (show _ ≤ ((8 : Nat) : Int) by omega) (show _ ≤ ((8 : Nat) : Int) by omega) (by omega) (fun h g88 e1 e2 hH hA => ?_)
  have eg33 := (e1 33 (by decide)).trans eg33
  have eg129 := (e1 129 (by decide)).trans eg129
  have eg34 := (e1 34 (by decide)).trans eg34
  have eg130 := (e1 130 (by decide)).trans eg130
  have eg35 := (e1 35 (by decide)).trans eg35
  have eg131 := (e1 131 (by decide)).trans eg131
  have eg36 := (e1 36 (by decide)).trans eg36
  have eg132 := (e1 132 (by decide)).trans eg132
  rw [eg38] at e2; have eg38 := e2
  have eg134 := (e1 134 (by decide)).trans eg134
  have eg40 := (e1 40 (by decide)).trans eg40
  have eg136 := (e1 136 (by decide)).trans eg136
  have eg42 := (e1 42 (by decide)).trans eg42
  have eg138 := (e1 138 (by decide)).trans eg138
  have eg43 := (e1 43 (by decide)).trans eg43
  have eg139 := (e1 139 (by decide)).trans eg139
  have eg44 := (e1 44 (by decide)).trans eg44
  have eg140 := (e1 140 (by decide)).trans eg140
  have eg46 := (e1 46 (by decide)).trans eg46
  have eg142 := (e1 142 (by decide)).trans eg142
  have hgE := hgE.put e1 (by decide)
  refine z_ald_0 (TX1_become_1.at 8 rfl) ?_
  refine z_ald_1 (TX1_become_1.at 9 rfl) ?_
  refine zc_getIE (m := 4) (s := 7) (k := 135) hl4 ef135 (TX1_become_1.at 10 rfl) fl1_34 hH rfl rfl (by decide) (by decide) (fun r93 => ?_)
  refine zc_putI (m := 1) (s := 7) (k := 39) (hH.lv (by decide)) (TX1_become_1.at 11 rfl) fp1_34 hH hA rfl rfl (by decide) (by decide) (by first | omega | exact b2i_01 _) (fun h f96 e1 e2 hH hA => ?_)
  have ef32 := (e1 32 (by decide)).trans ef32
  have ef37 := (e1 37 (by decide)).trans ef37
  have ef39 := e2
  have ef128 := (e1 128 (by decide)).trans ef128
  have ef133 := (e1 133 (by decide)).trans ef133
  have ef135 := (e1 135 (by decide)).trans ef135
  have ef137 := (e1 137 (by decide)).trans ef137
  have ef141 := (e1 141 (by decide)).trans ef141
  have ef143 := (e1 143 (by decide)).trans ef143
  have hfE := hfE.put e1 (by decide)
  refine z_ald_1 (TX1_become_1.at 12 rfl) ?_
  refine zc_getA (m := 4) (s := 8) (k := 136) hl4 (TX1_become_1.at 13 rfl) fl1_37 hH rfl rfl (by decide) (by decide) ?_
  refine z_iconst (TX1_become_1.at 14 rfl) ?_
  refine z_ald_0 (TX1_become_1.at 15 rfl) ?_
  refine zc_getA (m := 1) (s := 8) (k := 40) (hH.lv (by decide)) (TX1_become_1.at 16 rfl) fl1_37 hH rfl rfl (by decide) (by decide) ?_
  refine z_iconst (TX1_become_1.at 17 rfl) ?_
  refine z_iconst (TX1_become_1.at 18 rfl) ?_
  refine zcf_copy (ks := 136) (kd := 40) (Ns := 3) (Nd := 3) hl4 (hH.lv (by decide)) (by decide) (by decide) rfl rfl eg136 (TX1_become_1.at 19 rfl) cp1_70 hH hA (by decide) (by decide) (by omega) (by omega) (by omega) (show _ ≤ ((3 : Nat) : Int) by omega) (show _ ≤ ((3 : Nat) : Int) by omega) (by omega) (fun h g110 e1 e2 hH hA => ?_)
  have eg33 := (e1 33 (by decide)).trans eg33
  have eg129 := (e1 129 (by decide)).trans eg129
  have eg34 := (e1 34 (by decide)).trans eg34
  have eg130 := (e1 130 (by decide)).trans eg130
  have eg35 := (e1 35 (by decide)).trans eg35
  have eg131 := (e1 131 (by decide)).trans eg131
  have eg36 := (e1 36 (by decide)).trans eg36
  have eg132 := (e1 132 (by decide)).trans eg132
  have eg38 := (e1 38 (by decide)).trans eg38
  have eg134 := (e1 134 (by decide)).trans eg134
  rw [eg40] at e2; have eg40 := e2
  have eg136 := (e1 136 (by decide)).trans eg136
  have eg42 := (e1 42 (by decide)).trans eg42
  have eg138 := (e1 138 (by decide)).trans eg138
  have eg43 := (e1 43 (by decide)).trans eg43
  have eg139 := (e1 139 (by decide)).trans eg139
  have eg44 := (e1 44 (by decide)).trans eg44
  have eg140 := (e1 140 (by decide)).trans eg140
  have eg46 := (e1 46 (by decide)).trans eg46
  have eg142 := (e1 142 (by decide)).trans eg142
  have hgE := hgE.put e1 (by decide)
  refine z_ald_0 (TX1_become_1.at 20 rfl) ?_
  refine z_ald_1 (TX1_become_1.at 21 rfl) ?_
  refine zc_getIE (m := 4) (s := 9) (k := 137) hl4 ef137 (TX1_become_1.at 22 rfl) fl1_40 hH rfl rfl (by decide) (by decide) (fun r115 => ?_)
  refine zc_putI (m := 1) (s := 9) (k := 41) (hH.lv (by decide)) (TX1_become_1.at 23 rfl) fp1_40 hH hA rfl rfl (by decide) (by decide) (by first | omega | exact b2i_01 _) (fun h f118 e1 e2 hH hA => ?_)
  have ef32 := (e1 32 (by decide)).trans ef32
  have ef37 := (e1 37 (by decide)).trans ef37
  have ef39 := (e1 39 (by decide)).trans ef39
  have ef41 := e2
  have ef128 := (e1 128 (by decide)).trans ef128
  have ef133 := (e1 133 (by decide)).trans ef133
  have ef135 := (e1 135 (by decide)).trans ef135
  have ef137 := (e1 137 (by decide)).trans ef137
  have ef141 := (e1 141 (by decide)).trans ef141
  have ef143 := (e1 143 (by decide)).trans ef143
  have hfE := hfE.put e1 (by decide)
  refine z_ald_1 (TX1_become_1.at 24 rfl) ?_
  refine zc_getA (m := 4) (s := 10) (k := 138) hl4 (TX1_become_1.at 25 rfl) fl1_43 hH rfl rfl (by decide) (by decide) ?_
  refine z_iconst (TX1_become_1.at 26 rfl) ?_
  refine z_ald_0 (TX1_become_1.at 27 rfl) ?_
  refine zc_getA (m := 1) (s := 10) (k := 42) (hH.lv (by decide)) (TX1_become_1.at 28 rfl) fl1_43 hH rfl rfl (by decide) (by decide) ?_
  refine z_iconst (TX1_become_1.at 29 rfl) ?_
  refine z_bipush (by decide) (TX1_become_1.at 30 rfl) ?_
  refine zcf_copy (ks := 138) (kd := 42) (Ns := 6) (Nd := 6) hl4 (hH.lv (by decide)) (by decide) (by decide) rfl rfl eg138 (TX1_become_1.at 31 rfl) cp1_70 hH hA (by decide) (by decide) (by omega) (by omega) (by omega) (show _ ≤ ((6 : Nat) : Int) by omega) (show _ ≤ ((6 : Nat) : Int) by omega) (by omega) (fun h g133 e1 e2 hH hA => ?_)
  have eg33 := (e1 33 (by decide)).trans eg33
  have eg129 := (e1 129 (by decide)).trans eg129
  have eg34 := (e1 34 (by decide)).trans eg34
  have eg130 := (e1 130 (by decide)).trans eg130
  have eg35 := (e1 35 (by decide)).trans eg35
  have eg131 := (e1 131 (by decide)).trans eg131
  have eg36 := (e1 36 (by decide)).trans eg36
  have eg132 := (e1 132 (by decide)).trans eg132
  have eg38 := (e1 38 (by decide)).trans eg38
  have eg134 := (e1 134 (by decide)).trans eg134
  have eg40 := (e1 40 (by decide)).trans eg40
  have eg136 := (e1 136 (by decide)).trans eg136
  rw [eg42] at e2; have eg42 := e2
  have eg138 := (e1 138 (by decide)).trans eg138
  have eg43 := (e1 43 (by decide)).trans eg43
  have eg139 := (e1 139 (by decide)).trans eg139
  have eg44 := (e1 44 (by decide)).trans eg44
  have eg140 := (e1 140 (by decide)).trans eg140
  have eg46 := (e1 46 (by decide)).trans eg46
  have eg142 := (e1 142 (by decide)).trans eg142
  have hgE := hgE.put e1 (by decide)
  refine z_ald_1 (TX1_become_1.at 32 rfl) ?_
  refine zc_getA (m := 4) (s := 11) (k := 139) hl4 (TX1_become_1.at 33 rfl) fl1_46 hH rfl rfl (by decide) (by decide) ?_
  refine z_iconst (TX1_become_1.at 34 rfl) ?_
  refine z_ald_0 (TX1_become_1.at 35 rfl) ?_
  refine zc_getA (m := 1) (s := 11) (k := 43) (hH.lv (by decide)) (TX1_become_1.at 36 rfl) fl1_46 hH rfl rfl (by decide) (by decide) ?_
  refine z_iconst (TX1_become_1.at 37 rfl) ?_
  refine z_bipush (by decide) (TX1_become_1.at 38 rfl) ?_
  refine zcf_copy (ks := 139) (kd := 43) (Ns := 6) (Nd := 6) hl4 (hH.lv (by decide)) (by decide) (by decide) rfl rfl eg139 (TX1_become_1.at 39 rfl) cp1_70 hH hA (by decide) (by decide) (by omega) (by omega) (by omega) (show _ ≤ ((6 : Nat) : Int) by omega) (show _ ≤ ((6 : Nat) : Int) by omega) (by omega) (fun h g148 e1 e2 hH hA => ?_)
  have eg33 := (e1 33 (by decide)).trans eg33
  have eg129 := (e1 129 (by decide)).trans eg129
  have eg34 := (e1 34 (by decide)).trans eg34
  have eg130 := (e1 130 (by decide)).trans eg130
  have eg35 := (e1 35 (by decide)).trans eg35
  have eg131 := (e1 131 (by decide)).trans eg131
  have eg36 := (e1 36 (by decide)).trans eg36
  have eg132 := (e1 132 (by decide)).trans eg132
  have eg38 := (e1 38 (by decide)).trans eg38
  have eg134 := (e1 134 (by decide)).trans eg134
  have eg40 := (e1 40 (by decide)).trans eg40
  have eg136 := (e1 136 (by decide)).trans eg136
  have eg42 := (e1 42 (by decide)).trans eg42
  have eg138 := (e1 138 (by decide)).trans eg138
  rw [eg43] at e2; have eg43 := e2
  have eg139 := (e1 139 (by decide)).trans eg139
  have eg44 := (e1 44 (by decide)).trans eg44
  have eg140 := (e1 140 (by decide)).trans eg140
  have eg46 := (e1 46 (by decide)).trans eg46
  have eg142 := (e1 142 (by decide)).trans eg142
  have hgE := hgE.put e1 (by decide)
  refine z_ald_1 (TX1_become_2.at 0 rfl) ?_
  refine zc_getA (m := 4) (s := 12) (k := 140) hl4 (TX1_become_2.at 1 rfl) fl1_49 hH rfl rfl (by decide) (by decide) ?_
  refine z_iconst (TX1_become_2.at 2 rfl) ?_
  refine z_ald_0 (TX1_become_2.at 3 rfl) ?_
  refine zc_getA (m := 1) (s := 12) (k := 44) (hH.lv (by decide)) (TX1_become_2.at 4 rfl) fl1_49 hH rfl rfl (by decide) (by decide) ?_
  refine z_iconst (TX1_become_2.at 5 rfl) ?_
  refine z_iconst (TX1_become_2.at 6 rfl) ?_
  refine zcf_copy (ks := 140) (kd := 44) (Ns := 3) (Nd := 3) hl4 (hH.lv (by decide)) (by decide) (by decide) rfl rfl eg140 (TX1_become_2.at 7 rfl) cp1_70 hH hA (by decide) (by decide) (by omega) (by omega) (by omega) (show _ ≤ ((3 : Nat) : Int) by omega) (show _ ≤ ((3 : Nat) : Int) by omega) (by omega) (fun h g162 e1 e2 hH hA => ?_)
  have eg33 := (e1 33 (by decide)).trans eg33
  have eg129 := (e1 129 (by decide)).trans eg129
  have eg34 := (e1 34 (by decide)).trans eg34
  have eg130 := (e1 130 (by decide)).trans eg130
  have eg35 := (e1 35 (by decide)).trans eg35
  have eg131 := (e1 131 (by decide)).trans eg131
  have eg36 := (e1 36 (by decide)).trans eg36
  have eg132 := (e1 132 (by decide)).trans eg132
  have eg38 := (e1 38 (by decide)).trans eg38
  have eg134 := (e1 134 (by decide)).trans eg134
  have eg40 := (e1 40 (by decide)).trans eg40
  have eg136 := (e1 136 (by decide)).trans eg136
  have eg42 := (e1 42 (by decide)).trans eg42
  have eg138 := (e1 138 (by decide)).trans eg138
  have eg43 := (e1 43 (by decide)).trans eg43
  have eg139 := (e1 139 (by decide)).trans eg139
  rw [eg44] at e2; have eg44 := e2
  have eg140 := (e1 140 (by decide)).trans eg140
  have eg46 := (e1 46 (by decide)).trans eg46
  have eg142 := (e1 142 (by decide)).trans eg142
  have hgE := hgE.put e1 (by decide)
  refine z_ald_0 (TX1_become_2.at 8 rfl) ?_
  refine z_ald_1 (TX1_become_2.at 9 rfl) ?_
  refine zc_getIE (m := 4) (s := 13) (k := 141) hl4 ef141 (TX1_become_2.at 10 rfl) fl1_52 hH rfl rfl (by decide) (by decide) (fun r167 => ?_)
  refine zc_putI (m := 1) (s := 13) (k := 45) (hH.lv (by decide)) (TX1_become_2.at 11 rfl) fp1_52 hH hA rfl rfl (by decide) (by decide) (by first | omega | exact b2i_01 _) (fun h f170 e1 e2 hH hA => ?_)
  have ef32 := (e1 32 (by decide)).trans ef32
  have ef37 := (e1 37 (by decide)).trans ef37
  have ef39 := (e1 39 (by decide)).trans ef39
  have ef41 := (e1 41 (by decide)).trans ef41
  have ef45 := e2
  have ef128 := (e1 128 (by decide)).trans ef128
  have ef133 := (e1 133 (by decide)).trans ef133
  have ef135 := (e1 135 (by decide)).trans ef135
  have ef137 := (e1 137 (by decide)).trans ef137
  have ef141 := (e1 141 (by decide)).trans ef141
  have ef143 := (e1 143 (by decide)).trans ef143
  have hfE := hfE.put e1 (by decide)
  refine z_iconst (TX1_become_2.at 12 rfl) ?_
  refine z_ist_2 (TX1_become_2.at 13 rfl) (Nat.le_of_ble_eq_true rfl) rfl ?_
  refine lp_bec1_4 hl4 hOK (fun f175 g175 h eg46 xf xg hH hA => ?_) 7 0 _ _ _ (by omega) (by omega) (by omega) (eg46.trans (cpy_0 _ _ _ _).symm) eg142 eqx.rf eqx.rf hH hA
  have ef32 := (xf 32 (by decide)).trans ef32
  have ef37 := (xf 37 (by decide)).trans ef37
  have ef39 := (xf 39 (by decide)).trans ef39
  have ef41 := (xf 41 (by decide)).trans ef41
  have ef45 := (xf 45 (by decide)).trans ef45
  have ef128 := (xf 128 (by decide)).trans ef128
  have ef133 := (xf 133 (by decide)).trans ef133
  have ef135 := (xf 135 (by decide)).trans ef135
  have ef137 := (xf 137 (by decide)).trans ef137
  have ef141 := (xf 141 (by decide)).trans ef141
  have ef143 := (xf 143 (by decide)).trans ef143
  have hfE := hfE.trans xf (by decide)
  have eg33 := (xg 33 (by decide)).trans eg33
  have eg129 := (xg 129 (by decide)).trans eg129
  have eg34 := (xg 34 (by decide)).trans eg34
  have eg130 := (xg 130 (by decide)).trans eg130
  have eg35 := (xg 35 (by decide)).trans eg35
  have eg131 := (xg 131 (by decide)).trans eg131
  have eg36 := (xg 36 (by decide)).trans eg36
  have eg132 := (xg 132 (by decide)).trans eg132
  have eg38 := (xg 38 (by decide)).trans eg38
  have eg134 := (xg 134 (by decide)).trans eg134
  have eg40 := (xg 40 (by decide)).trans eg40
  have eg136 := (xg 136 (by decide)).trans eg136
  have eg42 := (xg 42 (by decide)).trans eg42
  have eg138 := (xg 138 (by decide)).trans eg138
  have eg43 := (xg 43 (by decide)).trans eg43
  have eg139 := (xg 139 (by decide)).trans eg139
  have eg44 := (xg 44 (by decide)).trans eg44
  have eg140 := (xg 140 (by decide)).trans eg140
  have eg142 := (xg 142 (by decide)).trans eg142
  have hgE := hgE.trans xg (by decide)
  refine z_ald_0 (TX1_become_2.at 27 rfl) ?_
  refine z_ald_1 (TX1_become_2.at 28 rfl) ?_
  refine zc_getIE (m := 4) (s := 15) (k := 143) hl4 ef143 (TX1_become_2.at 29 rfl) fl1_61 hH rfl rfl (by decide) (by decide) (fun r201 => ?_)
  refine zc_putI (m := 1) (s := 15) (k := 47) (hH.lv (by decide)) (TX1_become_2.at 30 rfl) fp1_61 hH hA rfl rfl (by decide) (by decide) (by first | omega | exact b2i_01 _) (fun h f204 e1 e2 hH hA => ?_)
  have ef32 := (e1 32 (by decide)).trans ef32
  have ef37 := (e1 37 (by decide)).trans ef37
  have ef39 := (e1 39 (by decide)).trans ef39
  have ef41 := (e1 41 (by decide)).trans ef41
  have ef45 := (e1 45 (by decide)).trans ef45
  have ef47 := e2
  have ef128 := (e1 128 (by decide)).trans ef128
  have ef133 := (e1 133 (by decide)).trans ef133
  have ef135 := (e1 135 (by decide)).trans ef135
  have ef137 := (e1 137 (by decide)).trans ef137
  have ef141 := (e1 141 (by decide)).trans ef141
  have ef143 := (e1 143 (by decide)).trans ef143
  have hfE := hfE.put e1 (by decide)
  refine zc_vret (TX1_become_2.at 31 rfl) rfl hH hA ?_
  exact ⟨⟨ef32, ef37, ef39, ef41, ef45, ef47, eg33, eg34, eg35, eg36, eg38, eg40, eg42, eg43, eg44, eg46⟩, hfE, hgE, rfl⟩

set_option maxHeartbeats 4000000 in
set_option maxRecDepth 100000 in
theorem lp_bec1_5 {l : Launch} {E : cE} {d : Nat} {Pz : Option Value → zH → Prop} {h0 : zH} {f0 : mF} {g0 : mA} {j : mA}  {X Y : Int → Int} (hl5 : E.2.1 5 = true) (hOK : ∀ q : Int, 0 ≤ q → q < 6 → okR E 4 (Y q)) (kx : ∀ (f : mF) (g : mA) (h : zH), g 46 = cpy X Y 0 0 6 → eqx [] f0 f → eqx [46] g0 g → HC E f g j h → cAg E h0 h → Z l MX1_become d 0 0 Pz 199 [some (.ref (E.1 63)), some (.ref (E.1 191)), some (vI 6)] [] h 0 0)  : ∀ (n : Nat) (i : Int) (f : mF) (g : mA) (h : zH) (i0 : 0 ≤ i) (i1 : i ≤ 6) (i2 : 6 < i + n) (eg46 : g 46 = cpy X Y 0 0 i) (eg174 : g 174 = Y) (hfE : eqx [] f0 f) (hgE : eqx [46] g0 g) (hH : HC E f g j h) (hA : cAg E h0 h), Z l MX1_become d 0 0 Pz 175 [some (.ref (E.1 63)), some (.ref (E.1 191)), some (vI i)] [] h 0 0 := by
  intro n
  induction n with
  | zero => intro i f g h i0 i1 i2 eg46 eg174 hfE hgE hH hA; exfalso; omega
  | succ n ih =>
    intro i f g h i0 i1 i2 eg46 eg174 hfE hgE hH hA
    refine z_ild_2 (TX1_become_2.at 14 rfl) ?_
    refine z_bipush (by decide) (TX1_become_2.at 15 rfl) ?_
    refine z_icmp_ge (tgt := 199) (TX1_become_2.at 16 rfl) rfl (by omega) (by omega) (fun c1 => ?_) (fun c1 => ?_)
    · skip
      obtain rfl : i = 6 := by omega
      exact kx _ _ _ eg46 hfE hgE hH hA
    · skip
      refine z_ald_0 (TX1_become_2.at 17 rfl) ?_
      refine zc_getA (m := 1) (s := 14) (k := 46) (hH.lv (by decide)) (TX1_become_2.at 18 rfl) fl1_57 hH rfl rfl (by decide) (by decide) ?_
      refine z_ild_2 (TX1_become_2.at 19 rfl) ?_
      refine z_ald_1 (TX1_become_2.at 20 rfl) ?_
      refine zc_getA (m := 5) (s := 14) (k := 174) hl5 (TX1_become_2.at 21 rfl) fl1_57 hH rfl rfl (by decide) (by decide) ?_
      refine z_ild_2 (TX1_become_2.at 22 rfl) ?_
      refine zcf_aald (k := 174) (N := 6) hl5 (by decide) rfl eg174 (TX1_become_2.at 23 rfl) hH (by decide) (by omega) (show _ < ((6 : Nat) : Int) by omega) ?_
      refine zcf_aast (k := 46) (N := 6) (hH.lv (by decide)) (by decide) rfl (TX1_become_2.at 24 rfl) hH hA (by decide) (by omega) (show _ < ((6 : Nat) : Int) by omega) (by exact hOK i i0 (by omega)) (fun h g192 e1 e2 hH hA => ?_)
      rw [eg46] at e2; have eg46 := e2
      have eg174 := (e1 174 (by decide)).trans eg174
      have hgE := hgE.put e1 (by decide)
      refine z_iinc_2 (TX1_become_2.at 25 rfl) (Nat.le_of_ble_eq_true rfl) rfl ?_
      refine z_goto (tgt := 175) (TX1_become_2.at 26 rfl) rfl ?_
      exact ih (i + 1) _ _ _ (by omega) (by omega) (by omega) (by rw [cpy_s (by omega) (by omega) (by omega)] at eg46; exact eg46) eg174 hfE hgE hH hA

set_option maxHeartbeats 4000000 in
set_option maxRecDepth 100000 in
theorem c_bec1_5 {l : Launch} {E : cE} {f : mF} {g j : mA} {X1 : Int → Int} {Y1 : Int → Int} {X2 : Int → Int} {Y2 : Int → Int} {X3 : Int → Int} {Y3 : Int → Int} {X4 : Int → Int} {Y4 : Int → Int} {X6 : Int → Int} {Y6 : Int → Int} {X8 : Int → Int} {Y8 : Int → Int} {X10 : Int → Int} {Y10 : Int → Int} {X11 : Int → Int} {Y11 : Int → Int} {X12 : Int → Int} {Y12 : Int → Int} {X14 : Int → Int} {Y14 : Int → Int} {y0 : Int} {y5 : Int} {y7 : Int} {y9 : Int} {y13 : Int} {y15 : Int}  (eg33 : g 33 = X1) (eg161 : g 161 = Y1) (eg34 : g 34 = X2) (eg162 : g 162 = Y2) (eg35 : g 35 = X3) (eg163 : g 163 = Y3) (eg36 : g 36 = X4) (eg164 : g 164 = Y4) (eg38 : g 38 = X6) (eg166 : g 166 = Y6) (eg40 : g 40 = X8) (eg168 : g 168 = Y8) (eg42 : g 42 = X10) (eg170 : g 170 = Y10) (eg43 : g 43 = X11) (eg171 : g 171 = Y11) (eg44 : g 44 = X12) (eg172 : g 172 = Y12) (eg46 : g 46 = X14) (eg174 : g 174 = Y14) (ef160 : f 160 = y0) (ef165 : f 165 = y5) (ef167 : f 167 = y7) (ef169 : f 169 = y9) (ef173 : f 173 = y13) (ef175 : f 175 = y15) (hl5 : E.2.1 5 = true) (hOK : ∀ q : Int, 0 ≤ q → q < 6 → okR E 4 (Y14 q)) : CM l E MX1_become 1 [.ref (E.1 63), .ref (E.1 191)] f g j (PV (fun f' g' j' => (f' 32 = y0 ∧ f' 37 = y5 ∧ f' 39 = y7 ∧ f' 41 = y9 ∧ f' 45 = y13 ∧ f' 47 = y15 ∧ g' 33 = cpy X1 Y1 0 0 10 ∧ g' 34 = cpy X2 Y2 0 0 10 ∧ g' 35 = cpy X3 Y3 0 0 10 ∧ g' 36 = cpy X4 Y4 0 0 10 ∧ g' 38 = cpy X6 Y6 0 0 8 ∧ g' 40 = cpy X8 Y8 0 0 3 ∧ g' 42 = cpy X10 Y10 0 0 6 ∧ g' 43 = cpy X11 Y11 0 0 6 ∧ g' 44 = cpy X12 Y12 0 0 3 ∧ g' 46 = cpy X14 Y14 0 0 6) ∧ eqx [32, 37, 39, 41, 45, 47] f f' ∧ eqx [33, 34, 35, 36, 38, 40, 42, 43, 44, 46] g g' ∧ j' = j)) := by
  refine CM.intro [some (.ref (E.1 63)), some (.ref (E.1 191)), none] (by decide) (Nat.le_of_ble_eq_true rfl) rfl (fun d hd h0 h hH hA => ?_)
  have hfE : eqx [32, 37, 39, 41, 45, 47] f f := eqx.rf
  have hgE : eqx [33, 34, 35, 36, 38, 40, 42, 43, 44, 46] g g := eqx.rf
  refine z_ald_0 (TX1_become_0.at 0 rfl) ?_
  refine z_ald_1 (TX1_become_0.at 1 rfl) ?_
  refine zc_getIE (m := 5) (s := 0) (k := 160) hl5 ef160 (TX1_become_0.at 2 rfl) fl1_9 hH rfl rfl (by decide) (by decide) (fun r2 => ?_)
  refine zc_putI (m := 1) (s := 0) (k := 32) (hH.lv (by decide)) (TX1_become_0.at 3 rfl) fp1_9 hH hA rfl rfl (by decide) (by decide) (by first | omega | exact b2i_01 _) (fun h f5 e1 e2 hH hA => ?_)
  have ef32 := e2
  have ef160 := (e1 160 (by decide)).trans ef160
  have ef165 := (e1 165 (by decide)).trans ef165
  have ef167 := (e1 167 (by decide)).trans ef167
  have ef169 := (e1 169 (by decide)).trans ef169
  have ef173 := (e1 173 (by decide)).trans ef173
  have ef175 := (e1 175 (by decide)).trans ef175
  have hfE := hfE.put e1 (by decide)
  refine z_ald_1 (TX1_become_0.at 4 rfl) ?_
  refine zc_getA (m := 5) (s := 1) (k := 161) hl5 (TX1_become_0.at 5 rfl) fl1_15 hH rfl rfl (by decide) (by decide) ?_
  refine z_iconst (TX1_become_0.at 6 rfl) ?_
  refine z_ald_0 (TX1_become_0.at 7 rfl) ?_
  refine zc_getA (m := 1) (s := 1) (k := 33) (hH.lv (by decide)) (TX1_become_0.at 8 rfl) fl1_15 hH rfl rfl (by decide) (by decide) ?_
  refine z_iconst (TX1_become_0.at 9 rfl) ?_
  refine z_bipush (by decide) (TX1_become_0.at 10 rfl) ?_
  refine zcf_copy (ks := 161) (kd := 33) (Ns := 10) (Nd := 10) hl5 (hH.lv (by decide)) (by decide) (by decide) rfl rfl eg161 (TX1_become_0.at 11 rfl) cp1_70 hH hA (by decide) (by decide) (by omega) (by omega) (by omega) (show _ ≤ ((10 : Nat) : Int) by omega) (show _ ≤ ((10 : Nat) : Int) by omega) (by omega) (fun h g20 e1 e2 hH hA => ?_)
  rw [eg33] at e2; have eg33 := e2
  have eg161 := (e1 161 (by decide)).trans eg161
  have eg34 := (e1 34 (by decide)).trans eg34
  have eg162 := (e1 162 (by decide)).trans eg162
  have eg35 := (e1 35 (by decide)).trans eg35
  have eg163 := (e1 163 (by decide)).trans eg163
  have eg36 := (e1 36 (by decide)).trans eg36
  have eg164 := (e1 164 (by decide)).trans eg164
  have eg38 := (e1 38 (by decide)).trans eg38
  have eg166 := (e1 166 (by decide)).trans eg166
  have eg40 := (e1 40 (by decide)).trans eg40
  have eg168 := (e1 168 (by decide)).trans eg168
  have eg42 := (e1 42 (by decide)).trans eg42
  have eg170 := (e1 170 (by decide)).trans eg170
  have eg43 := (e1 43 (by decide)).trans eg43
  have eg171 := (e1 171 (by decide)).trans eg171
  have eg44 := (e1 44 (by decide)).trans eg44
  have eg172 := (e1 172 (by decide)).trans eg172
  have eg46 := (e1 46 (by decide)).trans eg46
  have eg174 := (e1 174 (by decide)).trans eg174
  have hgE := hgE.put e1 (by decide)
  refine z_ald_1 (TX1_become_0.at 12 rfl) ?_
  refine zc_getA (m := 5) (s := 2) (k := 162) hl5 (TX1_become_0.at 13 rfl) fl1_19 hH rfl rfl (by decide) (by decide) ?_
  refine z_iconst (TX1_become_0.at 14 rfl) ?_
  refine z_ald_0 (TX1_become_0.at 15 rfl) ?_
  refine zc_getA (m := 1) (s := 2) (k := 34) (hH.lv (by decide)) (TX1_become_0.at 16 rfl) fl1_19 hH rfl rfl (by decide) (by decide) ?_
  refine z_iconst (TX1_become_0.at 17 rfl) ?_
  refine z_bipush (by decide) (TX1_become_0.at 18 rfl) ?_
  refine zcf_copy (ks := 162) (kd := 34) (Ns := 10) (Nd := 10) hl5 (hH.lv (by decide)) (by decide) (by decide) rfl rfl eg162 (TX1_become_0.at 19 rfl) cp1_70 hH hA (by decide) (by decide) (by omega) (by omega) (by omega) (show _ ≤ ((10 : Nat) : Int) by omega) (show _ ≤ ((10 : Nat) : Int) by omega) (by omega) (fun h g35 e1 e2 hH hA => ?_)
  have eg33 := (e1 33 (by decide)).trans eg33
  have eg161 := (e1 161 (by decide)).trans eg161
  rw [eg34] at e2; have eg34 := e2
  have eg162 := (e1 162 (by decide)).trans eg162
  have eg35 := (e1 35 (by decide)).trans eg35
  have eg163 := (e1 163 (by decide)).trans eg163
  have eg36 := (e1 36 (by decide)).trans eg36
  have eg164 := (e1 164 (by decide)).trans eg164
  have eg38 := (e1 38 (by decide)).trans eg38
  have eg166 := (e1 166 (by decide)).trans eg166
  have eg40 := (e1 40 (by decide)).trans eg40
  have eg168 := (e1 168 (by decide)).trans eg168
  have eg42 := (e1 42 (by decide)).trans eg42
  have eg170 := (e1 170 (by decide)).trans eg170
  have eg43 := (e1 43 (by decide)).trans eg43
  have eg171 := (e1 171 (by decide)).trans eg171
  have eg44 := (e1 44 (by decide)).trans eg44
  have eg172 := (e1 172 (by decide)).trans eg172
  have eg46 := (e1 46 (by decide)).trans eg46
  have eg174 := (e1 174 (by decide)).trans eg174
  have hgE := hgE.put e1 (by decide)
  refine z_ald_1 (TX1_become_0.at 20 rfl) ?_
  refine zc_getA (m := 5) (s := 3) (k := 163) hl5 (TX1_become_0.at 21 rfl) fl1_22 hH rfl rfl (by decide) (by decide) ?_
  refine z_iconst (TX1_become_0.at 22 rfl) ?_
  refine z_ald_0 (TX1_become_0.at 23 rfl) ?_
  refine zc_getA (m := 1) (s := 3) (k := 35) (hH.lv (by decide)) (TX1_become_0.at 24 rfl) fl1_22 hH rfl rfl (by decide) (by decide) ?_
  refine z_iconst (TX1_become_0.at 25 rfl) ?_
  refine z_bipush (by decide) (TX1_become_0.at 26 rfl) ?_
  refine zcf_copy (ks := 163) (kd := 35) (Ns := 10) (Nd := 10) hl5 (hH.lv (by decide)) (by decide) (by decide) rfl rfl eg163 (TX1_become_0.at 27 rfl) cp1_70 hH hA (by decide) (by decide) (by omega) (by omega) (by omega) (show _ ≤ ((10 : Nat) : Int) by omega) (show _ ≤ ((10 : Nat) : Int) by omega) (by omega) (fun h g50 e1 e2 hH hA => ?_)
  have eg33 := (e1 33 (by decide)).trans eg33
  have eg161 := (e1 161 (by decide)).trans eg161
  have eg34 := (e1 34 (by decide)).trans eg34
  have eg162 := (e1 162 (by decide)).trans eg162
  rw [eg35] at e2; have eg35 := e2
  have eg163 := (e1 163 (by decide)).trans eg163
  have eg36 := (e1 36 (by decide)).trans eg36
  have eg164 := (e1 164 (by decide)).trans eg164
  have eg38 := (e1 38 (by decide)).trans eg38
  have eg166 := (e1 166 (by decide)).trans eg166
  have eg40 := (e1 40 (by decide)).trans eg40
  have eg168 := (e1 168 (by decide)).trans eg168
  have eg42 := (e1 42 (by decide)).trans eg42
  have eg170 := (e1 170 (by decide)).trans eg170
  have eg43 := (e1 43 (by decide)).trans eg43
  have eg171 := (e1 171 (by decide)).trans eg171
  have eg44 := (e1 44 (by decide)).trans eg44
  have eg172 := (e1 172 (by decide)).trans eg172
  have eg46 := (e1 46 (by decide)).trans eg46
  have eg174 := (e1 174 (by decide)).trans eg174
  have hgE := hgE.put e1 (by decide)
  refine z_ald_1 (TX1_become_0.at 28 rfl) ?_
  refine zc_getA (m := 5) (s := 4) (k := 164) hl5 (TX1_become_0.at 29 rfl) fl1_25 hH rfl rfl (by decide) (by decide) ?_
  refine z_iconst (TX1_become_0.at 30 rfl) ?_
  refine z_ald_0 (TX1_become_0.at 31 rfl) ?_
  refine zc_getA (m := 1) (s := 4) (k := 36) (hH.lv (by decide)) (TX1_become_0.at 32 rfl) fl1_25 hH rfl rfl (by decide) (by decide) ?_
  refine z_iconst (TX1_become_0.at 33 rfl) ?_
  refine z_bipush (by decide) (TX1_become_0.at 34 rfl) ?_
  refine zcf_copy (ks := 164) (kd := 36) (Ns := 10) (Nd := 10) hl5 (hH.lv (by decide)) (by decide) (by decide) rfl rfl eg164 (TX1_become_0.at 35 rfl) cp1_70 hH hA (by decide) (by decide) (by omega) (by omega) (by omega) (show _ ≤ ((10 : Nat) : Int) by omega) (show _ ≤ ((10 : Nat) : Int) by omega) (by omega) (fun h g65 e1 e2 hH hA => ?_)
  have eg33 := (e1 33 (by decide)).trans eg33
  have eg161 := (e1 161 (by decide)).trans eg161
  have eg34 := (e1 34 (by decide)).trans eg34
  have eg162 := (e1 162 (by decide)).trans eg162
  have eg35 := (e1 35 (by decide)).trans eg35
  have eg163 := (e1 163 (by decide)).trans eg163
  rw [eg36] at e2; have eg36 := e2
  have eg164 := (e1 164 (by decide)).trans eg164
  have eg38 := (e1 38 (by decide)).trans eg38
  have eg166 := (e1 166 (by decide)).trans eg166
  have eg40 := (e1 40 (by decide)).trans eg40
  have eg168 := (e1 168 (by decide)).trans eg168
  have eg42 := (e1 42 (by decide)).trans eg42
  have eg170 := (e1 170 (by decide)).trans eg170
  have eg43 := (e1 43 (by decide)).trans eg43
  have eg171 := (e1 171 (by decide)).trans eg171
  have eg44 := (e1 44 (by decide)).trans eg44
  have eg172 := (e1 172 (by decide)).trans eg172
  have eg46 := (e1 46 (by decide)).trans eg46
  have eg174 := (e1 174 (by decide)).trans eg174
  have hgE := hgE.put e1 (by decide)
  refine z_ald_0 (TX1_become_0.at 36 rfl) ?_
  refine z_ald_1 (TX1_become_0.at 37 rfl) ?_
  refine zc_getIE (m := 5) (s := 5) (k := 165) hl5 ef165 (TX1_become_0.at 38 rfl) fl1_28 hH rfl rfl (by decide) (by decide) (fun r70 => ?_)
  refine zc_putI (m := 1) (s := 5) (k := 37) (hH.lv (by decide)) (TX1_become_0.at 39 rfl) fp1_28 hH hA rfl rfl (by decide) (by decide) (by first | omega | exact b2i_01 _) (fun h f73 e1 e2 hH hA => ?_)
  have ef32 := (e1 32 (by decide)).trans ef32
  have ef37 := e2
  have ef160 := (e1 160 (by decide)).trans ef160
  have ef165 := (e1 165 (by decide)).trans ef165
  have ef167 := (e1 167 (by decide)).trans ef167
  have ef169 := (e1 169 (by decide)).trans ef169
  have ef173 := (e1 173 (by decide)).trans ef173
  have ef175 := (e1 175 (by decide)).trans ef175
  have hfE := hfE.put e1 (by decide)
  refine z_ald_1 (TX1_become_1.at 0 rfl) ?_
  refine zc_getA (m := 5) (s := 6) (k := 166) hl5 (TX1_become_1.at 1 rfl) fl1_31 hH rfl rfl (by decide) (by decide) ?_
  refine z_iconst (TX1_become_1.at 2 rfl) ?_
  refine z_ald_0 (TX1_become_1.at 3 rfl) ?_
  refine zc_getA (m := 1) (s := 6) (k := 38) (hH.lv (by decide)) (TX1_become_1.at 4 rfl) fl1_31 hH rfl rfl (by decide) (by decide) ?_
  refine z_iconst (TX1_become_1.at 5 rfl) ?_
  refine z_bipush (by decide) (TX1_become_1.at 6 rfl) ?_
  refine zcf_copy (ks := 166) (kd := 38) (Ns := 8) (Nd := 8) hl5 (hH.lv (by decide)) (by decide) (by decide) rfl rfl eg166 (TX1_become_1.at 7 rfl) cp1_70 hH hA (by decide) (by decide) (by omega) (by omega) (by omega) (show _ ≤ ((8 : Nat) : Int) by omega) (show _ ≤ ((8 : Nat) : Int) by omega) (by omega) (fun h g88 e1 e2 hH hA => ?_)
  have eg33 := (e1 33 (by decide)).trans eg33
  have eg161 := (e1 161 (by decide)).trans eg161
  have eg34 := (e1 34 (by decide)).trans eg34
  have eg162 := (e1 162 (by decide)).trans eg162
  have eg35 := (e1 35 (by decide)).trans eg35
  have eg163 := (e1 163 (by decide)).trans eg163
  have eg36 := (e1 36 (by decide)).trans eg36
  have eg164 := (e1 164 (by decide)).trans eg164
  rw [eg38] at e2; have eg38 := e2
  have eg166 := (e1 166 (by decide)).trans eg166
  have eg40 := (e1 40 (by decide)).trans eg40
  have eg168 := (e1 168 (by decide)).trans eg168
  have eg42 := (e1 42 (by decide)).trans eg42
  have eg170 := (e1 170 (by decide)).trans eg170
  have eg43 := (e1 43 (by decide)).trans eg43
  have eg171 := (e1 171 (by decide)).trans eg171
  have eg44 := (e1 44 (by decide)).trans eg44
  have eg172 := (e1 172 (by decide)).trans eg172
  have eg46 := (e1 46 (by decide)).trans eg46
  have eg174 := (e1 174 (by decide)).trans eg174
  have hgE := hgE.put e1 (by decide)
  refine z_ald_0 (TX1_become_1.at 8 rfl) ?_
  refine z_ald_1 (TX1_become_1.at 9 rfl) ?_
  refine zc_getIE (m := 5) (s := 7) (k := 167) hl5 ef167 (TX1_become_1.at 10 rfl) fl1_34 hH rfl rfl (by decide) (by decide) (fun r93 => ?_)
  refine zc_putI (m := 1) (s := 7) (k := 39) (hH.lv (by decide)) (TX1_become_1.at 11 rfl) fp1_34 hH hA rfl rfl (by decide) (by decide) (by first | omega | exact b2i_01 _) (fun h f96 e1 e2 hH hA => ?_)
  have ef32 := (e1 32 (by decide)).trans ef32
  have ef37 := (e1 37 (by decide)).trans ef37
  have ef39 := e2
  have ef160 := (e1 160 (by decide)).trans ef160
  have ef165 := (e1 165 (by decide)).trans ef165
  have ef167 := (e1 167 (by decide)).trans ef167
  have ef169 := (e1 169 (by decide)).trans ef169
  have ef173 := (e1 173 (by decide)).trans ef173
  have ef175 := (e1 175 (by decide)).trans ef175
  have hfE := hfE.put e1 (by decide)
  refine z_ald_1 (TX1_become_1.at 12 rfl) ?_
  refine zc_getA (m := 5) (s := 8) (k := 168) hl5 (TX1_become_1.at 13 rfl) fl1_37 hH rfl rfl (by decide) (by decide) ?_
  refine z_iconst (TX1_become_1.at 14 rfl) ?_
  refine z_ald_0 (TX1_become_1.at 15 rfl) ?_
  refine zc_getA (m := 1) (s := 8) (k := 40) (hH.lv (by decide)) (TX1_become_1.at 16 rfl) fl1_37 hH rfl rfl (by decide) (by decide) ?_
  refine z_iconst (TX1_become_1.at 17 rfl) ?_
  refine z_iconst (TX1_become_1.at 18 rfl) ?_
  refine zcf_copy (ks := 168) (kd := 40) (Ns := 3) (Nd := 3) hl5 (hH.lv (by decide)) (by decide) (by decide) rfl rfl eg168 (TX1_become_1.at 19 rfl) cp1_70 hH hA (by decide) (by decide) (by omega) (by omega) (by omega) (show _ ≤ ((3 : Nat) : Int) by omega) (show _ ≤ ((3 : Nat) : Int) by omega) (by omega) (fun h g110 e1 e2 hH hA => ?_)
  have eg33 := (e1 33 (by decide)).trans eg33
  have eg161 := (e1 161 (by decide)).trans eg161
  have eg34 := (e1 34 (by decide)).trans eg34
  have eg162 := (e1 162 (by decide)).trans eg162
  have eg35 := (e1 35 (by decide)).trans eg35
  have eg163 := (e1 163 (by decide)).trans eg163
  have eg36 := (e1 36 (by decide)).trans eg36
  have eg164 := (e1 164 (by decide)).trans eg164
  have eg38 := (e1 38 (by decide)).trans eg38
  have eg166 := (e1 166 (by decide)).trans eg166
  rw [eg40] at e2; have eg40 := e2
  have eg168 := (e1 168 (by decide)).trans eg168
  have eg42 := (e1 42 (by decide)).trans eg42
  have eg170 := (e1 170 (by decide)).trans eg170
  have eg43 := (e1 43 (by decide)).trans eg43
  have eg171 := (e1 171 (by decide)).trans eg171
  have eg44 := (e1 44 (by decide)).trans eg44
  have eg172 := (e1 172 (by decide)).trans eg172
  have eg46 := (e1 46 (by decide)).trans eg46
  have eg174 := (e1 174 (by decide)).trans eg174
  have hgE := hgE.put e1 (by decide)
  refine z_ald_0 (TX1_become_1.at 20 rfl) ?_
  refine z_ald_1 (TX1_become_1.at 21 rfl) ?_
  refine zc_getIE (m := 5) (s := 9) (k := 169) hl5 ef169 (TX1_become_1.at 22 rfl) fl1_40 hH rfl rfl (by decide) (by decide) (fun r115 => ?_)
  refine zc_putI (m := 1) (s := 9) (k := 41) (hH.lv (by decide)) (TX1_become_1.at 23 rfl) fp1_40 hH hA rfl rfl (by decide) (by decide) (by first | omega | exact b2i_01 _) (fun h f118 e1 e2 hH hA => ?_)
  have ef32 := (e1 32 (by decide)).trans ef32
  have ef37 := (e1 37 (by decide)).trans ef37
  have ef39 := (e1 39 (by decide)).trans ef39
  have ef41 := e2
  have ef160 := (e1 160 (by decide)).trans ef160
  have ef165 := (e1 165 (by decide)).trans ef165
  have ef167 := (e1 167 (by decide)).trans ef167
  have ef169 := (e1 169 (by decide)).trans ef169
  have ef173 := (e1 173 (by decide)).trans ef173
  have ef175 := (e1 175 (by decide)).trans ef175
  have hfE := hfE.put e1 (by decide)
  refine z_ald_1 (TX1_become_1.at 24 rfl) ?_
  refine zc_getA (m := 5) (s := 10) (k := 170) hl5 (TX1_become_1.at 25 rfl) fl1_43 hH rfl rfl (by decide) (by decide) ?_
  refine z_iconst (TX1_become_1.at 26 rfl) ?_
  refine z_ald_0 (TX1_become_1.at 27 rfl) ?_
  refine zc_getA (m := 1) (s := 10) (k := 42) (hH.lv (by decide)) (TX1_become_1.at 28 rfl) fl1_43 hH rfl rfl (by decide) (by decide) ?_
  refine z_iconst (TX1_become_1.at 29 rfl) ?_
  refine z_bipush (by decide) (TX1_become_1.at 30 rfl) ?_
  refine zcf_copy (ks := 170) (kd := 42) (Ns := 6) (Nd := 6) hl5 (hH.lv (by decide)) (by decide) (by decide) rfl rfl eg170 (TX1_become_1.at 31 rfl) cp1_70 hH hA (by decide) (by decide) (by omega) (by omega) (by omega) (show _ ≤ ((6 : Nat) : Int) by omega) (show _ ≤ ((6 : Nat) : Int) by omega) (by omega) (fun h g133 e1 e2 hH hA => ?_)
  have eg33 := (e1 33 (by decide)).trans eg33
  have eg161 := (e1 161 (by decide)).trans eg161
  have eg34 := (e1 34 (by decide)).trans eg34
  have eg162 := (e1 162 (by decide)).trans eg162
  have eg35 := (e1 35 (by decide)).trans eg35
  have eg163 := (e1 163 (by decide)).trans eg163
  have eg36 := (e1 36 (by decide)).trans eg36
  have eg164 := (e1 164 (by decide)).trans eg164
  have eg38 := (e1 38 (by decide)).trans eg38
  have eg166 := (e1 166 (by decide)).trans eg166
  have eg40 := (e1 40 (by decide)).trans eg40
  have eg168 := (e1 168 (by decide)).trans eg168
  rw [eg42] at e2; have eg42 := e2
  have eg170 := (e1 170 (by decide)).trans eg170
  have eg43 := (e1 43 (by decide)).trans eg43
  have eg171 := (e1 171 (by decide)).trans eg171
  have eg44 := (e1 44 (by decide)).trans eg44
  have eg172 := (e1 172 (by decide)).trans eg172
  have eg46 := (e1 46 (by decide)).trans eg46
  have eg174 := (e1 174 (by decide)).trans eg174
  have hgE := hgE.put e1 (by decide)
  refine z_ald_1 (TX1_become_1.at 32 rfl) ?_
  refine zc_getA (m := 5) (s := 11) (k := 171) hl5 (TX1_become_1.at 33 rfl) fl1_46 hH rfl rfl (by decide) (by decide) ?_
  refine z_iconst (TX1_become_1.at 34 rfl) ?_
  refine z_ald_0 (TX1_become_1.at 35 rfl) ?_
  refine zc_getA (m := 1) (s := 11) (k := 43) (hH.lv (by decide)) (TX1_become_1.at 36 rfl) fl1_46 hH rfl rfl (by decide) (by decide) ?_
  refine z_iconst (TX1_become_1.at 37 rfl) ?_
  refine z_bipush (by decide) (TX1_become_1.at 38 rfl) ?_
  refine zcf_copy (ks := 171) (kd := 43) (Ns := 6) (Nd := 6) hl5 (hH.lv (by decide)) (by decide) (by decide) rfl rfl eg171 (TX1_become_1.at 39 rfl) cp1_70 hH hA (by decide) (by decide) (by omega) (by omega) (by omega) (show _ ≤ ((6 : Nat) : Int) by omega) (show _ ≤ ((6 : Nat) : Int) by omega) (by omega) (fun h g148 e1 e2 hH hA => ?_)
  have eg33 := (e1 33 (by decide)).trans eg33
  have eg161 := (e1 161 (by decide)).trans eg161
  have eg34 := (e1 34 (by decide)).trans eg34
  have eg162 := (e1 162 (by decide)).trans eg162
  have eg35 := (e1 35 (by decide)).trans eg35
  have eg163 := (e1 163 (by decide)).trans eg163
  have eg36 := (e1 36 (by decide)).trans eg36
  have eg164 := (e1 164 (by decide)).trans eg164
  have eg38 := (e1 38 (by decide)).trans eg38
  have eg166 := (e1 166 (by decide)).trans eg166
  have eg40 := (e1 40 (by decide)).trans eg40
  have eg168 := (e1 168 (by decide)).trans eg168
  have eg42 := (e1 42 (by decide)).trans eg42
  have eg170 := (e1 170 (by decide)).trans eg170
  rw [eg43] at e2; have eg43 := e2
  have eg171 := (e1 171 (by decide)).trans eg171
  have eg44 := (e1 44 (by decide)).trans eg44
  have eg172 := (e1 172 (by decide)).trans eg172
  have eg46 := (e1 46 (by decide)).trans eg46
  have eg174 := (e1 174 (by decide)).trans eg174
  have hgE := hgE.put e1 (by decide)
  refine z_ald_1 (TX1_become_2.at 0 rfl) ?_
  refine zc_getA (m := 5) (s := 12) (k := 172) hl5 (TX1_become_2.at 1 rfl) fl1_49 hH rfl rfl (by decide) (by decide) ?_
  refine z_iconst (TX1_become_2.at 2 rfl) ?_
  refine z_ald_0 (TX1_become_2.at 3 rfl) ?_
  refine zc_getA (m := 1) (s := 12) (k := 44) (hH.lv (by decide)) (TX1_become_2.at 4 rfl) fl1_49 hH rfl rfl (by decide) (by decide) ?_
  refine z_iconst (TX1_become_2.at 5 rfl) ?_
  refine z_iconst (TX1_become_2.at 6 rfl) ?_
  refine zcf_copy (ks := 172) (kd := 44) (Ns := 3) (Nd := 3) hl5 (hH.lv (by decide)) (by decide) (by decide) rfl rfl eg172 (TX1_become_2.at 7 rfl) cp1_70 hH hA (by decide) (by decide) (by omega) (by omega) (by omega) (show _ ≤ ((3 : Nat) : Int) by omega) (show _ ≤ ((3 : Nat) : Int) by omega) (by omega) (fun h g162 e1 e2 hH hA => ?_)
  have eg33 := (e1 33 (by decide)).trans eg33
  have eg161 := (e1 161 (by decide)).trans eg161
  have eg34 := (e1 34 (by decide)).trans eg34
  have eg162 := (e1 162 (by decide)).trans eg162
  have eg35 := (e1 35 (by decide)).trans eg35
  have eg163 := (e1 163 (by decide)).trans eg163
  have eg36 := (e1 36 (by decide)).trans eg36
  have eg164 := (e1 164 (by decide)).trans eg164
  have eg38 := (e1 38 (by decide)).trans eg38
  have eg166 := (e1 166 (by decide)).trans eg166
  have eg40 := (e1 40 (by decide)).trans eg40
  have eg168 := (e1 168 (by decide)).trans eg168
  have eg42 := (e1 42 (by decide)).trans eg42
  have eg170 := (e1 170 (by decide)).trans eg170
  have eg43 := (e1 43 (by decide)).trans eg43
  have eg171 := (e1 171 (by decide)).trans eg171
  rw [eg44] at e2; have eg44 := e2
  have eg172 := (e1 172 (by decide)).trans eg172
  have eg46 := (e1 46 (by decide)).trans eg46
  have eg174 := (e1 174 (by decide)).trans eg174
  have hgE := hgE.put e1 (by decide)
  refine z_ald_0 (TX1_become_2.at 8 rfl) ?_
  refine z_ald_1 (TX1_become_2.at 9 rfl) ?_
  refine zc_getIE (m := 5) (s := 13) (k := 173) hl5 ef173 (TX1_become_2.at 10 rfl) fl1_52 hH rfl rfl (by decide) (by decide) (fun r167 => ?_)
  refine zc_putI (m := 1) (s := 13) (k := 45) (hH.lv (by decide)) (TX1_become_2.at 11 rfl) fp1_52 hH hA rfl rfl (by decide) (by decide) (by first | omega | exact b2i_01 _) (fun h f170 e1 e2 hH hA => ?_)
  have ef32 := (e1 32 (by decide)).trans ef32
  have ef37 := (e1 37 (by decide)).trans ef37
  have ef39 := (e1 39 (by decide)).trans ef39
  have ef41 := (e1 41 (by decide)).trans ef41
  have ef45 := e2
  have ef160 := (e1 160 (by decide)).trans ef160
  have ef165 := (e1 165 (by decide)).trans ef165
  have ef167 := (e1 167 (by decide)).trans ef167
  have ef169 := (e1 169 (by decide)).trans ef169
  have ef173 := (e1 173 (by decide)).trans ef173
  have ef175 := (e1 175 (by decide)).trans ef175
  have hfE := hfE.put e1 (by decide)
  refine z_iconst (TX1_become_2.at 12 rfl) ?_
  refine z_ist_2 (TX1_become_2.at 13 rfl) (Nat.le_of_ble_eq_true rfl) rfl ?_
  refine lp_bec1_5 hl5 hOK (fun f175 g175 h eg46 xf xg hH hA => ?_) 7 0 _ _ _ (by omega) (by omega) (by omega) (eg46.trans (cpy_0 _ _ _ _).symm) eg174 eqx.rf eqx.rf hH hA
  have ef32 := (xf 32 (by decide)).trans ef32
  have ef37 := (xf 37 (by decide)).trans ef37
  have ef39 := (xf 39 (by decide)).trans ef39
  have ef41 := (xf 41 (by decide)).trans ef41
  have ef45 := (xf 45 (by decide)).trans ef45
  have ef160 := (xf 160 (by decide)).trans ef160
  have ef165 := (xf 165 (by decide)).trans ef165
  have ef167 := (xf 167 (by decide)).trans ef167
  have ef169 := (xf 169 (by decide)).trans ef169
  have ef173 := (xf 173 (by decide)).trans ef173
  have ef175 := (xf 175 (by decide)).trans ef175
  have hfE := hfE.trans xf (by decide)
  have eg33 := (xg 33 (by decide)).trans eg33
  have eg161 := (xg 161 (by decide)).trans eg161
  have eg34 := (xg 34 (by decide)).trans eg34
  have eg162 := (xg 162 (by decide)).trans eg162
  have eg35 := (xg 35 (by decide)).trans eg35
  have eg163 := (xg 163 (by decide)).trans eg163
  have eg36 := (xg 36 (by decide)).trans eg36
  have eg164 := (xg 164 (by decide)).trans eg164
  have eg38 := (xg 38 (by decide)).trans eg38
  have eg166 := (xg 166 (by decide)).trans eg166
  have eg40 := (xg 40 (by decide)).trans eg40
  have eg168 := (xg 168 (by decide)).trans eg168
  have eg42 := (xg 42 (by decide)).trans eg42
  have eg170 := (xg 170 (by decide)).trans eg170
  have eg43 := (xg 43 (by decide)).trans eg43
  have eg171 := (xg 171 (by decide)).trans eg171
  have eg44 := (xg 44 (by decide)).trans eg44
  have eg172 := (xg 172 (by decide)).trans eg172
  have eg174 := (xg 174 (by decide)).trans eg174
  have hgE := hgE.trans xg (by decide)
  refine z_ald_0 (TX1_become_2.at 27 rfl) ?_
  refine z_ald_1 (TX1_become_2.at 28 rfl) ?_
  refine zc_getIE (m := 5) (s := 15) (k := 175) hl5 ef175 (TX1_become_2.at 29 rfl) fl1_61 hH rfl rfl (by decide) (by decide) (fun r201 => ?_)
  refine zc_putI (m := 1) (s := 15) (k := 47) (hH.lv (by decide)) (TX1_become_2.at 30 rfl) fp1_61 hH hA rfl rfl (by decide) (by decide) (by first | omega | exact b2i_01 _) (fun h f204 e1 e2 hH hA => ?_)
  have ef32 := (e1 32 (by decide)).trans ef32
  have ef37 := (e1 37 (by decide)).trans ef37
  have ef39 := (e1 39 (by decide)).trans ef39
  have ef41 := (e1 41 (by decide)).trans ef41
  have ef45 := (e1 45 (by decide)).trans ef45
  have ef47 := e2
  have ef160 := (e1 160 (by decide)).trans ef160
  have ef165 := (e1 165 (by decide)).trans ef165
  have ef167 := (e1 167 (by decide)).trans ef167
  have ef169 := (e1 169 (by decide)).trans ef169
  have ef173 := (e1 173 (by decide)).trans ef173
  have ef175 := (e1 175 (by decide)).trans ef175
  have hfE := hfE.put e1 (by decide)
  refine zc_vret (TX1_become_2.at 31 rfl) rfl hH hA ?_
  exact ⟨⟨ef32, ef37, ef39, ef41, ef45, ef47, eg33, eg34, eg35, eg36, eg38, eg40, eg42, eg43, eg44, eg46⟩, hfE, hgE, rfl⟩

set_option maxHeartbeats 4000000 in
set_option maxRecDepth 100000 in
theorem c_lawOf1 {l : Launch} {E : cE} {f : mF} {g j : mA} {Y : Int → Int} {n9 t : Int} (eg46 : g 46 = Y) (ef45 : f 45 = n9) (ht : zIn t) (n0 : 0 ≤ n9) (n6 : n9 ≤ 6) : CM l E MX1_lawOf 0 [.ref (E.1 63), vI t] f g j (PO E (fun y f' g' j' => y = (if 0 ≤ t ∧ t < n9 then Y t else -1) ∧ eqx [] f f' ∧ eqx [] g g' ∧ j' = j)) := by
  refine CM.intro [some (.ref (E.1 63)), some (vI t)] (by decide) (Nat.le_of_ble_eq_true rfl) rfl (fun d hd h0 h hH hA => ?_)
  refine z_ild_1 (TX1_lawOf.at 0 rfl) ?_
  refine z_if_lt (tgt := 12) (TX1_lawOf.at 1 rfl) rfl (by omega) (fun c1 => ?_) (fun c1 => ?_)
  · refine z_null (TX1_lawOf.at 6 rfl) ?_
    refine z_goto (tgt := 22) (TX1_lawOf.at 7 rfl) rfl ?_
    show Z _ _ _ _ _ _ _ _ [va_rf (crf E (-1))] _ _ _
    exact zc_aret (TX1_lawOf.at 12 rfl) rfl hH hA ⟨by rw [if_neg (by omega)], eqx.rf, eqx.rf, rfl⟩
  · refine z_ild_1 (TX1_lawOf.at 2 rfl) ?_
    refine z_ald_0 (TX1_lawOf.at 3 rfl) ?_
    refine zc_getIE (m := 1) (s := 13) (k := 45) (hH.lv (by decide)) ef45 (TX1_lawOf.at 4 rfl) fl1_52 hH rfl rfl (by decide) (by decide) (fun r6 => ?_)
    refine z_icmp_lt (tgt := 16) (TX1_lawOf.at 5 rfl) rfl (by omega) (by omega) (fun c2 => ?_) (fun c2 => ?_)
    · refine z_ald_0 (TX1_lawOf.at 8 rfl) ?_
      refine zc_getA (m := 1) (s := 14) (k := 46) (hH.lv (by decide)) (TX1_lawOf.at 9 rfl) fl1_57 hH rfl rfl (by decide) (by decide) ?_
      refine z_ild_1 (TX1_lawOf.at 10 rfl) ?_
      refine zcf_aald (k := 46) (N := 6) (hH.lv (by decide)) (by decide) rfl eg46 (TX1_lawOf.at 11 rfl) hH (by decide) (by omega) (show _ < ((6 : Nat) : Int) by omega) ?_
      exact zc_aret (TX1_lawOf.at 12 rfl) rfl hH hA ⟨by rw [if_pos (by omega)], eqx.rf, eqx.rf, rfl⟩
    · refine z_null (TX1_lawOf.at 6 rfl) ?_
      refine z_goto (tgt := 22) (TX1_lawOf.at 7 rfl) rfl ?_
      show Z _ _ _ _ _ _ _ _ [va_rf (crf E (-1))] _ _ _
      exact zc_aret (TX1_lawOf.at 12 rfl) rfl hH hA ⟨by rw [if_neg (by omega)], eqx.rf, eqx.rf, rfl⟩

set_option maxHeartbeats 4000000 in
set_option maxRecDepth 100000 in
theorem c_lawIn1 {l : Launch} {E : cE} {f : mF} {g j : mA} {Y : Int → Int} {n9 t : Int} (eg46 : g 46 = Y) (ef45 : f 45 = n9) (ef47 : f 47 = t) (n0 : 0 ≤ n9) (n6 : n9 ≤ 6) : CM l E MX1_lawInForce 1 [.ref (E.1 63)] f g j (PO E (fun y f' g' j' => y = (if 0 ≤ t ∧ t < n9 then Y t else -1) ∧ eqx [] f f' ∧ eqx [] g g' ∧ j' = j)) := by
  refine CM.intro [some (.ref (E.1 63))] (by decide) (Nat.le_of_ble_eq_true rfl) rfl (fun d hd h0 h hH hA => ?_)
  refine z_ald_0 (TX1_lawInForce.at 0 rfl) ?_
  refine z_ald_0 (TX1_lawInForce.at 1 rfl) ?_
  refine zc_getIE (m := 1) (s := 15) (k := 47) (hH.lv (by decide)) ef47 (TX1_lawInForce.at 2 rfl) fl1_61 hH rfl rfl (by decide) (by decide) (fun r2 => ?_)
  refine zc_callO (m := 1) (As := [vI t]) (c_lawOf1 eg46 ef45 r2 n0 n6) (hH.lv (by decide)) (TX1_lawInForce.at 3 rfl) c1_84 rfl rfl hH hA (by omega) (Nat.le_of_ble_eq_true rfl) (fun y f3 g3 j3 h3 q hH hA => ?_)
  exact zc_aret (TX1_lawInForce.at 4 rfl) rfl hH hA q

set_option maxHeartbeats 4000000 in
set_option maxRecDepth 100000 in
theorem c_lawOf3 {l : Launch} {E : cE} {f : mF} {g j : mA} {Y : Int → Int} {n9 t : Int} (eg110 : g 110 = Y) (ef109 : f 109 = n9) (ht : zIn t) (n0 : 0 ≤ n9) (n6 : n9 ≤ 6) : CM l E MX1_lawOf 0 [.ref (E.1 127), vI t] f g j (PO E (fun y f' g' j' => y = (if 0 ≤ t ∧ t < n9 then Y t else -1) ∧ eqx [] f f' ∧ eqx [] g g' ∧ j' = j)) := by
  refine CM.intro [some (.ref (E.1 127)), some (vI t)] (by decide) (Nat.le_of_ble_eq_true rfl) rfl (fun d hd h0 h hH hA => ?_)
  refine z_ild_1 (TX1_lawOf.at 0 rfl) ?_
  refine z_if_lt (tgt := 12) (TX1_lawOf.at 1 rfl) rfl (by omega) (fun c1 => ?_) (fun c1 => ?_)
  · refine z_null (TX1_lawOf.at 6 rfl) ?_
    refine z_goto (tgt := 22) (TX1_lawOf.at 7 rfl) rfl ?_
    show Z _ _ _ _ _ _ _ _ [va_rf (crf E (-1))] _ _ _
    exact zc_aret (TX1_lawOf.at 12 rfl) rfl hH hA ⟨by rw [if_neg (by omega)], eqx.rf, eqx.rf, rfl⟩
  · refine z_ild_1 (TX1_lawOf.at 2 rfl) ?_
    refine z_ald_0 (TX1_lawOf.at 3 rfl) ?_
    refine zc_getIE (m := 3) (s := 13) (k := 109) (hH.lv (by decide)) ef109 (TX1_lawOf.at 4 rfl) fl1_52 hH rfl rfl (by decide) (by decide) (fun r6 => ?_)
    refine z_icmp_lt (tgt := 16) (TX1_lawOf.at 5 rfl) rfl (by omega) (by omega) (fun c2 => ?_) (fun c2 => ?_)
    · refine z_ald_0 (TX1_lawOf.at 8 rfl) ?_
      refine zc_getA (m := 3) (s := 14) (k := 110) (hH.lv (by decide)) (TX1_lawOf.at 9 rfl) fl1_57 hH rfl rfl (by decide) (by decide) ?_
      refine z_ild_1 (TX1_lawOf.at 10 rfl) ?_
      refine zcf_aald (k := 110) (N := 6) (hH.lv (by decide)) (by decide) rfl eg110 (TX1_lawOf.at 11 rfl) hH (by decide) (by omega) (show _ < ((6 : Nat) : Int) by omega) ?_
      exact zc_aret (TX1_lawOf.at 12 rfl) rfl hH hA ⟨by rw [if_pos (by omega)], eqx.rf, eqx.rf, rfl⟩
    · refine z_null (TX1_lawOf.at 6 rfl) ?_
      refine z_goto (tgt := 22) (TX1_lawOf.at 7 rfl) rfl ?_
      show Z _ _ _ _ _ _ _ _ [va_rf (crf E (-1))] _ _ _
      exact zc_aret (TX1_lawOf.at 12 rfl) rfl hH hA ⟨by rw [if_neg (by omega)], eqx.rf, eqx.rf, rfl⟩

set_option maxHeartbeats 4000000 in
set_option maxRecDepth 100000 in
theorem c_lawIn3 {l : Launch} {E : cE} {f : mF} {g j : mA} {Y : Int → Int} {n9 t : Int} (eg110 : g 110 = Y) (ef109 : f 109 = n9) (ef111 : f 111 = t) (n0 : 0 ≤ n9) (n6 : n9 ≤ 6) : CM l E MX1_lawInForce 1 [.ref (E.1 127)] f g j (PO E (fun y f' g' j' => y = (if 0 ≤ t ∧ t < n9 then Y t else -1) ∧ eqx [] f f' ∧ eqx [] g g' ∧ j' = j)) := by
  refine CM.intro [some (.ref (E.1 127))] (by decide) (Nat.le_of_ble_eq_true rfl) rfl (fun d hd h0 h hH hA => ?_)
  refine z_ald_0 (TX1_lawInForce.at 0 rfl) ?_
  refine z_ald_0 (TX1_lawInForce.at 1 rfl) ?_
  refine zc_getIE (m := 3) (s := 15) (k := 111) (hH.lv (by decide)) ef111 (TX1_lawInForce.at 2 rfl) fl1_61 hH rfl rfl (by decide) (by decide) (fun r2 => ?_)
  refine zc_callO (m := 3) (As := [vI t]) (c_lawOf3 eg110 ef109 r2 n0 n6) (hH.lv (by decide)) (TX1_lawInForce.at 3 rfl) c1_84 rfl rfl hH hA (by omega) (Nat.le_of_ble_eq_true rfl) (fun y f3 g3 j3 h3 q hH hA => ?_)
  exact zc_aret (TX1_lawInForce.at 4 rfl) rfl hH hA q

