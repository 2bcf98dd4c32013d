/-! ===== the class itself: the tape's end, laws in force, deeds ===== -/
set_option maxHeartbeats 4000000 in
set_option maxRecDepth 100000 in
theorem c_end {l : Launch} {E : cE} {f : mF} {g j : mA} {z : Int} {n : Int}  (ef256 : f 256 = z) (hn : zIn n) : CM l E MX7_end 0 [.ref (E.1 31), vI n] f g j (PI (fun r f' g' j' => ((¬ (0 ≤ n ∧ n ≤ z) ∧ r = -1 ∧ f' 256 = z) ∨ ((0 ≤ n ∧ n ≤ z) ∧ r = n ∧ f' 256 = n)) ∧ eqx [256] f f' ∧ eqx [] g g' ∧ j' = j)) := by
  refine CM.intro [some (.ref (E.1 31)), some (vI n)] (by decide) (Nat.le_of_ble_eq_true rfl) rfl (fun d hd h0 h hH hA => ?_)
  have hfE : eqx [256] f f := eqx.rf
  have hgE : eqx [] g g := eqx.rf
  refine z_ild_1 (TX7_end.at 0 rfl) ?_
  refine z_if_lt (tgt := 15) (TX7_end.at 1 rfl) rfl (by omega) (fun c1 => ?_) (fun c1 => ?_)
  · skip
    refine z_iconst (TX7_end.at 7 rfl) ?_
    refine zc_iret (TX7_end.at 8 rfl) rfl hH hA (by omega) ?_
    exact ⟨Or.inl ⟨by omega, rfl, ef256⟩, hfE, hgE, rfl⟩
  · skip
    refine z_ild_1 (TX7_end.at 2 rfl) ?_
    refine z_ald_0 (TX7_end.at 3 rfl) ?_
    refine zc_getO (m := 0) (s := 6) (k := 287) (hH.lv (by decide)) (TX7_end.at 4 rfl) fl7_39 hH rfl rfl (by decide) (by decide) ?_
    refine zc_getIE (m := 8) (s := 0) (k := 256) (hH.lv (by decide)) ef256 (TX7_end.at 5 rfl) fl7_181 hH rfl rfl (by decide) (by decide) (fun r9 => ?_)
    refine z_icmp_le (tgt := 17) (TX7_end.at 6 rfl) rfl (by omega) (by omega) (fun c2 => ?_) (fun c2 => ?_)
    · skip
      refine z_ald_0 (TX7_end.at 9 rfl) ?_
      refine zc_getO (m := 0) (s := 6) (k := 287) (hH.lv (by decide)) (TX7_end.at 10 rfl) fl7_39 hH rfl rfl (by decide) (by decide) ?_
      refine z_ild_1 (TX7_end.at 11 rfl) ?_
      refine zc_putI (m := 8) (s := 0) (k := 256) (hH.lv (by decide)) (TX7_end.at 12 rfl) fp7_181 hH hA rfl rfl (by decide) (by decide) (by first | omega | exact b2i_01 _) (fun h f22 e1 e2 hH hA => ?_)
      have ef256 := e2
      have hfE := hfE.put e1 (by decide)
      refine z_ild_1 (TX7_end.at 13 rfl) ?_
      refine zc_iret (TX7_end.at 14 rfl) rfl hH hA (by omega) ?_
      exact ⟨Or.inr ⟨by omega, rfl, ef256⟩, hfE, hgE, rfl⟩
    · skip
      refine z_iconst (TX7_end.at 7 rfl) ?_
      refine zc_iret (TX7_end.at 8 rfl) rfl hH hA (by omega) ?_
      exact ⟨Or.inl ⟨by omega, rfl, ef256⟩, hfE, hgE, rfl⟩

set_option maxHeartbeats 4000000 in
set_option maxRecDepth 100000 in
theorem c_force {l : Launch} {E : cE} {f : mF} {g j : mA} {Rf : Int → Int} {st : Int} {lw : Int} {fo : Int} {t : Int}  (eg11 : g 11 = Rf) (ef16 : f 16 = st) (ef45 : f 45 = lw) (ef47 : f 47 = fo) (ht : zIn t) (hb : ∀ i, Rf i ≤ 100000) (l0 : 0 ≤ lw) : CM l E MX7_force 1 [.ref (E.1 31), vI t] f g j (PI (fun r f' g' j' => ((¬ (-1 ≤ t ∧ t < lw) ∧ r = -2 ∧ f' 16 = -2 ∧ g' 11 = bumC Rf (-2) ∧ f' 47 = fo) ∨ ((-1 ≤ t ∧ t < lw) ∧ r = fo ∧ f' 16 = 0 ∧ g' 11 = Rf ∧ f' 47 = t)) ∧ eqx [16, 47] f f' ∧ eqx [11] g g' ∧ j' = j)) := by
  refine CM.intro [some (.ref (E.1 31)), some (vI t), none] (by decide) (Nat.le_of_ble_eq_true rfl) rfl (fun d hd h0 h hH hA => ?_)
  have hfE : eqx [16, 47] f f := eqx.rf
  have hgE : eqx [11] g g := eqx.rf
  refine z_ild_1 (TX7_force.at 0 rfl) ?_
  refine z_iconst (TX7_force.at 1 rfl) ?_
  refine z_icmp_eq (tgt := 27) (TX7_force.at 2 rfl) rfl (by omega) (by omega) (fun c1 => ?_) (fun c1 => ?_)
  · skip
    refine z_ald_0 (TX7_force.at 14 rfl) ?_
    refine zc_getO (m := 0) (s := 0) (k := 63) (hH.lv (by decide)) (TX7_force.at 15 rfl) fl7_12 hH rfl rfl (by decide) (by decide) ?_
    refine zc_getIE (m := 1) (s := 15) (k := 47) (hH.lv (by decide)) ef47 (TX7_force.at 16 rfl) fl7_287 hH rfl rfl (by decide) (by decide) (fun r31 => ?_)
    refine z_ist_2 (TX7_force.at 17 rfl) (Nat.le_of_ble_eq_true rfl) rfl ?_
    refine z_ald_0 (TX7_force.at 18 rfl) ?_
    refine zc_getO (m := 0) (s := 0) (k := 63) (hH.lv (by decide)) (TX7_force.at 19 rfl) fl7_12 hH rfl rfl (by decide) (by decide) ?_
    refine z_ild_1 (TX7_force.at 20 rfl) ?_
    refine zc_putI (m := 1) (s := 15) (k := 47) (hH.lv (by decide)) (TX7_force.at 21 rfl) fp7_287 hH hA rfl rfl (by decide) (by decide) (by first | omega | exact b2i_01 _) (fun h f40 e1 e2 hH hA => ?_)
    have ef16 := (e1 16 (by decide)).trans ef16
    have ef45 := (e1 45 (by decide)).trans ef45
    have ef47 := e2
    have hfE := hfE.put e1 (by decide)
    refine z_ald_0 (TX7_force.at 22 rfl) ?_
    refine z_ild_2 (TX7_force.at 23 rfl) ?_
    refine zc_callI1 (m := 0) (c_answered ef16 (by omega)) (hH.lv (by decide)) (TX7_force.at 24 rfl) c7_106 rfl rfl hH hA (by omega) (Nat.le_of_ble_eq_true rfl) (fun x45 f45 g45 j45 h r45 q45 hH hA => ?_)
    obtain ⟨q45, xf, xg, xj⟩ := q45
    rw [xj] at hH
    have ef45 := (xf 45 (by decide)).trans ef45
    have ef47 := (xf 47 (by decide)).trans ef47
    have hfE := hfE.trans xf (by decide)
    have eg11 := (xg 11 (by decide)).trans eg11
    have hgE := hgE.trans xg (by decide)
    have qL := q45
    have ef16 := qL.2
    have qe := qL.1.symm
    subst qe
    refine zc_iret (TX7_force.at 25 rfl) rfl hH hA (by omega) ?_
    exact ⟨Or.inr ⟨by omega, rfl, ef16, eg11, ef47⟩, hfE, hgE, rfl⟩
  · skip
    refine z_ild_1 (TX7_force.at 3 rfl) ?_
    refine z_if_lt (tgt := 20) (TX7_force.at 4 rfl) rfl (by omega) (fun c2 => ?_) (fun c2 => ?_)
    · skip
      refine z_ald_0 (TX7_force.at 10 rfl) ?_
      refine z_bipush (by decide) (TX7_force.at 11 rfl) ?_
      refine zc_callI1 (m := 0) (c_refused eg11 ef16 (by omega) (by omega) (by omega) hb) (hH.lv (by decide)) (TX7_force.at 12 rfl) c7_92 rfl rfl hH hA (by omega) (Nat.le_of_ble_eq_true rfl) (fun x23 f23 g23 j23 h r23 q23 hH hA => ?_)
      obtain ⟨q23, xf, xg, xj⟩ := q23
      rw [xj] at hH
      have ef45 := (xf 45 (by decide)).trans ef45
      have ef47 := (xf 47 (by decide)).trans ef47
      have hfE := hfE.trans xf (by decide)
      have hgE := hgE.trans xg (by decide)
      have qL := q23
      have ef16 := qL.2.1
      have eg11 := qL.2.2
      have qe := qL.1.symm
      subst qe
      refine zc_iret (TX7_force.at 13 rfl) rfl hH hA (by omega) ?_
      exact ⟨Or.inl ⟨by omega, rfl, ef16, eg11, ef47⟩, hfE, hgE, rfl⟩
    · skip
      refine z_ild_1 (TX7_force.at 5 rfl) ?_
      refine z_ald_0 (TX7_force.at 6 rfl) ?_
      refine zc_getO (m := 0) (s := 0) (k := 63) (hH.lv (by decide)) (TX7_force.at 7 rfl) fl7_12 hH rfl rfl (by decide) (by decide) ?_
      refine zc_getIE (m := 1) (s := 13) (k := 45) (hH.lv (by decide)) ef45 (TX7_force.at 8 rfl) fl7_193 hH rfl rfl (by decide) (by decide) (fun r14 => ?_)
      refine z_icmp_lt (tgt := 27) (TX7_force.at 9 rfl) rfl (by omega) (by omega) (fun c3 => ?_) (fun c3 => ?_)
      · skip
        refine z_ald_0 (TX7_force.at 14 rfl) ?_
        refine zc_getO (m := 0) (s := 0) (k := 63) (hH.lv (by decide)) (TX7_force.at 15 rfl) fl7_12 hH rfl rfl (by decide) (by decide) ?_
        refine zc_getIE (m := 1) (s := 15) (k := 47) (hH.lv (by decide)) ef47 (TX7_force.at 16 rfl) fl7_287 hH rfl rfl (by decide) (by decide) (fun r31 => ?_)
        refine z_ist_2 (TX7_force.at 17 rfl) (Nat.le_of_ble_eq_true rfl) rfl ?_
        refine z_ald_0 (TX7_force.at 18 rfl) ?_
        refine zc_getO (m := 0) (s := 0) (k := 63) (hH.lv (by decide)) (TX7_force.at 19 rfl) fl7_12 hH rfl rfl (by decide) (by decide) ?_
        refine z_ild_1 (TX7_force.at 20 rfl) ?_
        refine zc_putI (m := 1) (s := 15) (k := 47) (hH.lv (by decide)) (TX7_force.at 21 rfl) fp7_287 hH hA rfl rfl (by decide) (by decide) (by first | omega | exact b2i_01 _) (fun h f40 e1 e2 hH hA => ?_)
        have ef16 := (e1 16 (by decide)).trans ef16
        have ef45 := (e1 45 (by decide)).trans ef45
        have ef47 := e2
        have hfE := hfE.put e1 (by decide)
        refine z_ald_0 (TX7_force.at 22 rfl) ?_
        refine z_ild_2 (TX7_force.at 23 rfl) ?_
        refine zc_callI1 (m := 0) (c_answered ef16 (by omega)) (hH.lv (by decide)) (TX7_force.at 24 rfl) c7_106 rfl rfl hH hA (by omega) (Nat.le_of_ble_eq_true rfl) (fun x45 f45 g45 j45 h r45 q45 hH hA => ?_)
        obtain ⟨q45, xf, xg, xj⟩ := q45
        rw [xj] at hH
        have ef45 := (xf 45 (by decide)).trans ef45
        have ef47 := (xf 47 (by decide)).trans ef47
        have hfE := hfE.trans xf (by decide)
        have eg11 := (xg 11 (by decide)).trans eg11
        have hgE := hgE.trans xg (by decide)
        have qL := q45
        have ef16 := qL.2
        have qe := qL.1.symm
        subst qe
        refine zc_iret (TX7_force.at 25 rfl) rfl hH hA (by omega) ?_
        exact ⟨Or.inr ⟨by omega, rfl, ef16, eg11, ef47⟩, hfE, hgE, rfl⟩
      · skip
        refine z_ald_0 (TX7_force.at 10 rfl) ?_
        refine z_bipush (by decide) (TX7_force.at 11 rfl) ?_
        refine zc_callI1 (m := 0) (c_refused eg11 ef16 (by omega) (by omega) (by omega) hb) (hH.lv (by decide)) (TX7_force.at 12 rfl) c7_92 rfl rfl hH hA (by omega) (Nat.le_of_ble_eq_true rfl) (fun x23 f23 g23 j23 h r23 q23 hH hA => ?_)
        obtain ⟨q23, xf, xg, xj⟩ := q23
        rw [xj] at hH
        have ef45 := (xf 45 (by decide)).trans ef45
        have ef47 := (xf 47 (by decide)).trans ef47
        have hfE := hfE.trans xf (by decide)
        have hgE := hgE.trans xg (by decide)
        have qL := q23
        have ef16 := qL.2.1
        have eg11 := qL.2.2
        have qe := qL.1.symm
        subst qe
        refine zc_iret (TX7_force.at 13 rfl) rfl hH hA (by omega) ?_
        exact ⟨Or.inl ⟨by omega, rfl, ef16, eg11, ef47⟩, hfE, hgE, rfl⟩

set_option maxHeartbeats 4000000 in
set_option maxRecDepth 100000 in
theorem c_lightM {l : Launch} {E : cE} {f : mF} {g j : mA} {Mt : Int → Int} {Tm : Int → Int} {D : Int → Int} {O1 : Int → Int} {O2 : Int → Int} {kp : Int} {k : Int}  (eg38 : g 38 = Mt) (eg44 : g 44 = Tm) (eg193 : g 193 = D) (eg194 : g 194 = O1) (eg195 : g 195 = O2) (ef192 : f 192 = kp) (hk : zIn k) (kp0 : 0 ≤ kp) (kp1 : kp ≤ 16) : CM l E MX7_lightMatch 2 [.ref (E.1 31), vI k] f g j (PI (fun r f' g' j' => ((¬ (0 ≤ k ∧ k ≤ 7) ∧ r = -1 ∧ g' 38 = Mt ∧ f' 192 = kp ∧ g' 193 = D ∧ g' 194 = O1 ∧ g' 195 = O2) ∨ ((0 ≤ k ∧ k ≤ 7) ∧ Mt k ≠ -1 ∧ r = -3 ∧ g' 38 = Mt ∧ f' 192 = kp ∧ g' 193 = D ∧ g' 194 = O1 ∧ g' 195 = O2) ∨ ((0 ≤ k ∧ k ≤ 7) ∧ Mt k = -1 ∧ r = Tm 0 ∧ g' 38 = iu Mt k (Tm 0) ∧ f' 192 = (if kp = 16 then 15 else kp) + 1 ∧ g' 193 = iu (if kp = 16 then cpy D D 0 1 15 else D) (if kp = 16 then 15 else kp) 0 ∧ g' 194 = iu (if kp = 16 then cpy O1 O1 0 1 15 else O1) (if kp = 16 then 15 else kp) k ∧ g' 195 = iu (if kp = 16 then cpy O2 O2 0 1 15 else O2) (if kp = 16 then 15 else kp) (-1))) ∧ eqx [192] f f' ∧ eqx [38, 193, 194, 195] g g' ∧ j' = j)) := by
  refine CM.intro [some (.ref (E.1 31)), some (vI k)] (by decide) (Nat.le_of_ble_eq_true rfl) rfl (fun d hd h0 h hH hA => ?_)
  have hfE : eqx [192] f f := eqx.rf
  have hgE : eqx [38, 193, 194, 195] g g := eqx.rf
  refine z_ild_1 (TX7_lightMatch.at 0 rfl) ?_
  refine zs_call1 (c_isKnot (by omega)) (TX7_lightMatch.at 1 rfl) c7_157 rfl (by omega) (Nat.le_of_ble_eq_true rfl) (fun r1 => ?_)
  refine z_if_neB (tgt := 9) (TX7_lightMatch.at 2 rfl) rfl (fun c1 => ?_) (fun c1 => ?_)
  · skip
    refine z_ald_0 (TX7_lightMatch.at 5 rfl) ?_
    refine zc_getO (m := 0) (s := 0) (k := 63) (hH.lv (by decide)) (TX7_lightMatch.at 6 rfl) fl7_12 hH rfl rfl (by decide) (by decide) ?_
    refine zc_getA (m := 1) (s := 6) (k := 38) (hH.lv (by decide)) (TX7_lightMatch.at 7 rfl) fl7_160 hH rfl rfl (by decide) (by decide) ?_
    refine z_ild_1 (TX7_lightMatch.at 8 rfl) ?_
    refine zcf_iald (k := 38) (N := 8) (hH.lv (by decide)) (by decide) rfl eg38 (TX7_lightMatch.at 9 rfl) hH (by decide) (by omega) (show _ < ((8 : Nat) : Int) by omega) (fun r17 => ?_)
    refine z_iconst (TX7_lightMatch.at 10 rfl) ?_
    refine z_icmp_eq (tgt := 25) (TX7_lightMatch.at 11 rfl) rfl (by omega) (by omega) (fun c2 => ?_) (fun c2 => ?_)
    · skip
      refine z_ald_0 (TX7_lightMatch.at 14 rfl) ?_
      refine zc_getO (m := 0) (s := 0) (k := 63) (hH.lv (by decide)) (TX7_lightMatch.at 15 rfl) fl7_12 hH rfl rfl (by decide) (by decide) ?_
      refine zc_getA (m := 1) (s := 6) (k := 38) (hH.lv (by decide)) (TX7_lightMatch.at 16 rfl) fl7_160 hH rfl rfl (by decide) (by decide) ?_
      refine z_ild_1 (TX7_lightMatch.at 17 rfl) ?_
      refine z_ald_0 (TX7_lightMatch.at 18 rfl) ?_
      refine zc_getO (m := 0) (s := 0) (k := 63) (hH.lv (by decide)) (TX7_lightMatch.at 19 rfl) fl7_12 hH rfl rfl (by decide) (by decide) ?_
      refine zc_getA (m := 1) (s := 12) (k := 44) (hH.lv (by decide)) (TX7_lightMatch.at 20 rfl) fl7_178 hH rfl rfl (by decide) (by decide) ?_
      refine z_iconst (TX7_lightMatch.at 21 rfl) ?_
      refine zcf_iald (k := 44) (N := 3) (hH.lv (by decide)) (by decide) rfl eg44 (TX7_lightMatch.at 22 rfl) hH (by decide) (by omega) (show _ < ((3 : Nat) : Int) by omega) (fun r41 => ?_)
      refine zcf_iast (k := 38) (N := 8) (hH.lv (by decide)) (by decide) rfl (TX7_lightMatch.at 23 rfl) hH hA (by decide) (by omega) (show _ < ((8 : Nat) : Int) by omega) (by omega) (fun h g42 e1 e2 hH hA => ?_)
      rw [eg38] at e2; have eg38 := e2
      have eg44 := (e1 44 (by decide)).trans eg44
      have eg193 := (e1 193 (by decide)).trans eg193
      have eg194 := (e1 194 (by decide)).trans eg194
      have eg195 := (e1 195 (by decide)).trans eg195
      have hgE := hgE.put e1 (by decide)
      refine z_ald_0 (TX7_lightMatch.at 24 rfl) ?_
      refine zc_getO (m := 0) (s := 4) (k := 223) (hH.lv (by decide)) (TX7_lightMatch.at 25 rfl) fl7_29 hH rfl rfl (by decide) (by decide) ?_
      refine z_iconst (TX7_lightMatch.at 26 rfl) ?_
      refine z_ild_1 (TX7_lightMatch.at 27 rfl) ?_
      refine z_iconst (TX7_lightMatch.at 28 rfl) ?_
      refine zc_callV3 (m := 6) (c_keep eg193 eg194 eg195 ef192 (by omega) (by omega) (by omega) kp0 kp1) (hH.lv (by decide)) (TX7_lightMatch.at 29 rfl) c7_293 rfl rfl hH hA (by omega) (Nat.le_of_ble_eq_true rfl) (fun f50 g50 j50 h q50 hH hA => ?_)
      obtain ⟨q50, xf, xg, xj⟩ := q50
      rw [xj] at hH
      have hfE := hfE.trans xf (by decide)
      have eg38 := (xg 38 (by decide)).trans eg38
      have eg44 := (xg 44 (by decide)).trans eg44
      have hgE := hgE.trans xg (by decide)
      have qL := q50
      have ef192 := qL.1
      have eg193 := qL.2.1
      have eg194 := qL.2.2.1
      have eg195 := qL.2.2.2
      refine z_ald_0 (TX7_lightMatch.at 30 rfl) ?_
      refine zc_getO (m := 0) (s := 0) (k := 63) (hH.lv (by decide)) (TX7_lightMatch.at 31 rfl) fl7_12 hH rfl rfl (by decide) (by decide) ?_
      refine zc_getA (m := 1) (s := 12) (k := 44) (hH.lv (by decide)) (TX7_lightMatch.at 32 rfl) fl7_178 hH rfl rfl (by decide) (by decide) ?_
      refine z_iconst (TX7_lightMatch.at 33 rfl) ?_
      refine zcf_iald (k := 44) (N := 3) (hH.lv (by decide)) (by decide) rfl eg44 (TX7_lightMatch.at 34 rfl) hH (by decide) (by omega) (show _ < ((3 : Nat) : Int) by omega) (fun r61 => ?_)
      refine zc_iret (TX7_lightMatch.at 35 rfl) rfl hH hA (by omega) ?_
      exact ⟨Or.inr (Or.inr ⟨by omega, by omega, rfl, eg38, ef192, eg193, eg194, eg195⟩), hfE, hgE, rfl⟩
    · skip
      refine z_bipush (by decide) (TX7_lightMatch.at 12 rfl) ?_
      refine zc_iret (TX7_lightMatch.at 13 rfl) rfl hH hA (by omega) ?_
      exact ⟨Or.inr (Or.inl ⟨by omega, by omega, rfl, eg38, ef192, eg193, eg194, eg195⟩), hfE, hgE, rfl⟩
  · skip
    refine z_iconst (TX7_lightMatch.at 3 rfl) ?_
    refine zc_iret (TX7_lightMatch.at 4 rfl) rfl hH hA (by omega) ?_
    exact ⟨Or.inl ⟨by omega, rfl, eg38, ef192, eg193, eg194, eg195⟩, hfE, hgE, rfl⟩

set_option maxHeartbeats 4000000 in
set_option maxRecDepth 100000 in
theorem c_passS {l : Launch} {E : cE} {f : mF} {g j : mA} {Tm : Int → Int} {D : Int → Int} {O1 : Int → Int} {O2 : Int → Int} {kp : Int}  (eg44 : g 44 = Tm) (eg193 : g 193 = D) (eg194 : g 194 = O1) (eg195 : g 195 = O2) (ef192 : f 192 = kp) (kp0 : 0 ≤ kp) (kp1 : kp ≤ 16) : CM l E MX7_passSecond 2 [.ref (E.1 31)] f g j (PI (fun r f' g' j' => ((999 ≤ Tm 0 ∧ r = -3 ∧ g' 44 = Tm ∧ f' 192 = kp ∧ g' 193 = D ∧ g' 194 = O1 ∧ g' 195 = O2) ∨ (Tm 0 < 999 ∧ r = 0 ∧ g' 44 = iu Tm 0 (Tm 0 + 1) ∧ f' 192 = (if kp = 16 then 15 else kp) + 1 ∧ g' 193 = iu (if kp = 16 then cpy D D 0 1 15 else D) (if kp = 16 then 15 else kp) 3 ∧ g' 194 = iu (if kp = 16 then cpy O1 O1 0 1 15 else O1) (if kp = 16 then 15 else kp) (-1) ∧ g' 195 = iu (if kp = 16 then cpy O2 O2 0 1 15 else O2) (if kp = 16 then 15 else kp) (-1))) ∧ eqx [192] f f' ∧ eqx [44, 193, 194, 195] g g' ∧ j' = j)) := by
  refine CM.intro [some (.ref (E.1 31))] (by decide) (Nat.le_of_ble_eq_true rfl) rfl (fun d hd h0 h hH hA => ?_)
  have hfE : eqx [192] f f := eqx.rf
  have hgE : eqx [44, 193, 194, 195] g g := eqx.rf
  refine z_ald_0 (TX7_passSecond.at 0 rfl) ?_
  refine zc_getO (m := 0) (s := 0) (k := 63) (hH.lv (by decide)) (TX7_passSecond.at 1 rfl) fl7_12 hH rfl rfl (by decide) (by decide) ?_
  refine zc_getA (m := 1) (s := 12) (k := 44) (hH.lv (by decide)) (TX7_passSecond.at 2 rfl) fl7_178 hH rfl rfl (by decide) (by decide) ?_
  refine z_iconst (TX7_passSecond.at 3 rfl) ?_
  refine zcf_iald (k := 44) (N := 3) (hH.lv (by decide)) (by decide) rfl eg44 (TX7_passSecond.at 4 rfl) hH (by decide) (by omega) (show _ < ((3 : Nat) : Int) by omega) (fun r8 => ?_)
  refine z_sipush (by decide) (TX7_passSecond.at 5 rfl) ?_
  refine z_icmp_lt (tgt := 18) (TX7_passSecond.at 6 rfl) rfl (by omega) (by omega) (fun c1 => ?_) (fun c1 => ?_)
  · skip
    refine z_ald_0 (TX7_passSecond.at 9 rfl) ?_
    refine zc_getO (m := 0) (s := 0) (k := 63) (hH.lv (by decide)) (TX7_passSecond.at 10 rfl) fl7_12 hH rfl rfl (by decide) (by decide) ?_
    refine zc_getA (m := 1) (s := 12) (k := 44) (hH.lv (by decide)) (TX7_passSecond.at 11 rfl) fl7_178 hH rfl rfl (by decide) (by decide) ?_
    refine z_iconst (TX7_passSecond.at 12 rfl) ?_
    refine z_dup2 rfl rfl (TX7_passSecond.at 13 rfl) ?_
    refine zcf_iald (k := 44) (N := 3) (hH.lv (by decide)) (by decide) rfl eg44 (TX7_passSecond.at 14 rfl) hH (by decide) (by omega) (show _ < ((3 : Nat) : Int) by omega) (fun r27 => ?_)
    refine z_iconst (TX7_passSecond.at 15 rfl) ?_
    refine z_iadd (TX7_passSecond.at 16 rfl) ?_
    refine zcf_iast (k := 44) (N := 3) (hH.lv (by decide)) (by decide) rfl (TX7_passSecond.at 17 rfl) hH hA (by decide) (by omega) (show _ < ((3 : Nat) : Int) by omega) (by omega) (fun h g30 e1 e2 hH hA => ?_)
    rw [eg44] at e2; have eg44 := e2
    have eg193 := (e1 193 (by decide)).trans eg193
    have eg194 := (e1 194 (by decide)).trans eg194
    have eg195 := (e1 195 (by decide)).trans eg195
    have hgE := hgE.put e1 (by decide)
    refine z_ald_0 (TX7_passSecond.at 18 rfl) ?_
    refine zc_getO (m := 0) (s := 4) (k := 223) (hH.lv (by decide)) (TX7_passSecond.at 19 rfl) fl7_29 hH rfl rfl (by decide) (by decide) ?_
    refine z_iconst (TX7_passSecond.at 20 rfl) ?_
    refine z_iconst (TX7_passSecond.at 21 rfl) ?_
    refine z_iconst (TX7_passSecond.at 22 rfl) ?_
    refine zc_callV3 (m := 6) (c_keep eg193 eg194 eg195 ef192 (by omega) (by omega) (by omega) kp0 kp1) (hH.lv (by decide)) (TX7_passSecond.at 23 rfl) c7_293 rfl rfl hH hA (by omega) (Nat.le_of_ble_eq_true rfl) (fun f38 g38 j38 h q38 hH hA => ?_)
    obtain ⟨q38, xf, xg, xj⟩ := q38
    rw [xj] at hH
    have hfE := hfE.trans xf (by decide)
    have eg44 := (xg 44 (by decide)).trans eg44
    have hgE := hgE.trans xg (by decide)
    have qL := q38
    have ef192 := qL.1
    have eg193 := qL.2.1
    have eg194 := qL.2.2.1
    have eg195 := qL.2.2.2
    refine z_iconst (TX7_passSecond.at 24 rfl) ?_
    refine zc_iret (TX7_passSecond.at 25 rfl) rfl hH hA (by omega) ?_
    exact ⟨Or.inr ⟨by omega, rfl, eg44, ef192, eg193, eg194, eg195⟩, hfE, hgE, rfl⟩
  · skip
    refine z_bipush (by decide) (TX7_passSecond.at 7 rfl) ?_
    refine zc_iret (TX7_passSecond.at 8 rfl) rfl hH hA (by omega) ?_
    exact ⟨Or.inl ⟨by omega, rfl, eg44, ef192, eg193, eg194, eg195⟩, hfE, hgE, rfl⟩

