/-! ===== the class itself: out, stands ===== -/
theorem eqx_nil {α : Type} {a b : Nat → α} (h : eqx [] a b) : b = a := funext (fun k => h k (by decide +revert))
theorem LwN_cg {E : cE} {f f' : mF} {g g' : mA} {y : Int} {cl : List Cla} (h : LwN E f g y cl) (xf : eqx [] f f') (xg : eqx [] g g') : LwN E f' g' y cl := by rw [eqx_nil xf, eqx_nil xg]; exact h
set_option maxHeartbeats 4000000 in
set_option maxRecDepth 100000 in
theorem c_out {l : Launch} {E : cE} {f : mF} {g j : mA} {Fr : Int → Int} {To : Int → Int} {Ln : Int → Int} {Kd : Int → Int} {Tm : Int → Int} {Lw : Int → Int} {dp : Int} {S : Int} {q x : Int} {K : Int → Int} {cl : List Cla} (eg33 : g 33 = Fr) (eg34 : g 34 = To) (eg35 : g 35 = Ln) (eg36 : g 36 = Kd) (eg44 : g 44 = Tm) (eg46 : g 46 = Lw) (ef32 : f 32 = (K 76)) (ef37 : f 37 = dp) (ef354 : f 354 = S) (ef45 : f 45 = (K 79)) (ef47 : f 47 = (K 80)) (hq : zIn q) (hx : zIn x) (hL : LwN E f g (if 0 ≤ K 80 ∧ K 80 < K 79 then Lw (K 80) else -1) cl) (hK : KOK K) (hP : FrA Fr To Ln Kd dp K) (hS : z31 S) (t0 : Tm 0 = K 28) (t2 : Tm 2 = K 75) : CM l E MX7_out 7 [.ref (E.1 31), vI q, vI x] f g j (PI (fun r f' g' j' => (r = outV K cl q x) ∧ eqx [354] f f' ∧ eqx [352, 353, 355, 356, 384] g g' ∧ j' = j)) := by
  refine CM.intro [some (.ref (E.1 31)), some (vI q), some (vI x)] (by decide) (Nat.le_of_ble_eq_true rfl) rfl (fun d hd h0 h hH hA => ?_)
  have hfE : eqx [354] f f := eqx.rf
  have hgE : eqx [352, 353, 355, 356, 384] g g := eqx.rf
  refine z_ild_1 (TX7_out.at 0 rfl) ?_
  refine zs_call1 (c_areKnots (by omega)) (TX7_out.at 1 rfl) c7_308 rfl (by omega) (Nat.le_of_ble_eq_true rfl) (fun r1 => ?_)
  refine z_if_eqB (tgt := 18) (TX7_out.at 2 rfl) rfl (fun c1 => ?_) (fun c1 => ?_)
  · skip
    refine z_iconst (TX7_out.at 8 rfl) ?_
    refine zc_iret (TX7_out.at 9 rfl) rfl hH hA (by omega) ?_
    exact ⟨by unfold outV; first | (have hw : ((0 ≤ q ∧ q ≤ 255) ∧ 0 ≤ x ∧ x ≤ K 76 - 1) := (by omega); rw [if_pos hw, fire_o hK hct (by omega) (by omega)]; rfl) | (have hw : ¬ ((0 ≤ q ∧ q ≤ 255) ∧ 0 ≤ x ∧ x ≤ K 76 - 1) := (by omega); rw [if_neg hw]), hfE, hgE, rfl⟩
  · skip
    refine z_ald_0 (TX7_out.at 3 rfl) ?_
    refine zc_getO (m := 0) (s := 0) (k := 63) (hH.lv (by decide)) (TX7_out.at 4 rfl) fl7_12 hH rfl rfl (by decide) (by decide) ?_
    refine z_ild_2 (TX7_out.at 5 rfl) ?_
    refine zc_callI1 (m := 1) (c_hasFuse1 ef32 (by omega)) (hH.lv (by decide)) (TX7_out.at 6 rfl) c7_109 rfl rfl hH hA (by omega) (Nat.le_of_ble_eq_true rfl) (fun x12 f12 g12 j12 h r12 q12 hH hA => ?_)
    obtain ⟨q12, xf, xg, xj⟩ := q12
    rw [xj] at hH
    have ef32 := (xf 32 (by decide)).trans ef32
    have ef37 := (xf 37 (by decide)).trans ef37
    have ef354 := (xf 354 (by decide)).trans ef354
    have ef45 := (xf 45 (by decide)).trans ef45
    have ef47 := (xf 47 (by decide)).trans ef47
    have hfE := hfE.trans xf (by decide)
    have eg33 := (xg 33 (by decide)).trans eg33
    have eg34 := (xg 34 (by decide)).trans eg34
    have eg35 := (xg 35 (by decide)).trans eg35
    have eg36 := (xg 36 (by decide)).trans eg36
    have eg44 := (xg 44 (by decide)).trans eg44
    have eg46 := (xg 46 (by decide)).trans eg46
    have hgE := hgE.trans xg (by decide)
    have qL := q12
    obtain rfl := qL
    have hL := LwN_cg hL xf xg
    refine z_if_neB (tgt := 20) (TX7_out.at 7 rfl) rfl (fun c2 => ?_) (fun c2 => ?_)
    · skip
      refine z_ald_0 (TX7_out.at 10 rfl) ?_
      refine z_ild_1 (TX7_out.at 11 rfl) ?_
      refine zc_callV1 (m := 0) (c_burnP eg33 eg34 eg35 eg36 eg44 eg46 ef32 ef37 ef354 ef45 ef47 hL hK hP hS t0 t2 ⟨by omega, by omega⟩) (hH.lv (by decide)) (TX7_out.at 12 rfl) c7_311 rfl rfl hH hA (by omega) (Nat.le_of_ble_eq_true rfl) (fun f22 g22 j22 h q22 hH hA => ?_)
      obtain ⟨q22, xf, xg, xj⟩ := q22
      rw [xj] at hH
      have ef32 := (xf 32 (by decide)).trans ef32
      have ef37 := (xf 37 (by decide)).trans ef37
      have ef45 := (xf 45 (by decide)).trans ef45
      have ef47 := (xf 47 (by decide)).trans ef47
      have hfE := hfE.trans xf (by decide)
      have eg33 := (xg 33 (by decide)).trans eg33
      have eg34 := (xg 34 (by decide)).trans eg34
      have eg35 := (xg 35 (by decide)).trans eg35
      have eg36 := (xg 36 (by decide)).trans eg36
      have eg44 := (xg 44 (by decide)).trans eg44
      have eg46 := (xg 46 (by decide)).trans eg46
      have hgE := hgE.trans xg (by decide)
      have qL := q22
      obtain ⟨hI, hct⟩ := qL
      refine z_ald_0 (TX7_out.at 13 rfl) ?_
      refine zc_getO (m := 0) (s := 9) (k := 383) (hH.lv (by decide)) (TX7_out.at 14 rfl) fl7_60 hH rfl rfl (by decide) (by decide) ?_
      refine z_ald_0 (TX7_out.at 15 rfl) ?_
      refine zc_getO (m := 0) (s := 0) (k := 63) (hH.lv (by decide)) (TX7_out.at 16 rfl) fl7_12 hH rfl rfl (by decide) (by decide) ?_
      refine z_ild_2 (TX7_out.at 17 rfl) ?_
      refine zc_callI2 (m := 11) (c_outOf1 eg33 eg34 rfl rfl rfl ef32 rfl (by omega) hI (by omega) (by omega)) (hH.lv (by decide)) (TX7_out.at 18 rfl) c7_153 rfl rfl hH hA (by omega) (Nat.le_of_ble_eq_true rfl) (fun x34 f34 g34 j34 h r34 q34 hH hA => ?_)
      obtain ⟨q34, xf, xg, xj⟩ := q34
      rw [xj] at hH
      have ef32 := (xf 32 (by decide)).trans ef32
      have ef37 := (xf 37 (by decide)).trans ef37
      have ef45 := (xf 45 (by decide)).trans ef45
      have ef47 := (xf 47 (by decide)).trans ef47
      have hfE := hfE.trans xf (by decide)
      have eg33 := (xg 33 (by decide)).trans eg33
      have eg34 := (xg 34 (by decide)).trans eg34
      have eg35 := (xg 35 (by decide)).trans eg35
      have eg36 := (xg 36 (by decide)).trans eg36
      have eg44 := (xg 44 (by decide)).trans eg44
      have eg46 := (xg 46 (by decide)).trans eg46
      have hgE := hgE.trans xg (by decide)
      have qL := q34
      have qe := qL.symm
      subst qe
      refine zc_iret (TX7_out.at 19 rfl) rfl hH hA (by omega) ?_
      exact ⟨by unfold outV; first | (have hw : ((0 ≤ q ∧ q ≤ 255) ∧ 0 ≤ x ∧ x ≤ K 76 - 1) := (by omega); rw [if_pos hw, fire_o hK hct (by omega) (by omega)]; rfl) | (have hw : ¬ ((0 ≤ q ∧ q ≤ 255) ∧ 0 ≤ x ∧ x ≤ K 76 - 1) := (by omega); rw [if_neg hw]), hfE, hgE, rfl⟩
    · skip
      refine z_iconst (TX7_out.at 8 rfl) ?_
      refine zc_iret (TX7_out.at 9 rfl) rfl hH hA (by omega) ?_
      exact ⟨by unfold outV; first | (have hw : ((0 ≤ q ∧ q ≤ 255) ∧ 0 ≤ x ∧ x ≤ K 76 - 1) := (by omega); rw [if_pos hw, fire_o hK hct (by omega) (by omega)]; rfl) | (have hw : ¬ ((0 ≤ q ∧ q ≤ 255) ∧ 0 ≤ x ∧ x ≤ K 76 - 1) := (by omega); rw [if_neg hw]), hfE, hgE, rfl⟩

