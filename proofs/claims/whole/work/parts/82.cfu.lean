/-! ===== the class itself: a fuse is tied ===== -/
set_option maxHeartbeats 4000000 in
set_option maxRecDepth 100000 in
theorem c_fuse {l : Launch} {E : cE} {f : mF} {g j : mA} {Rf : Int → Int} {Fr : Int → Int} {To : Int → Int} {Ln : Int → Int} {Kd : Int → Int} {st : Int} {n9 : Int} {kp : Int} {a b c e : Int}  (eg11 : g 11 = Rf) (eg33 : g 33 = Fr) (eg34 : g 34 = To) (eg35 : g 35 = Ln) (eg36 : g 36 = Kd) (ef16 : f 16 = st) (ef32 : f 32 = n9) (ef192 : f 192 = kp) (ha : zIn a) (hb : zIn b) (hc : zIn c) (he : zIn e) (hb : ∀ i, Rf i ≤ 100000) (n0 : 0 ≤ n9) (n1 : n9 ≤ 10) : CM l E MX7_fuse 2 [.ref (E.1 31), vI a, vI b, vI c, vI e] f g j (PI (fun r f' g' j' => ((¬ canF a b c e ∧ r = -1 ∧ f' 16 = -1 ∧ g' 11 = bumC Rf (-1) ∧ f' 32 = n9 ∧ f' 192 = kp ∧ g' 33 = Fr ∧ g' 34 = To ∧ g' 35 = Ln ∧ g' 36 = Kd) ∨ (canF a b c e ∧ 10 ≤ n9 ∧ r = -5 ∧ f' 16 = -5 ∧ g' 11 = bumC Rf (-5) ∧ f' 32 = n9 ∧ f' 192 = kp ∧ g' 33 = Fr ∧ g' 34 = To ∧ g' 35 = Ln ∧ g' 36 = Kd) ∨ (canF a b c e ∧ n9 < 10 ∧ r = n9 ∧ f' 16 = 0 ∧ g' 11 = Rf ∧ f' 32 = n9 + 1 ∧ f' 192 = 0 ∧ g' 33 = iu Fr n9 a ∧ g' 34 = iu To n9 b ∧ g' 35 = iu Ln n9 c ∧ g' 36 = iu Kd n9 e)) ∧ eqx [16, 32, 192] f f' ∧ eqx [11, 33, 34, 35, 36] g g' ∧ j' = j)) := by
  refine CM.intro [some (.ref (E.1 31)), some (vI a), some (vI b), some (vI c), some (vI e)] (by decide) (Nat.le_of_ble_eq_true rfl) rfl (fun d hd h0 h hH hA => ?_)
  have hfE : eqx [16, 32, 192] f f := eqx.rf
  have hgE : eqx [11, 33, 34, 35, 36] g g := eqx.rf
  refine z_ild_1 (TX7_fuse.at 0 rfl) ?_
  refine z_ild_2 (TX7_fuse.at 1 rfl) ?_
  refine z_ild_3 (TX7_fuse.at 2 rfl) ?_
  refine z_ild_4 (TX7_fuse.at 3 rfl) ?_
  refine zs_call4 (c_canF (by omega) (by omega) (by omega) (by omega)) (TX7_fuse.at 4 rfl) c7_88 rfl (by omega) (Nat.le_of_ble_eq_true rfl) (fun r5 => ?_)
  refine z_if_neB (tgt := 17) (TX7_fuse.at 5 rfl) rfl (fun c1 => ?_) (fun c1 => ?_)
  · skip
    refine z_ald_0 (TX7_fuse.at 10 rfl) ?_
    refine zc_getO (m := 0) (s := 0) (k := 63) (hH.lv (by decide)) (TX7_fuse.at 11 rfl) fl7_12 hH rfl rfl (by decide) (by decide) ?_
    refine zc_getIE (m := 1) (s := 0) (k := 32) (hH.lv (by decide)) ef32 (TX7_fuse.at 12 rfl) fl7_96 hH rfl rfl (by decide) (by decide) (fun r21 => ?_)
    refine z_bipush (by decide) (TX7_fuse.at 13 rfl) ?_
    refine z_icmp_lt (tgt := 36) (TX7_fuse.at 14 rfl) rfl (by omega) (by omega) (fun c2 => ?_) (fun c2 => ?_)
    · skip
      refine z_ald_0 (TX7_fuse.at 19 rfl) ?_
      refine zc_getO (m := 0) (s := 4) (k := 223) (hH.lv (by decide)) (TX7_fuse.at 20 rfl) fl7_29 hH rfl rfl (by decide) (by decide) ?_
      refine z_iconst (TX7_fuse.at 21 rfl) ?_
      refine zc_putI (m := 6) (s := 0) (k := 192) (hH.lv (by decide)) (TX7_fuse.at 22 rfl) fp7_99 hH hA rfl rfl (by decide) (by decide) (by first | omega | exact b2i_01 _) (fun h f41 e1 e2 hH hA => ?_)
      have ef16 := (e1 16 (by decide)).trans ef16
      have ef32 := (e1 32 (by decide)).trans ef32
      have ef192 := e2
      have hfE := hfE.put e1 (by decide)
      refine z_ald_0 (TX7_fuse.at 23 rfl) ?_
      refine z_ald_0 (TX7_fuse.at 24 rfl) ?_
      refine zc_getO (m := 0) (s := 0) (k := 63) (hH.lv (by decide)) (TX7_fuse.at 25 rfl) fl7_12 hH rfl rfl (by decide) (by decide) ?_
      refine z_ild_1 (TX7_fuse.at 26 rfl) ?_
      refine z_ild_2 (TX7_fuse.at 27 rfl) ?_
      refine z_ild_3 (TX7_fuse.at 28 rfl) ?_
      refine z_ild_4 (TX7_fuse.at 29 rfl) ?_
      refine zc_callI4 (m := 1) (c_tie eg33 eg34 eg35 eg36 ef32 (by omega) (by omega) (by omega) (by omega) n0 (by omega)) (hH.lv (by decide)) (TX7_fuse.at 30 rfl) c7_102 rfl rfl hH hA (by omega) (Nat.le_of_ble_eq_true rfl) (fun x54 f54 g54 j54 h r54 q54 hH hA => ?_)
      obtain ⟨q54, xf, xg, xj⟩ := q54
      rw [xj] at hH
      have ef16 := (xf 16 (by decide)).trans ef16
      have ef192 := (xf 192 (by decide)).trans ef192
      have hfE := hfE.trans xf (by decide)
      have eg11 := (xg 11 (by decide)).trans eg11
      have hgE := hgE.trans xg (by decide)
      have qL := q54
      have ef32 := qL.2.1
      have eg33 := qL.2.2.1
      have eg34 := qL.2.2.2.1
      have eg35 := qL.2.2.2.2.1
      have eg36 := qL.2.2.2.2.2
      have qe := qL.1.symm
      subst qe
      refine zc_callI1 (m := 0) (c_answered ef16 (by omega)) (hH.lv (by decide)) (TX7_fuse.at 31 rfl) c7_106 rfl rfl hH hA (by omega) (Nat.le_of_ble_eq_true rfl) (fun x57 f57 g57 j57 h r57 q57 hH hA => ?_)
      obtain ⟨q57, xf, xg, xj⟩ := q57
      rw [xj] at hH
      have ef32 := (xf 32 (by decide)).trans ef32
      have ef192 := (xf 192 (by decide)).trans ef192
      have hfE := hfE.trans xf (by decide)
      have eg11 := (xg 11 (by decide)).trans eg11
      have eg33 := (xg 33 (by decide)).trans eg33
      have eg34 := (xg 34 (by decide)).trans eg34
      have eg35 := (xg 35 (by decide)).trans eg35
      have eg36 := (xg 36 (by decide)).trans eg36
      have hgE := hgE.trans xg (by decide)
      have qL := q57
      have ef16 := qL.2
      have qe := qL.1.symm
      subst qe
      refine zc_iret (TX7_fuse.at 32 rfl) rfl hH hA (by omega) ?_
      exact ⟨Or.inr (Or.inr ⟨by assumption, by omega, rfl, ef16, eg11, ef32, ef192, eg33, eg34, eg35, eg36⟩), hfE, hgE, rfl⟩
    · skip
      refine z_ald_0 (TX7_fuse.at 15 rfl) ?_
      refine z_bipush (by decide) (TX7_fuse.at 16 rfl) ?_
      refine zc_callI1 (m := 0) (c_refused eg11 ef16 (by omega) (by omega) (by omega) hb) (hH.lv (by decide)) (TX7_fuse.at 17 rfl) c7_92 rfl rfl hH hA (by omega) (Nat.le_of_ble_eq_true rfl) (fun x32 f32 g32 j32 h r32 q32 hH hA => ?_)
      obtain ⟨q32, xf, xg, xj⟩ := q32
      rw [xj] at hH
      have ef32 := (xf 32 (by decide)).trans ef32
      have ef192 := (xf 192 (by decide)).trans ef192
      have hfE := hfE.trans xf (by decide)
      have eg33 := (xg 33 (by decide)).trans eg33
      have eg34 := (xg 34 (by decide)).trans eg34
      have eg35 := (xg 35 (by decide)).trans eg35
      have eg36 := (xg 36 (by decide)).trans eg36
      have hgE := hgE.trans xg (by decide)
      have qL := q32
      have ef16 := qL.2.1
      have eg11 := qL.2.2
      have qe := qL.1.symm
      subst qe
      refine zc_iret (TX7_fuse.at 18 rfl) rfl hH hA (by omega) ?_
      exact ⟨Or.inr (Or.inl ⟨by assumption, by omega, rfl, ef16, eg11, ef32, ef192, eg33, eg34, eg35, eg36⟩), hfE, hgE, rfl⟩
  · skip
    refine z_ald_0 (TX7_fuse.at 6 rfl) ?_
    refine z_iconst (TX7_fuse.at 7 rfl) ?_
    refine zc_callI1 (m := 0) (c_refused eg11 ef16 (by omega) (by omega) (by omega) hb) (hH.lv (by decide)) (TX7_fuse.at 8 rfl) c7_92 rfl rfl hH hA (by omega) (Nat.le_of_ble_eq_true rfl) (fun x13 f13 g13 j13 h r13 q13 hH hA => ?_)
    obtain ⟨q13, xf, xg, xj⟩ := q13
    rw [xj] at hH
    have ef32 := (xf 32 (by decide)).trans ef32
    have ef192 := (xf 192 (by decide)).trans ef192
    have hfE := hfE.trans xf (by decide)
    have eg33 := (xg 33 (by decide)).trans eg33
    have eg34 := (xg 34 (by decide)).trans eg34
    have eg35 := (xg 35 (by decide)).trans eg35
    have eg36 := (xg 36 (by decide)).trans eg36
    have hgE := hgE.trans xg (by decide)
    have qL := q13
    have ef16 := qL.2.1
    have eg11 := qL.2.2
    have qe := qL.1.symm
    subst qe
    refine zc_iret (TX7_fuse.at 9 rfl) rfl hH hA (by omega) ?_
    exact ⟨Or.inl ⟨by assumption, rfl, ef16, eg11, ef32, ef192, eg33, eg34, eg35, eg36⟩, hfE, hgE, rfl⟩

