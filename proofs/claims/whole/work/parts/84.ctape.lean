/-! ===== the class itself: a fuse is tied from the tape ===== -/
set_option maxHeartbeats 4000000 in
set_option maxRecDepth 100000 in
theorem c_tieT {l : Launch} {E : cE} {f : mF} {g j : mA} {X : Int → Int} {Fr : Int → Int} {To : Int → Int} {Ln : Int → Int} {Kd : Int → Int} {z : Int} {n9 : Int} {i : Int}  (eg257 : g 257 = X) (eg33 : g 33 = Fr) (eg34 : g 34 = To) (eg35 : g 35 = Ln) (eg36 : g 36 = Kd) (ef256 : f 256 = z) (ef32 : f 32 = n9) (hi : zIn i) (i0 : 0 ≤ i) (i4 : i ≤ 400) (z4 : z ≤ 400) (n0 : 0 ≤ n9) (n1 : n9 ≤ 10) : CM l E MX7_tieFromTape 2 [.ref (E.1 31), vI i] f g j (PI (fun r f' g' j' => ((¬ (i + 4 ≤ z ∧ n9 < 10 ∧ canF (X i) (X (i + 1)) (X (i + 2)) (X (i + 3))) ∧ r = 0 ∧ f' 32 = n9 ∧ g' 33 = Fr ∧ g' 34 = To ∧ g' 35 = Ln ∧ g' 36 = Kd) ∨ ((i + 4 ≤ z ∧ n9 < 10 ∧ canF (X i) (X (i + 1)) (X (i + 2)) (X (i + 3))) ∧ r = 1 ∧ f' 32 = n9 + 1 ∧ g' 33 = iu Fr n9 (X i) ∧ g' 34 = iu To n9 (X (i + 1)) ∧ g' 35 = iu Ln n9 (X (i + 2)) ∧ g' 36 = iu Kd n9 (X (i + 3)))) ∧ eqx [32] f f' ∧ eqx [33, 34, 35, 36] g g' ∧ j' = j)) := by
  refine CM.intro [some (.ref (E.1 31)), some (vI i), none, none, none, none] (by decide) (Nat.le_of_ble_eq_true rfl) rfl (fun d hd h0 h hH hA => ?_)
  have hfE : eqx [32] f f := eqx.rf
  have hgE : eqx [33, 34, 35, 36] g g := eqx.rf
  refine z_ild_1 (TX7_tieFromTape_0.at 0 rfl) ?_
  refine z_iconst (TX7_tieFromTape_0.at 1 rfl) ?_
  refine z_iadd (TX7_tieFromTape_0.at 2 rfl) ?_
  refine z_ald_0 (TX7_tieFromTape_0.at 3 rfl) ?_
  refine zc_getO (m := 0) (s := 6) (k := 287) (hH.lv (by decide)) (TX7_tieFromTape_0.at 4 rfl) fl7_39 hH rfl rfl (by decide) (by decide) ?_
  refine zc_getIE (m := 8) (s := 0) (k := 256) (hH.lv (by decide)) ef256 (TX7_tieFromTape_0.at 5 rfl) fl7_181 hH rfl rfl (by decide) (by decide) (fun r7 => ?_)
  refine z_icmp_gt (tgt := 25) (TX7_tieFromTape_0.at 6 rfl) rfl (by omega) (by omega) (fun c1 => ?_) (fun c1 => ?_)
  · skip
    refine z_iconst (TX7_tieFromTape_0.at 12 rfl) ?_
    refine zc_zret (TX7_tieFromTape_0.at 13 rfl) rfl hH hA (by first | omega | exact b2i_01 _) ?_
    exact ⟨by first | exact Or.inl ⟨fun q => by have := q.1; have := q.2.1; omega, rfl, ef32, eg33, eg34, eg35, eg36⟩ | exact Or.inl ⟨fun q => absurd q.2.2 (by assumption), rfl, ef32, eg33, eg34, eg35, eg36⟩ | exact Or.inr ⟨⟨by omega, by omega, by assumption⟩, rfl, ef32, eg33, eg34, eg35, eg36⟩, hfE, hgE, rfl⟩
  · skip
    refine z_ald_0 (TX7_tieFromTape_0.at 7 rfl) ?_
    refine zc_getO (m := 0) (s := 0) (k := 63) (hH.lv (by decide)) (TX7_tieFromTape_0.at 8 rfl) fl7_12 hH rfl rfl (by decide) (by decide) ?_
    refine zc_getIE (m := 1) (s := 0) (k := 32) (hH.lv (by decide)) ef32 (TX7_tieFromTape_0.at 9 rfl) fl7_96 hH rfl rfl (by decide) (by decide) (fun r17 => ?_)
    refine z_bipush (by decide) (TX7_tieFromTape_0.at 10 rfl) ?_
    refine z_icmp_lt (tgt := 27) (TX7_tieFromTape_0.at 11 rfl) rfl (by omega) (by omega) (fun c2 => ?_) (fun c2 => ?_)
    · skip
      refine z_ald_0 (TX7_tieFromTape_0.at 14 rfl) ?_
      refine zc_getO (m := 0) (s := 6) (k := 287) (hH.lv (by decide)) (TX7_tieFromTape_0.at 15 rfl) fl7_39 hH rfl rfl (by decide) (by decide) ?_
      refine zc_getA (m := 8) (s := 1) (k := 257) (hH.lv (by decide)) (TX7_tieFromTape_0.at 16 rfl) fl7_190 hH rfl rfl (by decide) (by decide) ?_
      refine z_ild_1 (TX7_tieFromTape_0.at 17 rfl) ?_
      refine zcf_iald (k := 257) (N := 400) (hH.lv (by decide)) (by decide) rfl eg257 (TX7_tieFromTape_0.at 18 rfl) hH (by decide) (by omega) (show _ < ((400 : Nat) : Int) by omega) (fun r35 => ?_)
      refine z_ist_2 (TX7_tieFromTape_0.at 19 rfl) (Nat.le_of_ble_eq_true rfl) rfl ?_
      refine z_ald_0 (TX7_tieFromTape_0.at 20 rfl) ?_
      refine zc_getO (m := 0) (s := 6) (k := 287) (hH.lv (by decide)) (TX7_tieFromTape_0.at 21 rfl) fl7_39 hH rfl rfl (by decide) (by decide) ?_
      refine zc_getA (m := 8) (s := 1) (k := 257) (hH.lv (by decide)) (TX7_tieFromTape_0.at 22 rfl) fl7_190 hH rfl rfl (by decide) (by decide) ?_
      refine z_ild_1 (TX7_tieFromTape_0.at 23 rfl) ?_
      refine z_iconst (TX7_tieFromTape_0.at 24 rfl) ?_
      refine z_iadd (TX7_tieFromTape_0.at 25 rfl) ?_
      refine zcf_iald (k := 257) (N := 400) (hH.lv (by decide)) (by decide) rfl eg257 (TX7_tieFromTape_0.at 26 rfl) hH (by decide) (by omega) (show _ < ((400 : Nat) : Int) by omega) (fun r47 => ?_)
      refine z_ist_3 (TX7_tieFromTape_0.at 27 rfl) (Nat.le_of_ble_eq_true rfl) rfl ?_
      refine z_ald_0 (TX7_tieFromTape_0.at 28 rfl) ?_
      refine zc_getO (m := 0) (s := 6) (k := 287) (hH.lv (by decide)) (TX7_tieFromTape_0.at 29 rfl) fl7_39 hH rfl rfl (by decide) (by decide) ?_
      refine zc_getA (m := 8) (s := 1) (k := 257) (hH.lv (by decide)) (TX7_tieFromTape_0.at 30 rfl) fl7_190 hH rfl rfl (by decide) (by decide) ?_
      refine z_ild_1 (TX7_tieFromTape_0.at 31 rfl) ?_
      refine z_iconst (TX7_tieFromTape_0.at 32 rfl) ?_
      refine z_iadd (TX7_tieFromTape_0.at 33 rfl) ?_
      refine zcf_iald (k := 257) (N := 400) (hH.lv (by decide)) (by decide) rfl eg257 (TX7_tieFromTape_0.at 34 rfl) hH (by decide) (by omega) (show _ < ((400 : Nat) : Int) by omega) (fun r59 => ?_)
      refine z_ist_4 (TX7_tieFromTape_0.at 35 rfl) (Nat.le_of_ble_eq_true rfl) rfl ?_
      refine z_ald_0 (TX7_tieFromTape_0.at 36 rfl) ?_
      refine zc_getO (m := 0) (s := 6) (k := 287) (hH.lv (by decide)) (TX7_tieFromTape_0.at 37 rfl) fl7_39 hH rfl rfl (by decide) (by decide) ?_
      refine zc_getA (m := 8) (s := 1) (k := 257) (hH.lv (by decide)) (TX7_tieFromTape_0.at 38 rfl) fl7_190 hH rfl rfl (by decide) (by decide) ?_
      refine z_ild_1 (TX7_tieFromTape_0.at 39 rfl) ?_
      refine z_iconst (TX7_tieFromTape_1.at 0 rfl) ?_
      refine z_iadd (TX7_tieFromTape_1.at 1 rfl) ?_
      refine zcf_iald (k := 257) (N := 400) (hH.lv (by decide)) (by decide) rfl eg257 (TX7_tieFromTape_1.at 2 rfl) hH (by decide) (by omega) (show _ < ((400 : Nat) : Int) by omega) (fun r72 => ?_)
      refine z_ist_5 (TX7_tieFromTape_1.at 3 rfl) (Nat.le_of_ble_eq_true rfl) rfl ?_
      refine z_ild_2 (TX7_tieFromTape_1.at 4 rfl) ?_
      refine z_ild_3 (TX7_tieFromTape_1.at 5 rfl) ?_
      refine z_ild_4 (TX7_tieFromTape_1.at 6 rfl) ?_
      refine z_ild_5 (TX7_tieFromTape_1.at 7 rfl) ?_
      refine zs_call4 (c_canF (by omega) (by omega) (by omega) (by omega)) (TX7_tieFromTape_1.at 8 rfl) c7_88 rfl (by omega) (Nat.le_of_ble_eq_true rfl) (fun r81 => ?_)
      refine z_if_neB (tgt := 89) (TX7_tieFromTape_1.at 9 rfl) rfl (fun c3 => ?_) (fun c3 => ?_)
      · skip
        refine z_ald_0 (TX7_tieFromTape_1.at 12 rfl) ?_
        refine zc_getO (m := 0) (s := 0) (k := 63) (hH.lv (by decide)) (TX7_tieFromTape_1.at 13 rfl) fl7_12 hH rfl rfl (by decide) (by decide) ?_
        refine z_ild_2 (TX7_tieFromTape_1.at 14 rfl) ?_
        refine z_ild_3 (TX7_tieFromTape_1.at 15 rfl) ?_
        refine z_ild_4 (TX7_tieFromTape_1.at 16 rfl) ?_
        refine z_ild_5 (TX7_tieFromTape_1.at 17 rfl) ?_
        refine zc_callI4 (m := 1) (c_tie eg33 eg34 eg35 eg36 ef32 (by omega) (by omega) (by omega) (by omega) n0 (by omega)) (hH.lv (by decide)) (TX7_tieFromTape_1.at 18 rfl) c7_102 rfl rfl hH hA (by omega) (Nat.le_of_ble_eq_true rfl) (fun x99 f99 g99 j99 h r99 q99 hH hA => ?_)
        obtain ⟨q99, xf, xg, xj⟩ := q99
        rw [xj] at hH
        have ef256 := (xf 256 (by decide)).trans ef256
        have hfE := hfE.trans xf (by decide)
        have eg257 := (xg 257 (by decide)).trans eg257
        have hgE := hgE.trans xg (by decide)
        have qL := q99
        have ef32 := qL.2.1
        have eg33 := qL.2.2.1
        have eg34 := qL.2.2.2.1
        have eg35 := qL.2.2.2.2.1
        have eg36 := qL.2.2.2.2.2
        refine z_pop rfl (TX7_tieFromTape_1.at 19 rfl) ?_
        refine z_iconst (TX7_tieFromTape_1.at 20 rfl) ?_
        refine zc_zret (TX7_tieFromTape_1.at 21 rfl) rfl hH hA (by first | omega | exact b2i_01 _) ?_
        exact ⟨by first | exact Or.inl ⟨fun q => by have := q.1; have := q.2.1; omega, rfl, ef32, eg33, eg34, eg35, eg36⟩ | exact Or.inl ⟨fun q => absurd q.2.2 (by assumption), rfl, ef32, eg33, eg34, eg35, eg36⟩ | exact Or.inr ⟨⟨by omega, by omega, by assumption⟩, rfl, ef32, eg33, eg34, eg35, eg36⟩, hfE, hgE, rfl⟩
      · skip
        refine z_iconst (TX7_tieFromTape_1.at 10 rfl) ?_
        refine zc_zret (TX7_tieFromTape_1.at 11 rfl) rfl hH hA (by first | omega | exact b2i_01 _) ?_
        exact ⟨by first | exact Or.inl ⟨fun q => by have := q.1; have := q.2.1; omega, rfl, ef32, eg33, eg34, eg35, eg36⟩ | exact Or.inl ⟨fun q => absurd q.2.2 (by assumption), rfl, ef32, eg33, eg34, eg35, eg36⟩ | exact Or.inr ⟨⟨by omega, by omega, by assumption⟩, rfl, ef32, eg33, eg34, eg35, eg36⟩, hfE, hgE, rfl⟩
    · skip
      refine z_iconst (TX7_tieFromTape_0.at 12 rfl) ?_
      refine zc_zret (TX7_tieFromTape_0.at 13 rfl) rfl hH hA (by first | omega | exact b2i_01 _) ?_
      exact ⟨by first | exact Or.inl ⟨fun q => by have := q.1; have := q.2.1; omega, rfl, ef32, eg33, eg34, eg35, eg36⟩ | exact Or.inl ⟨fun q => absurd q.2.2 (by assumption), rfl, ef32, eg33, eg34, eg35, eg36⟩ | exact Or.inr ⟨⟨by omega, by omega, by assumption⟩, rfl, ef32, eg33, eg34, eg35, eg36⟩, hfE, hgE, rfl⟩

