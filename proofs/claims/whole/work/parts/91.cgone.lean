/-! ===== the class itself: gone, of, at, pass, seen, forget, drawn, wet ===== -/
set_option maxHeartbeats 4000000 in
set_option maxRecDepth 100000 in
theorem c_goneIn1 {l : Launch} {E : cE} {f : mF} {g j : mA} {Fr : Int → Int} {To : Int → Int} {Ln : Int → Int} {Kd : Int → Int} {Tm : Int → Int} {Lw : Int → Int} {Mt : Int → Int} {dp : Int} {S : Int} {K : Int → Int} {cl : List Cla} (eg33 : g 33 = Fr) (eg34 : g 34 = To) (eg35 : g 35 = Ln) (eg36 : g 36 = Kd) (eg44 : g 44 = Tm) (eg46 : g 46 = Lw) (eg38 : g 38 = Mt) (ef32 : f 32 = (K 76)) (ef37 : f 37 = dp) (ef354 : f 354 = S) (ef45 : f 45 = (K 79)) (ef47 : f 47 = (K 80)) (hL : LwN E f g (if 0 ≤ K 80 ∧ K 80 < K 79 then Lw (K 80) else -1) cl) (hK : KOK K) (hP : FrA Fr To Ln Kd dp K) (hS : z31 S) (t0 : Tm 0 = K 28) (t2 : Tm 2 = K 75) (hMt : ∀ k : Int, 0 ≤ k → k ≤ 7 → Mt k = K (20 + k)) : CM l E MX7_goneIn 6 [.ref (E.1 31), .ref (E.1 63)] f g j (PI (fun r f' g' j' => (r = gone K cl) ∧ eqx [354] f f' ∧ eqx [352, 353, 355, 356, 384] g g' ∧ j' = j)) := by
  refine CM.intro [some (.ref (E.1 31)), some (.ref (E.1 63))] (by decide) (Nat.le_of_ble_eq_true rfl) rfl (fun d hd h0 h hH hA => ?_)
  have hfE : eqx [354] f f := eqx.rf
  have hgE : eqx [352, 353, 355, 356, 384] g g := eqx.rf
  have h79 := hK.2.2.2.2.2.2.2.2.2.2.1
  have hn := hK.1
  have h28 := hK.2.2.2.1
  refine z_ald_0 (TX7_goneIn.at 0 rfl) ?_
  refine zc_getO (m := 0) (s := 9) (k := 383) (hH.lv (by decide)) (TX7_goneIn.at 1 rfl) fl7_60 hH rfl rfl (by decide) (by decide) ?_
  refine z_ald_1 (TX7_goneIn.at 2 rfl) ?_
  refine z_ald_1 (TX7_goneIn.at 3 rfl) ?_
  refine zc_callO (m := 1) (As := []) (c_lawIn1 eg46 ef45 ef47 h79.1 h79.2) (hH.lv (by decide)) (TX7_goneIn.at 4 rfl) c7_135 rfl rfl hH hA (by omega) (Nat.le_of_ble_eq_true rfl) (fun y6 f6 g6 j6 h q6 hH hA => ?_)
  obtain ⟨q6, xf, xg, xj⟩ := q6
  rw [xj] at hH
  have ef32 := (xf 32 (by decide)).trans ef32
  have ef37 := (xf 37 (by decide)).trans ef37
  have ef354 := (xf 354 (by decide)).trans ef354
  have ef45 := (xf 45 (by decide)).trans ef45
  have ef47 := (xf 47 (by decide)).trans ef47
  have hfE := hfE.trans xf (by decide)
  have eg33 := (xg 33 (by decide)).trans eg33
  have eg34 := (xg 34 (by decide)).trans eg34
  have eg35 := (xg 35 (by decide)).trans eg35
  have eg36 := (xg 36 (by decide)).trans eg36
  have eg44 := (xg 44 (by decide)).trans eg44
  have eg46 := (xg 46 (by decide)).trans eg46
  have eg38 := (xg 38 (by decide)).trans eg38
  have hgE := hgE.trans xg (by decide)
  have qL := q6
  have hL := LwN_cg hL xf xg
  rw [← qL] at hL
  refine zc_callV2 (m := 11) (c_measY1 eg33 eg34 eg35 eg36 eg44 ef32 ef37 ef354 hL hK hP hS t0 t2) (hH.lv (by decide)) (TX7_goneIn.at 5 rfl) c7_139 rfl rfl hH hA (by omega) (Nat.le_of_ble_eq_true rfl) (fun f9 g9 j9 h q9 hH hA => ?_)
  obtain ⟨q9, xf, xg, xj⟩ := q9
  rw [xj] at hH
  have ef32 := (xf 32 (by decide)).trans ef32
  have ef37 := (xf 37 (by decide)).trans ef37
  have ef45 := (xf 45 (by decide)).trans ef45
  have ef47 := (xf 47 (by decide)).trans ef47
  have hfE := hfE.trans xf (by decide)
  have eg33 := (xg 33 (by decide)).trans eg33
  have eg34 := (xg 34 (by decide)).trans eg34
  have eg35 := (xg 35 (by decide)).trans eg35
  have eg36 := (xg 36 (by decide)).trans eg36
  have eg44 := (xg 44 (by decide)).trans eg44
  have eg46 := (xg 46 (by decide)).trans eg46
  have eg38 := (xg 38 (by decide)).trans eg38
  have hgE := hgE.trans xg (by decide)
  have qL := q9
  obtain ⟨hT, hct⟩ := qL
  obtain ⟨BX, eg352⟩ : ∃ z, g9 352 = z := ⟨_, rfl⟩
  obtain ⟨HX, eg353⟩ : ∃ z, g9 353 = z := ⟨_, rfl⟩
  obtain ⟨S2, ef354⟩ : ∃ z, f9 354 = z := ⟨_, rfl⟩
  rw [eg352, eg353, ef354] at hT
  rw [ef354] at hct
  refine z_ald_0 (TX7_goneIn.at 6 rfl) ?_
  refine zc_getO (m := 0) (s := 9) (k := 383) (hH.lv (by decide)) (TX7_goneIn.at 7 rfl) fl7_60 hH rfl rfl (by decide) (by decide) ?_
  refine z_ald_1 (TX7_goneIn.at 8 rfl) ?_
  refine zc_callV1 (m := 11) (c_sprM1 eg33 eg34 eg352 eg353 rfl eg38 ef32 ef354 hT hMt hK.2.2.1) (hH.lv (by decide)) (TX7_goneIn.at 9 rfl) c7_149 rfl rfl hH hA (by omega) (Nat.le_of_ble_eq_true rfl) (fun f17 g17 j17 h q17 hH hA => ?_)
  obtain ⟨q17, xf, xg, xj⟩ := q17
  rw [xj] at hH
  have ef32 := (xf 32 (by decide)).trans ef32
  have ef37 := (xf 37 (by decide)).trans ef37
  have ef354 := (xf 354 (by decide)).trans ef354
  have ef45 := (xf 45 (by decide)).trans ef45
  have ef47 := (xf 47 (by decide)).trans ef47
  have hfE := hfE.trans xf (by decide)
  have eg33 := (xg 33 (by decide)).trans eg33
  have eg34 := (xg 34 (by decide)).trans eg34
  have eg35 := (xg 35 (by decide)).trans eg35
  have eg36 := (xg 36 (by decide)).trans eg36
  have eg44 := (xg 44 (by decide)).trans eg44
  have eg46 := (xg 46 (by decide)).trans eg46
  have eg38 := (xg 38 (by decide)).trans eg38
  have eg352 := (xg 352 (by decide)).trans eg352
  have eg353 := (xg 353 (by decide)).trans eg353
  have hgE := hgE.trans xg (by decide)
  have qL := q17
  have hI := qL
  rw [fire_mt hK hct] at hI
  obtain ⟨X17, eg355⟩ : ∃ z, g17 355 = z := ⟨_, rfl⟩
  rw [eg355] at hI
  refine z_ald_0 (TX7_goneIn.at 10 rfl) ?_
  refine zc_getO (m := 0) (s := 9) (k := 383) (hH.lv (by decide)) (TX7_goneIn.at 11 rfl) fl7_60 hH rfl rfl (by decide) (by decide) ?_
  refine z_ald_1 (TX7_goneIn.at 12 rfl) ?_
  refine zc_callI1 (m := 11) (c_gone1 eg33 eg34 eg352 eg353 eg355 eg44 ef32 ef354 hI (by omega) (by omega)) (hH.lv (by decide)) (TX7_goneIn.at 13 rfl) c7_305 rfl rfl hH hA (by omega) (Nat.le_of_ble_eq_true rfl) (fun x25 f25 g25 j25 h r25 q25 hH hA => ?_)
  obtain ⟨q25, xf, xg, xj⟩ := q25
  rw [xj] at hH
  have ef32 := (xf 32 (by decide)).trans ef32
  have ef37 := (xf 37 (by decide)).trans ef37
  have ef354 := (xf 354 (by decide)).trans ef354
  have ef45 := (xf 45 (by decide)).trans ef45
  have ef47 := (xf 47 (by decide)).trans ef47
  have hfE := hfE.trans xf (by decide)
  have eg33 := (xg 33 (by decide)).trans eg33
  have eg34 := (xg 34 (by decide)).trans eg34
  have eg35 := (xg 35 (by decide)).trans eg35
  have eg36 := (xg 36 (by decide)).trans eg36
  have eg44 := (xg 44 (by decide)).trans eg44
  have eg46 := (xg 46 (by decide)).trans eg46
  have eg38 := (xg 38 (by decide)).trans eg38
  have eg352 := (xg 352 (by decide)).trans eg352
  have eg353 := (xg 353 (by decide)).trans eg353
  have eg355 := (xg 355 (by decide)).trans eg355
  have hgE := hgE.trans xg (by decide)
  have qL := q25
  rw [t0, fire_go hK hct] at qL
  subst qL
  refine zc_iret (TX7_goneIn.at 14 rfl) rfl hH hA (by omega) ?_
  exact ⟨rfl, hfE, hgE, rfl⟩

set_option maxHeartbeats 4000000 in
set_option maxRecDepth 100000 in
theorem c_goneIn3 {l : Launch} {E : cE} {f : mF} {g j : mA} {Fr : Int → Int} {To : Int → Int} {Ln : Int → Int} {Kd : Int → Int} {Tm : Int → Int} {Lw : Int → Int} {Mt : Int → Int} {dp : Int} {S : Int} {K : Int → Int} {cl : List Cla} (eg97 : g 97 = Fr) (eg98 : g 98 = To) (eg99 : g 99 = Ln) (eg100 : g 100 = Kd) (eg108 : g 108 = Tm) (eg110 : g 110 = Lw) (eg102 : g 102 = Mt) (ef96 : f 96 = (K 76)) (ef101 : f 101 = dp) (ef354 : f 354 = S) (ef109 : f 109 = (K 79)) (ef111 : f 111 = (K 80)) (hL : LwN E f g (if 0 ≤ K 80 ∧ K 80 < K 79 then Lw (K 80) else -1) cl) (hK : KOK K) (hP : FrA Fr To Ln Kd dp K) (hS : z31 S) (t0 : Tm 0 = K 28) (t2 : Tm 2 = K 75) (hMt : ∀ k : Int, 0 ≤ k → k ≤ 7 → Mt k = K (20 + k)) : CM l E MX7_goneIn 6 [.ref (E.1 31), .ref (E.1 127)] f g j (PI (fun r f' g' j' => (r = gone K cl) ∧ eqx [354] f f' ∧ eqx [352, 353, 355, 356, 384] g g' ∧ j' = j)) := by
  refine CM.intro [some (.ref (E.1 31)), some (.ref (E.1 127))] (by decide) (Nat.le_of_ble_eq_true rfl) rfl (fun d hd h0 h hH hA => ?_)
  have hfE : eqx [354] f f := eqx.rf
  have hgE : eqx [352, 353, 355, 356, 384] g g := eqx.rf
  have h79 := hK.2.2.2.2.2.2.2.2.2.2.1
  have hn := hK.1
  have h28 := hK.2.2.2.1
  refine z_ald_0 (TX7_goneIn.at 0 rfl) ?_
  refine zc_getO (m := 0) (s := 9) (k := 383) (hH.lv (by decide)) (TX7_goneIn.at 1 rfl) fl7_60 hH rfl rfl (by decide) (by decide) ?_
  refine z_ald_1 (TX7_goneIn.at 2 rfl) ?_
  refine z_ald_1 (TX7_goneIn.at 3 rfl) ?_
  refine zc_callO (m := 3) (As := []) (c_lawIn3 eg110 ef109 ef111 h79.1 h79.2) (hH.lv (by decide)) (TX7_goneIn.at 4 rfl) c7_135 rfl rfl hH hA (by omega) (Nat.le_of_ble_eq_true rfl) (fun y6 f6 g6 j6 h q6 hH hA => ?_)
  obtain ⟨q6, xf, xg, xj⟩ := q6
  rw [xj] at hH
  have ef96 := (xf 96 (by decide)).trans ef96
  have ef101 := (xf 101 (by decide)).trans ef101
  have ef354 := (xf 354 (by decide)).trans ef354
  have ef109 := (xf 109 (by decide)).trans ef109
  have ef111 := (xf 111 (by decide)).trans ef111
  have hfE := hfE.trans xf (by decide)
  have eg97 := (xg 97 (by decide)).trans eg97
  have eg98 := (xg 98 (by decide)).trans eg98
  have eg99 := (xg 99 (by decide)).trans eg99
  have eg100 := (xg 100 (by decide)).trans eg100
  have eg108 := (xg 108 (by decide)).trans eg108
  have eg110 := (xg 110 (by decide)).trans eg110
  have eg102 := (xg 102 (by decide)).trans eg102
  have hgE := hgE.trans xg (by decide)
  have qL := q6
  have hL := LwN_cg hL xf xg
  rw [← qL] at hL
  refine zc_callV2 (m := 11) (c_measY3 eg97 eg98 eg99 eg100 eg108 ef96 ef101 ef354 hL hK hP hS t0 t2) (hH.lv (by decide)) (TX7_goneIn.at 5 rfl) c7_139 rfl rfl hH hA (by omega) (Nat.le_of_ble_eq_true rfl) (fun f9 g9 j9 h q9 hH hA => ?_)
  obtain ⟨q9, xf, xg, xj⟩ := q9
  rw [xj] at hH
  have ef96 := (xf 96 (by decide)).trans ef96
  have ef101 := (xf 101 (by decide)).trans ef101
  have ef109 := (xf 109 (by decide)).trans ef109
  have ef111 := (xf 111 (by decide)).trans ef111
  have hfE := hfE.trans xf (by decide)
  have eg97 := (xg 97 (by decide)).trans eg97
  have eg98 := (xg 98 (by decide)).trans eg98
  have eg99 := (xg 99 (by decide)).trans eg99
  have eg100 := (xg 100 (by decide)).trans eg100
  have eg108 := (xg 108 (by decide)).trans eg108
  have eg110 := (xg 110 (by decide)).trans eg110
  have eg102 := (xg 102 (by decide)).trans eg102
  have hgE := hgE.trans xg (by decide)
  have qL := q9
  obtain ⟨hT, hct⟩ := qL
  obtain ⟨BX, eg352⟩ : ∃ z, g9 352 = z := ⟨_, rfl⟩
  obtain ⟨HX, eg353⟩ : ∃ z, g9 353 = z := ⟨_, rfl⟩
  obtain ⟨S2, ef354⟩ : ∃ z, f9 354 = z := ⟨_, rfl⟩
  rw [eg352, eg353, ef354] at hT
  rw [ef354] at hct
  refine z_ald_0 (TX7_goneIn.at 6 rfl) ?_
  refine zc_getO (m := 0) (s := 9) (k := 383) (hH.lv (by decide)) (TX7_goneIn.at 7 rfl) fl7_60 hH rfl rfl (by decide) (by decide) ?_
  refine z_ald_1 (TX7_goneIn.at 8 rfl) ?_
  refine zc_callV1 (m := 11) (c_sprM3 eg97 eg98 eg352 eg353 rfl eg102 ef96 ef354 hT hMt hK.2.2.1) (hH.lv (by decide)) (TX7_goneIn.at 9 rfl) c7_149 rfl rfl hH hA (by omega) (Nat.le_of_ble_eq_true rfl) (fun f17 g17 j17 h q17 hH hA => ?_)
  obtain ⟨q17, xf, xg, xj⟩ := q17
  rw [xj] at hH
  have ef96 := (xf 96 (by decide)).trans ef96
  have ef101 := (xf 101 (by decide)).trans ef101
  have ef354 := (xf 354 (by decide)).trans ef354
  have ef109 := (xf 109 (by decide)).trans ef109
  have ef111 := (xf 111 (by decide)).trans ef111
  have hfE := hfE.trans xf (by decide)
  have eg97 := (xg 97 (by decide)).trans eg97
  have eg98 := (xg 98 (by decide)).trans eg98
  have eg99 := (xg 99 (by decide)).trans eg99
  have eg100 := (xg 100 (by decide)).trans eg100
  have eg108 := (xg 108 (by decide)).trans eg108
  have eg110 := (xg 110 (by decide)).trans eg110
  have eg102 := (xg 102 (by decide)).trans eg102
  have eg352 := (xg 352 (by decide)).trans eg352
  have eg353 := (xg 353 (by decide)).trans eg353
  have hgE := hgE.trans xg (by decide)
  have qL := q17
  have hI := qL
  rw [fire_mt hK hct] at hI
  obtain ⟨X17, eg355⟩ : ∃ z, g17 355 = z := ⟨_, rfl⟩
  rw [eg355] at hI
  refine z_ald_0 (TX7_goneIn.at 10 rfl) ?_
  refine zc_getO (m := 0) (s := 9) (k := 383) (hH.lv (by decide)) (TX7_goneIn.at 11 rfl) fl7_60 hH rfl rfl (by decide) (by decide) ?_
  refine z_ald_1 (TX7_goneIn.at 12 rfl) ?_
  refine zc_callI1 (m := 11) (c_gone3 eg97 eg98 eg352 eg353 eg355 eg108 ef96 ef354 hI (by omega) (by omega)) (hH.lv (by decide)) (TX7_goneIn.at 13 rfl) c7_305 rfl rfl hH hA (by omega) (Nat.le_of_ble_eq_true rfl) (fun x25 f25 g25 j25 h r25 q25 hH hA => ?_)
  obtain ⟨q25, xf, xg, xj⟩ := q25
  rw [xj] at hH
  have ef96 := (xf 96 (by decide)).trans ef96
  have ef101 := (xf 101 (by decide)).trans ef101
  have ef354 := (xf 354 (by decide)).trans ef354
  have ef109 := (xf 109 (by decide)).trans ef109
  have ef111 := (xf 111 (by decide)).trans ef111
  have hfE := hfE.trans xf (by decide)
  have eg97 := (xg 97 (by decide)).trans eg97
  have eg98 := (xg 98 (by decide)).trans eg98
  have eg99 := (xg 99 (by decide)).trans eg99
  have eg100 := (xg 100 (by decide)).trans eg100
  have eg108 := (xg 108 (by decide)).trans eg108
  have eg110 := (xg 110 (by decide)).trans eg110
  have eg102 := (xg 102 (by decide)).trans eg102
  have eg352 := (xg 352 (by decide)).trans eg352
  have eg353 := (xg 353 (by decide)).trans eg353
  have eg355 := (xg 355 (by decide)).trans eg355
  have hgE := hgE.trans xg (by decide)
  have qL := q25
  rw [t0, fire_go hK hct] at qL
  subst qL
  refine zc_iret (TX7_goneIn.at 14 rfl) rfl hH hA (by omega) ?_
  exact ⟨rfl, hfE, hgE, rfl⟩

set_option maxHeartbeats 4000000 in
set_option maxRecDepth 100000 in
theorem c_burning {l : Launch} {E : cE} {f : mF} {g j : mA} {Fr : Int → Int} {To : Int → Int} {Ln : Int → Int} {Kd : Int → Int} {Tm : Int → Int} {Lw : Int → Int} {Mt : Int → Int} {dp : Int} {S : Int} {x w : Int} {K : Int → Int} {cl : List Cla} (eg33 : g 33 = Fr) (eg34 : g 34 = To) (eg35 : g 35 = Ln) (eg36 : g 36 = Kd) (eg44 : g 44 = Tm) (eg46 : g 46 = Lw) (eg38 : g 38 = Mt) (ef32 : f 32 = (K 76)) (ef37 : f 37 = dp) (ef354 : f 354 = S) (ef45 : f 45 = (K 79)) (ef47 : f 47 = (K 80)) (hx : zIn x) (hw : zIn w) (hL : LwN E f g (if 0 ≤ K 80 ∧ K 80 < K 79 then Lw (K 80) else -1) cl) (hK : KOK K) (hP : FrA Fr To Ln Kd dp K) (hS : z31 S) (t0 : Tm 0 = K 28) (t2 : Tm 2 = K 75) (hMt : ∀ k : Int, 0 ≤ k → k ≤ 7 → Mt k = K (20 + k)) (x0 : 0 ≤ x) (x1 : x < K 76) : CM l E MX7_burning 6 [.ref (E.1 31), vI x, vI w] f g j (PI (fun r f' g' j' => (r = (if w = 5 then brn K cl x else if w = 6 then b2i (ctc K cl x) else if w = 7 then orN (oK K cl (ctS K cl) (mtD K cl) x) else -1)) ∧ eqx [354] f f' ∧ eqx [352, 353, 355, 356, 384] g g' ∧ j' = j)) := by
  refine CM.intro [some (.ref (E.1 31)), some (vI x), some (vI w)] (by decide) (Nat.le_of_ble_eq_true rfl) rfl (fun d hd h0 h hH hA => ?_)
  have hfE : eqx [354] f f := eqx.rf
  have hgE : eqx [352, 353, 355, 356, 384] g g := eqx.rf
  have h79 := hK.2.2.2.2.2.2.2.2.2.2.1
  have hn := hK.1
  refine z_ild_2 (TX7_burning.at 0 rfl) ?_
  refine z_iconst (TX7_burning.at 1 rfl) ?_
  refine z_icmp_lt (tgt := 11) (TX7_burning.at 2 rfl) rfl (by omega) (by omega) (fun c1 => ?_) (fun c1 => ?_)
  · skip
    refine z_iconst (TX7_burning.at 6 rfl) ?_
    refine zc_iret (TX7_burning.at 7 rfl) rfl hH hA (by omega) ?_
    exact ⟨by rw [if_neg (by omega), if_neg (by omega), if_neg (by omega)], hfE, hgE, rfl⟩
  · skip
    refine z_ild_2 (TX7_burning.at 3 rfl) ?_
    refine z_bipush (by decide) (TX7_burning.at 4 rfl) ?_
    refine z_icmp_le (tgt := 13) (TX7_burning.at 5 rfl) rfl (by omega) (by omega) (fun c2 => ?_) (fun c2 => ?_)
    · skip
      refine z_ald_0 (TX7_burning.at 8 rfl) ?_
      refine zc_getO (m := 0) (s := 9) (k := 383) (hH.lv (by decide)) (TX7_burning.at 9 rfl) fl7_60 hH rfl rfl (by decide) (by decide) ?_
      refine z_ald_0 (TX7_burning.at 10 rfl) ?_
      refine zc_getO (m := 0) (s := 0) (k := 63) (hH.lv (by decide)) (TX7_burning.at 11 rfl) fl7_12 hH rfl rfl (by decide) (by decide) ?_
      refine z_ald_0 (TX7_burning.at 12 rfl) ?_
      refine zc_getO (m := 0) (s := 0) (k := 63) (hH.lv (by decide)) (TX7_burning.at 13 rfl) fl7_12 hH rfl rfl (by decide) (by decide) ?_
      refine zc_callO (m := 1) (As := []) (c_lawIn1 eg46 ef45 ef47 h79.1 h79.2) (hH.lv (by decide)) (TX7_burning.at 14 rfl) c7_135 rfl rfl hH hA (by omega) (Nat.le_of_ble_eq_true rfl) (fun y25 f25 g25 j25 h q25 hH hA => ?_)
      obtain ⟨q25, xf, xg, xj⟩ := q25
      rw [xj] at hH
      have ef32 := (xf 32 (by decide)).trans ef32
      have ef37 := (xf 37 (by decide)).trans ef37
      have ef354 := (xf 354 (by decide)).trans ef354
      have ef45 := (xf 45 (by decide)).trans ef45
      have ef47 := (xf 47 (by decide)).trans ef47
      have hfE := hfE.trans xf (by decide)
      have eg33 := (xg 33 (by decide)).trans eg33
      have eg34 := (xg 34 (by decide)).trans eg34
      have eg35 := (xg 35 (by decide)).trans eg35
      have eg36 := (xg 36 (by decide)).trans eg36
      have eg44 := (xg 44 (by decide)).trans eg44
      have eg46 := (xg 46 (by decide)).trans eg46
      have eg38 := (xg 38 (by decide)).trans eg38
      have hgE := hgE.trans xg (by decide)
      have qL := q25
      have hL := LwN_cg hL xf xg
      rw [← qL] at hL
      refine zc_callV2 (m := 11) (c_measY1 eg33 eg34 eg35 eg36 eg44 ef32 ef37 ef354 hL hK hP hS t0 t2) (hH.lv (by decide)) (TX7_burning.at 15 rfl) c7_139 rfl rfl hH hA (by omega) (Nat.le_of_ble_eq_true rfl) (fun f28 g28 j28 h q28 hH hA => ?_)
      obtain ⟨q28, xf, xg, xj⟩ := q28
      rw [xj] at hH
      have ef32 := (xf 32 (by decide)).trans ef32
      have ef37 := (xf 37 (by decide)).trans ef37
      have ef45 := (xf 45 (by decide)).trans ef45
      have ef47 := (xf 47 (by decide)).trans ef47
      have hfE := hfE.trans xf (by decide)
      have eg33 := (xg 33 (by decide)).trans eg33
      have eg34 := (xg 34 (by decide)).trans eg34
      have eg35 := (xg 35 (by decide)).trans eg35
      have eg36 := (xg 36 (by decide)).trans eg36
      have eg44 := (xg 44 (by decide)).trans eg44
      have eg46 := (xg 46 (by decide)).trans eg46
      have eg38 := (xg 38 (by decide)).trans eg38
      have hgE := hgE.trans xg (by decide)
      have qL := q28
      obtain ⟨hT, hct⟩ := qL
      obtain ⟨BX, eg352⟩ : ∃ z, g28 352 = z := ⟨_, rfl⟩
      obtain ⟨HX, eg353⟩ : ∃ z, g28 353 = z := ⟨_, rfl⟩
      obtain ⟨S2, ef354⟩ : ∃ z, f28 354 = z := ⟨_, rfl⟩
      rw [eg352, eg353, ef354] at hT
      rw [ef354] at hct
      refine z_ild_2 (TX7_burning.at 16 rfl) ?_
      refine z_iconst (TX7_burning.at 17 rfl) ?_
      refine z_icmp_ne (tgt := 46) (TX7_burning.at 18 rfl) rfl (by omega) (by omega) (fun c3 => ?_) (fun c3 => ?_)
      · skip
        refine z_ild_2 (TX7_burning.at 25 rfl) ?_
        refine z_bipush (by decide) (TX7_burning.at 26 rfl) ?_
        refine z_icmp_ne (tgt := 64) (TX7_burning.at 27 rfl) rfl (by omega) (by omega) (fun c4 => ?_) (fun c4 => ?_)
        · skip
          refine z_ald_0 (TX7_burning.at 34 rfl) ?_
          refine zc_getO (m := 0) (s := 9) (k := 383) (hH.lv (by decide)) (TX7_burning.at 35 rfl) fl7_60 hH rfl rfl (by decide) (by decide) ?_
          refine z_ald_0 (TX7_burning.at 36 rfl) ?_
          refine zc_getO (m := 0) (s := 0) (k := 63) (hH.lv (by decide)) (TX7_burning.at 37 rfl) fl7_12 hH rfl rfl (by decide) (by decide) ?_
          refine zc_callV1 (m := 11) (c_sprM1 eg33 eg34 eg352 eg353 rfl eg38 ef32 ef354 hT hMt hK.2.2.1) (hH.lv (by decide)) (TX7_burning.at 38 rfl) c7_149 rfl rfl hH hA (by omega) (Nat.le_of_ble_eq_true rfl) (fun f72 g72 j72 h q72 hH hA => ?_)
          obtain ⟨q72, xf, xg, xj⟩ := q72
          rw [xj] at hH
          have ef32 := (xf 32 (by decide)).trans ef32
          have ef37 := (xf 37 (by decide)).trans ef37
          have ef354 := (xf 354 (by decide)).trans ef354
          have ef45 := (xf 45 (by decide)).trans ef45
          have ef47 := (xf 47 (by decide)).trans ef47
          have hfE := hfE.trans xf (by decide)
          have eg33 := (xg 33 (by decide)).trans eg33
          have eg34 := (xg 34 (by decide)).trans eg34
          have eg35 := (xg 35 (by decide)).trans eg35
          have eg36 := (xg 36 (by decide)).trans eg36
          have eg44 := (xg 44 (by decide)).trans eg44
          have eg46 := (xg 46 (by decide)).trans eg46
          have eg38 := (xg 38 (by decide)).trans eg38
          have eg352 := (xg 352 (by decide)).trans eg352
          have eg353 := (xg 353 (by decide)).trans eg353
          have hgE := hgE.trans xg (by decide)
          have qL := q72
          have hI := qL
          rw [fire_mt hK hct] at hI
          obtain ⟨X72, eg355⟩ : ∃ z, g72 355 = z := ⟨_, rfl⟩
          rw [eg355] at hI
          refine z_ald_0 (TX7_burning.at 39 rfl) ?_
          refine zc_getO (m := 0) (s := 9) (k := 383) (hH.lv (by decide)) (TX7_burning.at 40 rfl) fl7_60 hH rfl rfl (by decide) (by decide) ?_
          refine z_ald_0 (TX7_burning.at 41 rfl) ?_
          refine zc_getO (m := 0) (s := 0) (k := 63) (hH.lv (by decide)) (TX7_burning.at 42 rfl) fl7_12 hH rfl rfl (by decide) (by decide) ?_
          refine z_ild_1 (TX7_burning.at 43 rfl) ?_
          refine zc_callI2 (m := 11) (c_outOf1 eg33 eg34 eg352 eg353 eg355 ef32 ef354 (by omega) hI (by omega) (by omega)) (hH.lv (by decide)) (TX7_burning.at 44 rfl) c7_153 rfl rfl hH hA (by omega) (Nat.le_of_ble_eq_true rfl) (fun x84 f84 g84 j84 h r84 q84 hH hA => ?_)
          obtain ⟨q84, xf, xg, xj⟩ := q84
          rw [xj] at hH
          have ef32 := (xf 32 (by decide)).trans ef32
          have ef37 := (xf 37 (by decide)).trans ef37
          have ef354 := (xf 354 (by decide)).trans ef354
          have ef45 := (xf 45 (by decide)).trans ef45
          have ef47 := (xf 47 (by decide)).trans ef47
          have hfE := hfE.trans xf (by decide)
          have eg33 := (xg 33 (by decide)).trans eg33
          have eg34 := (xg 34 (by decide)).trans eg34
          have eg35 := (xg 35 (by decide)).trans eg35
          have eg36 := (xg 36 (by decide)).trans eg36
          have eg44 := (xg 44 (by decide)).trans eg44
          have eg46 := (xg 46 (by decide)).trans eg46
          have eg38 := (xg 38 (by decide)).trans eg38
          have eg352 := (xg 352 (by decide)).trans eg352
          have eg353 := (xg 353 (by decide)).trans eg353
          have eg355 := (xg 355 (by decide)).trans eg355
          have hgE := hgE.trans xg (by decide)
          have qL := q84
          rw [fire_o hK hct (by omega) (by omega)] at qL
          subst qL
          refine zc_iret (TX7_burning.at 45 rfl) rfl hH hA (by omega) ?_
          exact ⟨by rw [if_neg (by omega), if_neg (by omega), if_pos (by omega)], hfE, hgE, rfl⟩
        · skip
          refine z_ald_0 (TX7_burning.at 28 rfl) ?_
          refine zc_getO (m := 0) (s := 9) (k := 383) (hH.lv (by decide)) (TX7_burning.at 29 rfl) fl7_60 hH rfl rfl (by decide) (by decide) ?_
          refine zc_getIE (m := 11) (s := 2) (k := 354) (hH.lv (by decide)) ef354 (TX7_burning.at 30 rfl) fl7_146 hH rfl rfl (by decide) (by decide) (fun r56 => ?_)
          have hTz := hT.1.zin
          refine z_ild_1 (TX7_burning.at 31 rfl) ?_
          refine zs_call2 (c_bit hT.1 (by omega)) (TX7_burning.at 32 rfl) c7_128 rfl (by omega) (Nat.le_of_ble_eq_true rfl) (fun r60 => ?_)
          refine zc_iret (TX7_burning.at 33 rfl) rfl hH hA (by omega) ?_
          exact ⟨by rw [if_neg (by omega), if_pos (by omega)]; exact b2i_cg (hct x x0 x1), hfE, hgE, rfl⟩
      · skip
        refine z_ald_0 (TX7_burning.at 19 rfl) ?_
        refine zc_getO (m := 0) (s := 9) (k := 383) (hH.lv (by decide)) (TX7_burning.at 20 rfl) fl7_60 hH rfl rfl (by decide) (by decide) ?_
        refine zc_getA (m := 11) (s := 0) (k := 352) (hH.lv (by decide)) (TX7_burning.at 21 rfl) fl7_143 hH rfl rfl (by decide) (by decide) ?_
        refine z_ild_1 (TX7_burning.at 22 rfl) ?_
        refine zcf_iald (k := 352) (N := 10) (hH.lv (by decide)) (by decide) rfl eg352 (TX7_burning.at 23 rfl) hH (by decide) (by omega) (show _ < ((10 : Nat) : Int) by omega) (fun r44 => ?_)
        refine zc_iret (TX7_burning.at 24 rfl) rfl hH hA (by omega) ?_
        exact ⟨by rw [if_pos (by omega)]; exact (hT.2.2.2.1 x x0 x1).2.2, hfE, hgE, rfl⟩
    · skip
      refine z_iconst (TX7_burning.at 6 rfl) ?_
      refine zc_iret (TX7_burning.at 7 rfl) rfl hH hA (by omega) ?_
      exact ⟨by rw [if_neg (by omega), if_neg (by omega), if_neg (by omega)], hfE, hgE, rfl⟩

theorem b2i_K {p : Prop} [Decidable p] {v : Int} (h : v = 0 ∨ v = 1) (hp : p ↔ v = 1) : b2i p = v := by
  rcases h with h | h
  · rw [b2i_f (fun z => absurd (hp.mp z) (by omega)), h]
  · rw [b2i_t (hp.mpr h), h]
set_option maxHeartbeats 4000000 in
set_option maxRecDepth 100000 in
theorem c_of {l : Launch} {E : cE} {f : mF} {g j : mA} {Fr : Int → Int} {To : Int → Int} {Ln : Int → Int} {Kd : Int → Int} {Tm : Int → Int} {Lw : Int → Int} {Mt : Int → Int} {dp : Int} {S : Int} {x w : Int} {K : Int → Int} {cl : List Cla} (eg33 : g 33 = Fr) (eg34 : g 34 = To) (eg35 : g 35 = Ln) (eg36 : g 36 = Kd) (eg44 : g 44 = Tm) (eg46 : g 46 = Lw) (eg38 : g 38 = Mt) (ef32 : f 32 = (K 76)) (ef37 : f 37 = dp) (ef354 : f 354 = S) (ef45 : f 45 = (K 79)) (ef47 : f 47 = (K 80)) (hx : zIn x) (hw : zIn w) (hL : LwN E f g (if 0 ≤ K 80 ∧ K 80 < K 79 then Lw (K 80) else -1) cl) (hK : KOK K) (hP : FrA Fr To Ln Kd dp K) (hS : z31 S) (t0 : Tm 0 = K 28) (t2 : Tm 2 = K 75) (hMt : ∀ k : Int, 0 ≤ k → k ≤ 7 → Mt k = K (20 + k)) : CM l E MX7_of 7 [.ref (E.1 31), vI x, vI w] f g j (PI (fun r f' g' j' => (r = ofV K cl x w) ∧ eqx [354] f f' ∧ eqx [352, 353, 355, 356, 384] g g' ∧ j' = j)) := by
  refine CM.intro [some (.ref (E.1 31)), some (vI x), some (vI w)] (by decide) (Nat.le_of_ble_eq_true rfl) rfl (fun d hd h0 h hH hA => ?_)
  have hfE : eqx [354] f f := eqx.rf
  have hgE : eqx [352, 353, 355, 356, 384] g g := eqx.rf
  have h79 := hK.2.2.2.2.2.2.2.2.2.2.1
  have hn := hK.1
  refine z_ald_0 (TX7_of.at 0 rfl) ?_
  refine zc_getO (m := 0) (s := 0) (k := 63) (hH.lv (by decide)) (TX7_of.at 1 rfl) fl7_12 hH rfl rfl (by decide) (by decide) ?_
  refine z_ild_1 (TX7_of.at 2 rfl) ?_
  refine zc_callI1 (m := 1) (c_hasFuse1 ef32 (by omega)) (hH.lv (by decide)) (TX7_of.at 3 rfl) c7_109 rfl rfl hH hA (by omega) (Nat.le_of_ble_eq_true rfl) (fun x5 f5 g5 j5 h r5 q5 hH hA => ?_)
  obtain ⟨q5, xf, xg, xj⟩ := q5
  rw [xj] at hH
  have ef32 := (xf 32 (by decide)).trans ef32
  have ef37 := (xf 37 (by decide)).trans ef37
  have ef354 := (xf 354 (by decide)).trans ef354
  have ef45 := (xf 45 (by decide)).trans ef45
  have ef47 := (xf 47 (by decide)).trans ef47
  have hfE := hfE.trans xf (by decide)
  have eg33 := (xg 33 (by decide)).trans eg33
  have eg34 := (xg 34 (by decide)).trans eg34
  have eg35 := (xg 35 (by decide)).trans eg35
  have eg36 := (xg 36 (by decide)).trans eg36
  have eg44 := (xg 44 (by decide)).trans eg44
  have eg46 := (xg 46 (by decide)).trans eg46
  have eg38 := (xg 38 (by decide)).trans eg38
  have hgE := hgE.trans xg (by decide)
  have qL := q5
  obtain rfl := qL
  have hL := LwN_cg hL xf xg
  refine z_if_neB (tgt := 13) (TX7_of.at 4 rfl) rfl (fun c1 => ?_) (fun c1 => ?_)
  · skip
    have hPx := hP.2 x (by omega) (by omega)
    have hKx := (hK.2.1 x (by omega) (by omega)).1
    refine z_ild_2 (TX7_of.at 7 rfl) ?_
    rcases (show w = 0 ∨ w = 1 ∨ w = 2 ∨ w = 3 ∨ w = 4 ∨ (w < 0 ∨ 4 < w) by omega) with sw0 | sw1 | sw2 | sw3 | sw4 | sw5
    · refine z_swIn (off := 34) (tgt := 48) (TX7_of.at 8 rfl) (by omega) (by omega) (by omega) (by rw [sw0]; rfl) rfl ?_
      refine z_ald_0 (TX7_of.at 9 rfl) ?_
      refine zc_getO (m := 0) (s := 0) (k := 63) (hH.lv (by decide)) (TX7_of.at 10 rfl) fl7_12 hH rfl rfl (by decide) (by decide) ?_
      refine zc_getA (m := 1) (s := 1) (k := 33) (hH.lv (by decide)) (TX7_of.at 11 rfl) fl7_113 hH rfl rfl (by decide) (by decide) ?_
      refine z_ild_1 (TX7_of.at 12 rfl) ?_
      refine zcf_iald (k := 33) (N := 10) (hH.lv (by decide)) (by decide) rfl eg33 (TX7_of.at 13 rfl) hH (by decide) (by omega) (show _ < ((10 : Nat) : Int) by omega) (fun r56 => ?_)
      refine zc_iret (TX7_of.at 14 rfl) rfl hH hA (by omega) ?_
      exact ⟨by unfold ofV; rw [if_neg (by omega), if_pos (by omega)]; exact hPx.1, hfE, hgE, rfl⟩
    · refine z_swIn (off := 44) (tgt := 58) (TX7_of.at 8 rfl) (by omega) (by omega) (by omega) (by rw [sw1]; rfl) rfl ?_
      refine z_ald_0 (TX7_of.at 15 rfl) ?_
      refine zc_getO (m := 0) (s := 0) (k := 63) (hH.lv (by decide)) (TX7_of.at 16 rfl) fl7_12 hH rfl rfl (by decide) (by decide) ?_
      refine zc_getA (m := 1) (s := 2) (k := 34) (hH.lv (by decide)) (TX7_of.at 17 rfl) fl7_116 hH rfl rfl (by decide) (by decide) ?_
      refine z_ild_1 (TX7_of.at 18 rfl) ?_
      refine zcf_iald (k := 34) (N := 10) (hH.lv (by decide)) (by decide) rfl eg34 (TX7_of.at 19 rfl) hH (by decide) (by omega) (show _ < ((10 : Nat) : Int) by omega) (fun r66 => ?_)
      refine zc_iret (TX7_of.at 20 rfl) rfl hH hA (by omega) ?_
      exact ⟨by unfold ofV; rw [if_neg (by omega), if_neg (by omega), if_pos (by omega)]; exact hPx.2.1, hfE, hgE, rfl⟩
    · refine z_swIn (off := 54) (tgt := 68) (TX7_of.at 8 rfl) (by omega) (by omega) (by omega) (by rw [sw2]; rfl) rfl ?_
      refine z_ald_0 (TX7_of.at 21 rfl) ?_
      refine zc_getO (m := 0) (s := 0) (k := 63) (hH.lv (by decide)) (TX7_of.at 22 rfl) fl7_12 hH rfl rfl (by decide) (by decide) ?_
      refine zc_getA (m := 1) (s := 3) (k := 35) (hH.lv (by decide)) (TX7_of.at 23 rfl) fl7_119 hH rfl rfl (by decide) (by decide) ?_
      refine z_ild_1 (TX7_of.at 24 rfl) ?_
      refine zcf_iald (k := 35) (N := 10) (hH.lv (by decide)) (by decide) rfl eg35 (TX7_of.at 25 rfl) hH (by decide) (by omega) (show _ < ((10 : Nat) : Int) by omega) (fun r76 => ?_)
      refine zc_iret (TX7_of.at 26 rfl) rfl hH hA (by omega) ?_
      exact ⟨by unfold ofV; rw [if_neg (by omega), if_neg (by omega), if_neg (by omega), if_pos (by omega)]; exact hPx.2.2.1, hfE, hgE, rfl⟩
    · refine z_swIn (off := 64) (tgt := 78) (TX7_of.at 8 rfl) (by omega) (by omega) (by omega) (by rw [sw3]; rfl) rfl ?_
      refine z_ald_0 (TX7_of.at 27 rfl) ?_
      refine zc_getO (m := 0) (s := 0) (k := 63) (hH.lv (by decide)) (TX7_of.at 28 rfl) fl7_12 hH rfl rfl (by decide) (by decide) ?_
      refine zc_getA (m := 1) (s := 4) (k := 36) (hH.lv (by decide)) (TX7_of.at 29 rfl) fl7_122 hH rfl rfl (by decide) (by decide) ?_
      refine z_ild_1 (TX7_of.at 30 rfl) ?_
      refine zcf_iald (k := 36) (N := 10) (hH.lv (by decide)) (by decide) rfl eg36 (TX7_of.at 31 rfl) hH (by decide) (by omega) (show _ < ((10 : Nat) : Int) by omega) (fun r86 => ?_)
      refine zc_iret (TX7_of.at 32 rfl) rfl hH hA (by omega) ?_
      exact ⟨by unfold ofV; rw [if_neg (by omega), if_neg (by omega), if_neg (by omega), if_neg (by omega), if_pos (by omega)]; exact hPx.2.2.2.1, hfE, hgE, rfl⟩
    · refine z_swIn (off := 74) (tgt := 88) (TX7_of.at 8 rfl) (by omega) (by omega) (by omega) (by rw [sw4]; rfl) rfl ?_
      refine z_ald_0 (TX7_of.at 33 rfl) ?_
      refine zc_getO (m := 0) (s := 0) (k := 63) (hH.lv (by decide)) (TX7_of.at 34 rfl) fl7_12 hH rfl rfl (by decide) (by decide) ?_
      refine zc_getIE (m := 1) (s := 5) (k := 37) (hH.lv (by decide)) ef37 (TX7_of.at 35 rfl) fl7_125 hH rfl rfl (by decide) (by decide) (fun r92 => ?_)
      refine z_ild_1 (TX7_of.at 36 rfl) ?_
      refine zs_call2 (c_bit hP.1 (by omega)) (TX7_of.at 37 rfl) c7_128 rfl (by omega) (Nat.le_of_ble_eq_true rfl) (fun r96 => ?_)
      refine zc_iret (TX7_of.at 38 rfl) rfl hH hA (by omega) ?_
      exact ⟨by unfold ofV; rw [if_neg (by omega), if_neg (by omega), if_neg (by omega), if_neg (by omega), if_neg (by omega), if_pos (by omega)]; exact b2i_K hKx hPx.2.2.2.2, hfE, hgE, rfl⟩
    · refine z_swOut (tgt := 100) (TX7_of.at 8 rfl) (by omega) sw5 rfl ?_
      refine z_ald_0 (TX7_of.at 39 rfl) ?_
      refine z_ild_1 (TX7_of.at 40 rfl) ?_
      refine z_ild_2 (TX7_of.at 41 rfl) ?_
      refine zc_callI2 (m := 0) (c_burning eg33 eg34 eg35 eg36 eg44 eg46 eg38 ef32 ef37 ef354 ef45 ef47 (by omega) (by omega) hL hK hP hS t0 t2 hMt (by omega) (by omega)) (hH.lv (by decide)) (TX7_of.at 42 rfl) c7_132 rfl rfl hH hA (by omega) (Nat.le_of_ble_eq_true rfl) (fun x103 f103 g103 j103 h r103 q103 hH hA => ?_)
      obtain ⟨q103, xf, xg, xj⟩ := q103
      rw [xj] at hH
      have ef32 := (xf 32 (by decide)).trans ef32
      have ef37 := (xf 37 (by decide)).trans ef37
      have ef45 := (xf 45 (by decide)).trans ef45
      have ef47 := (xf 47 (by decide)).trans ef47
      have hfE := hfE.trans xf (by decide)
      have eg33 := (xg 33 (by decide)).trans eg33
      have eg34 := (xg 34 (by decide)).trans eg34
      have eg35 := (xg 35 (by decide)).trans eg35
      have eg36 := (xg 36 (by decide)).trans eg36
      have eg44 := (xg 44 (by decide)).trans eg44
      have eg46 := (xg 46 (by decide)).trans eg46
      have eg38 := (xg 38 (by decide)).trans eg38
      have hgE := hgE.trans xg (by decide)
      have qL := q103
      have hbr := qL
      refine zc_iret (TX7_of.at 43 rfl) rfl hH hA (by omega) ?_
      exact ⟨by unfold ofV; rw [if_neg (by omega), if_neg (by omega), if_neg (by omega), if_neg (by omega), if_neg (by omega), if_neg (by omega)]; exact hbr, hfE, hgE, rfl⟩
  · skip
    refine z_iconst (TX7_of.at 5 rfl) ?_
    refine zc_iret (TX7_of.at 6 rfl) rfl hH hA (by omega) ?_
    exact ⟨by unfold ofV; rw [if_pos (by omega)], hfE, hgE, rfl⟩

set_option maxHeartbeats 4000000 in
set_option maxRecDepth 100000 in
theorem c_at {l : Launch} {E : cE} {f : mF} {g j : mA} {Fr : Int → Int} {To : Int → Int} {Ln : Int → Int} {Kd : Int → Int} {Tm : Int → Int} {Lw : Int → Int} {Mt : Int → Int} {dp : Int} {S : Int} {k w : Int} {K : Int → Int} {cl : List Cla} (eg33 : g 33 = Fr) (eg34 : g 34 = To) (eg35 : g 35 = Ln) (eg36 : g 36 = Kd) (eg44 : g 44 = Tm) (eg46 : g 46 = Lw) (eg38 : g 38 = Mt) (ef32 : f 32 = (K 76)) (ef37 : f 37 = dp) (ef354 : f 354 = S) (ef45 : f 45 = (K 79)) (ef47 : f 47 = (K 80)) (hk : zIn k) (hw : zIn w) (hL : LwN E f g (if 0 ≤ K 80 ∧ K 80 < K 79 then Lw (K 80) else -1) cl) (hK : KOK K) (hP : FrA Fr To Ln Kd dp K) (hS : z31 S) (t0 : Tm 0 = K 28) (t2 : Tm 2 = K 75) (hMt : ∀ k : Int, 0 ≤ k → k ≤ 7 → Mt k = K (20 + k)) : CM l E MX7_at 7 [.ref (E.1 31), vI k, vI w] f g j (PI (fun r f' g' j' => (r = atV K cl k w) ∧ eqx [354] f f' ∧ eqx [352, 353, 355, 356, 384] g g' ∧ j' = j)) := by
  refine CM.intro [some (.ref (E.1 31)), some (vI k), some (vI w)] (by decide) (Nat.le_of_ble_eq_true rfl) rfl (fun d hd h0 h hH hA => ?_)
  have hfE : eqx [354] f f := eqx.rf
  have hgE : eqx [352, 353, 355, 356, 384] g g := eqx.rf
  have h79 := hK.2.2.2.2.2.2.2.2.2.2.1
  have hn := hK.1
  refine z_ild_1 (TX7_at.at 0 rfl) ?_
  refine zs_call1 (c_isKnot (by omega)) (TX7_at.at 1 rfl) c7_157 rfl (by omega) (Nat.le_of_ble_eq_true rfl) (fun r1 => ?_)
  refine z_if_neB (tgt := 9) (TX7_at.at 2 rfl) rfl (fun c1 => ?_) (fun c1 => ?_)
  · skip
    refine z_ild_2 (TX7_at.at 5 rfl) ?_
    refine z_if_ne (tgt := 23) (TX7_at.at 6 rfl) rfl (by omega) (fun c2 => ?_) (fun c2 => ?_)
    · skip
      refine z_ild_2 (TX7_at.at 13 rfl) ?_
      refine z_iconst (TX7_at.at 14 rfl) ?_
      refine z_icmp_eq (tgt := 35) (TX7_at.at 15 rfl) rfl (by omega) (by omega) (fun c3 => ?_) (fun c3 => ?_)
      · skip
        refine z_ald_0 (TX7_at.at 21 rfl) ?_
        refine zc_getO (m := 0) (s := 9) (k := 383) (hH.lv (by decide)) (TX7_at.at 22 rfl) fl7_60 hH rfl rfl (by decide) (by decide) ?_
        refine z_ald_0 (TX7_at.at 23 rfl) ?_
        refine zc_getO (m := 0) (s := 0) (k := 63) (hH.lv (by decide)) (TX7_at.at 24 rfl) fl7_12 hH rfl rfl (by decide) (by decide) ?_
        refine z_ald_0 (TX7_at.at 25 rfl) ?_
        refine zc_getO (m := 0) (s := 0) (k := 63) (hH.lv (by decide)) (TX7_at.at 26 rfl) fl7_12 hH rfl rfl (by decide) (by decide) ?_
        refine zc_callO (m := 1) (As := []) (c_lawIn1 eg46 ef45 ef47 h79.1 h79.2) (hH.lv (by decide)) (TX7_at.at 27 rfl) c7_135 rfl rfl hH hA (by omega) (Nat.le_of_ble_eq_true rfl) (fun y47 f47 g47 j47 h q47 hH hA => ?_)
        obtain ⟨q47, xf, xg, xj⟩ := q47
        rw [xj] at hH
        have ef32 := (xf 32 (by decide)).trans ef32
        have ef37 := (xf 37 (by decide)).trans ef37
        have ef354 := (xf 354 (by decide)).trans ef354
        have ef45 := (xf 45 (by decide)).trans ef45
        have ef47 := (xf 47 (by decide)).trans ef47
        have hfE := hfE.trans xf (by decide)
        have eg33 := (xg 33 (by decide)).trans eg33
        have eg34 := (xg 34 (by decide)).trans eg34
        have eg35 := (xg 35 (by decide)).trans eg35
        have eg36 := (xg 36 (by decide)).trans eg36
        have eg44 := (xg 44 (by decide)).trans eg44
        have eg46 := (xg 46 (by decide)).trans eg46
        have eg38 := (xg 38 (by decide)).trans eg38
        have hgE := hgE.trans xg (by decide)
        have qL := q47
        have hL := LwN_cg hL xf xg
        rw [← qL] at hL
        refine zc_callV2 (m := 11) (c_measY1 eg33 eg34 eg35 eg36 eg44 ef32 ef37 ef354 hL hK hP hS t0 t2) (hH.lv (by decide)) (TX7_at.at 28 rfl) c7_139 rfl rfl hH hA (by omega) (Nat.le_of_ble_eq_true rfl) (fun f50 g50 j50 h q50 hH hA => ?_)
        obtain ⟨q50, xf, xg, xj⟩ := q50
        rw [xj] at hH
        have ef32 := (xf 32 (by decide)).trans ef32
        have ef37 := (xf 37 (by decide)).trans ef37
        have ef45 := (xf 45 (by decide)).trans ef45
        have ef47 := (xf 47 (by decide)).trans ef47
        have hfE := hfE.trans xf (by decide)
        have eg33 := (xg 33 (by decide)).trans eg33
        have eg34 := (xg 34 (by decide)).trans eg34
        have eg35 := (xg 35 (by decide)).trans eg35
        have eg36 := (xg 36 (by decide)).trans eg36
        have eg44 := (xg 44 (by decide)).trans eg44
        have eg46 := (xg 46 (by decide)).trans eg46
        have eg38 := (xg 38 (by decide)).trans eg38
        have hgE := hgE.trans xg (by decide)
        have qL := q50
        obtain ⟨hT, hct⟩ := qL
        obtain ⟨BX, eg352⟩ : ∃ z, g50 352 = z := ⟨_, rfl⟩
        obtain ⟨HX, eg353⟩ : ∃ z, g50 353 = z := ⟨_, rfl⟩
        obtain ⟨S2, ef354⟩ : ∃ z, f50 354 = z := ⟨_, rfl⟩
        rw [eg352, eg353, ef354] at hT
        rw [ef354] at hct
        refine z_ild_2 (TX7_at.at 29 rfl) ?_
        refine z_iconst (TX7_at.at 30 rfl) ?_
        refine z_icmp_ne (tgt := 68) (TX7_at.at 31 rfl) rfl (by omega) (by omega) (fun c4 => ?_) (fun c4 => ?_)
        · skip
          refine z_ald_0 (TX7_at.at 38 rfl) ?_
          refine zc_getO (m := 0) (s := 9) (k := 383) (hH.lv (by decide)) (TX7_at.at 39 rfl) fl7_60 hH rfl rfl (by decide) (by decide) ?_
          refine z_ald_0 (TX7_at.at 40 rfl) ?_
          refine zc_getO (m := 0) (s := 0) (k := 63) (hH.lv (by decide)) (TX7_at.at 41 rfl) fl7_12 hH rfl rfl (by decide) (by decide) ?_
          refine zc_callV1 (m := 11) (c_sprM1 eg33 eg34 eg352 eg353 rfl eg38 ef32 ef354 hT hMt hK.2.2.1) (hH.lv (by decide)) (TX7_at.at 42 rfl) c7_149 rfl rfl hH hA (by omega) (Nat.le_of_ble_eq_true rfl) (fun f76 g76 j76 h q76 hH hA => ?_)
          obtain ⟨q76, xf, xg, xj⟩ := q76
          rw [xj] at hH
          have ef32 := (xf 32 (by decide)).trans ef32
          have ef37 := (xf 37 (by decide)).trans ef37
          have ef354 := (xf 354 (by decide)).trans ef354
          have ef45 := (xf 45 (by decide)).trans ef45
          have ef47 := (xf 47 (by decide)).trans ef47
          have hfE := hfE.trans xf (by decide)
          have eg33 := (xg 33 (by decide)).trans eg33
          have eg34 := (xg 34 (by decide)).trans eg34
          have eg35 := (xg 35 (by decide)).trans eg35
          have eg36 := (xg 36 (by decide)).trans eg36
          have eg44 := (xg 44 (by decide)).trans eg44
          have eg46 := (xg 46 (by decide)).trans eg46
          have eg38 := (xg 38 (by decide)).trans eg38
          have eg352 := (xg 352 (by decide)).trans eg352
          have eg353 := (xg 353 (by decide)).trans eg353
          have hgE := hgE.trans xg (by decide)
          have qL := q76
          have hI := qL
          rw [fire_mt hK hct] at hI
          obtain ⟨X76, eg355⟩ : ∃ z, g76 355 = z := ⟨_, rfl⟩
          rw [eg355] at hI
          refine z_ald_0 (TX7_at.at 43 rfl) ?_
          refine zc_getO (m := 0) (s := 9) (k := 383) (hH.lv (by decide)) (TX7_at.at 44 rfl) fl7_60 hH rfl rfl (by decide) (by decide) ?_
          refine zc_getA (m := 11) (s := 3) (k := 355) (hH.lv (by decide)) (TX7_at.at 45 rfl) fl7_166 hH rfl rfl (by decide) (by decide) ?_
          refine z_ild_1 (TX7_at.at 46 rfl) ?_
          refine zcf_iald (k := 355) (N := 8) (hH.lv (by decide)) (by decide) rfl eg355 (TX7_at.at 47 rfl) hH (by decide) (by omega) (show _ < ((8 : Nat) : Int) by omega) (fun r87 => ?_)
          refine zc_iret (TX7_at.at 48 rfl) rfl hH hA (by omega) ?_
          exact ⟨by unfold atV; rw [if_neg (by omega), if_neg (by omega), if_neg (by omega), if_pos (by omega)]; exact hI.2.1 k (by omega) (by omega), hfE, hgE, rfl⟩
        · skip
          refine z_ald_0 (TX7_at.at 32 rfl) ?_
          refine zc_getO (m := 0) (s := 9) (k := 383) (hH.lv (by decide)) (TX7_at.at 33 rfl) fl7_60 hH rfl rfl (by decide) (by decide) ?_
          refine zc_getA (m := 11) (s := 1) (k := 353) (hH.lv (by decide)) (TX7_at.at 34 rfl) fl7_163 hH rfl rfl (by decide) (by decide) ?_
          refine z_ild_1 (TX7_at.at 35 rfl) ?_
          refine zcf_iald (k := 353) (N := 8) (hH.lv (by decide)) (by decide) rfl eg353 (TX7_at.at 36 rfl) hH (by decide) (by omega) (show _ < ((8 : Nat) : Int) by omega) (fun r66 => ?_)
          refine zc_iret (TX7_at.at 37 rfl) rfl hH hA (by omega) ?_
          exact ⟨by unfold atV; rw [if_neg (by omega), if_neg (by omega), if_pos (by omega)]; exact hT.2.2.2.2 k (by omega) (by omega), hfE, hgE, rfl⟩
      · skip
        refine z_ild_2 (TX7_at.at 16 rfl) ?_
        refine z_iconst (TX7_at.at 17 rfl) ?_
        refine z_icmp_eq (tgt := 35) (TX7_at.at 18 rfl) rfl (by omega) (by omega) (fun c5 => ?_) (fun c5 => ?_)
        · skip
          refine z_ald_0 (TX7_at.at 21 rfl) ?_
          refine zc_getO (m := 0) (s := 9) (k := 383) (hH.lv (by decide)) (TX7_at.at 22 rfl) fl7_60 hH rfl rfl (by decide) (by decide) ?_
          refine z_ald_0 (TX7_at.at 23 rfl) ?_
          refine zc_getO (m := 0) (s := 0) (k := 63) (hH.lv (by decide)) (TX7_at.at 24 rfl) fl7_12 hH rfl rfl (by decide) (by decide) ?_
          refine z_ald_0 (TX7_at.at 25 rfl) ?_
          refine zc_getO (m := 0) (s := 0) (k := 63) (hH.lv (by decide)) (TX7_at.at 26 rfl) fl7_12 hH rfl rfl (by decide) (by decide) ?_
          refine zc_callO (m := 1) (As := []) (c_lawIn1 eg46 ef45 ef47 h79.1 h79.2) (hH.lv (by decide)) (TX7_at.at 27 rfl) c7_135 rfl rfl hH hA (by omega) (Nat.le_of_ble_eq_true rfl) (fun y47 f47 g47 j47 h q47 hH hA => ?_)
          obtain ⟨q47, xf, xg, xj⟩ := q47
          rw [xj] at hH
          have ef32 := (xf 32 (by decide)).trans ef32
          have ef37 := (xf 37 (by decide)).trans ef37
          have ef354 := (xf 354 (by decide)).trans ef354
          have ef45 := (xf 45 (by decide)).trans ef45
          have ef47 := (xf 47 (by decide)).trans ef47
          have hfE := hfE.trans xf (by decide)
          have eg33 := (xg 33 (by decide)).trans eg33
          have eg34 := (xg 34 (by decide)).trans eg34
          have eg35 := (xg 35 (by decide)).trans eg35
          have eg36 := (xg 36 (by decide)).trans eg36
          have eg44 := (xg 44 (by decide)).trans eg44
          have eg46 := (xg 46 (by decide)).trans eg46
          have eg38 := (xg 38 (by decide)).trans eg38
          have hgE := hgE.trans xg (by decide)
          have qL := q47
          have hL := LwN_cg hL xf xg
          rw [← qL] at hL
          refine zc_callV2 (m := 11) (c_measY1 eg33 eg34 eg35 eg36 eg44 ef32 ef37 ef354 hL hK hP hS t0 t2) (hH.lv (by decide)) (TX7_at.at 28 rfl) c7_139 rfl rfl hH hA (by omega) (Nat.le_of_ble_eq_true rfl) (fun f50 g50 j50 h q50 hH hA => ?_)
          obtain ⟨q50, xf, xg, xj⟩ := q50
          rw [xj] at hH
          have ef32 := (xf 32 (by decide)).trans ef32
          have ef37 := (xf 37 (by decide)).trans ef37
          have ef45 := (xf 45 (by decide)).trans ef45
          have ef47 := (xf 47 (by decide)).trans ef47
          have hfE := hfE.trans xf (by decide)
          have eg33 := (xg 33 (by decide)).trans eg33
          have eg34 := (xg 34 (by decide)).trans eg34
          have eg35 := (xg 35 (by decide)).trans eg35
          have eg36 := (xg 36 (by decide)).trans eg36
          have eg44 := (xg 44 (by decide)).trans eg44
          have eg46 := (xg 46 (by decide)).trans eg46
          have eg38 := (xg 38 (by decide)).trans eg38
          have hgE := hgE.trans xg (by decide)
          have qL := q50
          obtain ⟨hT, hct⟩ := qL
          obtain ⟨BX, eg352⟩ : ∃ z, g50 352 = z := ⟨_, rfl⟩
          obtain ⟨HX, eg353⟩ : ∃ z, g50 353 = z := ⟨_, rfl⟩
          obtain ⟨S2, ef354⟩ : ∃ z, f50 354 = z := ⟨_, rfl⟩
          rw [eg352, eg353, ef354] at hT
          rw [ef354] at hct
          refine z_ild_2 (TX7_at.at 29 rfl) ?_
          refine z_iconst (TX7_at.at 30 rfl) ?_
          refine z_icmp_ne (tgt := 68) (TX7_at.at 31 rfl) rfl (by omega) (by omega) (fun c6 => ?_) (fun c6 => ?_)
          · skip
            refine z_ald_0 (TX7_at.at 38 rfl) ?_
            refine zc_getO (m := 0) (s := 9) (k := 383) (hH.lv (by decide)) (TX7_at.at 39 rfl) fl7_60 hH rfl rfl (by decide) (by decide) ?_
            refine z_ald_0 (TX7_at.at 40 rfl) ?_
            refine zc_getO (m := 0) (s := 0) (k := 63) (hH.lv (by decide)) (TX7_at.at 41 rfl) fl7_12 hH rfl rfl (by decide) (by decide) ?_
            refine zc_callV1 (m := 11) (c_sprM1 eg33 eg34 eg352 eg353 rfl eg38 ef32 ef354 hT hMt hK.2.2.1) (hH.lv (by decide)) (TX7_at.at 42 rfl) c7_149 rfl rfl hH hA (by omega) (Nat.le_of_ble_eq_true rfl) (fun f76 g76 j76 h q76 hH hA => ?_)
            obtain ⟨q76, xf, xg, xj⟩ := q76
            rw [xj] at hH
            have ef32 := (xf 32 (by decide)).trans ef32
            have ef37 := (xf 37 (by decide)).trans ef37
            have ef354 := (xf 354 (by decide)).trans ef354
            have ef45 := (xf 45 (by decide)).trans ef45
            have ef47 := (xf 47 (by decide)).trans ef47
            have hfE := hfE.trans xf (by decide)
            have eg33 := (xg 33 (by decide)).trans eg33
            have eg34 := (xg 34 (by decide)).trans eg34
            have eg35 := (xg 35 (by decide)).trans eg35
            have eg36 := (xg 36 (by decide)).trans eg36
            have eg44 := (xg 44 (by decide)).trans eg44
            have eg46 := (xg 46 (by decide)).trans eg46
            have eg38 := (xg 38 (by decide)).trans eg38
            have eg352 := (xg 352 (by decide)).trans eg352
            have eg353 := (xg 353 (by decide)).trans eg353
            have hgE := hgE.trans xg (by decide)
            have qL := q76
            have hI := qL
            rw [fire_mt hK hct] at hI
            obtain ⟨X76, eg355⟩ : ∃ z, g76 355 = z := ⟨_, rfl⟩
            rw [eg355] at hI
            refine z_ald_0 (TX7_at.at 43 rfl) ?_
            refine zc_getO (m := 0) (s := 9) (k := 383) (hH.lv (by decide)) (TX7_at.at 44 rfl) fl7_60 hH rfl rfl (by decide) (by decide) ?_
            refine zc_getA (m := 11) (s := 3) (k := 355) (hH.lv (by decide)) (TX7_at.at 45 rfl) fl7_166 hH rfl rfl (by decide) (by decide) ?_
            refine z_ild_1 (TX7_at.at 46 rfl) ?_
            refine zcf_iald (k := 355) (N := 8) (hH.lv (by decide)) (by decide) rfl eg355 (TX7_at.at 47 rfl) hH (by decide) (by omega) (show _ < ((8 : Nat) : Int) by omega) (fun r87 => ?_)
            refine zc_iret (TX7_at.at 48 rfl) rfl hH hA (by omega) ?_
            exact ⟨by unfold atV; rw [if_neg (by omega), if_neg (by omega), if_neg (by omega), if_pos (by omega)]; exact hI.2.1 k (by omega) (by omega), hfE, hgE, rfl⟩
          · skip
            refine z_ald_0 (TX7_at.at 32 rfl) ?_
            refine zc_getO (m := 0) (s := 9) (k := 383) (hH.lv (by decide)) (TX7_at.at 33 rfl) fl7_60 hH rfl rfl (by decide) (by decide) ?_
            refine zc_getA (m := 11) (s := 1) (k := 353) (hH.lv (by decide)) (TX7_at.at 34 rfl) fl7_163 hH rfl rfl (by decide) (by decide) ?_
            refine z_ild_1 (TX7_at.at 35 rfl) ?_
            refine zcf_iald (k := 353) (N := 8) (hH.lv (by decide)) (by decide) rfl eg353 (TX7_at.at 36 rfl) hH (by decide) (by omega) (show _ < ((8 : Nat) : Int) by omega) (fun r66 => ?_)
            refine zc_iret (TX7_at.at 37 rfl) rfl hH hA (by omega) ?_
            exact ⟨by unfold atV; rw [if_neg (by omega), if_neg (by omega), if_pos (by omega)]; exact hT.2.2.2.2 k (by omega) (by omega), hfE, hgE, rfl⟩
        · skip
          refine z_iconst (TX7_at.at 19 rfl) ?_
          refine zc_iret (TX7_at.at 20 rfl) rfl hH hA (by omega) ?_
          exact ⟨by unfold atV; rw [if_neg (by omega), if_neg (by omega), if_neg (by omega), if_neg (by omega)], hfE, hgE, rfl⟩
    · skip
      refine z_ald_0 (TX7_at.at 7 rfl) ?_
      refine zc_getO (m := 0) (s := 0) (k := 63) (hH.lv (by decide)) (TX7_at.at 8 rfl) fl7_12 hH rfl rfl (by decide) (by decide) ?_
      refine zc_getA (m := 1) (s := 6) (k := 38) (hH.lv (by decide)) (TX7_at.at 9 rfl) fl7_160 hH rfl rfl (by decide) (by decide) ?_
      refine z_ild_1 (TX7_at.at 10 rfl) ?_
      refine zcf_iald (k := 38) (N := 8) (hH.lv (by decide)) (by decide) rfl eg38 (TX7_at.at 11 rfl) hH (by decide) (by omega) (show _ < ((8 : Nat) : Int) by omega) (fun r21 => ?_)
      refine zc_iret (TX7_at.at 12 rfl) rfl hH hA (by omega) ?_
      exact ⟨by unfold atV; rw [if_neg (by omega), if_pos (by omega)]; exact hMt k (by omega) (by omega), hfE, hgE, rfl⟩
  · skip
    refine z_iconst (TX7_at.at 3 rfl) ?_
    refine zc_iret (TX7_at.at 4 rfl) rfl hH hA (by omega) ?_
    exact ⟨by unfold atV; rw [if_pos (by omega)], hfE, hgE, rfl⟩

set_option maxHeartbeats 4000000 in
set_option maxRecDepth 100000 in
theorem c_seenM {l : Launch} {E : cE} {f : mF} {g j : mA} {Rf : Int → Int} {Sk : Int → Int} {Ss : Int → Int} {st : Int} {sn : Int} {k s : Int}  (eg11 : g 11 = Rf) (eg42 : g 42 = Sk) (eg43 : g 43 = Ss) (ef16 : f 16 = st) (ef41 : f 41 = sn) (hk : zIn k) (hs : zIn s) (hb : ∀ i, Rf i ≤ 100000) (s0 : 0 ≤ sn) (s6 : sn ≤ 6) : CM l E MX7_seen 1 [.ref (E.1 31), vI k, vI s] f g j (PI (fun r f' g' j' => ((¬ ((0 ≤ k ∧ k ≤ 7) ∧ 0 ≤ s ∧ s ≤ 999) ∧ r = -1 ∧ f' 16 = -1 ∧ g' 11 = bumC Rf (-1) ∧ f' 41 = sn ∧ g' 42 = Sk ∧ g' 43 = Ss) ∨ (((0 ≤ k ∧ k ≤ 7) ∧ 0 ≤ s ∧ s ≤ 999) ∧ 6 ≤ sn ∧ r = -5 ∧ f' 16 = -5 ∧ g' 11 = bumC Rf (-5) ∧ f' 41 = sn ∧ g' 42 = Sk ∧ g' 43 = Ss) ∨ (((0 ≤ k ∧ k ≤ 7) ∧ 0 ≤ s ∧ s ≤ 999) ∧ sn < 6 ∧ r = sn + 1 ∧ f' 16 = 0 ∧ g' 11 = Rf ∧ f' 41 = sn + 1 ∧ g' 42 = iu Sk sn k ∧ g' 43 = iu Ss sn s)) ∧ eqx [16, 41] f f' ∧ eqx [11, 42, 43] g g' ∧ j' = j)) := by
  refine CM.intro [some (.ref (E.1 31)), some (vI k), some (vI s)] (by decide) (Nat.le_of_ble_eq_true rfl) rfl (fun d hd h0 h hH hA => ?_)
  have hfE : eqx [16, 41] f f := eqx.rf
  have hgE : eqx [11, 42, 43] g g := eqx.rf
  refine z_ild_1 (TX7_seen.at 0 rfl) ?_
  refine zs_call1 (c_isKnot (by omega)) (TX7_seen.at 1 rfl) c7_157 rfl (by omega) (Nat.le_of_ble_eq_true rfl) (fun r1 => ?_)
  refine z_if_eqB (tgt := 18) (TX7_seen.at 2 rfl) rfl (fun c1 => ?_) (fun c1 => ?_)
  · skip
    refine z_ald_0 (TX7_seen.at 8 rfl) ?_
    refine z_iconst (TX7_seen.at 9 rfl) ?_
    refine zc_callI1 (m := 0) (c_refused eg11 ef16 (by omega) (by omega) (by omega) hb) (hH.lv (by decide)) (TX7_seen.at 10 rfl) c7_92 rfl rfl hH hA (by omega) (Nat.le_of_ble_eq_true rfl) (fun x20 f20 g20 j20 h r20 q20 hH hA => ?_)
    obtain ⟨q20, xf, xg, xj⟩ := q20
    rw [xj] at hH
    have ef41 := (xf 41 (by decide)).trans ef41
    have hfE := hfE.trans xf (by decide)
    have eg42 := (xg 42 (by decide)).trans eg42
    have eg43 := (xg 43 (by decide)).trans eg43
    have hgE := hgE.trans xg (by decide)
    have qL := q20
    have ef16 := qL.2.1
    have eg11 := qL.2.2
    have qe := qL.1.symm
    subst qe
    refine zc_iret (TX7_seen.at 11 rfl) rfl hH hA (by omega) ?_
    exact ⟨Or.inl ⟨by omega, rfl, ef16, eg11, ef41, eg42, eg43⟩, hfE, hgE, rfl⟩
  · skip
    refine z_ild_2 (TX7_seen.at 3 rfl) ?_
    refine z_if_lt (tgt := 18) (TX7_seen.at 4 rfl) rfl (by omega) (fun c2 => ?_) (fun c2 => ?_)
    · skip
      refine z_ald_0 (TX7_seen.at 8 rfl) ?_
      refine z_iconst (TX7_seen.at 9 rfl) ?_
      refine zc_callI1 (m := 0) (c_refused eg11 ef16 (by omega) (by omega) (by omega) hb) (hH.lv (by decide)) (TX7_seen.at 10 rfl) c7_92 rfl rfl hH hA (by omega) (Nat.le_of_ble_eq_true rfl) (fun x20 f20 g20 j20 h r20 q20 hH hA => ?_)
      obtain ⟨q20, xf, xg, xj⟩ := q20
      rw [xj] at hH
      have ef41 := (xf 41 (by decide)).trans ef41
      have hfE := hfE.trans xf (by decide)
      have eg42 := (xg 42 (by decide)).trans eg42
      have eg43 := (xg 43 (by decide)).trans eg43
      have hgE := hgE.trans xg (by decide)
      have qL := q20
      have ef16 := qL.2.1
      have eg11 := qL.2.2
      have qe := qL.1.symm
      subst qe
      refine zc_iret (TX7_seen.at 11 rfl) rfl hH hA (by omega) ?_
      exact ⟨Or.inl ⟨by omega, rfl, ef16, eg11, ef41, eg42, eg43⟩, hfE, hgE, rfl⟩
    · skip
      refine z_ild_2 (TX7_seen.at 5 rfl) ?_
      refine z_sipush (by decide) (TX7_seen.at 6 rfl) ?_
      refine z_icmp_le (tgt := 24) (TX7_seen.at 7 rfl) rfl (by omega) (by omega) (fun c3 => ?_) (fun c3 => ?_)
      · skip
        refine z_ald_0 (TX7_seen.at 12 rfl) ?_
        refine zc_getO (m := 0) (s := 0) (k := 63) (hH.lv (by decide)) (TX7_seen.at 13 rfl) fl7_12 hH rfl rfl (by decide) (by decide) ?_
        refine zc_getIE (m := 1) (s := 9) (k := 41) (hH.lv (by decide)) ef41 (TX7_seen.at 14 rfl) fl7_368 hH rfl rfl (by decide) (by decide) (fun r28 => ?_)
        refine z_bipush (by decide) (TX7_seen.at 15 rfl) ?_
        refine z_icmp_lt (tgt := 43) (TX7_seen.at 16 rfl) rfl (by omega) (by omega) (fun c4 => ?_) (fun c4 => ?_)
        · skip
          refine z_ald_0 (TX7_seen.at 21 rfl) ?_
          refine zc_getO (m := 0) (s := 0) (k := 63) (hH.lv (by decide)) (TX7_seen.at 22 rfl) fl7_12 hH rfl rfl (by decide) (by decide) ?_
          refine zc_getA (m := 1) (s := 10) (k := 42) (hH.lv (by decide)) (TX7_seen.at 23 rfl) fl7_371 hH rfl rfl (by decide) (by decide) ?_
          refine z_ald_0 (TX7_seen.at 24 rfl) ?_
          refine zc_getO (m := 0) (s := 0) (k := 63) (hH.lv (by decide)) (TX7_seen.at 25 rfl) fl7_12 hH rfl rfl (by decide) (by decide) ?_
          refine zc_getIE (m := 1) (s := 9) (k := 41) (hH.lv (by decide)) ef41 (TX7_seen.at 26 rfl) fl7_368 hH rfl rfl (by decide) (by decide) (fun r54 => ?_)
          refine z_ild_1 (TX7_seen.at 27 rfl) ?_
          refine zcf_iast (k := 42) (N := 6) (hH.lv (by decide)) (by decide) rfl (TX7_seen.at 28 rfl) hH hA (by decide) (by omega) (show _ < ((6 : Nat) : Int) by omega) (by omega) (fun h g58 e1 e2 hH hA => ?_)
          have eg11 := (e1 11 (by decide)).trans eg11
          rw [eg42] at e2; have eg42 := e2
          have eg43 := (e1 43 (by decide)).trans eg43
          have hgE := hgE.put e1 (by decide)
          refine z_ald_0 (TX7_seen.at 29 rfl) ?_
          refine zc_getO (m := 0) (s := 0) (k := 63) (hH.lv (by decide)) (TX7_seen.at 30 rfl) fl7_12 hH rfl rfl (by decide) (by decide) ?_
          refine zc_getA (m := 1) (s := 11) (k := 43) (hH.lv (by decide)) (TX7_seen.at 31 rfl) fl7_374 hH rfl rfl (by decide) (by decide) ?_
          refine z_ald_0 (TX7_seen.at 32 rfl) ?_
          refine zc_getO (m := 0) (s := 0) (k := 63) (hH.lv (by decide)) (TX7_seen.at 33 rfl) fl7_12 hH rfl rfl (by decide) (by decide) ?_
          refine zc_getIE (m := 1) (s := 9) (k := 41) (hH.lv (by decide)) ef41 (TX7_seen.at 34 rfl) fl7_368 hH rfl rfl (by decide) (by decide) (fun r70 => ?_)
          refine z_ild_2 (TX7_seen.at 35 rfl) ?_
          refine zcf_iast (k := 43) (N := 6) (hH.lv (by decide)) (by decide) rfl (TX7_seen.at 36 rfl) hH hA (by decide) (by omega) (show _ < ((6 : Nat) : Int) by omega) (by omega) (fun h g74 e1 e2 hH hA => ?_)
          have eg11 := (e1 11 (by decide)).trans eg11
          have eg42 := (e1 42 (by decide)).trans eg42
          rw [eg43] at e2; have eg43 := e2
          have hgE := hgE.put e1 (by decide)
          refine z_ald_0 (TX7_seen.at 37 rfl) ?_
          refine zc_getO (m := 0) (s := 0) (k := 63) (hH.lv (by decide)) (TX7_seen.at 38 rfl) fl7_12 hH rfl rfl (by decide) (by decide) ?_
          refine z_dup rfl (TX7_seen.at 39 rfl) ?_
          refine zc_getIE (m := 1) (s := 9) (k := 41) (hH.lv (by decide)) ef41 (TX7_seen.at 40 rfl) fl7_368 hH rfl rfl (by decide) (by decide) (fun r80 => ?_)
          refine z_iconst (TX7_seen.at 41 rfl) ?_
          refine z_iadd (TX7_seen.at 42 rfl) ?_
          refine zc_putI (m := 1) (s := 9) (k := 41) (hH.lv (by decide)) (TX7_seen.at 43 rfl) fp7_368 hH hA rfl rfl (by decide) (by decide) (by first | omega | exact b2i_01 _) (fun h f85 e1 e2 hH hA => ?_)
          have ef16 := (e1 16 (by decide)).trans ef16
          have ef41 := e2
          have hfE := hfE.put e1 (by decide)
          refine z_ald_0 (TX7_seen.at 44 rfl) ?_
          refine z_ald_0 (TX7_seen.at 45 rfl) ?_
          refine zc_getO (m := 0) (s := 0) (k := 63) (hH.lv (by decide)) (TX7_seen.at 46 rfl) fl7_12 hH rfl rfl (by decide) (by decide) ?_
          refine zc_getIE (m := 1) (s := 9) (k := 41) (hH.lv (by decide)) ef41 (TX7_seen.at 47 rfl) fl7_368 hH rfl rfl (by decide) (by decide) (fun r93 => ?_)
          refine zc_callI1 (m := 0) (c_answered ef16 (by omega)) (hH.lv (by decide)) (TX7_seen.at 48 rfl) c7_106 rfl rfl hH hA (by omega) (Nat.le_of_ble_eq_true rfl) (fun x96 f96 g96 j96 h r96 q96 hH hA => ?_)
          obtain ⟨q96, xf, xg, xj⟩ := q96
          rw [xj] at hH
          have ef41 := (xf 41 (by decide)).trans ef41
          have hfE := hfE.trans xf (by decide)
          have eg11 := (xg 11 (by decide)).trans eg11
          have eg42 := (xg 42 (by decide)).trans eg42
          have eg43 := (xg 43 (by decide)).trans eg43
          have hgE := hgE.trans xg (by decide)
          have qL := q96
          have ef16 := qL.2
          have qe := qL.1.symm
          subst qe
          refine zc_iret (TX7_seen.at 49 rfl) rfl hH hA (by omega) ?_
          exact ⟨Or.inr (Or.inr ⟨by omega, by omega, rfl, ef16, eg11, ef41, eg42, eg43⟩), hfE, hgE, rfl⟩
        · skip
          refine z_ald_0 (TX7_seen.at 17 rfl) ?_
          refine z_bipush (by decide) (TX7_seen.at 18 rfl) ?_
          refine zc_callI1 (m := 0) (c_refused eg11 ef16 (by omega) (by omega) (by omega) hb) (hH.lv (by decide)) (TX7_seen.at 19 rfl) c7_92 rfl rfl hH hA (by omega) (Nat.le_of_ble_eq_true rfl) (fun x39 f39 g39 j39 h r39 q39 hH hA => ?_)
          obtain ⟨q39, xf, xg, xj⟩ := q39
          rw [xj] at hH
          have ef41 := (xf 41 (by decide)).trans ef41
          have hfE := hfE.trans xf (by decide)
          have eg42 := (xg 42 (by decide)).trans eg42
          have eg43 := (xg 43 (by decide)).trans eg43
          have hgE := hgE.trans xg (by decide)
          have qL := q39
          have ef16 := qL.2.1
          have eg11 := qL.2.2
          have qe := qL.1.symm
          subst qe
          refine zc_iret (TX7_seen.at 20 rfl) rfl hH hA (by omega) ?_
          exact ⟨Or.inr (Or.inl ⟨by omega, by omega, rfl, ef16, eg11, ef41, eg42, eg43⟩), hfE, hgE, rfl⟩
      · skip
        refine z_ald_0 (TX7_seen.at 8 rfl) ?_
        refine z_iconst (TX7_seen.at 9 rfl) ?_
        refine zc_callI1 (m := 0) (c_refused eg11 ef16 (by omega) (by omega) (by omega) hb) (hH.lv (by decide)) (TX7_seen.at 10 rfl) c7_92 rfl rfl hH hA (by omega) (Nat.le_of_ble_eq_true rfl) (fun x20 f20 g20 j20 h r20 q20 hH hA => ?_)
        obtain ⟨q20, xf, xg, xj⟩ := q20
        rw [xj] at hH
        have ef41 := (xf 41 (by decide)).trans ef41
        have hfE := hfE.trans xf (by decide)
        have eg42 := (xg 42 (by decide)).trans eg42
        have eg43 := (xg 43 (by decide)).trans eg43
        have hgE := hgE.trans xg (by decide)
        have qL := q20
        have ef16 := qL.2.1
        have eg11 := qL.2.2
        have qe := qL.1.symm
        subst qe
        refine zc_iret (TX7_seen.at 11 rfl) rfl hH hA (by omega) ?_
        exact ⟨Or.inl ⟨by omega, rfl, ef16, eg11, ef41, eg42, eg43⟩, hfE, hgE, rfl⟩

set_option maxHeartbeats 4000000 in
set_option maxRecDepth 100000 in
theorem c_forget {l : Launch} {E : cE} {f : mF} {g j : mA} {sn : Int}  (ef41 : f 41 = sn)  : CM l E MX7_forget 0 [.ref (E.1 31)] f g j (PI (fun r f' g' j' => (r = sn ∧ f' 41 = 0) ∧ eqx [41] f f' ∧ eqx [] g g' ∧ j' = j)) := by
  refine CM.intro [some (.ref (E.1 31)), none] (by decide) (Nat.le_of_ble_eq_true rfl) rfl (fun d hd h0 h hH hA => ?_)
  have hfE : eqx [41] f f := eqx.rf
  have hgE : eqx [] g g := eqx.rf
  refine z_ald_0 (TX7_forget.at 0 rfl) ?_
  refine zc_getO (m := 0) (s := 0) (k := 63) (hH.lv (by decide)) (TX7_forget.at 1 rfl) fl7_12 hH rfl rfl (by decide) (by decide) ?_
  refine zc_getIE (m := 1) (s := 9) (k := 41) (hH.lv (by decide)) ef41 (TX7_forget.at 2 rfl) fl7_368 hH rfl rfl (by decide) (by decide) (fun r4 => ?_)
  refine z_ist_1 (TX7_forget.at 3 rfl) (Nat.le_of_ble_eq_true rfl) rfl ?_
  refine z_ald_0 (TX7_forget.at 4 rfl) ?_
  refine zc_getO (m := 0) (s := 0) (k := 63) (hH.lv (by decide)) (TX7_forget.at 5 rfl) fl7_12 hH rfl rfl (by decide) (by decide) ?_
  refine z_iconst (TX7_forget.at 6 rfl) ?_
  refine zc_putI (m := 1) (s := 9) (k := 41) (hH.lv (by decide)) (TX7_forget.at 7 rfl) fp7_368 hH hA rfl rfl (by decide) (by decide) (by first | omega | exact b2i_01 _) (fun h f13 e1 e2 hH hA => ?_)
  have ef41 := e2
  have hfE := hfE.put e1 (by decide)
  refine z_ild_1 (TX7_forget.at 8 rfl) ?_
  refine zc_iret (TX7_forget.at 9 rfl) rfl hH hA (by omega) ?_
  exact ⟨⟨rfl, ef41⟩, hfE, hgE, rfl⟩

set_option maxHeartbeats 4000000 in
set_option maxRecDepth 100000 in
theorem c_g_ash {l : Launch} {E : cE} {f : mF} {g j : mA} {v : Int}  (ef13 : f 13 = v)  : CM l E MX7_ash 0 [.ref (E.1 31)] f g j (PI (fun r f' g' j' => (r = v) ∧ eqx [] f f' ∧ eqx [] g g' ∧ j' = j)) := by
  refine CM.intro [some (.ref (E.1 31))] (by decide) (Nat.le_of_ble_eq_true rfl) rfl (fun d hd h0 h hH hA => ?_)
  have hfE : eqx [] f f := eqx.rf
  have hgE : eqx [] g g := eqx.rf
  refine z_ald_0 (TX7_ash.at 0 rfl) ?_
  refine zc_getIE (m := 0) (s := 13) (k := 13) (hH.lv (by decide)) ef13 (TX7_ash.at 1 rfl) fl7_75 hH rfl rfl (by decide) (by decide) (fun r1 => ?_)
  refine zc_iret (TX7_ash.at 2 rfl) rfl hH hA (by omega) ?_
  exact ⟨rfl, hfE, hgE, rfl⟩

set_option maxHeartbeats 4000000 in
set_option maxRecDepth 100000 in
theorem c_g_fault {l : Launch} {E : cE} {f : mF} {g j : mA} {v : Int}  (ef14 : f 14 = v)  : CM l E MX7_fault 0 [.ref (E.1 31)] f g j (PI (fun r f' g' j' => (r = v) ∧ eqx [] f f' ∧ eqx [] g g' ∧ j' = j)) := by
  refine CM.intro [some (.ref (E.1 31))] (by decide) (Nat.le_of_ble_eq_true rfl) rfl (fun d hd h0 h hH hA => ?_)
  have hfE : eqx [] f f := eqx.rf
  have hgE : eqx [] g g := eqx.rf
  refine z_ald_0 (TX7_fault.at 0 rfl) ?_
  refine zc_getIE (m := 0) (s := 14) (k := 14) (hH.lv (by decide)) ef14 (TX7_fault.at 1 rfl) fl7_79 hH rfl rfl (by decide) (by decide) (fun r1 => ?_)
  refine zc_iret (TX7_fault.at 2 rfl) rfl hH hA (by omega) ?_
  exact ⟨rfl, hfE, hgE, rfl⟩

set_option maxHeartbeats 4000000 in
set_option maxRecDepth 100000 in
theorem c_g_stopped {l : Launch} {E : cE} {f : mF} {g j : mA} {v : Int}  (ef15 : f 15 = v)  : CM l E MX7_stopped 0 [.ref (E.1 31)] f g j (PI (fun r f' g' j' => (r = v) ∧ eqx [] f f' ∧ eqx [] g g' ∧ j' = j)) := by
  refine CM.intro [some (.ref (E.1 31))] (by decide) (Nat.le_of_ble_eq_true rfl) rfl (fun d hd h0 h hH hA => ?_)
  have hfE : eqx [] f f := eqx.rf
  have hgE : eqx [] g g := eqx.rf
  refine z_ald_0 (TX7_stopped.at 0 rfl) ?_
  refine zc_getIE (m := 0) (s := 15) (k := 15) (hH.lv (by decide)) ef15 (TX7_stopped.at 1 rfl) fl7_82 hH rfl rfl (by decide) (by decide) (fun r1 => ?_)
  refine zc_iret (TX7_stopped.at 2 rfl) rfl hH hA (by omega) ?_
  exact ⟨rfl, hfE, hgE, rfl⟩

set_option maxHeartbeats 4000000 in
set_option maxRecDepth 100000 in
theorem c_g_status {l : Launch} {E : cE} {f : mF} {g j : mA} {v : Int}  (ef16 : f 16 = v)  : CM l E MX7_status 0 [.ref (E.1 31)] f g j (PI (fun r f' g' j' => (r = v) ∧ eqx [] f f' ∧ eqx [] g g' ∧ j' = j)) := by
  refine CM.intro [some (.ref (E.1 31))] (by decide) (Nat.le_of_ble_eq_true rfl) rfl (fun d hd h0 h hH hA => ?_)
  have hfE : eqx [] f f := eqx.rf
  have hgE : eqx [] g g := eqx.rf
  refine z_ald_0 (TX7_status.at 0 rfl) ?_
  refine zc_getIE (m := 0) (s := 16) (k := 16) (hH.lv (by decide)) ef16 (TX7_status.at 1 rfl) fl7_85 hH rfl rfl (by decide) (by decide) (fun r1 => ?_)
  refine zc_iret (TX7_status.at 2 rfl) rfl hH hA (by omega) ?_
  exact ⟨rfl, hfE, hgE, rfl⟩

set_option maxHeartbeats 4000000 in
set_option maxRecDepth 100000 in
theorem c_drawn {l : Launch} {E : cE} {f : mF} {g j : mA} {Mt : Int → Int} {n9 : Int} {dp : Int} {k w : Int}  (eg102 : g 102 = Mt) (ef96 : f 96 = n9) (ef101 : f 101 = dp) (hk : zIn k) (hw : zIn w) (hdp : z31 dp) (n10 : n9 ≤ 10) : CM l E MX7_drawn 2 [.ref (E.1 31), vI k, vI w] f g j (PI (fun r f' g' j' => (r = (if w = 0 ∧ 0 ≤ k ∧ k < n9 then b2i (bt dp k) else if w = 1 ∧ 0 ≤ k ∧ k ≤ 7 then Mt k else -1)) ∧ eqx [] f f' ∧ eqx [] g g' ∧ j' = j)) := by
  refine CM.intro [some (.ref (E.1 31)), some (vI k), some (vI w)] (by decide) (Nat.le_of_ble_eq_true rfl) rfl (fun d hd h0 h hH hA => ?_)
  have hfE : eqx [] f f := eqx.rf
  have hgE : eqx [] g g := eqx.rf
  refine z_ild_2 (TX7_drawn.at 0 rfl) ?_
  refine z_if_ne (tgt := 27) (TX7_drawn.at 1 rfl) rfl (by omega) (fun c1 => ?_) (fun c1 => ?_)
  · skip
    refine z_ild_2 (TX7_drawn.at 13 rfl) ?_
    refine z_iconst (TX7_drawn.at 14 rfl) ?_
    refine z_icmp_ne (tgt := 49) (TX7_drawn.at 15 rfl) rfl (by omega) (by omega) (fun c2 => ?_) (fun c2 => ?_)
    · skip
      refine z_iconst (TX7_drawn.at 25 rfl) ?_
      refine zc_iret (TX7_drawn.at 26 rfl) rfl hH hA (by omega) ?_
      exact ⟨by rw [if_neg (by omega), if_neg (by omega)], hfE, hgE, rfl⟩
    · skip
      refine z_ild_1 (TX7_drawn.at 16 rfl) ?_
      refine zs_call1 (c_isKnot (by omega)) (TX7_drawn.at 17 rfl) c7_157 rfl (by omega) (Nat.le_of_ble_eq_true rfl) (fun r33 => ?_)
      refine z_if_eqB (tgt := 49) (TX7_drawn.at 18 rfl) rfl (fun c3 => ?_) (fun c3 => ?_)
      · skip
        refine z_iconst (TX7_drawn.at 25 rfl) ?_
        refine zc_iret (TX7_drawn.at 26 rfl) rfl hH hA (by omega) ?_
        exact ⟨by rw [if_neg (by omega), if_neg (by omega)], hfE, hgE, rfl⟩
      · skip
        refine z_ald_0 (TX7_drawn.at 19 rfl) ?_
        refine zc_getO (m := 0) (s := 2) (k := 127) (hH.lv (by decide)) (TX7_drawn.at 20 rfl) fl7_19 hH rfl rfl (by decide) (by decide) ?_
        refine zc_getA (m := 3) (s := 6) (k := 102) (hH.lv (by decide)) (TX7_drawn.at 21 rfl) fl7_160 hH rfl rfl (by decide) (by decide) ?_
        refine z_ild_1 (TX7_drawn.at 22 rfl) ?_
        refine zcf_iald (k := 102) (N := 8) (hH.lv (by decide)) (by decide) rfl eg102 (TX7_drawn.at 23 rfl) hH (by decide) (by omega) (show _ < ((8 : Nat) : Int) by omega) (fun r47 => ?_)
        refine zc_iret (TX7_drawn.at 24 rfl) rfl hH hA (by omega) ?_
        exact ⟨by rw [if_neg (by omega), if_pos (by omega)], hfE, hgE, rfl⟩
  · skip
    refine z_ald_0 (TX7_drawn.at 2 rfl) ?_
    refine zc_getO (m := 0) (s := 2) (k := 127) (hH.lv (by decide)) (TX7_drawn.at 3 rfl) fl7_19 hH rfl rfl (by decide) (by decide) ?_
    refine z_ild_1 (TX7_drawn.at 4 rfl) ?_
    refine zc_callI1 (m := 3) (c_hasFuse3 ef96 (by omega)) (hH.lv (by decide)) (TX7_drawn.at 5 rfl) c7_109 rfl rfl hH hA (by omega) (Nat.le_of_ble_eq_true rfl) (fun x9 f9 g9 j9 h r9 q9 hH hA => ?_)
    obtain ⟨q9, xf, xg, xj⟩ := q9
    rw [xj] at hH
    have ef96 := (xf 96 (by decide)).trans ef96
    have ef101 := (xf 101 (by decide)).trans ef101
    have hfE := hfE.trans xf (by decide)
    have eg102 := (xg 102 (by decide)).trans eg102
    have hgE := hgE.trans xg (by decide)
    have qL := q9
    obtain rfl := qL
    refine z_if_eqB (tgt := 27) (TX7_drawn.at 6 rfl) rfl (fun c4 => ?_) (fun c4 => ?_)
    · skip
      refine z_ild_2 (TX7_drawn.at 13 rfl) ?_
      refine z_iconst (TX7_drawn.at 14 rfl) ?_
      refine z_icmp_ne (tgt := 49) (TX7_drawn.at 15 rfl) rfl (by omega) (by omega) (fun c5 => ?_) (fun c5 => ?_)
      · skip
        refine z_iconst (TX7_drawn.at 25 rfl) ?_
        refine zc_iret (TX7_drawn.at 26 rfl) rfl hH hA (by omega) ?_
        exact ⟨by rw [if_neg (by omega), if_neg (by omega)], hfE, hgE, rfl⟩
      · skip
        refine z_ild_1 (TX7_drawn.at 16 rfl) ?_
        refine zs_call1 (c_isKnot (by omega)) (TX7_drawn.at 17 rfl) c7_157 rfl (by omega) (Nat.le_of_ble_eq_true rfl) (fun r33 => ?_)
        refine z_if_eqB (tgt := 49) (TX7_drawn.at 18 rfl) rfl (fun c6 => ?_) (fun c6 => ?_)
        · skip
          refine z_iconst (TX7_drawn.at 25 rfl) ?_
          refine zc_iret (TX7_drawn.at 26 rfl) rfl hH hA (by omega) ?_
          exact ⟨by rw [if_neg (by omega), if_neg (by omega)], hfE, hgE, rfl⟩
        · skip
          refine z_ald_0 (TX7_drawn.at 19 rfl) ?_
          refine zc_getO (m := 0) (s := 2) (k := 127) (hH.lv (by decide)) (TX7_drawn.at 20 rfl) fl7_19 hH rfl rfl (by decide) (by decide) ?_
          refine zc_getA (m := 3) (s := 6) (k := 102) (hH.lv (by decide)) (TX7_drawn.at 21 rfl) fl7_160 hH rfl rfl (by decide) (by decide) ?_
          refine z_ild_1 (TX7_drawn.at 22 rfl) ?_
          refine zcf_iald (k := 102) (N := 8) (hH.lv (by decide)) (by decide) rfl eg102 (TX7_drawn.at 23 rfl) hH (by decide) (by omega) (show _ < ((8 : Nat) : Int) by omega) (fun r47 => ?_)
          refine zc_iret (TX7_drawn.at 24 rfl) rfl hH hA (by omega) ?_
          exact ⟨by rw [if_neg (by omega), if_pos (by omega)], hfE, hgE, rfl⟩
    · skip
      refine z_ald_0 (TX7_drawn.at 7 rfl) ?_
      refine zc_getO (m := 0) (s := 2) (k := 127) (hH.lv (by decide)) (TX7_drawn.at 8 rfl) fl7_19 hH rfl rfl (by decide) (by decide) ?_
      refine zc_getIE (m := 3) (s := 5) (k := 101) (hH.lv (by decide)) ef101 (TX7_drawn.at 9 rfl) fl7_125 hH rfl rfl (by decide) (by decide) (fun r19 => ?_)
      refine z_ild_1 (TX7_drawn.at 10 rfl) ?_
      refine zs_call2 (c_bit hdp (by omega)) (TX7_drawn.at 11 rfl) c7_128 rfl (by omega) (Nat.le_of_ble_eq_true rfl) (fun r23 => ?_)
      refine zc_iret (TX7_drawn.at 12 rfl) rfl hH hA (by omega) ?_
      exact ⟨by rw [if_pos (by omega)], hfE, hgE, rfl⟩

set_option maxHeartbeats 4000000 in
set_option maxRecDepth 100000 in
theorem c_pass {l : Launch} {E : cE} {f : mF} {g j : mA} {Fr : Int → Int} {To : Int → Int} {Ln : Int → Int} {Kd : Int → Int} {Tm : Int → Int} {Lw : Int → Int} {Mt : Int → Int} {Rf : Int → Int} {D : Int → Int} {O1 : Int → Int} {O2 : Int → Int} {dp : Int} {S : Int} {st : Int} {kp : Int} {K : Int → Int} {cl : List Cla} (eg33 : g 33 = Fr) (eg34 : g 34 = To) (eg35 : g 35 = Ln) (eg36 : g 36 = Kd) (eg44 : g 44 = Tm) (eg46 : g 46 = Lw) (eg38 : g 38 = Mt) (eg11 : g 11 = Rf) (eg193 : g 193 = D) (eg194 : g 194 = O1) (eg195 : g 195 = O2) (ef32 : f 32 = (K 76)) (ef37 : f 37 = dp) (ef354 : f 354 = S) (ef45 : f 45 = (K 79)) (ef47 : f 47 = (K 80)) (ef16 : f 16 = st) (ef192 : f 192 = kp) (hL : LwN E f g (if 0 ≤ K 80 ∧ K 80 < K 79 then Lw (K 80) else -1) cl) (hK : KOK K) (hP : FrA Fr To Ln Kd dp K) (hS : z31 S) (t2 : Tm 2 = K 75) (hMt : ∀ k : Int, 0 ≤ k → k ≤ 7 → Mt k = K (20 + k)) (hb : ∀ i, Rf i ≤ 100000) (t0 : Tm 0 < 999 → Tm 0 + 1 = K 28) (kp0 : 0 ≤ kp) (kp1 : kp ≤ 16) : CM l E MX7_pass 7 [.ref (E.1 31)] f g j (PI (fun r f' g' j' => ((999 ≤ Tm 0 ∧ r = -3 ∧ f' 16 = -3 ∧ g' 11 = bumC Rf (-3) ∧ g' 44 = Tm ∧ f' 192 = kp ∧ g' 193 = D ∧ g' 194 = O1 ∧ g' 195 = O2) ∨ (Tm 0 < 999 ∧ r = gone K cl ∧ f' 16 = 0 ∧ g' 11 = Rf ∧ g' 44 = iu Tm 0 (Tm 0 + 1) ∧ f' 192 = (if kp = 16 then 15 else kp) + 1 ∧ g' 193 = iu (if kp = 16 then cpy D D 0 1 15 else D) (if kp = 16 then 15 else kp) 3 ∧ g' 194 = iu (if kp = 16 then cpy O1 O1 0 1 15 else O1) (if kp = 16 then 15 else kp) (-1) ∧ g' 195 = iu (if kp = 16 then cpy O2 O2 0 1 15 else O2) (if kp = 16 then 15 else kp) (-1))) ∧ eqx [16, 192, 354] f f' ∧ eqx [11, 44, 193, 194, 195, 352, 353, 355, 356, 384] g g' ∧ j' = j)) := by
  refine CM.intro [some (.ref (E.1 31)), none] (by decide) (Nat.le_of_ble_eq_true rfl) rfl (fun d hd h0 h hH hA => ?_)
  have hfE : eqx [16, 192, 354] f f := eqx.rf
  have hgE : eqx [11, 44, 193, 194, 195, 352, 353, 355, 356, 384] g g := eqx.rf
  have h79 := hK.2.2.2.2.2.2.2.2.2.2.1
  have hn := hK.1
  refine z_ald_0 (TX7_pass.at 0 rfl) ?_
  refine zc_callI0 (m := 0) (c_passS eg44 eg193 eg194 eg195 ef192 kp0 kp1) (hH.lv (by decide)) (TX7_pass.at 1 rfl) c7_283 rfl rfl hH hA (by omega) (Nat.le_of_ble_eq_true rfl) (fun x1 f1 g1 j1 h r1 q1 hH hA => ?_)
  obtain ⟨q1, xf, xg, xj⟩ := q1
  rw [xj] at hH
  have ef32 := (xf 32 (by decide)).trans ef32
  have ef37 := (xf 37 (by decide)).trans ef37
  have ef354 := (xf 354 (by decide)).trans ef354
  have ef45 := (xf 45 (by decide)).trans ef45
  have ef47 := (xf 47 (by decide)).trans ef47
  have ef16 := (xf 16 (by decide)).trans ef16
  have hfE := hfE.trans xf (by decide)
  have eg33 := (xg 33 (by decide)).trans eg33
  have eg34 := (xg 34 (by decide)).trans eg34
  have eg35 := (xg 35 (by decide)).trans eg35
  have eg36 := (xg 36 (by decide)).trans eg36
  have eg46 := (xg 46 (by decide)).trans eg46
  have eg38 := (xg 38 (by decide)).trans eg38
  have eg11 := (xg 11 (by decide)).trans eg11
  have hgE := hgE.trans xg (by decide)
  have qL := q1
  have hL := LwN_fr hL xf xg (by decide) (by decide)
  have hps := qL
  obtain ⟨T4, eg44⟩ : ∃ z, g1 44 = z := ⟨_, rfl⟩
  obtain ⟨k9, ef192⟩ : ∃ z, f1 192 = z := ⟨_, rfl⟩
  obtain ⟨z3, eg193⟩ : ∃ z, g1 193 = z := ⟨_, rfl⟩
  obtain ⟨z4, eg194⟩ : ∃ z, g1 194 = z := ⟨_, rfl⟩
  obtain ⟨z5, eg195⟩ : ∃ z, g1 195 = z := ⟨_, rfl⟩
  rw [eg44, ef192, eg193, eg194, eg195] at hps
  refine z_ist_1 (TX7_pass.at 2 rfl) (Nat.le_of_ble_eq_true rfl) rfl ?_
  refine z_ild_1 (TX7_pass.at 3 rfl) ?_
  refine z_if_ge (tgt := 15) (TX7_pass.at 4 rfl) rfl (by omega) (fun c1 => ?_) (fun c1 => ?_)
  · skip
    rcases hps with hps | hps
    · omega
    obtain ⟨p1, p2, p3, p4, p5, p6, p7⟩ := hps
    have t2 : T4 2 = K 75 := by rw [p3, iu_ne (by decide)]; exact t2
    have t0 : T4 0 = K 28 := by rw [p3, iu_self]; exact t0 p1
    refine z_ald_0 (TX7_pass.at 9 rfl) ?_
    refine z_ald_0 (TX7_pass.at 10 rfl) ?_
    refine z_ald_0 (TX7_pass.at 11 rfl) ?_
    refine zc_getO (m := 0) (s := 0) (k := 63) (hH.lv (by decide)) (TX7_pass.at 12 rfl) fl7_12 hH rfl rfl (by decide) (by decide) ?_
    refine zc_callI1 (m := 0) (c_goneIn1 eg33 eg34 eg35 eg36 eg44 eg46 eg38 ef32 ef37 ef354 ef45 ef47 hL hK hP hS t0 t2 hMt) (hH.lv (by decide)) (TX7_pass.at 13 rfl) c7_224 rfl rfl hH hA (by omega) (Nat.le_of_ble_eq_true rfl) (fun x21 f21 g21 j21 h r21 q21 hH hA => ?_)
    obtain ⟨q21, xf, xg, xj⟩ := q21
    rw [xj] at hH
    have ef32 := (xf 32 (by decide)).trans ef32
    have ef37 := (xf 37 (by decide)).trans ef37
    have ef45 := (xf 45 (by decide)).trans ef45
    have ef47 := (xf 47 (by decide)).trans ef47
    have ef16 := (xf 16 (by decide)).trans ef16
    have ef192 := (xf 192 (by decide)).trans ef192
    have hfE := hfE.trans xf (by decide)
    have eg33 := (xg 33 (by decide)).trans eg33
    have eg34 := (xg 34 (by decide)).trans eg34
    have eg35 := (xg 35 (by decide)).trans eg35
    have eg36 := (xg 36 (by decide)).trans eg36
    have eg44 := (xg 44 (by decide)).trans eg44
    have eg46 := (xg 46 (by decide)).trans eg46
    have eg38 := (xg 38 (by decide)).trans eg38
    have eg11 := (xg 11 (by decide)).trans eg11
    have eg193 := (xg 193 (by decide)).trans eg193
    have eg194 := (xg 194 (by decide)).trans eg194
    have eg195 := (xg 195 (by decide)).trans eg195
    have hgE := hgE.trans xg (by decide)
    have qL := q21
    subst qL
    refine zc_callI1 (m := 0) (c_answered ef16 (by omega)) (hH.lv (by decide)) (TX7_pass.at 14 rfl) c7_106 rfl rfl hH hA (by omega) (Nat.le_of_ble_eq_true rfl) (fun x24 f24 g24 j24 h r24 q24 hH hA => ?_)
    obtain ⟨q24, xf, xg, xj⟩ := q24
    rw [xj] at hH
    have ef32 := (xf 32 (by decide)).trans ef32
    have ef37 := (xf 37 (by decide)).trans ef37
    have ef45 := (xf 45 (by decide)).trans ef45
    have ef47 := (xf 47 (by decide)).trans ef47
    have ef192 := (xf 192 (by decide)).trans ef192
    have hfE := hfE.trans xf (by decide)
    have eg33 := (xg 33 (by decide)).trans eg33
    have eg34 := (xg 34 (by decide)).trans eg34
    have eg35 := (xg 35 (by decide)).trans eg35
    have eg36 := (xg 36 (by decide)).trans eg36
    have eg44 := (xg 44 (by decide)).trans eg44
    have eg46 := (xg 46 (by decide)).trans eg46
    have eg38 := (xg 38 (by decide)).trans eg38
    have eg11 := (xg 11 (by decide)).trans eg11
    have eg193 := (xg 193 (by decide)).trans eg193
    have eg194 := (xg 194 (by decide)).trans eg194
    have eg195 := (xg 195 (by decide)).trans eg195
    have hgE := hgE.trans xg (by decide)
    have qL := q24
    have ef16 := qL.2
    have qe := qL.1.symm
    subst qe
    refine zc_iret (TX7_pass.at 15 rfl) rfl hH hA (by omega) ?_
    exact ⟨Or.inr ⟨p1, rfl, ef16, eg11, eg44.trans p3, ef192.trans p4, eg193.trans p5, eg194.trans p6, eg195.trans p7⟩, hfE, hgE, rfl⟩
  · skip
    rcases hps with hps | hps
    rotate_left
    · omega
    obtain ⟨p1, p2, p3, p4, p5, p6, p7⟩ := hps
    subst p2
    refine z_ald_0 (TX7_pass.at 5 rfl) ?_
    refine z_ild_1 (TX7_pass.at 6 rfl) ?_
    refine zc_callI1 (m := 0) (c_refused eg11 ef16 (by omega) (by omega) (by omega) hb) (hH.lv (by decide)) (TX7_pass.at 7 rfl) c7_92 rfl rfl hH hA (by omega) (Nat.le_of_ble_eq_true rfl) (fun x11 f11 g11 j11 h r11 q11 hH hA => ?_)
    obtain ⟨q11, xf, xg, xj⟩ := q11
    rw [xj] at hH
    have ef32 := (xf 32 (by decide)).trans ef32
    have ef37 := (xf 37 (by decide)).trans ef37
    have ef354 := (xf 354 (by decide)).trans ef354
    have ef45 := (xf 45 (by decide)).trans ef45
    have ef47 := (xf 47 (by decide)).trans ef47
    have ef192 := (xf 192 (by decide)).trans ef192
    have hfE := hfE.trans xf (by decide)
    have eg33 := (xg 33 (by decide)).trans eg33
    have eg34 := (xg 34 (by decide)).trans eg34
    have eg35 := (xg 35 (by decide)).trans eg35
    have eg36 := (xg 36 (by decide)).trans eg36
    have eg44 := (xg 44 (by decide)).trans eg44
    have eg46 := (xg 46 (by decide)).trans eg46
    have eg38 := (xg 38 (by decide)).trans eg38
    have eg193 := (xg 193 (by decide)).trans eg193
    have eg194 := (xg 194 (by decide)).trans eg194
    have eg195 := (xg 195 (by decide)).trans eg195
    have hgE := hgE.trans xg (by decide)
    have qL := q11
    have ef16 := qL.2.1
    have eg11 := qL.2.2
    have qe := qL.1.symm
    subst qe
    refine zc_iret (TX7_pass.at 8 rfl) rfl hH hA (by omega) ?_
    exact ⟨Or.inl ⟨p1, rfl, ef16, eg11, eg44.trans p3, ef192.trans p4, eg193.trans p5, eg194.trans p6, eg195.trans p7⟩, hfE, hgE, rfl⟩

theorem bt_anx {S x t : Int} (hS : z31 S) (x0 : 0 ≤ x) (x9 : x ≤ 9) (t0 : 0 ≤ t) : bt (zand S (zxor (zshl 1 x) (-1))) t ↔ (bt S t ∧ t ≠ x) := by
  have h := bt_cS (S := S) (x := x) (y := t) (p := False) hS x0 x9 t0
  unfold cS at h
  rw [if_neg (fun z => z)] at h
  by_cases e : t = x
  · rw [if_pos e] at h; exact ⟨fun z => (h.mp z).elim, fun z => absurd e z.2⟩
  · rw [if_neg e] at h; exact ⟨fun z => ⟨h.mp z, e⟩, fun z => h.mpr z.1⟩
theorem and_31 {S x : Int} (hS : z31 S) (x0 : 0 ≤ x) (x9 : x ≤ 9) : z31 (zand S (zxor (zshl 1 x) (-1))) := by
  have h := cS_31 (S := S) (x := x) (p := False) hS x0 x9
  unfold cS at h
  rwa [if_neg (fun z => z)] at h
theorem FiT.S {Fr To BX HX fr to B Hd : Int → Int} {n9 S S' : Int} (h : FiT Fr To BX HX fr to B Hd n9 S) (hS : z31 S') : FiT Fr To BX HX fr to B Hd n9 S' := ⟨hS, h.2⟩
theorem fire_wet {K : Int → Int} {cl : List Cla} {S x a b : Int} (hK : KOK K) (hS : z31 S) (hct : ∀ x : Int, 0 ≤ x → x < K 76 → (bt S x ↔ ctc K cl x)) (x0 : 0 ≤ x) (x1 : x < K 76) : nC (dist (frK K) (toK K) (brn K cl) (hld K cl) (zand S (zxor (zshl 1 x) (-1))) (K 76).toNat (src (zshl 1 a))) b = orN (dK K cl (zand (ctS K cl) (zxor (zshl 1 x) (-1))) (src (zshl 1 a)) b) := by
  have hn := hK.1
  unfold dK
  rw [nC_orN, dist_S (S' := zand (ctS K cl) (zxor (zshl 1 x) (-1))) (fun t t0 t1 => by rw [bt_anx hS x0 (by omega) t0, bt_anx (ctS_31 hK) x0 (by omega) t0, hct t t0 (by omega), ctS_bt hK t0 (by omega)])]
set_option maxHeartbeats 4000000 in
set_option maxRecDepth 100000 in
theorem lp_cwet {l : Launch} {E : cE} {d : Nat} {Pz : Option Value → zH → Prop} {h0 : zH} {f0 : mF} {g0 : mA} {j : mA} (hd : 5 ≤ d) {Fr To BX HX K : Int → Int} {S2 : Int} {cl : List Cla} (hK : KOK K) (hT : FiT Fr To BX HX (frK K) (toK K) (brn K cl) (hld K cl) (K 76) S2) (hct : ∀ x : Int, 0 ≤ x → x < K 76 → (bt S2 x ↔ ctc K cl x)) {dp a b s : Int} (hdp : z31 dp) (hdk : ∀ i : Int, 0 ≤ i → i < K 76 → (bt dp i ↔ K i = 1)) (ha : 0 ≤ a ∧ a ≤ 7) (hb : 0 ≤ b ∧ b ≤ 7) (hs : -1 ≤ s ∧ s ≤ 999) (kx : ∀ (f : mF) (g : mA) (h : zH), eqx [354] f0 f → eqx [355] g0 g → HC E f g j h → cAg E h0 h → Z l MX7_wet d 0 0 Pz 140 [some (.ref (E.1 31)), some (vI a), some (vI b), some (vI s), some (vI S2), some (vI (msk (wetB K cl a b s) (K 76).toNat)), some (vI (K 76))] [] h 0 0)  : ∀ (n : Nat) (x : Int) (v : Int) (S9 : Int) (X : Int → Int) (f : mF) (g : mA) (h : zH) (x0 : 0 ≤ x) (x1 : x ≤ K 76) (x2 : K 76 < x + n) (ev : v = msk (wetB K cl a b s) x.toNat) (eg33 : g 33 = Fr) (eg34 : g 34 = To) (eg352 : g 352 = BX) (eg353 : g 353 = HX) (eg355 : g 355 = X) (ef32 : f 32 = (K 76)) (ef354 : f 354 = S9) (ef37 : f 37 = dp) (hfE : eqx [354] f0 f) (hgE : eqx [355] g0 g) (hH : HC E f g j h) (hA : cAg E h0 h), Z l MX7_wet d 0 0 Pz 61 [some (.ref (E.1 31)), some (vI a), some (vI b), some (vI s), some (vI S2), some (vI v), some (vI x)] [] h 0 0 := by
  intro n
  induction n with
  | zero => intro x v S9 X f g h x0 x1 x2 ev eg33 eg34 eg352 eg353 eg355 ef32 ef354 ef37 hfE hgE hH hA; exfalso; omega
  | succ n ih =>
    intro x v S9 X f g h x0 x1 x2 ev eg33 eg34 eg352 eg353 eg355 ef32 ef354 ef37 hfE hgE hH hA
    have hn := hK.1
    have hv1 := msk_31 (p := wetB K cl a b s) (n := x.toNat) (by omega)
    refine z_ild_6 (TX7_wet_0.at 30 rfl) ?_
    refine z_ald_0 (TX7_wet_0.at 31 rfl) ?_
    refine zc_getO (m := 0) (s := 0) (k := 63) (hH.lv (by decide)) (TX7_wet_0.at 32 rfl) fl7_12 hH rfl rfl (by decide) (by decide) ?_
    refine zc_getIE (m := 1) (s := 0) (k := 32) (hH.lv (by decide)) ef32 (TX7_wet_0.at 33 rfl) fl7_96 hH rfl rfl (by decide) (by decide) (fun r67 => ?_)
    refine z_icmp_ge (tgt := 140) (TX7_wet_0.at 34 rfl) rfl (by omega) (by omega) (fun c1 => ?_) (fun c1 => ?_)
    · skip
      obtain rfl : x = K 76 := by omega
      rw [ev]
      exact kx _ _ _ hfE hgE hH hA
    · skip
      have hdx := hdk x x0 (by omega)
      have hkx := (hK.2.1 x x0 (by omega)).1
      have hbx := b2i_K hkx hdx
      refine z_ald_0 (TX7_wet_0.at 35 rfl) ?_
      refine zc_getO (m := 0) (s := 0) (k := 63) (hH.lv (by decide)) (TX7_wet_0.at 36 rfl) fl7_12 hH rfl rfl (by decide) (by decide) ?_
      refine zc_getIE (m := 1) (s := 5) (k := 37) (hH.lv (by decide)) ef37 (TX7_wet_0.at 37 rfl) fl7_125 hH rfl rfl (by decide) (by decide) (fun r77 => ?_)
      refine z_ild_6 (TX7_wet_0.at 38 rfl) ?_
      refine zs_call2 (c_bit hdp (by omega)) (TX7_wet_0.at 39 rfl) c7_128 rfl (by omega) (Nat.le_of_ble_eq_true rfl) (fun r82 => ?_)
      refine z_iconst (TX7_wet_1.at 0 rfl) ?_
      refine z_icmp_ne (tgt := 92) (TX7_wet_1.at 1 rfl) rfl (by omega) (by omega) (fun c2 => ?_) (fun c2 => ?_)
      · skip
        have hza := and_31 (S := S2) (x := x) hT.1 x0 (by omega)
        have hzb := hza.zin
        have hz1 := shl_31 (i := x) x0 (by omega)
        refine z_ald_0 (TX7_wet_1.at 3 rfl) ?_
        refine zc_getO (m := 0) (s := 9) (k := 383) (hH.lv (by decide)) (TX7_wet_1.at 4 rfl) fl7_60 hH rfl rfl (by decide) (by decide) ?_
        refine z_ild_4 (TX7_wet_1.at 5 rfl) ?_
        refine z_iconst (TX7_wet_1.at 6 rfl) ?_
        refine z_ild_6 (TX7_wet_1.at 7 rfl) ?_
        refine z_ishl (TX7_wet_1.at 8 rfl) ?_
        refine z_iconst (TX7_wet_1.at 9 rfl) ?_
        refine z_ixor (TX7_wet_1.at 10 rfl) ?_
        refine z_iand (TX7_wet_1.at 11 rfl) ?_
        refine zc_putI (m := 11) (s := 2) (k := 354) (hH.lv (by decide)) (TX7_wet_1.at 12 rfl) fp7_146 hH hA rfl rfl (by decide) (by decide) (by first | omega | exact b2i_01 _) (fun h f105 e1 e2 hH hA => ?_)
        have ef32 := (e1 32 (by decide)).trans ef32
        have ef354 := e2
        have ef37 := (e1 37 (by decide)).trans ef37
        have hfE := hfE.put e1 (by decide)
        refine z_ald_0 (TX7_wet_1.at 13 rfl) ?_
        refine zc_getO (m := 0) (s := 9) (k := 383) (hH.lv (by decide)) (TX7_wet_1.at 14 rfl) fl7_60 hH rfl rfl (by decide) (by decide) ?_
        refine z_ald_0 (TX7_wet_1.at 15 rfl) ?_
        refine zc_getO (m := 0) (s := 0) (k := 63) (hH.lv (by decide)) (TX7_wet_1.at 16 rfl) fl7_12 hH rfl rfl (by decide) (by decide) ?_
        refine z_ild_1 (TX7_wet_1.at 17 rfl) ?_
        refine z_ild_2 (TX7_wet_1.at 18 rfl) ?_
        refine zc_callI3 (m := 11) (c_fromTo eg33 eg34 eg352 eg353 eg355 ef32 ef354 (by omega) (by omega) (hT.S hza) (by omega) (by omega) (by omega) (by omega)) (hH.lv (by decide)) (TX7_wet_1.at 19 rfl) c7_342 rfl rfl hH hA (by omega) (Nat.le_of_ble_eq_true rfl) (fun x118 f118 g118 j118 h r118 q118 hH hA => ?_)
        obtain ⟨q118, xf, xg, xj⟩ := q118
        rw [xj] at hH
        have ef32 := (xf 32 (by decide)).trans ef32
        have ef354 := (xf 354 (by decide)).trans ef354
        have ef37 := (xf 37 (by decide)).trans ef37
        have hfE := hfE.trans xf (by decide)
        have eg33 := (xg 33 (by decide)).trans eg33
        have eg34 := (xg 34 (by decide)).trans eg34
        have eg352 := (xg 352 (by decide)).trans eg352
        have eg353 := (xg 353 (by decide)).trans eg353
        have hgE := hgE.trans xg (by decide)
        have qL := q118
        obtain ⟨X118, eg355⟩ : ∃ z, g118 355 = z := ⟨_, rfl⟩
        rw [fire_wet hK hT.1 hct x0 (by omega)] at qL
        subst qL
        refine z_ild_3 (TX7_wet_1.at 20 rfl) ?_
        refine z_icmp_ne (tgt := 134) (TX7_wet_1.at 21 rfl) rfl (by omega) (by omega) (fun c3 => ?_) (fun c3 => ?_)
        · skip
          have hwt : ¬ wetB K cl a b s x = true := fun z => absurd (of_decide_eq_true z).2 (by omega)
          refine z_iinc_6 (TX7_wet_1.at 28 rfl) (Nat.le_of_ble_eq_true rfl) rfl ?_
          refine z_goto (tgt := 61) (TX7_wet_1.at 29 rfl) rfl ?_
          exact ih (x + 1) _ _ _ _ _ _ (by omega) (by omega) (by omega) (by first | (rw [msk_s x0, if_pos hwt, ev]; done) | exact msk_00 x0 hwt (by omega) ev) eg33 eg34 eg352 eg353 eg355 ef32 ef354 ef37 hfE hgE hH hA
        · skip
          have hwt : wetB K cl a b s x = true := decide_eq_true ⟨by omega, by omega⟩
          refine z_ild_5 (TX7_wet_1.at 22 rfl) ?_
          refine z_iconst (TX7_wet_1.at 23 rfl) ?_
          refine z_ild_6 (TX7_wet_1.at 24 rfl) ?_
          refine z_ishl (TX7_wet_1.at 25 rfl) ?_
          refine z_ior (TX7_wet_1.at 26 rfl) ?_
          refine z_ist_5 (TX7_wet_1.at 27 rfl) (Nat.le_of_ble_eq_true rfl) rfl ?_
          refine z_iinc_6 (TX7_wet_1.at 28 rfl) (Nat.le_of_ble_eq_true rfl) rfl ?_
          refine z_goto (tgt := 61) (TX7_wet_1.at 29 rfl) rfl ?_
          exact ih (x + 1) _ _ _ _ _ _ (by omega) (by omega) (by omega) (by first | (rw [msk_s x0, if_pos hwt, ev]; done) | exact msk_00 x0 hwt (by omega) ev) eg33 eg34 eg352 eg353 eg355 ef32 ef354 ef37 hfE hgE hH hA
      · skip
        have hwt : ¬ wetB K cl a b s x = true := fun z => absurd (of_decide_eq_true z).1 (by omega)
        refine z_goto (tgt := 134) (TX7_wet_1.at 2 rfl) rfl ?_
        refine z_iinc_6 (TX7_wet_1.at 28 rfl) (Nat.le_of_ble_eq_true rfl) rfl ?_
        refine z_goto (tgt := 61) (TX7_wet_1.at 29 rfl) rfl ?_
        exact ih (x + 1) _ _ _ _ _ _ (by omega) (by omega) (by omega) (by first | (rw [msk_s x0, if_pos hwt, ev]; done) | exact msk_00 x0 hwt (by omega) ev) eg33 eg34 eg352 eg353 eg355 ef32 ef354 ef37 hfE hgE hH hA

set_option maxHeartbeats 4000000 in
set_option maxRecDepth 100000 in
theorem c_wet {l : Launch} {E : cE} {f : mF} {g j : mA} {Fr : Int → Int} {To : Int → Int} {Ln : Int → Int} {Kd : Int → Int} {Tm : Int → Int} {Lw : Int → Int} {dp : Int} {S : Int} {a b s : Int} {K : Int → Int} {cl : List Cla} (eg33 : g 33 = Fr) (eg34 : g 34 = To) (eg35 : g 35 = Ln) (eg36 : g 36 = Kd) (eg44 : g 44 = Tm) (eg46 : g 46 = Lw) (ef32 : f 32 = (K 76)) (ef37 : f 37 = dp) (ef354 : f 354 = S) (ef45 : f 45 = (K 79)) (ef47 : f 47 = (K 80)) (ha : zIn a) (hb : zIn b) (hs : zIn s) (hL : LwN E f g (if 0 ≤ K 80 ∧ K 80 < K 79 then Lw (K 80) else -1) cl) (hK : KOK K) (hP : FrA Fr To Ln Kd dp K) (hS : z31 S) (t0 : Tm 0 = K 28) (t2 : Tm 2 = K 75) : CM l E MX7_wet 7 [.ref (E.1 31), vI a, vI b, vI s] f g j (PI (fun r f' g' j' => (r = wetV K cl a b s) ∧ eqx [354] f f' ∧ eqx [352, 353, 355, 356, 384] g g' ∧ j' = j)) := by
  refine CM.intro [some (.ref (E.1 31)), some (vI a), some (vI b), some (vI s), none, none, none] (by decide) (Nat.le_of_ble_eq_true rfl) rfl (fun d hd h0 h hH hA => ?_)
  have hfE : eqx [354] f f := eqx.rf
  have hgE : eqx [352, 353, 355, 356, 384] g g := eqx.rf
  have h79 := hK.2.2.2.2.2.2.2.2.2.2.1
  have hn := hK.1
  refine z_ild_1 (TX7_wet_0.at 0 rfl) ?_
  refine zs_call1 (c_isKnot (by omega)) (TX7_wet_0.at 1 rfl) c7_157 rfl (by omega) (Nat.le_of_ble_eq_true rfl) (fun r1 => ?_)
  refine z_if_eqB (tgt := 26) (TX7_wet_0.at 2 rfl) rfl (fun c1 => ?_) (fun c1 => ?_)
  · skip
    refine z_iconst (TX7_wet_0.at 12 rfl) ?_
    refine zc_iret (TX7_wet_0.at 13 rfl) rfl hH hA (by omega) ?_
    exact ⟨by unfold wetV; rw [if_neg (by omega)], hfE, hgE, rfl⟩
  · skip
    refine z_ild_2 (TX7_wet_0.at 3 rfl) ?_
    refine zs_call1 (c_isKnot (by omega)) (TX7_wet_0.at 4 rfl) c7_157 rfl (by omega) (Nat.le_of_ble_eq_true rfl) (fun r8 => ?_)
    refine z_if_eqB (tgt := 26) (TX7_wet_0.at 5 rfl) rfl (fun c2 => ?_) (fun c2 => ?_)
    · skip
      refine z_iconst (TX7_wet_0.at 12 rfl) ?_
      refine zc_iret (TX7_wet_0.at 13 rfl) rfl hH hA (by omega) ?_
      exact ⟨by unfold wetV; rw [if_neg (by omega)], hfE, hgE, rfl⟩
    · skip
      refine z_ild_3 (TX7_wet_0.at 6 rfl) ?_
      refine z_iconst (TX7_wet_0.at 7 rfl) ?_
      refine z_icmp_lt (tgt := 26) (TX7_wet_0.at 8 rfl) rfl (by omega) (by omega) (fun c3 => ?_) (fun c3 => ?_)
      · skip
        refine z_iconst (TX7_wet_0.at 12 rfl) ?_
        refine zc_iret (TX7_wet_0.at 13 rfl) rfl hH hA (by omega) ?_
        exact ⟨by unfold wetV; rw [if_neg (by omega)], hfE, hgE, rfl⟩
      · skip
        refine z_ild_3 (TX7_wet_0.at 9 rfl) ?_
        refine z_sipush (by decide) (TX7_wet_0.at 10 rfl) ?_
        refine z_icmp_le (tgt := 28) (TX7_wet_0.at 11 rfl) rfl (by omega) (by omega) (fun c4 => ?_) (fun c4 => ?_)
        · skip
          refine z_ald_0 (TX7_wet_0.at 14 rfl) ?_
          refine zc_getO (m := 0) (s := 9) (k := 383) (hH.lv (by decide)) (TX7_wet_0.at 15 rfl) fl7_60 hH rfl rfl (by decide) (by decide) ?_
          refine z_ald_0 (TX7_wet_0.at 16 rfl) ?_
          refine zc_getO (m := 0) (s := 0) (k := 63) (hH.lv (by decide)) (TX7_wet_0.at 17 rfl) fl7_12 hH rfl rfl (by decide) (by decide) ?_
          refine z_ald_0 (TX7_wet_0.at 18 rfl) ?_
          refine zc_getO (m := 0) (s := 0) (k := 63) (hH.lv (by decide)) (TX7_wet_0.at 19 rfl) fl7_12 hH rfl rfl (by decide) (by decide) ?_
          refine zc_callO (m := 1) (As := []) (c_lawIn1 eg46 ef45 ef47 h79.1 h79.2) (hH.lv (by decide)) (TX7_wet_0.at 20 rfl) c7_135 rfl rfl hH hA (by omega) (Nat.le_of_ble_eq_true rfl) (fun y40 f40 g40 j40 h q40 hH hA => ?_)
          obtain ⟨q40, xf, xg, xj⟩ := q40
          rw [xj] at hH
          have ef32 := (xf 32 (by decide)).trans ef32
          have ef37 := (xf 37 (by decide)).trans ef37
          have ef354 := (xf 354 (by decide)).trans ef354
          have ef45 := (xf 45 (by decide)).trans ef45
          have ef47 := (xf 47 (by decide)).trans ef47
          have hfE := hfE.trans xf (by decide)
          have eg33 := (xg 33 (by decide)).trans eg33
          have eg34 := (xg 34 (by decide)).trans eg34
          have eg35 := (xg 35 (by decide)).trans eg35
          have eg36 := (xg 36 (by decide)).trans eg36
          have eg44 := (xg 44 (by decide)).trans eg44
          have eg46 := (xg 46 (by decide)).trans eg46
          have hgE := hgE.trans xg (by decide)
          have qL := q40
          have hL := LwN_cg hL xf xg
          rw [← qL] at hL
          refine zc_callV2 (m := 11) (c_measY1 eg33 eg34 eg35 eg36 eg44 ef32 ef37 ef354 hL hK hP hS t0 t2) (hH.lv (by decide)) (TX7_wet_0.at 21 rfl) c7_139 rfl rfl hH hA (by omega) (Nat.le_of_ble_eq_true rfl) (fun f43 g43 j43 h q43 hH hA => ?_)
          obtain ⟨q43, xf, xg, xj⟩ := q43
          rw [xj] at hH
          have ef32 := (xf 32 (by decide)).trans ef32
          have ef37 := (xf 37 (by decide)).trans ef37
          have ef45 := (xf 45 (by decide)).trans ef45
          have ef47 := (xf 47 (by decide)).trans ef47
          have hfE := hfE.trans xf (by decide)
          have eg33 := (xg 33 (by decide)).trans eg33
          have eg34 := (xg 34 (by decide)).trans eg34
          have eg35 := (xg 35 (by decide)).trans eg35
          have eg36 := (xg 36 (by decide)).trans eg36
          have eg44 := (xg 44 (by decide)).trans eg44
          have eg46 := (xg 46 (by decide)).trans eg46
          have hgE := hgE.trans xg (by decide)
          have qL := q43
          obtain ⟨hT, hct⟩ := qL
          obtain ⟨BX, eg352⟩ : ∃ z, g43 352 = z := ⟨_, rfl⟩
          obtain ⟨HX, eg353⟩ : ∃ z, g43 353 = z := ⟨_, rfl⟩
          obtain ⟨S2, ef354⟩ : ∃ z, f43 354 = z := ⟨_, rfl⟩
          rw [eg352, eg353, ef354] at hT
          rw [ef354] at hct
          refine z_ald_0 (TX7_wet_0.at 22 rfl) ?_
          refine zc_getO (m := 0) (s := 9) (k := 383) (hH.lv (by decide)) (TX7_wet_0.at 23 rfl) fl7_60 hH rfl rfl (by decide) (by decide) ?_
          refine zc_getIE (m := 11) (s := 2) (k := 354) (hH.lv (by decide)) ef354 (TX7_wet_0.at 24 rfl) fl7_146 hH rfl rfl (by decide) (by decide) (fun r50 => ?_)
          refine z_ist_4 (TX7_wet_0.at 25 rfl) (Nat.le_of_ble_eq_true rfl) rfl ?_
          refine z_iconst (TX7_wet_0.at 26 rfl) ?_
          refine z_ist_5 (TX7_wet_0.at 27 rfl) (Nat.le_of_ble_eq_true rfl) rfl ?_
          refine z_iconst (TX7_wet_0.at 28 rfl) ?_
          refine z_ist_6 (TX7_wet_0.at 29 rfl) (Nat.le_of_ble_eq_true rfl) rfl ?_
          refine lp_cwet (by omega) hK hT hct hP.1 (fun i i0 i1 => (hP.2 i i0 i1).2.2.2.2) (by omega) (by omega) (by omega) (fun f61 g61 h  xf xg hH hA => ?_) 11 0 0 _ _ _ _ _ (by omega) (by omega) (by omega) rfl eg33 eg34 eg352 eg353 rfl ef32 ef354 ef37 eqx.rf eqx.rf hH hA
          have ef32 := (xf 32 (by decide)).trans ef32
          have ef37 := (xf 37 (by decide)).trans ef37
          have ef45 := (xf 45 (by decide)).trans ef45
          have ef47 := (xf 47 (by decide)).trans ef47
          have hfE := hfE.trans xf (by decide)
          have eg33 := (xg 33 (by decide)).trans eg33
          have eg34 := (xg 34 (by decide)).trans eg34
          have eg35 := (xg 35 (by decide)).trans eg35
          have eg36 := (xg 36 (by decide)).trans eg36
          have eg44 := (xg 44 (by decide)).trans eg44
          have eg46 := (xg 46 (by decide)).trans eg46
          have eg352 := (xg 352 (by decide)).trans eg352
          have eg353 := (xg 353 (by decide)).trans eg353
          have hgE := hgE.trans xg (by decide)
          have hv1 := msk_31 (p := wetB K cl a b s) (n := (K 76).toNat) (by omega)
          have hv2 := hv1.zin
          refine z_ild_5 (TX7_wet_1.at 30 rfl) ?_
          refine zc_iret (TX7_wet_1.at 31 rfl) rfl hH hA (by omega) ?_
          exact ⟨by unfold wetV; rw [if_pos (by omega)], hfE, hgE, rfl⟩
        · skip
          refine z_iconst (TX7_wet_0.at 12 rfl) ?_
          refine zc_iret (TX7_wet_0.at 13 rfl) rfl hH hA (by omega) ?_
          exact ⟨by unfold wetV; rw [if_neg (by omega)], hfE, hgE, rfl⟩

