/-! ===== the class: deeds that are asked for ===== -/
set_option maxHeartbeats 4000000 in
set_option maxRecDepth 100000 in
theorem c_light {l : Launch} {E : cE} {f : mF} {g j : mA} {Mt : Int → Int} {Tm : Int → Int} {D : Int → Int} {O1 : Int → Int} {O2 : Int → Int} {Rf : Int → Int} {kp : Int} {st : Int} {k : Int}  (eg38 : g 38 = Mt) (eg44 : g 44 = Tm) (eg193 : g 193 = D) (eg194 : g 194 = O1) (eg195 : g 195 = O2) (eg11 : g 11 = Rf) (ef192 : f 192 = kp) (ef16 : f 16 = st) (hk : zIn k) (kp0 : 0 ≤ kp) (kp1 : kp ≤ 16) (t00 : 0 ≤ Tm 0) (hb9 : ∀ i, Rf i ≤ 100000) : CM l E MX7_light 3 [.ref (E.1 31), vI k] f g j (PI (fun r f' g' j' => (((¬ (0 ≤ k ∧ k ≤ 7) ∧ r = -1 ∧ g' 38 = Mt ∧ f' 192 = kp ∧ g' 193 = D ∧ g' 194 = O1 ∧ g' 195 = O2) ∨ ((0 ≤ k ∧ k ≤ 7) ∧ Mt k ≠ -1 ∧ r = -3 ∧ g' 38 = Mt ∧ f' 192 = kp ∧ g' 193 = D ∧ g' 194 = O1 ∧ g' 195 = O2) ∨ ((0 ≤ k ∧ k ≤ 7) ∧ Mt k = -1 ∧ r = Tm 0 ∧ g' 38 = iu Mt k (Tm 0) ∧ f' 192 = (if kp = 16 then 15 else kp) + 1 ∧ g' 193 = iu (if kp = 16 then cpy D D 0 1 15 else D) (if kp = 16 then 15 else kp) 0 ∧ g' 194 = iu (if kp = 16 then cpy O1 O1 0 1 15 else O1) (if kp = 16 then 15 else kp) k ∧ g' 195 = iu (if kp = 16 then cpy O2 O2 0 1 15 else O2) (if kp = 16 then 15 else kp) (-1))) ∧ f' 16 = (if r < 0 then r else 0) ∧ g' 11 = (if r < 0 then bumC Rf r else Rf)) ∧ eqx [16, 192] f f' ∧ eqx [11, 38, 193, 194, 195] g g' ∧ j' = j)) := by
  refine CM.intro [some (.ref (E.1 31)), some (vI k)] (by decide) (Nat.le_of_ble_eq_true rfl) rfl (fun d hd h0 h hH hA => ?_)
  have hfE : eqx [16, 192] f f := eqx.rf
  have hgE : eqx [11, 38, 193, 194, 195] g g := eqx.rf
  refine z_ald_0 (TX7_light.at 0 rfl) ?_
  refine z_ald_0 (TX7_light.at 1 rfl) ?_
  refine z_ild_1 (TX7_light.at 2 rfl) ?_
  refine zc_callI1 (m := 0) (c_lightM eg38 eg44 eg193 eg194 eg195 ef192 (by omega) kp0 kp1) (hH.lv (by decide)) (TX7_light.at 3 rfl) c7_274 rfl rfl hH hA (by omega) (Nat.le_of_ble_eq_true rfl) (fun x3 f3 g3 j3 h r3 q3 hH hA => ?_)
  obtain ⟨q3, xf, xg, xj⟩ := q3
  rw [xj] at hH
  have ef16 := (xf 16 (by decide)).trans ef16
  have hfE := hfE.trans xf (by decide)
  have eg44 := (xg 44 (by decide)).trans eg44
  have eg11 := (xg 11 (by decide)).trans eg11
  have hgE := hgE.trans xg (by decide)
  have qL := q3
  have hin := qL
  have hlo : -6 ≤ x3 := by
    rcases hin with q | q | q
    · have := q.2.1; omega
    · have := q.2.2.1; omega
    · have := q.2.2.1; omega
  obtain ⟨wf192, ef192⟩ : ∃ z, f3 192 = z := ⟨_, rfl⟩
  obtain ⟨wg38, eg38⟩ : ∃ z, g3 38 = z := ⟨_, rfl⟩
  obtain ⟨wg193, eg193⟩ : ∃ z, g3 193 = z := ⟨_, rfl⟩
  obtain ⟨wg194, eg194⟩ : ∃ z, g3 194 = z := ⟨_, rfl⟩
  obtain ⟨wg195, eg195⟩ : ∃ z, g3 195 = z := ⟨_, rfl⟩
  refine zc_callI1 (m := 0) (c_aor eg11 ef16 (by omega) (by omega) hb9) (hH.lv (by decide)) (TX7_light.at 4 rfl) c7_290 rfl rfl hH hA (by omega) (Nat.le_of_ble_eq_true rfl) (fun x6 f6 g6 j6 h r6 q6 hH hA => ?_)
  obtain ⟨q6, xf, xg, xj⟩ := q6
  rw [xj] at hH
  have ef192 := (xf 192 (by decide)).trans ef192
  have hfE := hfE.trans xf (by decide)
  have eg38 := (xg 38 (by decide)).trans eg38
  have eg44 := (xg 44 (by decide)).trans eg44
  have eg193 := (xg 193 (by decide)).trans eg193
  have eg194 := (xg 194 (by decide)).trans eg194
  have eg195 := (xg 195 (by decide)).trans eg195
  have hgE := hgE.trans xg (by decide)
  have qL := q6
  have z192 := xf 192 (by decide)
  have y38 := xg 38 (by decide)
  have y193 := xg 193 (by decide)
  have y194 := xg 194 (by decide)
  have y195 := xg 195 (by decide)
  have er := qL.1
  rw [← er] at hin qL
  refine zc_iret (TX7_light.at 5 rfl) rfl hH hA (by omega) ?_
  exact ⟨⟨by rw [z192, y38, y193, y194, y195]; exact hin, qL.2.1, qL.2.2⟩, hfE, hgE, rfl⟩

set_option maxHeartbeats 4000000 in
set_option maxRecDepth 100000 in
theorem c_soak {l : Launch} {E : cE} {f : mF} {g j : mA} {D : Int → Int} {O1 : Int → Int} {O2 : Int → Int} {Rf : Int → Int} {n9 : Int} {dp : Int} {kp : Int} {st : Int} {x : Int}  (eg193 : g 193 = D) (eg194 : g 194 = O1) (eg195 : g 195 = O2) (eg11 : g 11 = Rf) (ef32 : f 32 = n9) (ef37 : f 37 = dp) (ef192 : f 192 = kp) (ef16 : f 16 = st) (hx : zIn x) (kp0 : 0 ≤ kp) (kp1 : kp ≤ 16) (n1 : n9 ≤ 10) (hdp : z31 dp) (hb9 : ∀ i, Rf i ≤ 100000) : CM l E MX7_soak 3 [.ref (E.1 31), vI x] f g j (PI (fun r f' g' j' => (((¬ (0 ≤ x ∧ x < n9) ∧ r = -2 ∧ f' 37 = dp ∧ f' 192 = kp ∧ g' 193 = D ∧ g' 194 = O1 ∧ g' 195 = O2) ∨ ((0 ≤ x ∧ x < n9) ∧ r = b2i (bt (zxor dp (zshl 1 x)) x) ∧ f' 37 = zxor dp (zshl 1 x) ∧ f' 192 = (if kp = 16 then 15 else kp) + 1 ∧ g' 193 = iu (if kp = 16 then cpy D D 0 1 15 else D) (if kp = 16 then 15 else kp) 1 ∧ g' 194 = iu (if kp = 16 then cpy O1 O1 0 1 15 else O1) (if kp = 16 then 15 else kp) x ∧ g' 195 = iu (if kp = 16 then cpy O2 O2 0 1 15 else O2) (if kp = 16 then 15 else kp) (-1))) ∧ f' 16 = (if r < 0 then r else 0) ∧ g' 11 = (if r < 0 then bumC Rf r else Rf)) ∧ eqx [16, 37, 192] f f' ∧ eqx [11, 193, 194, 195] g g' ∧ j' = j)) := by
  refine CM.intro [some (.ref (E.1 31)), some (vI x)] (by decide) (Nat.le_of_ble_eq_true rfl) rfl (fun d hd h0 h hH hA => ?_)
  have hfE : eqx [16, 37, 192] f f := eqx.rf
  have hgE : eqx [11, 193, 194, 195] g g := eqx.rf
  refine z_ald_0 (TX7_soak.at 0 rfl) ?_
  refine z_ald_0 (TX7_soak.at 1 rfl) ?_
  refine z_ild_1 (TX7_soak.at 2 rfl) ?_
  refine zc_callI1 (m := 0) (c_soakF eg193 eg194 eg195 ef32 ef37 ef192 (by omega) kp0 kp1 n1 hdp) (hH.lv (by decide)) (TX7_soak.at 3 rfl) c7_277 rfl rfl hH hA (by omega) (Nat.le_of_ble_eq_true rfl) (fun x3 f3 g3 j3 h r3 q3 hH hA => ?_)
  obtain ⟨q3, xf, xg, xj⟩ := q3
  rw [xj] at hH
  have ef32 := (xf 32 (by decide)).trans ef32
  have ef16 := (xf 16 (by decide)).trans ef16
  have hfE := hfE.trans xf (by decide)
  have eg11 := (xg 11 (by decide)).trans eg11
  have hgE := hgE.trans xg (by decide)
  have qL := q3
  have hin := qL
  have hlo : -6 ≤ x3 := by
    rcases hin with q | q
    · have := q.2.1; omega
    · have h1 := q.2.1; have h2 := b2i_01 (bt (zxor dp (zshl 1 x)) x); omega
  obtain ⟨wf37, ef37⟩ : ∃ z, f3 37 = z := ⟨_, rfl⟩
  obtain ⟨wf192, ef192⟩ : ∃ z, f3 192 = z := ⟨_, rfl⟩
  obtain ⟨wg193, eg193⟩ : ∃ z, g3 193 = z := ⟨_, rfl⟩
  obtain ⟨wg194, eg194⟩ : ∃ z, g3 194 = z := ⟨_, rfl⟩
  obtain ⟨wg195, eg195⟩ : ∃ z, g3 195 = z := ⟨_, rfl⟩
  refine zc_callI1 (m := 0) (c_aor eg11 ef16 (by omega) (by omega) hb9) (hH.lv (by decide)) (TX7_soak.at 4 rfl) c7_290 rfl rfl hH hA (by omega) (Nat.le_of_ble_eq_true rfl) (fun x6 f6 g6 j6 h r6 q6 hH hA => ?_)
  obtain ⟨q6, xf, xg, xj⟩ := q6
  rw [xj] at hH
  have ef32 := (xf 32 (by decide)).trans ef32
  have ef37 := (xf 37 (by decide)).trans ef37
  have ef192 := (xf 192 (by decide)).trans ef192
  have hfE := hfE.trans xf (by decide)
  have eg193 := (xg 193 (by decide)).trans eg193
  have eg194 := (xg 194 (by decide)).trans eg194
  have eg195 := (xg 195 (by decide)).trans eg195
  have hgE := hgE.trans xg (by decide)
  have qL := q6
  have z37 := xf 37 (by decide)
  have z192 := xf 192 (by decide)
  have y193 := xg 193 (by decide)
  have y194 := xg 194 (by decide)
  have y195 := xg 195 (by decide)
  have er := qL.1
  rw [← er] at hin qL
  refine zc_iret (TX7_soak.at 5 rfl) rfl hH hA (by omega) ?_
  exact ⟨⟨by rw [z37, z192, y193, y194, y195]; exact hin, qL.2.1, qL.2.2⟩, hfE, hgE, rfl⟩

set_option maxHeartbeats 4000000 in
set_option maxRecDepth 100000 in
theorem c_swap {l : Launch} {E : cE} {f : mF} {g j : mA} {Ln : Int → Int} {D : Int → Int} {O1 : Int → Int} {O2 : Int → Int} {Rf : Int → Int} {n9 : Int} {kp : Int} {st : Int} {a b : Int}  (eg35 : g 35 = Ln) (eg193 : g 193 = D) (eg194 : g 194 = O1) (eg195 : g 195 = O2) (eg11 : g 11 = Rf) (ef32 : f 32 = n9) (ef192 : f 192 = kp) (ef16 : f 16 = st) (ha : zIn a) (hb : zIn b) (kp0 : 0 ≤ kp) (kp1 : kp ≤ 16) (n1 : n9 ≤ 10) (hLn : ∀ i : Int, 0 ≤ i → i < n9 → 0 ≤ Ln i) (hb9 : ∀ i, Rf i ≤ 100000) : CM l E MX7_swap 3 [.ref (E.1 31), vI a, vI b] f g j (PI (fun r f' g' j' => (((a = b ∧ r = -1 ∧ g' 35 = Ln ∧ f' 192 = kp ∧ g' 193 = D ∧ g' 194 = O1 ∧ g' 195 = O2) ∨ (a ≠ b ∧ ¬ ((0 ≤ a ∧ a < n9) ∧ 0 ≤ b ∧ b < n9) ∧ r = -2 ∧ g' 35 = Ln ∧ f' 192 = kp ∧ g' 193 = D ∧ g' 194 = O1 ∧ g' 195 = O2) ∨ (a ≠ b ∧ ((0 ≤ a ∧ a < n9) ∧ 0 ≤ b ∧ b < n9) ∧ r = (iu (iu Ln a (Ln b)) b (Ln a)) a ∧ g' 35 = iu (iu Ln a (Ln b)) b (Ln a) ∧ f' 192 = (if kp = 16 then 15 else kp) + 1 ∧ g' 193 = iu (if kp = 16 then cpy D D 0 1 15 else D) (if kp = 16 then 15 else kp) 2 ∧ g' 194 = iu (if kp = 16 then cpy O1 O1 0 1 15 else O1) (if kp = 16 then 15 else kp) a ∧ g' 195 = iu (if kp = 16 then cpy O2 O2 0 1 15 else O2) (if kp = 16 then 15 else kp) b)) ∧ f' 16 = (if r < 0 then r else 0) ∧ g' 11 = (if r < 0 then bumC Rf r else Rf)) ∧ eqx [16, 192] f f' ∧ eqx [11, 35, 193, 194, 195] g g' ∧ j' = j)) := by
  refine CM.intro [some (.ref (E.1 31)), some (vI a), some (vI b)] (by decide) (Nat.le_of_ble_eq_true rfl) rfl (fun d hd h0 h hH hA => ?_)
  have hfE : eqx [16, 192] f f := eqx.rf
  have hgE : eqx [11, 35, 193, 194, 195] g g := eqx.rf
  refine z_ald_0 (TX7_swap.at 0 rfl) ?_
  refine z_ald_0 (TX7_swap.at 1 rfl) ?_
  refine z_ild_1 (TX7_swap.at 2 rfl) ?_
  refine z_ild_2 (TX7_swap.at 3 rfl) ?_
  refine zc_callI2 (m := 0) (c_swapF eg35 eg193 eg194 eg195 ef32 ef192 (by omega) (by omega) kp0 kp1 n1) (hH.lv (by decide)) (TX7_swap.at 4 rfl) c7_280 rfl rfl hH hA (by omega) (Nat.le_of_ble_eq_true rfl) (fun x4 f4 g4 j4 h r4 q4 hH hA => ?_)
  obtain ⟨q4, xf, xg, xj⟩ := q4
  rw [xj] at hH
  have ef32 := (xf 32 (by decide)).trans ef32
  have ef16 := (xf 16 (by decide)).trans ef16
  have hfE := hfE.trans xf (by decide)
  have eg11 := (xg 11 (by decide)).trans eg11
  have hgE := hgE.trans xg (by decide)
  have qL := q4
  have hin := qL
  have hlo : -6 ≤ x4 := by
    rcases hin with q | q | q
    · have := q.2.1; omega
    · have := q.2.2.1; omega
    · have h1 := q.2.2.1; have h2 := hLn b q.2.1.2.1 q.2.1.2.2; rw [iu_ne q.1, iu_self] at h1; omega
  obtain ⟨wf192, ef192⟩ : ∃ z, f4 192 = z := ⟨_, rfl⟩
  obtain ⟨wg35, eg35⟩ : ∃ z, g4 35 = z := ⟨_, rfl⟩
  obtain ⟨wg193, eg193⟩ : ∃ z, g4 193 = z := ⟨_, rfl⟩
  obtain ⟨wg194, eg194⟩ : ∃ z, g4 194 = z := ⟨_, rfl⟩
  obtain ⟨wg195, eg195⟩ : ∃ z, g4 195 = z := ⟨_, rfl⟩
  refine zc_callI1 (m := 0) (c_aor eg11 ef16 (by omega) (by omega) hb9) (hH.lv (by decide)) (TX7_swap.at 5 rfl) c7_290 rfl rfl hH hA (by omega) (Nat.le_of_ble_eq_true rfl) (fun x7 f7 g7 j7 h r7 q7 hH hA => ?_)
  obtain ⟨q7, xf, xg, xj⟩ := q7
  rw [xj] at hH
  have ef32 := (xf 32 (by decide)).trans ef32
  have ef192 := (xf 192 (by decide)).trans ef192
  have hfE := hfE.trans xf (by decide)
  have eg35 := (xg 35 (by decide)).trans eg35
  have eg193 := (xg 193 (by decide)).trans eg193
  have eg194 := (xg 194 (by decide)).trans eg194
  have eg195 := (xg 195 (by decide)).trans eg195
  have hgE := hgE.trans xg (by decide)
  have qL := q7
  have z192 := xf 192 (by decide)
  have y35 := xg 35 (by decide)
  have y193 := xg 193 (by decide)
  have y194 := xg 194 (by decide)
  have y195 := xg 195 (by decide)
  have er := qL.1
  rw [← er] at hin qL
  refine zc_iret (TX7_swap.at 6 rfl) rfl hH hA (by omega) ?_
  exact ⟨⟨by rw [z192, y35, y193, y194, y195]; exact hin, qL.2.1, qL.2.2⟩, hfE, hgE, rfl⟩

