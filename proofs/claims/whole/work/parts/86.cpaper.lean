/-! ===== the class itself: fire on paper ===== -/
set_option maxHeartbeats 4000000 in
set_option maxRecDepth 100000 in
theorem c_burnP {l : Launch} {E : cE} {f : mF} {g j : mA} {Fr To Ln Kd Tm Lw K : Int → Int} {dp S q : Int} {cl : List Cla} (eg33 : g 33 = Fr) (eg34 : g 34 = To) (eg35 : g 35 = Ln) (eg36 : g 36 = Kd) (eg44 : g 44 = Tm) (eg46 : g 46 = Lw) (ef32 : f 32 = K 76) (ef37 : f 37 = dp) (ef354 : f 354 = S) (ef45 : f 45 = K 79) (ef47 : f 47 = K 80) (hL : LwN E f g (if 0 ≤ K 80 ∧ K 80 < K 79 then Lw (K 80) else -1) cl) (hK : KOK K) (hP : FrA Fr To Ln Kd dp K) (hS : z31 S) (t0 : Tm 0 = K 28) (t2 : Tm 2 = K 75) (hq : z31 q) : CM l E MX7_burnOnPaper 6 [.ref (E.1 31), vI q] f g j (PV (fun f' g' j' => (FiH Fr To (g' 352) (g' 353) (frK K) (toK K) (brn K cl) (hld K cl) (K 76) (f' 354) (g' 355) (cmP K cl q) ∧ ∀ x : Int, 0 ≤ x → x < K 76 → (bt (f' 354) x ↔ ctc K cl x)) ∧ eqx [354] f f' ∧ eqx [352, 353, 355, 356, 384] g g' ∧ j' = j)) := by
  have h79 := hK.2.2.2.2.2.2.2.2.2.2.1
  refine CM.intro [some (.ref (E.1 31)), some (vI q)] (by decide) (Nat.le_of_ble_eq_true rfl) rfl (fun d hd h0 h hH hA => ?_)
  refine z_ald_0 (TX7_burnOnPaper.at 0 rfl) ?_
  refine zc_getO (m := 0) (s := 9) (k := 383) (hH.lv (by decide)) (TX7_burnOnPaper.at 1 rfl) fl7_60 hH rfl rfl (by decide) (by decide) ?_
  refine z_ald_0 (TX7_burnOnPaper.at 2 rfl) ?_
  refine zc_getO (m := 0) (s := 0) (k := 63) (hH.lv (by decide)) (TX7_burnOnPaper.at 3 rfl) fl7_12 hH rfl rfl (by decide) (by decide) ?_
  refine z_ald_0 (TX7_burnOnPaper.at 4 rfl) ?_
  refine zc_getO (m := 0) (s := 0) (k := 63) (hH.lv (by decide)) (TX7_burnOnPaper.at 5 rfl) fl7_12 hH rfl rfl (by decide) (by decide) ?_
  refine zc_callO (m := 1) (As := []) (c_lawIn1 eg46 ef45 ef47 h79.1 h79.2) (hH.lv (by decide)) (TX7_burnOnPaper.at 6 rfl) c7_135 rfl rfl hH hA (by omega) (Nat.le_of_ble_eq_true rfl) (fun y f1 g1 j1 h1 q1 hH hA => ?_)
  obtain ⟨ey, xf, xg, xj⟩ := q1
  rw [xj] at hH
  have ff : f1 = f := funext (fun k => xf k (by decide +revert))
  have gg : g1 = g := funext (fun k => xg k (by decide +revert))
  rw [ff, gg] at hH
  rw [← ey] at hL
  refine zc_callV2 (m := 11) (c_measY1 eg33 eg34 eg35 eg36 eg44 ef32 ef37 ef354 hL hK hP hS t0 t2) (hH.lv (by decide)) (TX7_burnOnPaper.at 7 rfl) c7_139 rfl rfl hH hA (by omega) (Nat.le_of_ble_eq_true rfl) (fun f2 g2 j2 h2 q2 hH hA => ?_)
  obtain ⟨⟨hT, hct⟩, yf, yg, yj⟩ := q2
  rw [yj] at hH
  refine z_ald_0 (TX7_burnOnPaper.at 8 rfl) ?_
  refine zc_getO (m := 0) (s := 9) (k := 383) (hH.lv (by decide)) (TX7_burnOnPaper.at 9 rfl) fl7_60 hH rfl rfl (by decide) (by decide) ?_
  refine z_ald_0 (TX7_burnOnPaper.at 10 rfl) ?_
  refine zc_getO (m := 0) (s := 0) (k := 63) (hH.lv (by decide)) (TX7_burnOnPaper.at 11 rfl) fl7_12 hH rfl rfl (by decide) (by decide) ?_
  refine z_ild_1 (TX7_burnOnPaper.at 12 rfl) ?_
  refine zc_callV2 (m := 11) (c_sprF1 ((yg 33 (by decide)).trans eg33) ((yg 34 (by decide)).trans eg34) rfl rfl rfl ((yf 32 (by decide)).trans ef32) rfl (by omega) hq hT) (hH.lv (by decide)) (TX7_burnOnPaper.at 13 rfl) c7_314 rfl rfl hH hA (by omega) (Nat.le_of_ble_eq_true rfl) (fun f3 g3 j3 h3 q3 hH hA => ?_)
  obtain ⟨hI, vf, vg, vj⟩ := q3
  rw [vj] at hH
  refine zc_vret (TX7_burnOnPaper.at 14 rfl) rfl hH hA ?_
  rw [fire_cm hK hct] at hI
  have e1 := vg 352 (by decide)
  have e2 := vg 353 (by decide)
  have e3 := vf 354 (by decide)
  rw [← e1, ← e2, ← e3] at hI
  rw [← e3] at hct
  exact ⟨⟨hI, hct⟩, yf.trans vf (by decide), (fun k hk => (vg k (fun z => hk (by simp only [List.mem_cons, List.not_mem_nil, or_false] at z ⊢; omega))).trans (yg k (fun z => hk (by simp only [List.mem_cons, List.not_mem_nil, or_false] at z ⊢; omega)))), rfl⟩

