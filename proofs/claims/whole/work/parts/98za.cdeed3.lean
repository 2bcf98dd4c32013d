/-! ===== the class: one deed of orders ===== -/
def LmQ (Mt Tm D O1 O2 : Int → Int) (kp k r : Int) (f' : mF) (g' : mA) : Prop := (¬ (0 ≤ k ∧ k ≤ 7) ∧ r = -1 ∧ g' 38 = Mt ∧ f' 192 = kp ∧ g' 193 = D ∧ g' 194 = O1 ∧ g' 195 = O2) ∨ ((0 ≤ k ∧ k ≤ 7) ∧ Mt k ≠ -1 ∧ r = -3 ∧ g' 38 = Mt ∧ f' 192 = kp ∧ g' 193 = D ∧ g' 194 = O1 ∧ g' 195 = O2) ∨ ((0 ≤ k ∧ k ≤ 7) ∧ Mt k = -1 ∧ r = Tm 0 ∧ g' 38 = iu Mt k (Tm 0) ∧ f' 192 = (if kp = 16 then 15 else kp) + 1 ∧ g' 193 = iu (if kp = 16 then cpy D D 0 1 15 else D) (if kp = 16 then 15 else kp) 0 ∧ g' 194 = iu (if kp = 16 then cpy O1 O1 0 1 15 else O1) (if kp = 16 then 15 else kp) k ∧ g' 195 = iu (if kp = 16 then cpy O2 O2 0 1 15 else O2) (if kp = 16 then 15 else kp) (-1))
def SkQ (D O1 O2 : Int → Int) (n9 dp kp k r : Int) (f' : mF) (g' : mA) : Prop := (¬ (0 ≤ k ∧ k < n9) ∧ r = -2 ∧ f' 37 = dp ∧ f' 192 = kp ∧ g' 193 = D ∧ g' 194 = O1 ∧ g' 195 = O2) ∨ ((0 ≤ k ∧ k < n9) ∧ r = b2i (bt (zxor dp (zshl 1 k)) k) ∧ f' 37 = zxor dp (zshl 1 k) ∧ f' 192 = (if kp = 16 then 15 else kp) + 1 ∧ g' 193 = iu (if kp = 16 then cpy D D 0 1 15 else D) (if kp = 16 then 15 else kp) 1 ∧ g' 194 = iu (if kp = 16 then cpy O1 O1 0 1 15 else O1) (if kp = 16 then 15 else kp) k ∧ g' 195 = iu (if kp = 16 then cpy O2 O2 0 1 15 else O2) (if kp = 16 then 15 else kp) (-1))
def SwQ (Ln D O1 O2 : Int → Int) (n9 kp k b r : Int) (f' : mF) (g' : mA) : Prop := (k = b ∧ r = -1 ∧ g' 35 = Ln ∧ f' 192 = kp ∧ g' 193 = D ∧ g' 194 = O1 ∧ g' 195 = O2) ∨ (k ≠ b ∧ ¬ ((0 ≤ k ∧ k < n9) ∧ 0 ≤ b ∧ b < n9) ∧ r = -2 ∧ g' 35 = Ln ∧ f' 192 = kp ∧ g' 193 = D ∧ g' 194 = O1 ∧ g' 195 = O2) ∨ (k ≠ b ∧ ((0 ≤ k ∧ k < n9) ∧ 0 ≤ b ∧ b < n9) ∧ r = (iu (iu Ln k (Ln b)) b (Ln k)) k ∧ g' 35 = iu (iu Ln k (Ln b)) b (Ln k) ∧ f' 192 = (if kp = 16 then 15 else kp) + 1 ∧ g' 193 = iu (if kp = 16 then cpy D D 0 1 15 else D) (if kp = 16 then 15 else kp) 2 ∧ g' 194 = iu (if kp = 16 then cpy O1 O1 0 1 15 else O1) (if kp = 16 then 15 else kp) k ∧ g' 195 = iu (if kp = 16 then cpy O2 O2 0 1 15 else O2) (if kp = 16 then 15 else kp) b)
def PsQ (Tm D O1 O2 : Int → Int) (kp r : Int) (f' : mF) (g' : mA) : Prop := (999 ≤ Tm 0 ∧ r = -3 ∧ g' 44 = Tm ∧ f' 192 = kp ∧ g' 193 = D ∧ g' 194 = O1 ∧ g' 195 = O2) ∨ (Tm 0 < 999 ∧ r = 0 ∧ g' 44 = iu Tm 0 (Tm 0 + 1) ∧ f' 192 = (if kp = 16 then 15 else kp) + 1 ∧ g' 193 = iu (if kp = 16 then cpy D D 0 1 15 else D) (if kp = 16 then 15 else kp) 3 ∧ g' 194 = iu (if kp = 16 then cpy O1 O1 0 1 15 else O1) (if kp = 16 then 15 else kp) (-1) ∧ g' 195 = iu (if kp = 16 then cpy O2 O2 0 1 15 else O2) (if kp = 16 then 15 else kp) (-1))
set_option maxHeartbeats 4000000 in
set_option maxRecDepth 100000 in
theorem c_deed {l : Launch} {E : cE} {f : mF} {g j : mA} {Mt : Int → Int} {Tm : Int → Int} {Ln : Int → Int} {D : Int → Int} {O1 : Int → Int} {O2 : Int → Int} {n9 : Int} {dp : Int} {kp : Int} {w k b : Int}  (eg38 : g 38 = Mt) (eg44 : g 44 = Tm) (eg35 : g 35 = Ln) (eg193 : g 193 = D) (eg194 : g 194 = O1) (eg195 : g 195 = O2) (ef32 : f 32 = n9) (ef37 : f 37 = dp) (ef192 : f 192 = kp) (hw : zIn w) (hk : zIn k) (hb : zIn b) (w0 : 3 ≤ w) (w1 : w ≤ 6) (kp0 : 0 ≤ kp) (kp1 : kp ≤ 16) (n1 : n9 ≤ 10) (hdp : z31 dp) : CM l E MX7_deed 3 [.ref (E.1 31), vI w, vI k, vI b] f g j (PI (fun r f' g' j' => ((w = 3 ∧ LmQ Mt Tm D O1 O2 kp k r f' g' ∧ f' 37 = dp ∧ g' 44 = Tm ∧ g' 35 = Ln) ∨ (w = 4 ∧ SkQ D O1 O2 n9 dp kp k r f' g' ∧ g' 38 = Mt ∧ g' 44 = Tm ∧ g' 35 = Ln) ∨ (w = 5 ∧ SwQ Ln D O1 O2 n9 kp k b r f' g' ∧ f' 37 = dp ∧ g' 38 = Mt ∧ g' 44 = Tm) ∨ (w = 6 ∧ PsQ Tm D O1 O2 kp r f' g' ∧ f' 37 = dp ∧ g' 38 = Mt ∧ g' 35 = Ln)) ∧ eqx [37, 192] f f' ∧ eqx [35, 38, 44, 193, 194, 195] g g' ∧ j' = j)) := by
  refine CM.intro [some (.ref (E.1 31)), some (vI w), some (vI k), some (vI b)] (by decide) (Nat.le_of_ble_eq_true rfl) rfl (fun d hd h0 h hH hA => ?_)
  have hfE : eqx [37, 192] f f := eqx.rf
  have hgE : eqx [35, 38, 44, 193, 194, 195] g g := eqx.rf
  refine z_ild_1 (TX7_deed.at 0 rfl) ?_
  rcases (show w = 3 ∨ w = 4 ∨ w = 5 ∨ (w < 3 ∨ 5 < w) by omega) with sw0 | sw1 | sw2 | sw3
  · refine z_swIn (off := 27) (tgt := 28) (TX7_deed.at 1 rfl) (by omega) (by omega) (by omega) (by rw [sw0]; rfl) rfl ?_
    refine z_ald_0 (TX7_deed.at 2 rfl) ?_
    refine z_ild_2 (TX7_deed.at 3 rfl) ?_
    refine zc_callI1 (m := 0) (c_lightM eg38 eg44 eg193 eg194 eg195 ef192 (by omega) kp0 kp1) (hH.lv (by decide)) (TX7_deed.at 4 rfl) c7_274 rfl rfl hH hA (by omega) (Nat.le_of_ble_eq_true rfl) (fun x30 f30 g30 j30 h r30 q30 hH hA => ?_)
    obtain ⟨q30, xf, xg, xj⟩ := q30
    rw [xj] at hH
    have ef32 := (xf 32 (by decide)).trans ef32
    have ef37 := (xf 37 (by decide)).trans ef37
    have hfE := hfE.trans xf (by decide)
    have eg44 := (xg 44 (by decide)).trans eg44
    have eg35 := (xg 35 (by decide)).trans eg35
    have hgE := hgE.trans xg (by decide)
    have qL := q30
    have hin := qL
    refine zc_iret (TX7_deed.at 5 rfl) rfl hH hA (by omega) ?_
    exact ⟨Or.inl ⟨by omega, hin, ef37, eg44, eg35⟩, hfE, hgE, rfl⟩
  · refine z_swIn (off := 33) (tgt := 34) (TX7_deed.at 1 rfl) (by omega) (by omega) (by omega) (by rw [sw1]; rfl) rfl ?_
    refine z_ald_0 (TX7_deed.at 6 rfl) ?_
    refine z_ild_2 (TX7_deed.at 7 rfl) ?_
    refine zc_callI1 (m := 0) (c_soakF eg193 eg194 eg195 ef32 ef37 ef192 (by omega) kp0 kp1 n1 hdp) (hH.lv (by decide)) (TX7_deed.at 8 rfl) c7_277 rfl rfl hH hA (by omega) (Nat.le_of_ble_eq_true rfl) (fun x36 f36 g36 j36 h r36 q36 hH hA => ?_)
    obtain ⟨q36, xf, xg, xj⟩ := q36
    rw [xj] at hH
    have ef32 := (xf 32 (by decide)).trans ef32
    have hfE := hfE.trans xf (by decide)
    have eg38 := (xg 38 (by decide)).trans eg38
    have eg44 := (xg 44 (by decide)).trans eg44
    have eg35 := (xg 35 (by decide)).trans eg35
    have hgE := hgE.trans xg (by decide)
    have qL := q36
    have hin := qL
    refine zc_iret (TX7_deed.at 9 rfl) rfl hH hA (by omega) ?_
    exact ⟨Or.inr (Or.inl ⟨by omega, hin, eg38, eg44, eg35⟩), hfE, hgE, rfl⟩
  · refine z_swIn (off := 39) (tgt := 40) (TX7_deed.at 1 rfl) (by omega) (by omega) (by omega) (by rw [sw2]; rfl) rfl ?_
    refine z_ald_0 (TX7_deed.at 10 rfl) ?_
    refine z_ild_2 (TX7_deed.at 11 rfl) ?_
    refine z_ild_3 (TX7_deed.at 12 rfl) ?_
    refine zc_callI2 (m := 0) (c_swapF eg35 eg193 eg194 eg195 ef32 ef192 (by omega) (by omega) kp0 kp1 n1) (hH.lv (by decide)) (TX7_deed.at 13 rfl) c7_280 rfl rfl hH hA (by omega) (Nat.le_of_ble_eq_true rfl) (fun x43 f43 g43 j43 h r43 q43 hH hA => ?_)
    obtain ⟨q43, xf, xg, xj⟩ := q43
    rw [xj] at hH
    have ef32 := (xf 32 (by decide)).trans ef32
    have ef37 := (xf 37 (by decide)).trans ef37
    have hfE := hfE.trans xf (by decide)
    have eg38 := (xg 38 (by decide)).trans eg38
    have eg44 := (xg 44 (by decide)).trans eg44
    have hgE := hgE.trans xg (by decide)
    have qL := q43
    have hin := qL
    refine zc_iret (TX7_deed.at 14 rfl) rfl hH hA (by omega) ?_
    exact ⟨Or.inr (Or.inr (Or.inl ⟨by omega, hin, ef37, eg38, eg44⟩)), hfE, hgE, rfl⟩
  · refine z_swOut (tgt := 47) (TX7_deed.at 1 rfl) (by omega) sw3 rfl ?_
    refine z_ald_0 (TX7_deed.at 15 rfl) ?_
    refine zc_callI0 (m := 0) (c_passS eg44 eg193 eg194 eg195 ef192 kp0 kp1) (hH.lv (by decide)) (TX7_deed.at 16 rfl) c7_283 rfl rfl hH hA (by omega) (Nat.le_of_ble_eq_true rfl) (fun x48 f48 g48 j48 h r48 q48 hH hA => ?_)
    obtain ⟨q48, xf, xg, xj⟩ := q48
    rw [xj] at hH
    have ef32 := (xf 32 (by decide)).trans ef32
    have ef37 := (xf 37 (by decide)).trans ef37
    have hfE := hfE.trans xf (by decide)
    have eg38 := (xg 38 (by decide)).trans eg38
    have eg35 := (xg 35 (by decide)).trans eg35
    have hgE := hgE.trans xg (by decide)
    have qL := q48
    have hin := qL
    refine zc_iret (TX7_deed.at 17 rfl) rfl hH hA (by omega) ?_
    exact ⟨Or.inr (Or.inr (Or.inr ⟨by omega, hin, ef37, eg38, eg35⟩)), hfE, hgE, rfl⟩

