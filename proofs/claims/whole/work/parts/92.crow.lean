/-! ===== the class itself: count, row ===== -/
/-- no fuse that is not there is damp -/
def dHi (dp n : Int) : Prop := ∀ i : Int, n ≤ i → 0 ≤ i → ¬ bt dp i
theorem cnt_K {K : Int → Int} {dp : Int} (h0 : 0 ≤ K 76) (hd : ∀ i : Int, 0 ≤ i → i < K 76 → (K i = 0 ∨ K i = 1) ∧ (bt dp i ↔ K i = 1)) (hz : dHi dp (K 76)) : ∀ m : Nat, cnt dp m = sm K (if (m : Int) ≤ K 76 then (m : Int) else K 76) := by
  intro m
  induction m with
  | zero => rw [if_pos (show ((0 : Nat) : Int) ≤ K 76 from h0)]; rfl
  | succ m ih =>
    simp only [cnt]
    rw [ih]
    by_cases e : (m : Int) + 1 ≤ K 76
    · rw [if_pos (by omega), if_pos (by omega), show ((m + 1 : Nat) : Int) = (m : Int) + 1 by omega, sm_s (by omega)]
      have a := hd m (by omega) (by omega)
      rw [b2i_K a.1 a.2]
    · rw [if_neg (show ¬ ((m + 1 : Nat) : Int) ≤ K 76 by omega), b2i_f (hz m (by omega) (by omega))]
      by_cases e2 : (m : Int) ≤ K 76
      · rw [if_pos e2, show (m : Int) = K 76 by omega]; omega
      · rw [if_neg e2]; omega
theorem cnt_dp {K Fr To Ln Kd : Int → Int} {dp : Int} (hK : KOK K) (hP : FrA Fr To Ln Kd dp K) (hz : dHi dp (K 76)) : cnt dp 10 = sm K (K 76) := by
  have hn := hK.1
  rw [cnt_K hn.1 (fun i i0 i1 => ⟨(hK.2.1 i i0 i1).1, (hP.2 i i0 i1).2.2.2.2⟩) hz 10]
  by_cases e : ((10 : Nat) : Int) ≤ K 76
  · rw [if_pos e, show K 76 = 10 by omega]; rfl
  · rw [if_neg e]
theorem dHi_10 {dp n : Int} (hd : z31 dp) (hn : n ≤ 10) (hz : dHi dp n) : dp ≤ 1023 := by
  have h : dp.toNat < 2 ^ 10 := by
    refine Nat.lt_pow_two_of_testBit _ (fun i hi => ?_)
    have := hz i (by omega) (by omega)
    unfold bt at this
    rw [Int.toNat_natCast] at this
    simpa using this
  have := hd.1
  omega
set_option maxHeartbeats 4000000 in
set_option maxRecDepth 100000 in
theorem c_count {l : Launch} {E : cE} {f : mF} {g j : mA} {Fr : Int → Int} {To : Int → Int} {Ln : Int → Int} {Kd : Int → Int} {Tm : Int → Int} {Lw : Int → Int} {Mt : Int → Int} {Rf : Int → Int} {dp : Int} {S : Int} {u : Int} {tp : Int} {w : Int} {K X1 : Int → Int} {cl : List Cla} (eg33 : g 33 = Fr) (eg34 : g 34 = To) (eg35 : g 35 = Ln) (eg36 : g 36 = Kd) (eg44 : g 44 = Tm) (eg46 : g 46 = Lw) (eg38 : g 38 = Mt) (eg11 : g 11 = Rf) (ef32 : f 32 = (K 76)) (ef37 : f 37 = dp) (ef354 : f 354 = S) (ef45 : f 45 = (K 79)) (ef47 : f 47 = (K 80)) (ef39 : f 39 = (K 77)) (ef41 : f 41 = (K 78)) (ef192 : f 192 = u) (ef256 : f 256 = tp) (hw : zIn w) (hL : LwN E f g (if 0 ≤ K 80 ∧ K 80 < K 79 then Lw (K 80) else -1) cl) (hK : KOK K) (hP : FrA Fr To Ln Kd dp K) (hS : z31 S) (t0 : Tm 0 = K 28) (t2 : Tm 2 = K 75) (hMt : ∀ k : Int, 0 ≤ k → k ≤ 7 → Mt k = K (20 + k)) (hRf : Rf 0 = X1 1 ∧ Rf 1 = X1 2 ∧ Rf 2 = X1 3 ∧ Rf 4 = X1 5 ∧ Rf 5 = X1 6) (hz : dHi dp (K 76)) (t1 : Tm 1 = K 74) : CM l E MX7_count 7 [.ref (E.1 31), vI w] f g j (PI (fun r f' g' j' => (r = cntV K X1 cl u tp w) ∧ eqx [354] f f' ∧ eqx [352, 353, 355, 356, 384] g g' ∧ j' = j)) := by
  refine CM.intro [some (.ref (E.1 31)), some (vI w)] (by decide) (Nat.le_of_ble_eq_true rfl) rfl (fun d hd h0 h hH hA => ?_)
  have hfE : eqx [354] f f := eqx.rf
  have hgE : eqx [352, 353, 355, 356, 384] g g := eqx.rf
  have h79 := hK.2.2.2.2.2.2.2.2.2.2.1
  have hn := hK.1
  have hdp := hP.1
  have hd10 := dHi_10 hP.1 (by omega) hz
  have hcn := cnt_dp hK hP hz
  refine z_ild_1 (TX7_count_0.at 0 rfl) ?_
  rcases (show w = 0 ∨ w = 1 ∨ w = 2 ∨ w = 3 ∨ w = 4 ∨ w = 5 ∨ w = 6 ∨ w = 7 ∨ w = 8 ∨ w = 9 ∨ w = 10 ∨ w = 11 ∨ w = 12 ∨ w = 13 ∨ w = 14 ∨ w = 15 ∨ w = 16 ∨ w = 17 ∨ (w < 0 ∨ 17 < w) by omega) with sw0 | sw1 | sw2 | sw3 | sw4 | sw5 | sw6 | sw7 | sw8 | sw9 | sw10 | sw11 | sw12 | sw13 | sw14 | sw15 | sw16 | sw17 | sw18
  · refine z_swIn (off := 87) (tgt := 88) (TX7_count_0.at 1 rfl) (by omega) (by omega) (by omega) (by rw [sw0]; rfl) rfl ?_
    refine z_ald_0 (TX7_count_0.at 2 rfl) ?_
    refine zc_getO (m := 0) (s := 0) (k := 63) (hH.lv (by decide)) (TX7_count_0.at 3 rfl) fl7_12 hH rfl rfl (by decide) (by decide) ?_
    refine zc_getIE (m := 1) (s := 0) (k := 32) (hH.lv (by decide)) ef32 (TX7_count_0.at 4 rfl) fl7_96 hH rfl rfl (by decide) (by decide) (fun r92 => ?_)
    refine zc_iret (TX7_count_0.at 5 rfl) rfl hH hA (by omega) ?_
    exact ⟨by unfold cntV; rw [if_pos (by omega)], hfE, hgE, rfl⟩
  · refine z_swIn (off := 95) (tgt := 96) (TX7_count_0.at 1 rfl) (by omega) (by omega) (by omega) (by rw [sw1]; rfl) rfl ?_
    refine z_ald_0 (TX7_count_0.at 6 rfl) ?_
    refine zc_getO (m := 0) (s := 0) (k := 63) (hH.lv (by decide)) (TX7_count_0.at 7 rfl) fl7_12 hH rfl rfl (by decide) (by decide) ?_
    refine zc_getIE (m := 1) (s := 5) (k := 37) (hH.lv (by decide)) ef37 (TX7_count_0.at 8 rfl) fl7_125 hH rfl rfl (by decide) (by decide) (fun r100 => ?_)
    refine zs_call1 (c_bits hdp.1 hd10) (TX7_count_0.at 9 rfl) c7_264 rfl (by omega) (Nat.le_of_ble_eq_true rfl) (fun r103 => ?_)
    refine zc_iret (TX7_count_0.at 10 rfl) rfl hH hA (by omega) ?_
    exact ⟨by unfold cntV; rw [if_neg (by omega), if_pos (by omega)]; exact hcn, hfE, hgE, rfl⟩
  · refine z_swIn (off := 106) (tgt := 107) (TX7_count_0.at 1 rfl) (by omega) (by omega) (by omega) (by rw [sw2]; rfl) rfl ?_
    refine z_ald_0 (TX7_count_0.at 11 rfl) ?_
    refine zc_getO (m := 0) (s := 0) (k := 63) (hH.lv (by decide)) (TX7_count_0.at 12 rfl) fl7_12 hH rfl rfl (by decide) (by decide) ?_
    refine zc_callI0 (m := 1) (c_matches eg38) (hH.lv (by decide)) (TX7_count_0.at 13 rfl) c7_416 rfl rfl hH hA (by omega) (Nat.le_of_ble_eq_true rfl) (fun x111 f111 g111 j111 h r111 q111 hH hA => ?_)
    obtain ⟨q111, xf, xg, xj⟩ := q111
    rw [xj] at hH
    have ef32 := (xf 32 (by decide)).trans ef32
    have ef37 := (xf 37 (by decide)).trans ef37
    have ef354 := (xf 354 (by decide)).trans ef354
    have ef45 := (xf 45 (by decide)).trans ef45
    have ef47 := (xf 47 (by decide)).trans ef47
    have ef39 := (xf 39 (by decide)).trans ef39
    have ef41 := (xf 41 (by decide)).trans ef41
    have ef192 := (xf 192 (by decide)).trans ef192
    have ef256 := (xf 256 (by decide)).trans ef256
    have hfE := hfE.trans xf (by decide)
    have eg33 := (xg 33 (by decide)).trans eg33
    have eg34 := (xg 34 (by decide)).trans eg34
    have eg35 := (xg 35 (by decide)).trans eg35
    have eg36 := (xg 36 (by decide)).trans eg36
    have eg44 := (xg 44 (by decide)).trans eg44
    have eg46 := (xg 46 (by decide)).trans eg46
    have eg38 := (xg 38 (by decide)).trans eg38
    have eg11 := (xg 11 (by decide)).trans eg11
    have hgE := hgE.trans xg (by decide)
    have qL := q111
    have hmm := qL
    refine zc_iret (TX7_count_0.at 14 rfl) rfl hH hA (by omega) ?_
    exact ⟨by unfold cntV; rw [if_neg (by omega), if_neg (by omega), if_pos (by omega)]; rw [hmm]; exact sm_cg (fun t t0 t1 => by rw [hMt t t0 (by omega)]), hfE, hgE, rfl⟩
  · refine z_swIn (off := 114) (tgt := 115) (TX7_count_0.at 1 rfl) (by omega) (by omega) (by omega) (by rw [sw3]; rfl) rfl ?_
    refine z_ald_0 (TX7_count_0.at 15 rfl) ?_
    refine zc_getO (m := 0) (s := 0) (k := 63) (hH.lv (by decide)) (TX7_count_0.at 16 rfl) fl7_12 hH rfl rfl (by decide) (by decide) ?_
    refine zc_getIE (m := 1) (s := 7) (k := 39) (hH.lv (by decide)) ef39 (TX7_count_0.at 17 rfl) fl7_169 hH rfl rfl (by decide) (by decide) (fun r119 => ?_)
    refine zc_iret (TX7_count_0.at 18 rfl) rfl hH hA (by omega) ?_
    exact ⟨by unfold cntV; rw [if_neg (by omega), if_neg (by omega), if_neg (by omega), if_pos (by omega)], hfE, hgE, rfl⟩
  · refine z_swIn (off := 122) (tgt := 123) (TX7_count_0.at 1 rfl) (by omega) (by omega) (by omega) (by rw [sw4]; rfl) rfl ?_
    refine z_ald_0 (TX7_count_0.at 19 rfl) ?_
    refine zc_getO (m := 0) (s := 0) (k := 63) (hH.lv (by decide)) (TX7_count_0.at 20 rfl) fl7_12 hH rfl rfl (by decide) (by decide) ?_
    refine zc_getIE (m := 1) (s := 9) (k := 41) (hH.lv (by decide)) ef41 (TX7_count_0.at 21 rfl) fl7_368 hH rfl rfl (by decide) (by decide) (fun r127 => ?_)
    refine zc_iret (TX7_count_0.at 22 rfl) rfl hH hA (by omega) ?_
    exact ⟨by unfold cntV; rw [if_neg (by omega), if_neg (by omega), if_neg (by omega), if_neg (by omega), if_pos (by omega)], hfE, hgE, rfl⟩
  · refine z_swIn (off := 130) (tgt := 131) (TX7_count_0.at 1 rfl) (by omega) (by omega) (by omega) (by rw [sw5]; rfl) rfl ?_
    refine z_ald_0 (TX7_count_0.at 23 rfl) ?_
    refine zc_getO (m := 0) (s := 0) (k := 63) (hH.lv (by decide)) (TX7_count_0.at 24 rfl) fl7_12 hH rfl rfl (by decide) (by decide) ?_
    refine zc_getIE (m := 1) (s := 13) (k := 45) (hH.lv (by decide)) ef45 (TX7_count_0.at 25 rfl) fl7_193 hH rfl rfl (by decide) (by decide) (fun r135 => ?_)
    refine zc_iret (TX7_count_0.at 26 rfl) rfl hH hA (by omega) ?_
    exact ⟨by unfold cntV; rw [if_neg (by omega), if_neg (by omega), if_neg (by omega), if_neg (by omega), if_neg (by omega), if_pos (by omega)], hfE, hgE, rfl⟩
  · refine z_swIn (off := 138) (tgt := 139) (TX7_count_0.at 1 rfl) (by omega) (by omega) (by omega) (by rw [sw6]; rfl) rfl ?_
    refine z_ald_0 (TX7_count_0.at 27 rfl) ?_
    refine zc_getO (m := 0) (s := 4) (k := 223) (hH.lv (by decide)) (TX7_count_0.at 28 rfl) fl7_29 hH rfl rfl (by decide) (by decide) ?_
    refine zc_getIE (m := 6) (s := 0) (k := 192) (hH.lv (by decide)) ef192 (TX7_count_0.at 29 rfl) fl7_99 hH rfl rfl (by decide) (by decide) (fun r143 => ?_)
    refine zc_iret (TX7_count_0.at 30 rfl) rfl hH hA (by omega) ?_
    exact ⟨by unfold cntV; rw [if_neg (by omega), if_neg (by omega), if_neg (by omega), if_neg (by omega), if_neg (by omega), if_neg (by omega), if_pos (by omega)], hfE, hgE, rfl⟩
  · refine z_swIn (off := 146) (tgt := 147) (TX7_count_0.at 1 rfl) (by omega) (by omega) (by omega) (by rw [sw7]; rfl) rfl ?_
    refine z_ald_0 (TX7_count_0.at 31 rfl) ?_
    refine zc_getO (m := 0) (s := 6) (k := 287) (hH.lv (by decide)) (TX7_count_0.at 32 rfl) fl7_39 hH rfl rfl (by decide) (by decide) ?_
    refine zc_getIE (m := 8) (s := 0) (k := 256) (hH.lv (by decide)) ef256 (TX7_count_0.at 33 rfl) fl7_181 hH rfl rfl (by decide) (by decide) (fun r151 => ?_)
    refine zc_iret (TX7_count_0.at 34 rfl) rfl hH hA (by omega) ?_
    exact ⟨by unfold cntV; rw [if_neg (by omega), if_neg (by omega), if_neg (by omega), if_neg (by omega), if_neg (by omega), if_neg (by omega), if_neg (by omega), if_pos (by omega)], hfE, hgE, rfl⟩
  · refine z_swIn (off := 154) (tgt := 155) (TX7_count_0.at 1 rfl) (by omega) (by omega) (by omega) (by rw [sw8]; rfl) rfl ?_
    refine z_ald_0 (TX7_count_0.at 35 rfl) ?_
    refine zc_getA (m := 0) (s := 11) (k := 11) (hH.lv (by decide)) (TX7_count_0.at 36 rfl) fl7_68 hH rfl rfl (by decide) (by decide) ?_
    refine z_iconst (TX7_count_0.at 37 rfl) ?_
    refine zcf_iald (k := 11) (N := 6) (hH.lv (by decide)) (by decide) rfl eg11 (TX7_count_0.at 38 rfl) hH (by decide) (by omega) (show _ < ((6 : Nat) : Int) by omega) (fun r160 => ?_)
    refine zc_iret (TX7_count_0.at 39 rfl) rfl hH hA (by omega) ?_
    exact ⟨by unfold cntV; rw [if_neg (by omega), if_neg (by omega), if_neg (by omega), if_neg (by omega), if_neg (by omega), if_neg (by omega), if_neg (by omega), if_neg (by omega), if_pos (by omega)]; exact hRf.1, hfE, hgE, rfl⟩
  · refine z_swIn (off := 161) (tgt := 162) (TX7_count_0.at 1 rfl) (by omega) (by omega) (by omega) (by rw [sw9]; rfl) rfl ?_
    refine z_ald_0 (TX7_count_1.at 0 rfl) ?_
    refine zc_getA (m := 0) (s := 11) (k := 11) (hH.lv (by decide)) (TX7_count_1.at 1 rfl) fl7_68 hH rfl rfl (by decide) (by decide) ?_
    refine z_iconst (TX7_count_1.at 2 rfl) ?_
    refine zcf_iald (k := 11) (N := 6) (hH.lv (by decide)) (by decide) rfl eg11 (TX7_count_1.at 3 rfl) hH (by decide) (by omega) (show _ < ((6 : Nat) : Int) by omega) (fun r167 => ?_)
    refine zc_iret (TX7_count_1.at 4 rfl) rfl hH hA (by omega) ?_
    exact ⟨by unfold cntV; rw [if_neg (by omega), if_neg (by omega), if_neg (by omega), if_neg (by omega), if_neg (by omega), if_neg (by omega), if_neg (by omega), if_neg (by omega), if_neg (by omega), if_pos (by omega)]; exact hRf.2.1, hfE, hgE, rfl⟩
  · refine z_swIn (off := 168) (tgt := 169) (TX7_count_0.at 1 rfl) (by omega) (by omega) (by omega) (by rw [sw10]; rfl) rfl ?_
    refine z_ald_0 (TX7_count_1.at 5 rfl) ?_
    refine zc_getA (m := 0) (s := 11) (k := 11) (hH.lv (by decide)) (TX7_count_1.at 6 rfl) fl7_68 hH rfl rfl (by decide) (by decide) ?_
    refine z_iconst (TX7_count_1.at 7 rfl) ?_
    refine zcf_iald (k := 11) (N := 6) (hH.lv (by decide)) (by decide) rfl eg11 (TX7_count_1.at 8 rfl) hH (by decide) (by omega) (show _ < ((6 : Nat) : Int) by omega) (fun r174 => ?_)
    refine zc_iret (TX7_count_1.at 9 rfl) rfl hH hA (by omega) ?_
    exact ⟨by unfold cntV; rw [if_neg (by omega), if_neg (by omega), if_neg (by omega), if_neg (by omega), if_neg (by omega), if_neg (by omega), if_neg (by omega), if_neg (by omega), if_neg (by omega), if_neg (by omega), if_pos (by omega)]; exact hRf.2.2.1, hfE, hgE, rfl⟩
  · refine z_swIn (off := 175) (tgt := 176) (TX7_count_0.at 1 rfl) (by omega) (by omega) (by omega) (by rw [sw11]; rfl) rfl ?_
    refine z_ald_0 (TX7_count_1.at 10 rfl) ?_
    refine zc_getA (m := 0) (s := 11) (k := 11) (hH.lv (by decide)) (TX7_count_1.at 11 rfl) fl7_68 hH rfl rfl (by decide) (by decide) ?_
    refine z_iconst (TX7_count_1.at 12 rfl) ?_
    refine zcf_iald (k := 11) (N := 6) (hH.lv (by decide)) (by decide) rfl eg11 (TX7_count_1.at 13 rfl) hH (by decide) (by omega) (show _ < ((6 : Nat) : Int) by omega) (fun r181 => ?_)
    refine zc_iret (TX7_count_1.at 14 rfl) rfl hH hA (by omega) ?_
    exact ⟨by unfold cntV; rw [if_neg (by omega), if_neg (by omega), if_neg (by omega), if_neg (by omega), if_neg (by omega), if_neg (by omega), if_neg (by omega), if_neg (by omega), if_neg (by omega), if_neg (by omega), if_neg (by omega), if_pos (by omega)]; exact hRf.2.2.2.1, hfE, hgE, rfl⟩
  · refine z_swIn (off := 182) (tgt := 183) (TX7_count_0.at 1 rfl) (by omega) (by omega) (by omega) (by rw [sw12]; rfl) rfl ?_
    refine z_ald_0 (TX7_count_1.at 15 rfl) ?_
    refine zc_getA (m := 0) (s := 11) (k := 11) (hH.lv (by decide)) (TX7_count_1.at 16 rfl) fl7_68 hH rfl rfl (by decide) (by decide) ?_
    refine z_iconst (TX7_count_1.at 17 rfl) ?_
    refine zcf_iald (k := 11) (N := 6) (hH.lv (by decide)) (by decide) rfl eg11 (TX7_count_1.at 18 rfl) hH (by decide) (by omega) (show _ < ((6 : Nat) : Int) by omega) (fun r188 => ?_)
    refine zc_iret (TX7_count_1.at 19 rfl) rfl hH hA (by omega) ?_
    exact ⟨by unfold cntV; rw [if_neg (by omega), if_neg (by omega), if_neg (by omega), if_neg (by omega), if_neg (by omega), if_neg (by omega), if_neg (by omega), if_neg (by omega), if_neg (by omega), if_neg (by omega), if_neg (by omega), if_neg (by omega), if_pos (by omega)]; exact hRf.2.2.2.2, hfE, hgE, rfl⟩
  · refine z_swIn (off := 189) (tgt := 190) (TX7_count_0.at 1 rfl) (by omega) (by omega) (by omega) (by rw [sw13]; rfl) rfl ?_
    refine z_ald_0 (TX7_count_1.at 20 rfl) ?_
    refine zc_getO (m := 0) (s := 0) (k := 63) (hH.lv (by decide)) (TX7_count_1.at 21 rfl) fl7_12 hH rfl rfl (by decide) (by decide) ?_
    refine zc_getIE (m := 1) (s := 15) (k := 47) (hH.lv (by decide)) ef47 (TX7_count_1.at 22 rfl) fl7_287 hH rfl rfl (by decide) (by decide) (fun r194 => ?_)
    refine zc_iret (TX7_count_1.at 23 rfl) rfl hH hA (by omega) ?_
    exact ⟨by unfold cntV; rw [if_neg (by omega), if_neg (by omega), if_neg (by omega), if_neg (by omega), if_neg (by omega), if_neg (by omega), if_neg (by omega), if_neg (by omega), if_neg (by omega), if_neg (by omega), if_neg (by omega), if_neg (by omega), if_neg (by omega), if_pos (by omega)], hfE, hgE, rfl⟩
  · refine z_swIn (off := 197) (tgt := 198) (TX7_count_0.at 1 rfl) (by omega) (by omega) (by omega) (by rw [sw14]; rfl) rfl ?_
    refine z_ald_0 (TX7_count_1.at 24 rfl) ?_
    refine zc_getO (m := 0) (s := 0) (k := 63) (hH.lv (by decide)) (TX7_count_1.at 25 rfl) fl7_12 hH rfl rfl (by decide) (by decide) ?_
    refine zc_getA (m := 1) (s := 12) (k := 44) (hH.lv (by decide)) (TX7_count_1.at 26 rfl) fl7_178 hH rfl rfl (by decide) (by decide) ?_
    refine z_iconst (TX7_count_1.at 27 rfl) ?_
    refine zcf_iald (k := 44) (N := 3) (hH.lv (by decide)) (by decide) rfl eg44 (TX7_count_1.at 28 rfl) hH (by decide) (by omega) (show _ < ((3 : Nat) : Int) by omega) (fun r206 => ?_)
    refine zc_iret (TX7_count_1.at 29 rfl) rfl hH hA (by omega) ?_
    exact ⟨by unfold cntV; rw [if_neg (by omega), if_neg (by omega), if_neg (by omega), if_neg (by omega), if_neg (by omega), if_neg (by omega), if_neg (by omega), if_neg (by omega), if_neg (by omega), if_neg (by omega), if_neg (by omega), if_neg (by omega), if_neg (by omega), if_neg (by omega), if_pos (by omega)]; exact t0, hfE, hgE, rfl⟩
  · refine z_swIn (off := 207) (tgt := 208) (TX7_count_0.at 1 rfl) (by omega) (by omega) (by omega) (by rw [sw15]; rfl) rfl ?_
    refine z_ald_0 (TX7_count_1.at 30 rfl) ?_
    refine zc_getO (m := 0) (s := 0) (k := 63) (hH.lv (by decide)) (TX7_count_1.at 31 rfl) fl7_12 hH rfl rfl (by decide) (by decide) ?_
    refine zc_getA (m := 1) (s := 12) (k := 44) (hH.lv (by decide)) (TX7_count_1.at 32 rfl) fl7_178 hH rfl rfl (by decide) (by decide) ?_
    refine z_iconst (TX7_count_1.at 33 rfl) ?_
    refine zcf_iald (k := 44) (N := 3) (hH.lv (by decide)) (by decide) rfl eg44 (TX7_count_1.at 34 rfl) hH (by decide) (by omega) (show _ < ((3 : Nat) : Int) by omega) (fun r216 => ?_)
    refine zc_iret (TX7_count_1.at 35 rfl) rfl hH hA (by omega) ?_
    exact ⟨by unfold cntV; rw [if_neg (by omega), if_neg (by omega), if_neg (by omega), if_neg (by omega), if_neg (by omega), if_neg (by omega), if_neg (by omega), if_neg (by omega), if_neg (by omega), if_neg (by omega), if_neg (by omega), if_neg (by omega), if_neg (by omega), if_neg (by omega), if_neg (by omega), if_pos (by omega)]; exact t1, hfE, hgE, rfl⟩
  · refine z_swIn (off := 217) (tgt := 218) (TX7_count_0.at 1 rfl) (by omega) (by omega) (by omega) (by rw [sw16]; rfl) rfl ?_
    refine z_ald_0 (TX7_count_1.at 36 rfl) ?_
    refine zc_getO (m := 0) (s := 0) (k := 63) (hH.lv (by decide)) (TX7_count_1.at 37 rfl) fl7_12 hH rfl rfl (by decide) (by decide) ?_
    refine zc_getA (m := 1) (s := 12) (k := 44) (hH.lv (by decide)) (TX7_count_1.at 38 rfl) fl7_178 hH rfl rfl (by decide) (by decide) ?_
    refine z_iconst (TX7_count_1.at 39 rfl) ?_
    refine zcf_iald (k := 44) (N := 3) (hH.lv (by decide)) (by decide) rfl eg44 (TX7_count_2.at 0 rfl) hH (by decide) (by omega) (show _ < ((3 : Nat) : Int) by omega) (fun r226 => ?_)
    refine zc_iret (TX7_count_2.at 1 rfl) rfl hH hA (by omega) ?_
    exact ⟨by unfold cntV; rw [if_neg (by omega), if_neg (by omega), if_neg (by omega), if_neg (by omega), if_neg (by omega), if_neg (by omega), if_neg (by omega), if_neg (by omega), if_neg (by omega), if_neg (by omega), if_neg (by omega), if_neg (by omega), if_neg (by omega), if_neg (by omega), if_neg (by omega), if_neg (by omega), if_pos (by omega)]; exact t2, hfE, hgE, rfl⟩
  · refine z_swIn (off := 227) (tgt := 228) (TX7_count_0.at 1 rfl) (by omega) (by omega) (by omega) (by rw [sw17]; rfl) rfl ?_
    refine z_ald_0 (TX7_count_2.at 2 rfl) ?_
    refine z_ald_0 (TX7_count_2.at 3 rfl) ?_
    refine zc_getO (m := 0) (s := 0) (k := 63) (hH.lv (by decide)) (TX7_count_2.at 4 rfl) fl7_12 hH rfl rfl (by decide) (by decide) ?_
    refine zc_callI1 (m := 0) (c_goneIn1 eg33 eg34 eg35 eg36 eg44 eg46 eg38 ef32 ef37 ef354 ef45 ef47 hL hK hP hS t0 t2 hMt) (hH.lv (by decide)) (TX7_count_2.at 5 rfl) c7_224 rfl rfl hH hA (by omega) (Nat.le_of_ble_eq_true rfl) (fun x233 f233 g233 j233 h r233 q233 hH hA => ?_)
    obtain ⟨q233, xf, xg, xj⟩ := q233
    rw [xj] at hH
    have ef32 := (xf 32 (by decide)).trans ef32
    have ef37 := (xf 37 (by decide)).trans ef37
    have ef45 := (xf 45 (by decide)).trans ef45
    have ef47 := (xf 47 (by decide)).trans ef47
    have ef39 := (xf 39 (by decide)).trans ef39
    have ef41 := (xf 41 (by decide)).trans ef41
    have ef192 := (xf 192 (by decide)).trans ef192
    have ef256 := (xf 256 (by decide)).trans ef256
    have hfE := hfE.trans xf (by decide)
    have eg33 := (xg 33 (by decide)).trans eg33
    have eg34 := (xg 34 (by decide)).trans eg34
    have eg35 := (xg 35 (by decide)).trans eg35
    have eg36 := (xg 36 (by decide)).trans eg36
    have eg44 := (xg 44 (by decide)).trans eg44
    have eg46 := (xg 46 (by decide)).trans eg46
    have eg38 := (xg 38 (by decide)).trans eg38
    have eg11 := (xg 11 (by decide)).trans eg11
    have hgE := hgE.trans xg (by decide)
    have qL := q233
    subst qL
    refine zc_iret (TX7_count_2.at 6 rfl) rfl hH hA (by omega) ?_
    exact ⟨by unfold cntV; rw [if_neg (by omega), if_neg (by omega), if_neg (by omega), if_neg (by omega), if_neg (by omega), if_neg (by omega), if_neg (by omega), if_neg (by omega), if_neg (by omega), if_neg (by omega), if_neg (by omega), if_neg (by omega), if_neg (by omega), if_neg (by omega), if_neg (by omega), if_neg (by omega), if_neg (by omega), if_pos (by omega)], hfE, hgE, rfl⟩
  · refine z_swOut (tgt := 237) (TX7_count_0.at 1 rfl) (by omega) sw18 rfl ?_
    refine z_iconst (TX7_count_2.at 7 rfl) ?_
    refine zc_iret (TX7_count_2.at 8 rfl) rfl hH hA (by omega) ?_
    exact ⟨by unfold cntV; rw [if_neg (by omega), if_neg (by omega), if_neg (by omega), if_neg (by omega), if_neg (by omega), if_neg (by omega), if_neg (by omega), if_neg (by omega), if_neg (by omega), if_neg (by omega), if_neg (by omega), if_neg (by omega), if_neg (by omega), if_neg (by omega), if_neg (by omega), if_neg (by omega), if_neg (by omega), if_neg (by omega)], hfE, hgE, rfl⟩

theorem canF_tp {tp U : Int → Int} {i : Int} (h : TpU tp U) (i0 : 0 ≤ i) (i4 : i + 4 ≤ 400) : (canF (U i) (U (i + 1)) (U (i + 2)) (U (i + 3)) ↔ canF (tp i) (tp (i + 1)) (tp (i + 2)) (tp (i + 3))) ∧ (canF (tp i) (tp (i + 1)) (tp (i + 2)) (tp (i + 3)) → U i = tp i ∧ U (i + 1) = tp (i + 1) ∧ U (i + 2) = tp (i + 2) ∧ U (i + 3) = tp (i + 3)) := by
  have a := h i (by omega) (by omega)
  have b := h (i + 1) (by omega) (by omega)
  have c := h (i + 2) (by omega) (by omega)
  have d := h (i + 3) (by omega) (by omega)
  unfold canF
  constructor
  · constructor <;> intro z <;> omega
  · intro z; omega
theorem addK_far {K : Int → Int} {a b c e i : Int} (h1 : i ≠ 29 + K 76) (h2 : i ≠ 39 + K 76) (h3 : i ≠ 10 + K 76) (h4 : i ≠ 49 + K 76) (h5 : i ≠ K 76) (h6 : i ≠ 76) : addK K a b c e i = K i := by
  unfold addK
  rw [iu_ne h6, iu_ne (by omega), iu_ne h4, iu_ne h3, iu_ne h2, iu_ne h1]
theorem addK_new {K : Int → Int} {a b c e : Int} (n0 : 0 ≤ K 76) (n1 : K 76 < 10) : addK K a b c e (29 + K 76) = a ∧ addK K a b c e (39 + K 76) = b ∧ addK K a b c e (10 + K 76) = c ∧ addK K a b c e (49 + K 76) = e ∧ addK K a b c e (K 76) = 0 := by
  unfold addK
  refine ⟨?_, ?_, ?_, ?_, ?_⟩
  · rw [iu_ne (by omega), iu_ne (by omega), iu_ne (by omega), iu_ne (by omega), iu_ne (by omega), iu_self]
  · rw [iu_ne (by omega), iu_ne (by omega), iu_ne (by omega), iu_ne (by omega), iu_self]
  · rw [iu_ne (by omega), iu_ne (by omega), iu_ne (by omega), iu_self]
  · rw [iu_ne (by omega), iu_ne (by omega), iu_self]
  · rw [iu_ne (by omega), show (0 : Int) + K 76 = K 76 by omega, iu_self]
theorem KOK_addK {K : Int → Int} {a b c e : Int} (h : KOK K) (n1 : K 76 < 10) (hc : canF a b c e) : KOK (addK K a b c e) := by
  have hn := h.1
  have nw := addK_new (a := a) (b := b) (c := c) (e := e) hn.1 n1
  have far : ∀ i : Int, (20 ≤ i ∧ i < 29) ∨ (59 ≤ i ∧ i ≠ 76) → addK K a b c e i = K i := fun i hi => addK_far (by omega) (by omega) (by omega) (by omega) (by omega) (by omega)
  obtain ⟨q1, q2, q3, q4, q5, q6, q7, q8, q9, q10, q11, q12⟩ := h
  unfold KOK
  rw [addK_76, far 28 (by omega), far 77 (by omega), far 78 (by omega), far 74 (by omega), far 75 (by omega), far 79 (by omega), far 80 (by omega)]
  refine ⟨by omega, fun i i0 i1 => ?_, fun k k0 k1 => by rw [far (20 + k) (by omega)]; exact q3 k k0 k1, q4, q5, fun i i0 i1 => by rw [far (59 + i) (by omega)]; exact q6 i i0 i1, q7, fun i i0 i1 => by rw [far (62 + 2 * i) (by omega), far (62 + 2 * i + 1) (by omega)]; exact q8 i i0 i1, q9, q10, q11, q12⟩
  by_cases ei : i = K 76
  · subst ei
    rw [nw.1, nw.2.1, nw.2.2.1, nw.2.2.2.1, nw.2.2.2.2]
    exact ⟨Or.inl rfl, hc.2.2.2.1, hc.1, hc.2.1, hc.2.2.1, hc.2.2.2.2⟩
  · have f : ∀ s : Int, s = 0 ∨ s = 10 ∨ s = 29 ∨ s = 39 ∨ s = 49 → addK K a b c e (s + i) = K (s + i) := fun s hs => addK_far (by omega) (by omega) (by omega) (by omega) (by omega) (by omega)
    have f0 := f 0 (by omega)
    rw [Int.zero_add] at f0
    rw [f0, f 10 (by omega), f 29 (by omega), f 39 (by omega), f 49 (by omega)]
    exact q2 i i0 (by omega)
theorem FrA_add {K Fr To Ln Kd : Int → Int} {a b c e dp : Int} (hn : 0 ≤ K 76) (n1 : K 76 < 10) (h : FrA Fr To Ln Kd dp K) (hz : dHi dp (K 76)) : FrA (iu Fr (K 76) a) (iu To (K 76) b) (iu Ln (K 76) c) (iu Kd (K 76) e) dp (addK K a b c e) := by
  have nw := addK_new (a := a) (b := b) (c := c) (e := e) hn n1
  refine ⟨h.1, fun i i0 i1 => ?_⟩
  rw [addK_76] at i1
  by_cases ei : i = K 76
  · subst ei
    rw [nw.1, nw.2.1, nw.2.2.1, nw.2.2.2.1, nw.2.2.2.2, iu_self, iu_self, iu_self, iu_self]
    exact ⟨rfl, rfl, rfl, rfl, fun z => absurd z (hz _ (by omega) (by omega)), fun z => absurd z (by decide)⟩
  · have f : ∀ s : Int, s = 0 ∨ s = 10 ∨ s = 29 ∨ s = 39 ∨ s = 49 → addK K a b c e (s + i) = K (s + i) := fun s hs => addK_far (by omega) (by omega) (by omega) (by omega) (by omega) (by omega)
    have f0 := f 0 (by omega)
    rw [Int.zero_add] at f0
    rw [f0, f 10 (by omega), f 29 (by omega), f 39 (by omega), f 49 (by omega), iu_ne ei, iu_ne ei, iu_ne ei, iu_ne ei]
    exact h.2 i i0 (by omega)
theorem rowN_76 {tp : Int → Int} {K : Int → Int} {c s : Int} (h0 : 0 ≤ K 76) (h1 : K 76 ≤ 10) : ∀ m : Nat, K 76 ≤ (rowN tp (K, c, s) m).1 76 ∧ (rowN tp (K, c, s) m).1 76 ≤ 10 ∧ c ≤ (rowN tp (K, c, s) m).2.1 ∧ (rowN tp (K, c, s) m).2.1 ≤ c + m ∧ s ≤ (rowN tp (K, c, s) m).2.2 ∧ (rowN tp (K, c, s) m).2.2 ≤ s + m := by
  intro m
  induction m with
  | zero => simp only [rowN]; omega
  | succ m ih =>
    simp only [rowN, rowStep]
    split
    · simp only [addK_76]; omega
    · simp only; omega
set_option maxHeartbeats 4000000 in
set_option maxRecDepth 100000 in
theorem lp_crow {l : Launch} {E : cE} {d : Nat} {Pz : Option Value → zH → Prop} {h0 : zH} {f0 : mF} {g0 : mA} {j : mA} (hd : 3 ≤ d) {K tp U : Int → Int} {z a0 dp : Int} (z0 : 0 ≤ z) (z4 : z ≤ 400) (ha0 : a0 = if z % 4 = 0 then 0 else 1) (n0 : 0 ≤ K 76) (n10 : K 76 ≤ 10) (hTp : TpU tp U) (kx : ∀ (c i n9 as_ : Int) (Fr To Ln Kd : Int → Int) (f : mF) (g : mA) (h : zH), c = (rowN tp (K, 0, a0) (z / 4).toNat).2.1 → n9 = (rowN tp (K, 0, a0) (z / 4).toNat).1 76 → as_ = (rowN tp (K, 0, a0) (z / 4).toNat).2.2 → FrA Fr To Ln Kd dp (rowN tp (K, 0, a0) (z / 4).toNat).1 → g 33 = Fr → g 34 = To → g 35 = Ln → g 36 = Kd → f 32 = n9 → f 256 = z → f 13 = as_ → eqx [13, 32] f0 f → eqx [33, 34, 35, 36] g0 g → HC E f g j h → cAg E h0 h → Z l MX7_row d 0 0 Pz 67 [some (.ref (E.1 31)), some (vI c), some (vI i)] [] h 0 0)  : ∀ (n : Nat) (m : Nat) (i : Int) (c : Int) (n9 : Int) (as_ : Int) (Fr : Int → Int) (To : Int → Int) (Ln : Int → Int) (Kd : Int → Int) (f : mF) (g : mA) (h : zH) (hm : (i = 4 * m ∧ (m : Int) ≤ z / 4 ∧ as_ = (rowN tp (K, 0, a0) m).2.2 - a0) ∨ (i = 4 * m + 4 ∧ (m : Int) = z / 4 ∧ z % 4 ≠ 0 ∧ as_ = (rowN tp (K, 0, a0) m).2.2 - a0 + 1)) (i2 : z + 4 < i + 4 * n) (ec : c = (rowN tp (K, 0, a0) m).2.1) (e76 : n9 = (rowN tp (K, 0, a0) m).1 76) (hP : FrA Fr To Ln Kd dp (rowN tp (K, 0, a0) m).1) (hz : dHi dp ((rowN tp (K, 0, a0) m).1 76)) (eg33 : g 33 = Fr) (eg34 : g 34 = To) (eg35 : g 35 = Ln) (eg36 : g 36 = Kd) (eg257 : g 257 = U) (ef32 : f 32 = n9) (ef256 : f 256 = z) (ef13 : f 13 = as_) (hfE : eqx [13, 32] f0 f) (hgE : eqx [33, 34, 35, 36] g0 g) (hH : HC E f g j h) (hA : cAg E h0 h), Z l MX7_row d 0 0 Pz 26 [some (.ref (E.1 31)), some (vI c), some (vI i)] [] h 0 0 := by
  intro n
  induction n with
  | zero => intro m i c n9 as_ Fr To Ln Kd f g h hm i2 ec e76 hP hz eg33 eg34 eg35 eg36 eg257 ef32 ef256 ef13 hfE hgE hH hA; exfalso; omega
  | succ n ih =>
    intro m i c n9 as_ Fr To Ln Kd f g h hm i2 ec e76 hP hz eg33 eg34 eg35 eg36 eg257 ef32 ef256 ef13 hfE hgE hH hA
    have hr := rowN_76 (tp := tp) (c := 0) (s := a0) n0 n10 m
    have ha1 : a0 = 0 ∨ a0 = 1 := by rw [ha0]; split <;> simp
    have ha2 : z % 4 = 0 → a0 = 0 := fun q => by rw [ha0, if_pos q]
    have ha3 : z % 4 ≠ 0 → a0 = 1 := fun q => by rw [ha0, if_neg q]
    refine z_ild_2 (TX7_row.at 15 rfl) ?_
    refine z_ald_0 (TX7_row.at 16 rfl) ?_
    refine zc_getO (m := 0) (s := 6) (k := 287) (hH.lv (by decide)) (TX7_row.at 17 rfl) fl7_39 hH rfl rfl (by decide) (by decide) ?_
    refine zc_getIE (m := 8) (s := 0) (k := 256) (hH.lv (by decide)) ef256 (TX7_row.at 18 rfl) fl7_181 hH rfl rfl (by decide) (by decide) (fun r31 => ?_)
    refine z_icmp_ge (tgt := 67) (TX7_row.at 19 rfl) rfl (by omega) (by omega) (fun c1 => ?_) (fun c1 => ?_)
    · skip
      have emz : m = (z / 4).toNat := by omega
      subst emz
      exact kx _ _ _ _ _ _ _ _ _ _ _ ec e76 (by omega) hP eg33 eg34 eg35 eg36 ef32 ef256 ef13 hfE hgE hH hA
    · skip
      refine z_ald_0 (TX7_row.at 20 rfl) ?_
      refine z_ild_2 (TX7_row.at 21 rfl) ?_
      refine zc_callI1 (m := 0) (c_tieT eg257 eg33 eg34 eg35 eg36 ef256 ef32 (by omega) (by omega) (by omega) (by omega) (by omega) (by omega)) (hH.lv (by decide)) (TX7_row.at 22 rfl) c7_187 rfl rfl hH hA (by omega) (Nat.le_of_ble_eq_true rfl) (fun x39 f39 g39 j39 h r39 q39 hH hA => ?_)
      obtain ⟨q39, xf, xg, xj⟩ := q39
      rw [xj] at hH
      have ef256 := (xf 256 (by decide)).trans ef256
      have ef13 := (xf 13 (by decide)).trans ef13
      have hfE := hfE.trans xf (by decide)
      have eg257 := (xg 257 (by decide)).trans eg257
      have hgE := hgE.trans xg (by decide)
      have qL := q39
      have htie := qL
      obtain ⟨n8, ef32⟩ : ∃ z, f39 32 = z := ⟨_, rfl⟩
      obtain ⟨F3, eg33⟩ : ∃ z, g39 33 = z := ⟨_, rfl⟩
      obtain ⟨F4, eg34⟩ : ∃ z, g39 34 = z := ⟨_, rfl⟩
      obtain ⟨F5, eg35⟩ : ∃ z, g39 35 = z := ⟨_, rfl⟩
      obtain ⟨F6, eg36⟩ : ∃ z, g39 36 = z := ⟨_, rfl⟩
      rw [ef32, eg33, eg34, eg35, eg36] at htie
      refine z_if_eq (tgt := 51) (TX7_row.at 23 rfl) rfl (by omega) (fun c2 => ?_) (fun c2 => ?_)
      · skip
        rcases htie with htie | htie
        rotate_left
        · exfalso; omega
        obtain ⟨t1, t2, z1, z2, z3, z4, z5⟩ := htie
        have ef32 := ef32.trans z1
        have eg33 := eg33.trans z2
        have eg34 := eg34.trans z3
        have eg35 := eg35.trans z4
        have eg36 := eg36.trans z5
        rcases hm with hm | hm
        rotate_left
        · exfalso; omega
        refine z_ald_0 (TX7_row.at 26 rfl) ?_
        refine z_dup rfl (TX7_row.at 27 rfl) ?_
        refine zc_getIE (m := 0) (s := 13) (k := 13) (hH.lv (by decide)) ef13 (TX7_row.at 28 rfl) fl7_75 hH rfl rfl (by decide) (by decide) (fun r53 => ?_)
        refine z_iconst (TX7_row.at 29 rfl) ?_
        refine z_iadd (TX7_row.at 30 rfl) ?_
        refine zc_putI (m := 0) (s := 13) (k := 13) (hH.lv (by decide)) (TX7_row.at 31 rfl) fp7_75 hH hA rfl rfl (by decide) (by decide) (by first | omega | exact b2i_01 _) (fun h f58 e1 e2 hH hA => ?_)
        have ef32 := (e1 32 (by decide)).trans ef32
        have ef256 := (e1 256 (by decide)).trans ef256
        have ef13 := e2
        have hfE := hfE.put e1 (by decide)
        refine z_iinc_2 (TX7_row.at 32 rfl) (Nat.le_of_ble_eq_true rfl) rfl ?_
        refine z_goto (tgt := 26) (TX7_row.at 33 rfl) rfl ?_
        by_cases hle : i + 4 ≤ z
        · have cf := canF_tp hTp (show 0 ≤ i by omega) (show i + 4 ≤ 400 by omega)
          have hncf : ¬ ((rowN tp (K, 0, a0) m).1 76 < 10 ∧ canF (tp i) (tp (i + 1)) (tp (i + 2)) (tp (i + 3))) := fun q => t1 ⟨hle, by omega, cf.1.mpr q.2⟩
          have est : rowN tp (K, 0, a0) (m + 1) = ((rowN tp (K, 0, a0) m).1, (rowN tp (K, 0, a0) m).2.1, (rowN tp (K, 0, a0) m).2.2 + 1) := by
            show rowStep tp (4 * (m : Int)) (rowN tp (K, 0, a0) m) = _
            rw [rowStep, ← hm.1, if_neg hncf]
          refine ih (m + 1) _ _ _ _ _ _ _ _ _ _ _ (Or.inl ⟨by omega, by omega, ?_⟩) (by omega) ?_ ?_ ?_ ?_ eg33 eg34 eg35 eg36 eg257 ef32 ef256 ef13 hfE hgE hH hA
          · rw [est]; simp only; omega
          · rw [est]; exact ec
          · rw [est]; exact e76
          · rw [est]; exact hP
          · rw [est]; exact hz
        · exact ih m _ _ _ _ _ _ _ _ _ _ _ (Or.inr ⟨by omega, by omega, by omega, by omega⟩) (by omega) ec e76 hP hz eg33 eg34 eg35 eg36 eg257 ef32 ef256 ef13 hfE hgE hH hA
      · skip
        rcases htie with htie | htie
        · exfalso; omega
        obtain ⟨t1, t2, z1, z2, z3, z4, z5⟩ := htie
        have ef32 := ef32.trans z1
        have eg33 := eg33.trans z2
        have eg34 := eg34.trans z3
        have eg35 := eg35.trans z4
        have eg36 := eg36.trans z5
        rcases hm with hm | hm
        rotate_left
        · exfalso; omega
        have cf := canF_tp hTp (show 0 ≤ i by omega) (show i + 4 ≤ 400 by omega)
        have hcf := cf.1.mp t1.2.2
        obtain ⟨u1, u2, u3, u4⟩ := cf.2 hcf
        have est : rowN tp (K, 0, a0) (m + 1) = (addK (rowN tp (K, 0, a0) m).1 (tp i) (tp (i + 1)) (tp (i + 2)) (tp (i + 3)), (rowN tp (K, 0, a0) m).2.1 + 1, (rowN tp (K, 0, a0) m).2.2) := by
          show rowStep tp (4 * (m : Int)) (rowN tp (K, 0, a0) m) = _
          rw [rowStep, ← hm.1, if_pos ⟨by omega, hcf⟩]
        have hP2 := FrA_add (a := tp i) (b := tp (i + 1)) (c := tp (i + 2)) (e := tp (i + 3)) (show 0 ≤ (rowN tp (K, 0, a0) m).1 76 by omega) (by omega) hP hz
        rw [← e76] at hP2
        rw [u1] at eg33
        rw [u2] at eg34
        rw [u3] at eg35
        rw [u4] at eg36
        refine z_iinc_1 (TX7_row.at 24 rfl) (Nat.le_of_ble_eq_true rfl) rfl ?_
        refine z_goto (tgt := 61) (TX7_row.at 25 rfl) rfl ?_
        refine z_iinc_2 (TX7_row.at 32 rfl) (Nat.le_of_ble_eq_true rfl) rfl ?_
        refine z_goto (tgt := 26) (TX7_row.at 33 rfl) rfl ?_
        refine ih (m + 1) _ _ _ _ _ _ _ _ _ _ _ (Or.inl ⟨by omega, by omega, ?_⟩) (by omega) ?_ ?_ ?_ ?_ eg33 eg34 eg35 eg36 eg257 ef32 ef256 ef13 hfE hgE hH hA
        · rw [est]; simp only; omega
        · rw [est]; simp only; omega
        · rw [est]; simp only [addK_76]; omega
        · rw [est]; exact hP2
        · rw [est]; simp only [addK_76]; exact fun i q0 q1 => hz i (by omega) q1

set_option maxHeartbeats 4000000 in
set_option maxRecDepth 100000 in
theorem c_row {l : Launch} {E : cE} {f : mF} {g j : mA} {Fr : Int → Int} {To : Int → Int} {Ln : Int → Int} {Kd : Int → Int} {U : Int → Int} {Rf : Int → Int} {z : Int} {as_ : Int} {st : Int} {kp : Int} {K tp : Int → Int} {dp : Int} (eg33 : g 33 = Fr) (eg34 : g 34 = To) (eg35 : g 35 = Ln) (eg36 : g 36 = Kd) (eg257 : g 257 = U) (eg11 : g 11 = Rf) (ef32 : f 32 = (K 76)) (ef256 : f 256 = z) (ef13 : f 13 = as_) (ef16 : f 16 = st) (ef192 : f 192 = kp) (hb : ∀ i, Rf i ≤ 100000) (z0 : 0 ≤ z) (z4 : z ≤ 400) (n0 : 0 ≤ K 76) (n10 : K 76 ≤ 10) (hTp : TpU tp U) (hP : FrA Fr To Ln Kd dp K) (hz : dHi dp (K 76)) : CM l E MX7_row 4 [.ref (E.1 31)] f g j (PI (fun r f' g' j' => ((z = 0 ∧ r = -6 ∧ f' 16 = -6 ∧ g' 11 = bumC Rf (-6) ∧ f' 256 = 0 ∧ f' 32 = K 76 ∧ g' 33 = Fr ∧ g' 34 = To ∧ g' 35 = Ln ∧ g' 36 = Kd ∧ f' 13 = as_ ∧ f' 192 = kp) ∨ (z ≠ 0 ∧ r = (rowN tp (K, 0, if z % 4 = 0 then 0 else 1) (z / 4).toNat).2.1 ∧ f' 16 = 0 ∧ g' 11 = Rf ∧ f' 256 = 0 ∧ f' 192 = 0 ∧ f' 32 = (rowN tp (K, 0, if z % 4 = 0 then 0 else 1) (z / 4).toNat).1 76 ∧ f' 13 = (rowN tp (K, 0, if z % 4 = 0 then 0 else 1) (z / 4).toNat).2.2 ∧ FrA (g' 33) (g' 34) (g' 35) (g' 36) dp (rowN tp (K, 0, if z % 4 = 0 then 0 else 1) (z / 4).toNat).1)) ∧ eqx [13, 16, 32, 192, 256] f f' ∧ eqx [11, 33, 34, 35, 36] g g' ∧ j' = j)) := by
  refine CM.intro [some (.ref (E.1 31)), none, none] (by decide) (Nat.le_of_ble_eq_true rfl) rfl (fun d hd h0 h hH hA => ?_)
  have hfE : eqx [13, 16, 32, 192, 256] f f := eqx.rf
  have hgE : eqx [11, 33, 34, 35, 36] g g := eqx.rf
  have hr := rowN_76 (tp := tp) (c := 0) (s := if z % 4 = 0 then 0 else 1) n0 n10 (z / 4).toNat
  refine z_ald_0 (TX7_row.at 0 rfl) ?_
  refine zc_getO (m := 0) (s := 6) (k := 287) (hH.lv (by decide)) (TX7_row.at 1 rfl) fl7_39 hH rfl rfl (by decide) (by decide) ?_
  refine zc_getIE (m := 8) (s := 0) (k := 256) (hH.lv (by decide)) ef256 (TX7_row.at 2 rfl) fl7_181 hH rfl rfl (by decide) (by decide) (fun r4 => ?_)
  refine z_if_ne (tgt := 17) (TX7_row.at 3 rfl) rfl (by omega) (fun c1 => ?_) (fun c1 => ?_)
  · skip
    refine z_iconst (TX7_row.at 8 rfl) ?_
    refine z_ist_1 (TX7_row.at 9 rfl) (Nat.le_of_ble_eq_true rfl) rfl ?_
    refine z_ald_0 (TX7_row.at 10 rfl) ?_
    refine z_iconst (TX7_row.at 11 rfl) ?_
    refine zc_putI (m := 0) (s := 13) (k := 13) (hH.lv (by decide)) (TX7_row.at 12 rfl) fp7_75 hH hA rfl rfl (by decide) (by decide) (by first | omega | exact b2i_01 _) (fun h f21 e1 e2 hH hA => ?_)
    have ef32 := (e1 32 (by decide)).trans ef32
    have ef256 := (e1 256 (by decide)).trans ef256
    have ef13 := e2
    have ef16 := (e1 16 (by decide)).trans ef16
    have ef192 := (e1 192 (by decide)).trans ef192
    have hfE := hfE.put e1 (by decide)
    refine z_iconst (TX7_row.at 13 rfl) ?_
    refine z_ist_2 (TX7_row.at 14 rfl) (Nat.le_of_ble_eq_true rfl) rfl ?_
    refine lp_crow (dp := dp) (by omega) z0 z4 rfl n0 n10 hTp (fun c9 i9 n9 a9 F3 F4 F5 F6 f26 g26 h q1 q2 q3 hP2 eg33 eg34 eg35 eg36 ef32 ef256 ef13 xf xg hH hA => ?_) 103 0 0 0 _ _ _ _ _ _ _ _ _ (Or.inl ⟨by omega, by omega, by simp only [rowN]; omega⟩) (by omega) rfl rfl hP hz eg33 eg34 eg35 eg36 eg257 ef32 ef256 ef13 eqx.rf eqx.rf hH hA
    have ef16 := (xf 16 (by decide)).trans ef16
    have ef192 := (xf 192 (by decide)).trans ef192
    have hfE := hfE.trans xf (by decide)
    have eg257 := (xg 257 (by decide)).trans eg257
    have eg11 := (xg 11 (by decide)).trans eg11
    have hgE := hgE.trans xg (by decide)
    refine z_ald_0 (TX7_row.at 34 rfl) ?_
    refine zc_getO (m := 0) (s := 6) (k := 287) (hH.lv (by decide)) (TX7_row.at 35 rfl) fl7_39 hH rfl rfl (by decide) (by decide) ?_
    refine z_iconst (TX7_row.at 36 rfl) ?_
    refine zc_putI (m := 8) (s := 0) (k := 256) (hH.lv (by decide)) (TX7_row.at 37 rfl) fp7_181 hH hA rfl rfl (by decide) (by decide) (by first | omega | exact b2i_01 _) (fun h f72 e1 e2 hH hA => ?_)
    have ef32 := (e1 32 (by decide)).trans ef32
    have ef256 := e2
    have ef13 := (e1 13 (by decide)).trans ef13
    have ef16 := (e1 16 (by decide)).trans ef16
    have ef192 := (e1 192 (by decide)).trans ef192
    have hfE := hfE.put e1 (by decide)
    refine z_ald_0 (TX7_row.at 38 rfl) ?_
    refine zc_getO (m := 0) (s := 4) (k := 223) (hH.lv (by decide)) (TX7_row.at 39 rfl) fl7_29 hH rfl rfl (by decide) (by decide) ?_
    refine z_iconst (TX7_row.at 40 rfl) ?_
    refine zc_putI (m := 6) (s := 0) (k := 192) (hH.lv (by decide)) (TX7_row.at 41 rfl) fp7_99 hH hA rfl rfl (by decide) (by decide) (by first | omega | exact b2i_01 _) (fun h f80 e1 e2 hH hA => ?_)
    have ef32 := (e1 32 (by decide)).trans ef32
    have ef256 := (e1 256 (by decide)).trans ef256
    have ef13 := (e1 13 (by decide)).trans ef13
    have ef16 := (e1 16 (by decide)).trans ef16
    have ef192 := e2
    have hfE := hfE.put e1 (by decide)
    refine z_ald_0 (TX7_row.at 42 rfl) ?_
    refine z_ild_1 (TX7_row.at 43 rfl) ?_
    refine zc_callI1 (m := 0) (c_answered ef16 (by omega)) (hH.lv (by decide)) (TX7_row.at 44 rfl) c7_106 rfl rfl hH hA (by omega) (Nat.le_of_ble_eq_true rfl) (fun x85 f85 g85 j85 h r85 q85 hH hA => ?_)
    obtain ⟨q85, xf, xg, xj⟩ := q85
    rw [xj] at hH
    have ef32 := (xf 32 (by decide)).trans ef32
    have ef256 := (xf 256 (by decide)).trans ef256
    have ef13 := (xf 13 (by decide)).trans ef13
    have ef192 := (xf 192 (by decide)).trans ef192
    have hfE := hfE.trans xf (by decide)
    have eg33 := (xg 33 (by decide)).trans eg33
    have eg34 := (xg 34 (by decide)).trans eg34
    have eg35 := (xg 35 (by decide)).trans eg35
    have eg36 := (xg 36 (by decide)).trans eg36
    have eg257 := (xg 257 (by decide)).trans eg257
    have eg11 := (xg 11 (by decide)).trans eg11
    have hgE := hgE.trans xg (by decide)
    have qL := q85
    have ef16 := qL.2
    have qe := qL.1.symm
    subst qe
    refine zc_iret (TX7_row.at 45 rfl) rfl hH hA (by omega) ?_
    exact ⟨Or.inr ⟨by omega, q1, ef16, eg11, ef256, ef192, ef32.trans q2, ef13.trans q3, by rw [eg33, eg34, eg35, eg36]; exact hP2⟩, hfE, hgE, rfl⟩
  · skip
    refine z_ald_0 (TX7_row.at 4 rfl) ?_
    refine z_bipush (by decide) (TX7_row.at 5 rfl) ?_
    refine zc_callI1 (m := 0) (c_refused eg11 ef16 (by omega) (by omega) (by omega) hb) (hH.lv (by decide)) (TX7_row.at 6 rfl) c7_92 rfl rfl hH hA (by omega) (Nat.le_of_ble_eq_true rfl) (fun x13 f13 g13 j13 h r13 q13 hH hA => ?_)
    obtain ⟨q13, xf, xg, xj⟩ := q13
    rw [xj] at hH
    have ef32 := (xf 32 (by decide)).trans ef32
    have ef256 := (xf 256 (by decide)).trans ef256
    have ef13 := (xf 13 (by decide)).trans ef13
    have ef192 := (xf 192 (by decide)).trans ef192
    have hfE := hfE.trans xf (by decide)
    have eg33 := (xg 33 (by decide)).trans eg33
    have eg34 := (xg 34 (by decide)).trans eg34
    have eg35 := (xg 35 (by decide)).trans eg35
    have eg36 := (xg 36 (by decide)).trans eg36
    have eg257 := (xg 257 (by decide)).trans eg257
    have hgE := hgE.trans xg (by decide)
    have qL := q13
    have ef16 := qL.2.1
    have eg11 := qL.2.2
    have qe := qL.1.symm
    subst qe
    refine zc_iret (TX7_row.at 7 rfl) rfl hH hA (by omega) ?_
    exact ⟨Or.inl ⟨by omega, rfl, ef16, eg11, by omega, ef32, eg33, eg34, eg35, eg36, ef13, ef192⟩, hfE, hgE, rfl⟩

