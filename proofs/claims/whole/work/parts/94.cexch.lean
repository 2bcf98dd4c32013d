/-! ===== the class itself: exchanged ===== -/
set_option maxHeartbeats 4000000 in
set_option maxRecDepth 100000 in
theorem lp_me2x1 {l : Launch} {E : cE} {d : Nat} {Pz : Option Value → zH → Prop} {h0 : zH} {f0 : mF} {g0 : mA} {j : mA} (hd : 5 ≤ d) {m : Nat} {Vb Te On C : Int → Int} {N n4 : Int} {cl : List Cla} {Fr To Ln Kd K : Int → Int} {dp : Int} (hlm : E.2.1 m = true) (hcls : cCls m = 4) (h16 : 13 ≤ m) (hNl : N ≤ E.2.2 (32 * m + 8)) (hN0 : N ≤ 400) (q3 : n4 ≤ E.2.2 (32 * m + 3)) (q5 : n4 ≤ E.2.2 (32 * m + 5)) (q7 : n4 ≤ E.2.2 (32 * m + 7)) (n40 : 0 ≤ n4) (n12 : n4 ≤ 12) (hsc : ScL Vb On Te C N 0 cl) (hln : n4 = (cl.length : Int)) (hK : KOK K) (hP : FrA Fr To Ln Kd dp K) (kx : ∀ (H Φ : Int → Int) (f : mF) (g : mA) (h : zH), MsH K cl H 8 → g 353 = H → Φ 6 = K 75 → Φ 8 = K 28 → g 356 = Φ → eqx [] f0 f → eqx [353, 356, 384] g0 g → HC E f g j h → cAg E h0 h → Z l MX0_measure d 0 0 Pz 70 [some (.ref (E.1 383)), some (.ref (E.1 63)), some (.ref (E.1 (32 * m + 31))), some (vI 8)] [] h 0 0)  : ∀ (n : Nat) (i : Int) (H : Int → Int) (Φ : Int → Int) (f : mF) (g : mA) (h : zH) (i0 : 0 ≤ i) (i1 : i ≤ 8) (i2 : 8 < i + n) (hB : MsH K cl H i) (h6 : Φ 6 = K 75) (h8 : Φ 8 = K 28) (eg33 : g 33 = Fr) (eg34 : g 34 = To) (eg353 : g 353 = H) (egm3 : g (32 * m + 3) = Vb) (egm7 : g (32 * m + 7) = Te) (egm5 : g (32 * m + 5) = On) (egm8 : g (32 * m + 8) = C) (eg356 : g 356 = Φ) (ef32 : f 32 = (K 76)) (efm1 : f (32 * m + 1) = N) (efm0 : f (32 * m + 0) = n4) (hfE : eqx [] f0 f) (hgE : eqx [353, 356, 384] g0 g) (hH : HC E f g j h) (hA : cAg E h0 h), Z l MX0_measure d 0 0 Pz 51 [some (.ref (E.1 383)), some (.ref (E.1 63)), some (.ref (E.1 (32 * m + 31))), some (vI i)] [] h 0 0 := by
  intro n
  induction n with
  | zero => intro i H Φ f g h i0 i1 i2 hB h6 h8 eg33 eg34 eg353 egm3 egm7 egm5 egm8 eg356 ef32 efm1 efm0 hfE hgE hH hA; exfalso; omega
  | succ n ih =>
    intro i H Φ f g h i0 i1 i2 hB h6 h8 eg33 eg34 eg353 egm3 egm7 egm5 egm8 eg356 ef32 efm1 efm0 hfE hgE hH hA
    have hn := hK.1
    refine z_ild_3 (TX0_measure.at 31 rfl) ?_
    refine z_bipush (by decide) (TX0_measure.at 32 rfl) ?_
    refine z_icmp_ge (tgt := 70) (TX0_measure.at 33 rfl) rfl (by omega) (by omega) (fun c1 => ?_) (fun c1 => ?_)
    · skip
      obtain rfl : i = 8 := by omega
      exact kx _ _ _ _ _ hB eg353 h6 h8 eg356 hfE hgE hH hA
    · skip
      refine z_ald_0 (TX0_measure.at 34 rfl) ?_
      refine z_ald_1 (TX0_measure.at 35 rfl) ?_
      refine z_ald_2 (TX0_measure.at 36 rfl) ?_
      refine z_ild_3 (TX0_measure.at 37 rfl) ?_
      refine zc_callV3 (m := 11) (c_mk1 eg33 eg34 eg353 egm3 egm7 egm5 egm8 eg356 ef32 efm1 efm0 (by omega) hlm hcls h16 hNl hN0 q3 q5 q7 n40 n12 hsc hln i0 (by omega) (by omega) (by omega) rfl h6 h8 hK.2.2.2.2.2.2.2.2.2.1.1 hK.2.2.2.1.1 (fun t t0 t1 => ⟨(hP.2 t t0 t1).1, (hP.2 t t0 t1).2.1⟩)) (hH.lv (by decide)) (TX0_measure.at 38 rfl) c0_50 rfl rfl hH hA (by omega) (Nat.le_of_ble_eq_true rfl) (fun f61 g61 j61 h q61 hH hA => ?_)
      obtain ⟨q61, xf, xg, xj⟩ := q61
      rw [xj] at hH
      have ef32 := (xf 32 (by decide)).trans ef32
      have efm1 := (xf (32 * m + 1) (by simp only [List.mem_cons, List.not_mem_nil, or_false, not_or, not_false_eq_true] <;> omega)).trans efm1
      have efm0 := (xf (32 * m + 0) (by simp only [List.mem_cons, List.not_mem_nil, or_false, not_or, not_false_eq_true] <;> omega)).trans efm0
      have hfE := hfE.trans xf (by decide)
      have eg33 := (xg 33 (by decide)).trans eg33
      have eg34 := (xg 34 (by decide)).trans eg34
      have egm3 := (xg (32 * m + 3) (by simp only [List.mem_cons, List.not_mem_nil, or_false, not_or, not_false_eq_true] <;> omega)).trans egm3
      have egm7 := (xg (32 * m + 7) (by simp only [List.mem_cons, List.not_mem_nil, or_false, not_or, not_false_eq_true] <;> omega)).trans egm7
      have egm5 := (xg (32 * m + 5) (by simp only [List.mem_cons, List.not_mem_nil, or_false, not_or, not_false_eq_true] <;> omega)).trans egm5
      have egm8 := (xg (32 * m + 8) (by simp only [List.mem_cons, List.not_mem_nil, or_false, not_or, not_false_eq_true] <;> omega)).trans egm8
      have hgE := hgE.trans xg (by decide)
      have qL := q61
      have eg353 := qL.1
      obtain ⟨Φ2, eg356⟩ : ∃ z, g61 356 = z := ⟨_, rfl⟩
      rw [eg356] at qL
      have h62 := qL.2.1
      have h82 := qL.2.2
      refine z_iinc_3 (TX0_measure.at 39 rfl) (Nat.le_of_ble_eq_true rfl) rfl ?_
      refine z_goto (tgt := 51) (TX0_measure.at 40 rfl) rfl ?_
      exact ih (i + 1) _ _ _ _ _ (by omega) (by omega) (by omega) hB.s h62 h82 eg33 eg34 eg353 egm3 egm7 egm5 egm8 eg356 ef32 efm1 efm0 hfE hgE hH hA

set_option maxHeartbeats 4000000 in
set_option maxRecDepth 100000 in
theorem c_measx1 {l : Launch} {E : cE} {f : mF} {g j : mA} {Fr : Int → Int} {To : Int → Int} {Ln : Int → Int} {Kd : Int → Int} {Tm : Int → Int} {Vb : Int → Int} {Te : Int → Int} {On : Int → Int} {C : Int → Int} {Φ : Int → Int} {dp : Int} {S : Int} {N : Int} {n4 : Int} {m : Nat} {cl : List Cla} {K : Int → Int} (eg33 : g 33 = Fr) (eg34 : g 34 = To) (eg35 : g 35 = Ln) (eg36 : g 36 = Kd) (eg44 : g 44 = Tm) (egm3 : g (32 * m + 3) = Vb) (egm7 : g (32 * m + 7) = Te) (egm5 : g (32 * m + 5) = On) (egm8 : g (32 * m + 8) = C) (eg356 : g 356 = Φ) (ef32 : f 32 = (K 76)) (ef37 : f 37 = dp) (ef354 : f 354 = S) (efm1 : f (32 * m + 1) = N) (efm0 : f (32 * m + 0) = n4) (hlm : E.2.1 m = true) (hcls : cCls m = 4) (h16 : 13 ≤ m) (hNl : N ≤ E.2.2 (32 * m + 8)) (hN0 : N ≤ 400) (q3 : n4 ≤ E.2.2 (32 * m + 3)) (q5 : n4 ≤ E.2.2 (32 * m + 5)) (q7 : n4 ≤ E.2.2 (32 * m + 7)) (n40 : 0 ≤ n4) (n12 : n4 ≤ 12) (hsc : ScL Vb On Te C N 0 cl) (hln : n4 = (cl.length : Int)) (hK : KOK K) (hP : FrA Fr To Ln Kd dp K) (hS : z31 S) (t0 : Tm 0 = K 28) (t2 : Tm 2 = K 75) : CM l E MX0_measure 5 [.ref (E.1 383), .ref (E.1 63), .ref (E.1 (32 * m + 31))] f g j (PV (fun f' g' j' => (FiT Fr To (g' 352) (g' 353) (frK K) (toK K) (brn K cl) (hld K cl) (K 76) (f' 354) ∧ (∀ x : Int, 0 ≤ x → x < K 76 → (bt (f' 354) x ↔ ctc K cl x)) ∧ (g' 356) 6 = K 75 ∧ (g' 356) 8 = K 28) ∧ eqx [354] f f' ∧ eqx [352, 353, 356, 384] g g' ∧ j' = j)) := by
  refine CM.intro [some (.ref (E.1 383)), some (.ref (E.1 63)), some (.ref (E.1 (32 * m + 31))), none] (by decide) (Nat.le_of_ble_eq_true rfl) rfl (fun d hd h0 h hH hA => ?_)
  have hfE : eqx [354] f f := eqx.rf
  have hgE : eqx [352, 353, 356, 384] g g := eqx.rf
  refine z_ald_0 (TX0_measure.at 0 rfl) ?_
  refine zc_getA (m := 11) (s := 4) (k := 356) (hH.lv (by decide)) (TX0_measure.at 1 rfl) fl0_25 hH rfl rfl (by decide) (by decide) ?_
  refine z_bipush (by decide) (TX0_measure.at 2 rfl) ?_
  refine z_ald_1 (TX0_measure.at 3 rfl) ?_
  refine zc_getA (m := 1) (s := 12) (k := 44) (hH.lv (by decide)) (TX0_measure.at 4 rfl) fl0_38 hH rfl rfl (by decide) (by decide) ?_
  refine z_iconst (TX0_measure.at 5 rfl) ?_
  refine zcf_iald (k := 44) (N := 3) (hH.lv (by decide)) (by decide) rfl eg44 (TX0_measure.at 6 rfl) hH (by decide) (by omega) (show _ < ((3 : Nat) : Int) by omega) (fun r11 => ?_)
  refine zcf_iast (k := 356) (N := 31) (hH.lv (by decide)) (by decide) rfl (TX0_measure.at 7 rfl) hH hA (by decide) (by omega) (show _ < ((31 : Nat) : Int) by omega) (by omega) (fun h g12 e1 e2 hH hA => ?_)
  have eg33 := (e1 33 (by decide)).trans eg33
  have eg34 := (e1 34 (by decide)).trans eg34
  have eg35 := (e1 35 (by decide)).trans eg35
  have eg36 := (e1 36 (by decide)).trans eg36
  have eg44 := (e1 44 (by decide)).trans eg44
  have egm3 := (e1 (32 * m + 3) (by omega)).trans egm3
  have egm7 := (e1 (32 * m + 7) (by omega)).trans egm7
  have egm5 := (e1 (32 * m + 5) (by omega)).trans egm5
  have egm8 := (e1 (32 * m + 8) (by omega)).trans egm8
  rw [eg356] at e2; have eg356 := e2
  have hgE := hgE.put e1 (by decide)
  refine z_ald_0 (TX0_measure.at 8 rfl) ?_
  refine zc_getA (m := 11) (s := 4) (k := 356) (hH.lv (by decide)) (TX0_measure.at 9 rfl) fl0_25 hH rfl rfl (by decide) (by decide) ?_
  refine z_bipush (by decide) (TX0_measure.at 10 rfl) ?_
  refine z_ald_1 (TX0_measure.at 11 rfl) ?_
  refine zc_getA (m := 1) (s := 12) (k := 44) (hH.lv (by decide)) (TX0_measure.at 12 rfl) fl0_38 hH rfl rfl (by decide) (by decide) ?_
  refine z_iconst (TX0_measure.at 13 rfl) ?_
  refine zcf_iald (k := 44) (N := 3) (hH.lv (by decide)) (by decide) rfl eg44 (TX0_measure.at 14 rfl) hH (by decide) (by omega) (show _ < ((3 : Nat) : Int) by omega) (fun r24 => ?_)
  refine zcf_iast (k := 356) (N := 31) (hH.lv (by decide)) (by decide) rfl (TX0_measure.at 15 rfl) hH hA (by decide) (by omega) (show _ < ((31 : Nat) : Int) by omega) (by omega) (fun h g25 e1 e2 hH hA => ?_)
  have eg33 := (e1 33 (by decide)).trans eg33
  have eg34 := (e1 34 (by decide)).trans eg34
  have eg35 := (e1 35 (by decide)).trans eg35
  have eg36 := (e1 36 (by decide)).trans eg36
  have eg44 := (e1 44 (by decide)).trans eg44
  have egm3 := (e1 (32 * m + 3) (by omega)).trans egm3
  have egm7 := (e1 (32 * m + 7) (by omega)).trans egm7
  have egm5 := (e1 (32 * m + 5) (by omega)).trans egm5
  have egm8 := (e1 (32 * m + 8) (by omega)).trans egm8
  rw [eg356] at e2; have eg356 := e2
  have hgE := hgE.put e1 (by decide)
  refine z_iconst (TX0_measure.at 16 rfl) ?_
  refine z_ist_3 (TX0_measure.at 17 rfl) (Nat.le_of_ble_eq_true rfl) rfl ?_
  have hn := hK.1
  refine lp_me11 hd hlm hcls h16 hNl hN0 q3 q5 q7 n40 n12 hsc hln hK hP (fun B2 Φ2 S2 f3 g3 h3 hB h6 h8 eg33 eg34 eg35 eg36 egm3 egm7 egm5 egm8 eg352 eg356 ef32 ef37 efm1 efm0 ef354 xf xg hH hA => ?_) 11 0 _ S _ _ _ _ (by omega) (by omega) (by omega) ⟨hS, fun x x0 x1 => by omega⟩ (by rw [← t2]; rfl) (by rw [← t0]; rfl) eg33 eg34 eg35 eg36 rfl egm3 egm7 egm5 egm8 eg356 ef32 ef37 ef354 efm1 efm0 eqx.rf eqx.rf hH hA
  refine z_iconst (TX0_measure.at 29 rfl) ?_
  refine z_ist_3 (TX0_measure.at 30 rfl) (Nat.le_of_ble_eq_true rfl) rfl ?_
  refine lp_me2x1 hd hlm hcls h16 hNl hN0 q3 q5 q7 n40 n12 hsc hln hK hP (fun H2 Φ3 f4 g4 h4 hH2 eg353 k6 k8 eg356 yf yg hH hA => ?_) 9 0 (g3 353) Φ2 _ _ _ (by omega) (by omega) (by omega) (fun k k0 k1 => by omega) h6 h8 eg33 eg34 rfl egm3 egm7 egm5 egm8 eg356 ef32 efm1 efm0 eqx.rf eqx.rf hH hA
  refine zc_vret (TX0_measure.at 41 rfl) rfl hH hA ?_
  have e352 := (yg 352 (by decide)).trans eg352
  have e354 := (yf 354 (by decide)).trans ef354
  rw [← eg353] at hH2
  rw [← e352, ← e354] at hB
  exact ⟨⟨ms_FiT hK hP hB hH2, fun x x0 x1 => (hB.2 x x0 x1).2, by rw [eg356]; exact k6, by rw [eg356]; exact k8⟩, (hfE.trans xf (by decide)).trans yf (by decide), (hgE.trans xg (by decide)).trans yg (by decide), rfl⟩

set_option maxHeartbeats 4000000 in
set_option maxRecDepth 100000 in
theorem lp_me2xN1 {l : Launch} {E : cE} {d : Nat} {Pz : Option Value → zH → Prop} {h0 : zH} {f0 : mF} {g0 : mA} {j : mA} (hd : 5 ≤ d) {Fr To Ln Kd K : Int → Int} {dp : Int}  (hK : KOK K) (hP : FrA Fr To Ln Kd dp K) (kx : ∀ (H Φ : Int → Int) (f : mF) (g : mA) (h : zH), MsH K [] H 8 → g 353 = H → Φ 6 = K 75 → Φ 8 = K 28 → g 356 = Φ → eqx [] f0 f → eqx [353, 356, 384] g0 g → HC E f g j h → cAg E h0 h → Z l MX0_measure d 0 0 Pz 70 [some (.ref (E.1 383)), some (.ref (E.1 63)), some (.null), some (vI 8)] [] h 0 0)  : ∀ (n : Nat) (i : Int) (H : Int → Int) (Φ : Int → Int) (f : mF) (g : mA) (h : zH) (i0 : 0 ≤ i) (i1 : i ≤ 8) (i2 : 8 < i + n) (hB : MsH K [] H i) (h6 : Φ 6 = K 75) (h8 : Φ 8 = K 28) (eg33 : g 33 = Fr) (eg34 : g 34 = To) (eg353 : g 353 = H) (eg356 : g 356 = Φ) (ef32 : f 32 = (K 76)) (hfE : eqx [] f0 f) (hgE : eqx [353, 356, 384] g0 g) (hH : HC E f g j h) (hA : cAg E h0 h), Z l MX0_measure d 0 0 Pz 51 [some (.ref (E.1 383)), some (.ref (E.1 63)), some (.null), some (vI i)] [] h 0 0 := by
  intro n
  induction n with
  | zero => intro i H Φ f g h i0 i1 i2 hB h6 h8 eg33 eg34 eg353 eg356 ef32 hfE hgE hH hA; exfalso; omega
  | succ n ih =>
    intro i H Φ f g h i0 i1 i2 hB h6 h8 eg33 eg34 eg353 eg356 ef32 hfE hgE hH hA
    have hn := hK.1
    refine z_ild_3 (TX0_measure.at 31 rfl) ?_
    refine z_bipush (by decide) (TX0_measure.at 32 rfl) ?_
    refine z_icmp_ge (tgt := 70) (TX0_measure.at 33 rfl) rfl (by omega) (by omega) (fun c1 => ?_) (fun c1 => ?_)
    · skip
      obtain rfl : i = 8 := by omega
      exact kx _ _ _ _ _ hB eg353 h6 h8 eg356 hfE hgE hH hA
    · skip
      refine z_ald_0 (TX0_measure.at 34 rfl) ?_
      refine z_ald_1 (TX0_measure.at 35 rfl) ?_
      refine z_nld_2 (TX0_measure.at 36 rfl) ?_
      refine z_ild_3 (TX0_measure.at 37 rfl) ?_
      refine zc_callV3 (m := 11) (c_mkN1 eg33 eg34 eg353 eg356 ef32 (by omega) i0 (by omega) (by omega) (by omega) rfl h6 h8 hK.2.2.2.2.2.2.2.2.2.1.1 hK.2.2.2.1.1 (fun t t0 t1 => ⟨(hP.2 t t0 t1).1, (hP.2 t t0 t1).2.1⟩)) (hH.lv (by decide)) (TX0_measure.at 38 rfl) c0_50 rfl rfl hH hA (by omega) (Nat.le_of_ble_eq_true rfl) (fun f61 g61 j61 h q61 hH hA => ?_)
      obtain ⟨q61, xf, xg, xj⟩ := q61
      rw [xj] at hH
      have ef32 := (xf 32 (by decide)).trans ef32
      have hfE := hfE.trans xf (by decide)
      have eg33 := (xg 33 (by decide)).trans eg33
      have eg34 := (xg 34 (by decide)).trans eg34
      have hgE := hgE.trans xg (by decide)
      have qL := q61
      have eg353 := qL.1
      obtain ⟨Φ2, eg356⟩ : ∃ z, g61 356 = z := ⟨_, rfl⟩
      rw [eg356] at qL
      have h62 := qL.2.1
      have h82 := qL.2.2
      refine z_iinc_3 (TX0_measure.at 39 rfl) (Nat.le_of_ble_eq_true rfl) rfl ?_
      refine z_goto (tgt := 51) (TX0_measure.at 40 rfl) rfl ?_
      exact ih (i + 1) _ _ _ _ _ (by omega) (by omega) (by omega) hB.s h62 h82 eg33 eg34 eg353 eg356 ef32 hfE hgE hH hA

set_option maxHeartbeats 4000000 in
set_option maxRecDepth 100000 in
theorem c_measxN1 {l : Launch} {E : cE} {f : mF} {g j : mA} {Fr : Int → Int} {To : Int → Int} {Ln : Int → Int} {Kd : Int → Int} {Tm : Int → Int} {Φ : Int → Int} {dp : Int} {S : Int} {K : Int → Int} (eg33 : g 33 = Fr) (eg34 : g 34 = To) (eg35 : g 35 = Ln) (eg36 : g 36 = Kd) (eg44 : g 44 = Tm) (eg356 : g 356 = Φ) (ef32 : f 32 = (K 76)) (ef37 : f 37 = dp) (ef354 : f 354 = S) (hK : KOK K) (hP : FrA Fr To Ln Kd dp K) (hS : z31 S) (t0 : Tm 0 = K 28) (t2 : Tm 2 = K 75) : CM l E MX0_measure 5 [.ref (E.1 383), .ref (E.1 63), .null] f g j (PV (fun f' g' j' => (FiT Fr To (g' 352) (g' 353) (frK K) (toK K) (brn K []) (hld K []) (K 76) (f' 354) ∧ (∀ x : Int, 0 ≤ x → x < K 76 → (bt (f' 354) x ↔ ctc K [] x)) ∧ (g' 356) 6 = K 75 ∧ (g' 356) 8 = K 28) ∧ eqx [354] f f' ∧ eqx [352, 353, 356, 384] g g' ∧ j' = j)) := by
  refine CM.intro [some (.ref (E.1 383)), some (.ref (E.1 63)), some (.null), none] (by decide) (Nat.le_of_ble_eq_true rfl) rfl (fun d hd h0 h hH hA => ?_)
  have hfE : eqx [354] f f := eqx.rf
  have hgE : eqx [352, 353, 356, 384] g g := eqx.rf
  refine z_ald_0 (TX0_measure.at 0 rfl) ?_
  refine zc_getA (m := 11) (s := 4) (k := 356) (hH.lv (by decide)) (TX0_measure.at 1 rfl) fl0_25 hH rfl rfl (by decide) (by decide) ?_
  refine z_bipush (by decide) (TX0_measure.at 2 rfl) ?_
  refine z_ald_1 (TX0_measure.at 3 rfl) ?_
  refine zc_getA (m := 1) (s := 12) (k := 44) (hH.lv (by decide)) (TX0_measure.at 4 rfl) fl0_38 hH rfl rfl (by decide) (by decide) ?_
  refine z_iconst (TX0_measure.at 5 rfl) ?_
  refine zcf_iald (k := 44) (N := 3) (hH.lv (by decide)) (by decide) rfl eg44 (TX0_measure.at 6 rfl) hH (by decide) (by omega) (show _ < ((3 : Nat) : Int) by omega) (fun r11 => ?_)
  refine zcf_iast (k := 356) (N := 31) (hH.lv (by decide)) (by decide) rfl (TX0_measure.at 7 rfl) hH hA (by decide) (by omega) (show _ < ((31 : Nat) : Int) by omega) (by omega) (fun h g12 e1 e2 hH hA => ?_)
  have eg33 := (e1 33 (by decide)).trans eg33
  have eg34 := (e1 34 (by decide)).trans eg34
  have eg35 := (e1 35 (by decide)).trans eg35
  have eg36 := (e1 36 (by decide)).trans eg36
  have eg44 := (e1 44 (by decide)).trans eg44
  rw [eg356] at e2; have eg356 := e2
  have hgE := hgE.put e1 (by decide)
  refine z_ald_0 (TX0_measure.at 8 rfl) ?_
  refine zc_getA (m := 11) (s := 4) (k := 356) (hH.lv (by decide)) (TX0_measure.at 9 rfl) fl0_25 hH rfl rfl (by decide) (by decide) ?_
  refine z_bipush (by decide) (TX0_measure.at 10 rfl) ?_
  refine z_ald_1 (TX0_measure.at 11 rfl) ?_
  refine zc_getA (m := 1) (s := 12) (k := 44) (hH.lv (by decide)) (TX0_measure.at 12 rfl) fl0_38 hH rfl rfl (by decide) (by decide) ?_
  refine z_iconst (TX0_measure.at 13 rfl) ?_
  refine zcf_iald (k := 44) (N := 3) (hH.lv (by decide)) (by decide) rfl eg44 (TX0_measure.at 14 rfl) hH (by decide) (by omega) (show _ < ((3 : Nat) : Int) by omega) (fun r24 => ?_)
  refine zcf_iast (k := 356) (N := 31) (hH.lv (by decide)) (by decide) rfl (TX0_measure.at 15 rfl) hH hA (by decide) (by omega) (show _ < ((31 : Nat) : Int) by omega) (by omega) (fun h g25 e1 e2 hH hA => ?_)
  have eg33 := (e1 33 (by decide)).trans eg33
  have eg34 := (e1 34 (by decide)).trans eg34
  have eg35 := (e1 35 (by decide)).trans eg35
  have eg36 := (e1 36 (by decide)).trans eg36
  have eg44 := (e1 44 (by decide)).trans eg44
  rw [eg356] at e2; have eg356 := e2
  have hgE := hgE.put e1 (by decide)
  refine z_iconst (TX0_measure.at 16 rfl) ?_
  refine z_ist_3 (TX0_measure.at 17 rfl) (Nat.le_of_ble_eq_true rfl) rfl ?_
  have hn := hK.1
  refine lp_me1N1 hd hK hP (fun B2 Φ2 S2 f3 g3 h3 hB h6 h8 eg33 eg34 eg35 eg36 eg352 eg356 ef32 ef37 ef354 xf xg hH hA => ?_) 11 0 _ S _ _ _ _ (by omega) (by omega) (by omega) ⟨hS, fun x x0 x1 => by omega⟩ (by rw [← t2]; rfl) (by rw [← t0]; rfl) eg33 eg34 eg35 eg36 rfl eg356 ef32 ef37 ef354 eqx.rf eqx.rf hH hA
  refine z_iconst (TX0_measure.at 29 rfl) ?_
  refine z_ist_3 (TX0_measure.at 30 rfl) (Nat.le_of_ble_eq_true rfl) rfl ?_
  refine lp_me2xN1 hd hK hP (fun H2 Φ3 f4 g4 h4 hH2 eg353 k6 k8 eg356 yf yg hH hA => ?_) 9 0 (g3 353) Φ2 _ _ _ (by omega) (by omega) (by omega) (fun k k0 k1 => by omega) h6 h8 eg33 eg34 rfl eg356 ef32 eqx.rf eqx.rf hH hA
  refine zc_vret (TX0_measure.at 41 rfl) rfl hH hA ?_
  have e352 := (yg 352 (by decide)).trans eg352
  have e354 := (yf 354 (by decide)).trans ef354
  rw [← eg353] at hH2
  rw [← e352, ← e354] at hB
  exact ⟨⟨ms_FiT hK hP hB hH2, fun x x0 x1 => (hB.2 x x0 x1).2, by rw [eg356]; exact k6, by rw [eg356]; exact k8⟩, (hfE.trans xf (by decide)).trans yf (by decide), (hgE.trans xg (by decide)).trans yg (by decide), rfl⟩

theorem c_measYx1 {l : Launch} {E : cE} {f : mF} {g j : mA} {Fr To Ln Kd Tm K : Int → Int} {dp S y : Int} {cl : List Cla} (eg33 : g 33 = Fr) (eg34 : g 34 = To) (eg35 : g 35 = Ln) (eg36 : g 36 = Kd) (eg44 : g 44 = Tm) (ef32 : f 32 = K 76) (ef37 : f 37 = dp) (ef354 : f 354 = S) (hL : LwN E f g y cl) (hK : KOK K) (hP : FrA Fr To Ln Kd dp K) (hS : z31 S) (t0 : Tm 0 = K 28) (t2 : Tm 2 = K 75) : CM l E MX0_measure 5 [.ref (E.1 383), .ref (E.1 63), va_rf (crf E y)] f g j (PV (fun f' g' j' => (FiT Fr To (g' 352) (g' 353) (frK K) (toK K) (brn K cl) (hld K cl) (K 76) (f' 354) ∧ (∀ x : Int, 0 ≤ x → x < K 76 → (bt (f' 354) x ↔ ctc K cl x)) ∧ (g' 356) 6 = K 75 ∧ (g' 356) 8 = K 28) ∧ eqx [354] f f' ∧ eqx [352, 353, 356, 384] g g' ∧ j' = j)) := by
  rcases hL with ⟨rfl, rfl⟩ | ⟨m, rfl, h1, h2, h3, h4, h5, h6, h7, h8, h9, h10, h11⟩
  · exact c_measxN1 eg33 eg34 eg35 eg36 eg44 rfl ef32 ef37 ef354 hK hP hS t0 t2
  · rw [crf_n]
    exact c_measx1 eg33 eg34 eg35 eg36 eg44 rfl rfl rfl rfl rfl ef32 ef37 ef354 rfl h11 h1 h2 (by omega) h4 h5 h6 h7 h8 (by omega) h9 h10 rfl hK hP hS t0 t2
theorem c_mfY1 {l : Launch} {E : cE} {f : mF} {g j : mA} {Fr To Ln Kd Bx Φ K : Int → Int} {dp S y x : Int} {cl : List Cla} (eg33 : g 33 = Fr) (eg34 : g 34 = To) (eg35 : g 35 = Ln) (eg36 : g 36 = Kd) (eg352 : g 352 = Bx) (eg356 : g 356 = Φ) (ef37 : f 37 = dp) (ef354 : f 354 = S) (hL : LwN E f g y cl) (hK : KOK K) (hP : FrA Fr To Ln Kd dp K) (hS : z31 S) (h6 : Φ 6 = K 75) (h8 : Φ 8 = K 28) (x0 : 0 ≤ x) (x1 : x < K 76) : CM l E MX0_measureFuse 4 [.ref (E.1 383), .ref (E.1 63), va_rf (crf E y), vI x] f g j (PV (fun f' g' j' => (g' 352 = iu Bx x (brn K cl x) ∧ f' 354 = cS S x (ctc K cl x) ∧ (g' 356) 6 = K 75 ∧ (g' 356) 8 = K 28) ∧ eqx [354] f f' ∧ eqx [352, 356, 384] g g' ∧ j' = j)) := by
  have hn := hK.1
  have hpi := hP.2 x x0 x1
  have hki := hK.2.1 x x0 x1
  rcases hL with ⟨rfl, rfl⟩ | ⟨m, rfl, l1, l2, l3, l4, l5, l6, l7, l8, l9, l10, l11⟩
  · exact c_mfN1 eg33 eg34 eg35 eg36 eg352 eg356 ef37 ef354 (by omega) x0 (by omega) h6 h8 hK.2.2.2.2.2.2.2.2.2.1.1 hK.2.2.2.1.1 hS hP.1 ⟨hpi.2.2.2.1, hki.2.2.2.2.2.1⟩ ⟨hpi.1, hki.2.2.1.1⟩ ⟨hpi.2.1, hki.2.2.2.1.1⟩ ⟨hpi.2.2.1, by omega⟩ hki.1 hpi.2.2.2.2
  · rw [crf_n]
    exact c_mf1 eg33 eg34 eg35 eg36 eg352 rfl rfl rfl rfl eg356 ef37 ef354 rfl l11 (by omega) l1 l2 (by omega) l4 l5 l6 l7 l8 (by omega) l9 l10 rfl x0 (by omega) h6 h8 hK.2.2.2.2.2.2.2.2.2.1.1 hK.2.2.2.1.1 hS hP.1 ⟨hpi.2.2.2.1, hki.2.2.2.2.2.1⟩ ⟨hpi.1, hki.2.2.1.1⟩ ⟨hpi.2.1, hki.2.2.2.1.1⟩ ⟨hpi.2.2.1, by omega⟩ hki.1 hpi.2.2.2.2
def swp (Ln : Int → Int) (a b : Int) : Int → Int := iu (iu Ln a (Ln b)) b (Ln a)
theorem swp_2 {Ln : Int → Int} {a b : Int} (h : a ≠ b) : swp (swp Ln a b) a b = Ln := by
  funext t
  unfold swp iu
  by_cases e : t = b
  · subst e; rw [if_pos rfl, if_neg h, if_pos rfl]
  · rw [if_neg e]
    by_cases e2 : t = a
    · subst e2; rw [if_pos rfl, if_pos rfl]
    · rw [if_neg e2, if_neg e, if_neg e2]
section EX
variable {K : Int → Int} {a b : Int} {cl : List Cla}
theorem ex_far {i : Int} (a0 : 0 ≤ a) (a9 : a ≤ 9) (b0 : 0 ≤ b) (b9 : b ≤ 9) (h : i < 10 ∨ 20 ≤ i) : exchK K a b i = K i := exchK_far (by omega) (by omega)
theorem ex_askF {i : Int} (a0 : 0 ≤ a) (a9 : a ≤ 9) (b0 : 0 ≤ b) (b9 : b ≤ 9) (i0 : 0 ≤ i) (ia : i ≠ a) (ib : i ≠ b) : askF (exchK K a b) i = askF K i := by
  funext t
  unfold askF
  rw [ex_far (i := 49 + i) a0 a9 b0 b9 (by omega), ex_far (i := 29 + i) a0 a9 b0 b9 (by omega), ex_far (i := 39 + i) a0 a9 b0 b9 (by omega), ex_far (i := 75) a0 a9 b0 b9 (by omega), ex_far (i := 28) a0 a9 b0 b9 (by omega), exchK_far (i := 10 + i) (by omega) (by omega)]
theorem ex_askN {i : Int} (hn : 0 ≤ K 76) (a0 : 0 ≤ a) (a9 : a ≤ 9) (b0 : 0 ≤ b) (b9 : b ≤ 9) : askN (exchK K a b) i = askN K i := by
  have e5 : ends (exchK K a b) i = ends K i := by
    unfold ends
    rw [ex_far (i := 76) a0 a9 b0 b9 (by omega)]
    refine sm_cg (fun t t0 t1 => ?_)
    rw [ex_far (i := 29 + t) a0 a9 b0 b9 (by omega), ex_far (i := 39 + t) a0 a9 b0 b9 (by omega)]
  funext t
  unfold askN
  rw [e5, ex_far (i := 75) a0 a9 b0 b9 (by omega), ex_far (i := 28) a0 a9 b0 b9 (by omega)]
theorem ex_brn {i : Int} (a0 : 0 ≤ a) (a9 : a ≤ 9) (b0 : 0 ≤ b) (b9 : b ≤ 9) (i0 : 0 ≤ i) (ia : i ≠ a) (ib : i ≠ b) : brn (exchK K a b) cl i = brn K cl i := by
  unfold brn
  rw [ex_askF a0 a9 b0 b9 i0 ia ib, exchK_far (i := 10 + i) (by omega) (by omega)]
theorem ex_ctc {i : Int} (a0 : 0 ≤ a) (a9 : a ≤ 9) (b0 : 0 ≤ b) (b9 : b ≤ 9) (i0 : 0 ≤ i) (i9 : i ≤ 9) (ia : i ≠ a) (ib : i ≠ b) : ctc (exchK K a b) cl i ↔ ctc K cl i := by
  unfold ctc
  rw [ex_askF a0 a9 b0 b9 i0 ia ib, ex_far (i := i) a0 a9 b0 b9 (by omega)]
theorem ex_hld (hn : 0 ≤ K 76) (a0 : 0 ≤ a) (a9 : a ≤ 9) (b0 : 0 ≤ b) (b9 : b ≤ 9) : hld (exchK K a b) cl = hld K cl := by
  funext i
  unfold hld
  rw [ex_askN hn a0 a9 b0 b9]
theorem ex_MsB {B : Int → Int} {S : Int} (hn : K 76 ≤ 10) (a0 : 0 ≤ a) (a1 : a < K 76) (b0 : 0 ≤ b) (b1 : b < K 76) (h : MsB K cl B S (K 76)) : MsB (exchK K a b) cl (iu (iu B a (brn (exchK K a b) cl a)) b (brn (exchK K a b) cl b)) (cS (cS S a (ctc (exchK K a b) cl a)) b (ctc (exchK K a b) cl b)) (exchK K a b 76) := by
  refine ⟨cS_31 (cS_31 h.1 a0 (by omega)) b0 (by omega), fun x x0 x1 => ?_⟩
  rw [ex_far (i := 76) a0 (by omega) b0 (by omega) (by omega)] at x1
  rw [bt_cS (cS_31 h.1 a0 (by omega)) b0 (by omega) x0, bt_cS h.1 a0 (by omega) x0]
  by_cases e : x = b
  · subst e; rw [iu_self, if_pos rfl]; exact ⟨rfl, Iff.rfl⟩
  · rw [iu_ne e, if_neg e]
    by_cases e2 : x = a
    · subst e2; rw [iu_self, if_pos rfl]; exact ⟨rfl, Iff.rfl⟩
    · rw [iu_ne e2, if_neg e2, ex_brn a0 (by omega) b0 (by omega) x0 e2 e, ex_ctc a0 (by omega) b0 (by omega) x0 (by omega) e2 e]
      exact h.2 x x0 x1
theorem ex_FrA {Fr To Ln Kd : Int → Int} {dp : Int} (hn : K 76 ≤ 10) (a0 : 0 ≤ a) (a1 : a < K 76) (b0 : 0 ≤ b) (b1 : b < K 76) (h : FrA Fr To Ln Kd dp K) : FrA Fr To (swp Ln a b) Kd dp (exchK K a b) := by
  refine ⟨h.1, fun i i0 i1 => ?_⟩
  rw [ex_far (i := 76) a0 (by omega) b0 (by omega) (by omega)] at i1
  rw [ex_far (i := 29 + i) a0 (by omega) b0 (by omega) (by omega), ex_far (i := 39 + i) a0 (by omega) b0 (by omega) (by omega), ex_far (i := 49 + i) a0 (by omega) b0 (by omega) (by omega), ex_far (i := i) a0 (by omega) b0 (by omega) (by omega)]
  have q := h.2 i i0 i1
  refine ⟨q.1, q.2.1, ?_, q.2.2.2.1, q.2.2.2.2⟩
  unfold swp
  by_cases e : i = b
  · subst e; rw [iu_self, exchK_b]; exact (h.2 a a0 a1).2.2.1
  · rw [iu_ne e]
    by_cases e2 : i = a
    · subst e2; rw [iu_self, exchK_a]; exact (h.2 b b0 b1).2.2.1
    · rw [iu_ne e2, exchK_far (by omega) (by omega)]; exact q.2.2.1
end EX
theorem FiT_MsB {Fr To BX HX K : Int → Int} {S : Int} {cl : List Cla} (hT : FiT Fr To BX HX (frK K) (toK K) (brn K cl) (hld K cl) (K 76) S) (hct : ∀ x : Int, 0 ≤ x → x < K 76 → (bt S x ↔ ctc K cl x)) : MsB K cl BX S (K 76) ∧ MsH K cl HX 8 := ⟨⟨hT.1, fun x x0 x1 => ⟨(hT.2.2.2.1 x x0 x1).2.2, hct x x0 x1⟩⟩, fun k k0 k1 => hT.2.2.2.2 k k0 (by omega)⟩
set_option maxHeartbeats 4000000 in
set_option maxRecDepth 100000 in
theorem c_swapP {l : Launch} {E : cE} {f : mF} {g j : mA} {Fr : Int → Int} {To : Int → Int} {Ln : Int → Int} {Kd : Int → Int} {Lw : Int → Int} {BX : Int → Int} {Φ : Int → Int} {dp : Int} {S2 : Int} {a b : Int} {K : Int → Int} {cl : List Cla} (eg33 : g 33 = Fr) (eg34 : g 34 = To) (eg35 : g 35 = Ln) (eg36 : g 36 = Kd) (eg46 : g 46 = Lw) (eg352 : g 352 = BX) (eg356 : g 356 = Φ) (ef32 : f 32 = (K 76)) (ef37 : f 37 = dp) (ef45 : f 45 = (K 79)) (ef47 : f 47 = (K 80)) (ef354 : f 354 = S2) (ha : zIn a) (hb : zIn b) (hL0 : LwN E f g (if 0 ≤ K 80 ∧ K 80 < K 79 then Lw (K 80) else -1) cl) (hK : KOK K) (hP : FrA Fr To Ln Kd dp K) (hB : MsB K cl BX S2 (K 76)) (h6 : Φ 6 = K 75) (h8 : Φ 8 = K 28) (a0 : 0 ≤ a) (a1 : a < K 76) (b0 : 0 ≤ b) (b1 : b < K 76) : CM l E MX7_swapOnPaper 5 [.ref (E.1 31), vI a, vI b] f g j (PV (fun f' g' j' => (g' 35 = swp Ln a b ∧ (∃ B2 S3, g' 352 = B2 ∧ f' 354 = S3 ∧ MsB (exchK K a b) cl B2 S3 (exchK K a b 76)) ∧ (g' 356) 6 = K 75 ∧ (g' 356) 8 = K 28) ∧ eqx [354] f f' ∧ eqx [35, 352, 356, 384] g g' ∧ j' = j)) := by
  refine CM.intro [some (.ref (E.1 31)), some (vI a), some (vI b)] (by decide) (Nat.le_of_ble_eq_true rfl) rfl (fun d hd h0 h hH hA => ?_)
  have hfE : eqx [354] f f := eqx.rf
  have hgE : eqx [35, 352, 356, 384] g g := eqx.rf
  have h79 := hK.2.2.2.2.2.2.2.2.2.2.1
  have hn := hK.1
  have hK2 := KOK_exch hK a0 a1 b0 b1
  have hP2 := ex_FrA (a := a) (b := b) hn.2 a0 a1 b0 b1 hP
  have x76 := ex_far (K := K) (i := 76) a0 (show a ≤ 9 by omega) b0 (show b ≤ 9 by omega) (by omega)
  have x75 := ex_far (K := K) (i := 75) a0 (show a ≤ 9 by omega) b0 (show b ≤ 9 by omega) (by omega)
  have x28 := ex_far (K := K) (i := 28) a0 (show a ≤ 9 by omega) b0 (show b ≤ 9 by omega) (by omega)
  rw [← x75] at h6
  rw [← x28] at h8
  refine z_ald_0 (TX7_swapOnPaper.at 0 rfl) ?_
  refine zc_getO (m := 0) (s := 0) (k := 63) (hH.lv (by decide)) (TX7_swapOnPaper.at 1 rfl) fl7_12 hH rfl rfl (by decide) (by decide) ?_
  refine z_ild_1 (TX7_swapOnPaper.at 2 rfl) ?_
  refine z_ild_2 (TX7_swapOnPaper.at 3 rfl) ?_
  refine zc_callV2 (m := 1) (c_swapL eg35 (by omega) (by omega) (by omega) (by omega) (by omega) (by omega)) (hH.lv (by decide)) (TX7_swapOnPaper.at 4 rfl) c7_297 rfl rfl hH hA (by omega) (Nat.le_of_ble_eq_true rfl) (fun f6 g6 j6 h q6 hH hA => ?_)
  obtain ⟨q6, xf, xg, xj⟩ := q6
  rw [xj] at hH
  have ef32 := (xf 32 (by decide)).trans ef32
  have ef37 := (xf 37 (by decide)).trans ef37
  have ef45 := (xf 45 (by decide)).trans ef45
  have ef47 := (xf 47 (by decide)).trans ef47
  have ef354 := (xf 354 (by decide)).trans ef354
  have hfE := hfE.trans xf (by decide)
  have eg33 := (xg 33 (by decide)).trans eg33
  have eg34 := (xg 34 (by decide)).trans eg34
  have eg36 := (xg 36 (by decide)).trans eg36
  have eg46 := (xg 46 (by decide)).trans eg46
  have eg352 := (xg 352 (by decide)).trans eg352
  have eg356 := (xg 356 (by decide)).trans eg356
  have hgE := hgE.trans xg (by decide)
  have qL := q6
  have eg35 : g6 35 = swp Ln a b := qL
  have hL0 := LwN_fr hL0 xf xg (by decide) (by decide)
  refine z_ald_0 (TX7_swapOnPaper.at 5 rfl) ?_
  refine zc_getO (m := 0) (s := 9) (k := 383) (hH.lv (by decide)) (TX7_swapOnPaper.at 6 rfl) fl7_60 hH rfl rfl (by decide) (by decide) ?_
  refine z_ald_0 (TX7_swapOnPaper.at 7 rfl) ?_
  refine zc_getO (m := 0) (s := 0) (k := 63) (hH.lv (by decide)) (TX7_swapOnPaper.at 8 rfl) fl7_12 hH rfl rfl (by decide) (by decide) ?_
  refine z_ald_0 (TX7_swapOnPaper.at 9 rfl) ?_
  refine zc_getO (m := 0) (s := 0) (k := 63) (hH.lv (by decide)) (TX7_swapOnPaper.at 10 rfl) fl7_12 hH rfl rfl (by decide) (by decide) ?_
  refine zc_callO (m := 1) (As := []) (c_lawIn1 eg46 ef45 ef47 h79.1 h79.2) (hH.lv (by decide)) (TX7_swapOnPaper.at 11 rfl) c7_135 rfl rfl hH hA (by omega) (Nat.le_of_ble_eq_true rfl) (fun y21 f21 g21 j21 h q21 hH hA => ?_)
  obtain ⟨q21, xf, xg, xj⟩ := q21
  rw [xj] at hH
  have ef32 := (xf 32 (by decide)).trans ef32
  have ef37 := (xf 37 (by decide)).trans ef37
  have ef45 := (xf 45 (by decide)).trans ef45
  have ef47 := (xf 47 (by decide)).trans ef47
  have ef354 := (xf 354 (by decide)).trans ef354
  have hfE := hfE.trans xf (by decide)
  have eg33 := (xg 33 (by decide)).trans eg33
  have eg34 := (xg 34 (by decide)).trans eg34
  have eg35 := (xg 35 (by decide)).trans eg35
  have eg36 := (xg 36 (by decide)).trans eg36
  have eg46 := (xg 46 (by decide)).trans eg46
  have eg352 := (xg 352 (by decide)).trans eg352
  have eg356 := (xg 356 (by decide)).trans eg356
  have hgE := hgE.trans xg (by decide)
  have qL := q21
  have hL0 := LwN_cg hL0 xf xg
  have hL := hL0
  rw [← qL] at hL
  refine z_ild_1 (TX7_swapOnPaper.at 12 rfl) ?_
  refine zc_callV3 (m := 11) (c_mfY1 eg33 eg34 eg35 eg36 eg352 eg356 ef37 ef354 hL hK2 hP2 hB.1 h6 h8 (by omega) (by omega)) (hH.lv (by decide)) (TX7_swapOnPaper.at 13 rfl) c7_361 rfl rfl hH hA (by omega) (Nat.le_of_ble_eq_true rfl) (fun f25 g25 j25 h q25 hH hA => ?_)
  obtain ⟨q25, xf, xg, xj⟩ := q25
  rw [xj] at hH
  have ef32 := (xf 32 (by decide)).trans ef32
  have ef37 := (xf 37 (by decide)).trans ef37
  have ef45 := (xf 45 (by decide)).trans ef45
  have ef47 := (xf 47 (by decide)).trans ef47
  have hfE := hfE.trans xf (by decide)
  have eg33 := (xg 33 (by decide)).trans eg33
  have eg34 := (xg 34 (by decide)).trans eg34
  have eg35 := (xg 35 (by decide)).trans eg35
  have eg36 := (xg 36 (by decide)).trans eg36
  have eg46 := (xg 46 (by decide)).trans eg46
  have hgE := hgE.trans xg (by decide)
  have qL := q25
  obtain ⟨eg352, ef354, h6, h8⟩ := qL
  obtain ⟨Φ25, eg356⟩ : ∃ z, g25 356 = z := ⟨_, rfl⟩
  rw [eg356] at h6 h8
  have hL0 := LwN_fr hL0 xf xg (by decide) (by decide)
  have hS3 := cS_31 (p := ctc (exchK K a b) cl a) hB.1 a0 (by omega)
  refine z_ald_0 (TX7_swapOnPaper.at 14 rfl) ?_
  refine zc_getO (m := 0) (s := 9) (k := 383) (hH.lv (by decide)) (TX7_swapOnPaper.at 15 rfl) fl7_60 hH rfl rfl (by decide) (by decide) ?_
  refine z_ald_0 (TX7_swapOnPaper.at 16 rfl) ?_
  refine zc_getO (m := 0) (s := 0) (k := 63) (hH.lv (by decide)) (TX7_swapOnPaper.at 17 rfl) fl7_12 hH rfl rfl (by decide) (by decide) ?_
  refine z_ald_0 (TX7_swapOnPaper.at 18 rfl) ?_
  refine zc_getO (m := 0) (s := 0) (k := 63) (hH.lv (by decide)) (TX7_swapOnPaper.at 19 rfl) fl7_12 hH rfl rfl (by decide) (by decide) ?_
  refine zc_callO (m := 1) (As := []) (c_lawIn1 eg46 ef45 ef47 h79.1 h79.2) (hH.lv (by decide)) (TX7_swapOnPaper.at 20 rfl) c7_135 rfl rfl hH hA (by omega) (Nat.le_of_ble_eq_true rfl) (fun y40 f40 g40 j40 h q40 hH hA => ?_)
  obtain ⟨q40, xf, xg, xj⟩ := q40
  rw [xj] at hH
  have ef32 := (xf 32 (by decide)).trans ef32
  have ef37 := (xf 37 (by decide)).trans ef37
  have ef45 := (xf 45 (by decide)).trans ef45
  have ef47 := (xf 47 (by decide)).trans ef47
  have ef354 := (xf 354 (by decide)).trans ef354
  have hfE := hfE.trans xf (by decide)
  have eg33 := (xg 33 (by decide)).trans eg33
  have eg34 := (xg 34 (by decide)).trans eg34
  have eg35 := (xg 35 (by decide)).trans eg35
  have eg36 := (xg 36 (by decide)).trans eg36
  have eg46 := (xg 46 (by decide)).trans eg46
  have eg352 := (xg 352 (by decide)).trans eg352
  have eg356 := (xg 356 (by decide)).trans eg356
  have hgE := hgE.trans xg (by decide)
  have qL := q40
  have hL0 := LwN_cg hL0 xf xg
  have hL := hL0
  rw [← qL] at hL
  refine z_ild_2 (TX7_swapOnPaper.at 21 rfl) ?_
  refine zc_callV3 (m := 11) (c_mfY1 eg33 eg34 eg35 eg36 eg352 eg356 ef37 ef354 hL  hK2 hP2 hS3 h6 h8 (by omega) (by omega)) (hH.lv (by decide)) (TX7_swapOnPaper.at 22 rfl) c7_361 rfl rfl hH hA (by omega) (Nat.le_of_ble_eq_true rfl) (fun f44 g44 j44 h q44 hH hA => ?_)
  obtain ⟨q44, xf, xg, xj⟩ := q44
  rw [xj] at hH
  have ef32 := (xf 32 (by decide)).trans ef32
  have ef37 := (xf 37 (by decide)).trans ef37
  have ef45 := (xf 45 (by decide)).trans ef45
  have ef47 := (xf 47 (by decide)).trans ef47
  have hfE := hfE.trans xf (by decide)
  have eg33 := (xg 33 (by decide)).trans eg33
  have eg34 := (xg 34 (by decide)).trans eg34
  have eg35 := (xg 35 (by decide)).trans eg35
  have eg36 := (xg 36 (by decide)).trans eg36
  have eg46 := (xg 46 (by decide)).trans eg46
  have hgE := hgE.trans xg (by decide)
  have qL := q44
  obtain ⟨eg352, ef354, h6, h8⟩ := qL
  obtain ⟨Φ44, eg356⟩ : ∃ z, g44 356 = z := ⟨_, rfl⟩
  rw [eg356] at h6 h8
  have hL0 := LwN_fr hL0 xf xg (by decide) (by decide)
  refine zc_vret (TX7_swapOnPaper.at 23 rfl) rfl hH hA ?_
  exact ⟨⟨eg35, ⟨_, _, eg352, ef354, ex_MsB hn.2 a0 a1 b0 b1 hB⟩, by rw [eg356, ← x75]; exact h6, by rw [eg356, ← x28]; exact h8⟩, hfE, hgE, rfl⟩

set_option maxHeartbeats 4000000 in
set_option maxRecDepth 100000 in
theorem lp_cex1 {l : Launch} {E : cE} {d : Nat} {Pz : Option Value → zH → Prop} {h0 : zH} {f0 : mF} {g0 : mA} {j : mA} (hd : 6 ≤ d) {Fr To Ln Kd Lw HX K : Int → Int} {dp : Int} {cl : List Cla} {k w : Int} (hL0 : LwN E f0 g0 (if 0 ≤ K 80 ∧ K 80 < K 79 then Lw (K 80) else -1) cl) (hK : KOK K) (hP : FrA Fr To Ln Kd dp K) (hHs : MsH K cl HX 8) (k0 : 0 ≤ k) (k7 : k ≤ 7) {a : Int} {s : Int × Int} (a0 : 0 ≤ a) (a1 : a < K 76) (kx : ∀ (x y : Int) (BX : Int → Int) (S2 : Int) (Φ X : Int → Int) (o7 : Option Value) (f : mF) (g : mA) (h : zH), (x, y) = exI K cl k a s (K 76 - a - 1).toNat → (0 ≤ x ∧ x ≤ 4000) → (-1 ≤ y ∧ y ≤ 99) → MsB K cl BX S2 (K 76) → Φ 6 = K 75 → Φ 8 = K 28 → g 33 = Fr → g 34 = To → g 35 = Ln → g 36 = Kd → g 46 = Lw → g 352 = BX → g 353 = HX → g 355 = X → g 356 = Φ → f 32 = K 76 → f 37 = dp → f 45 = K 79 → f 47 = K 80 → f 354 = S2 → eqx [354] f0 f → eqx [35, 352, 355, 356, 384] g0 g → HC E f g j h → cAg E h0 h → Z l MX7_exchanged d 0 0 Pz 180 [some (.ref (E.1 31)), some (vI k), some (vI w), some (vI x), some (vI y), some (vI a), some (vI (K 76)), o7] [] h 0 0)  : ∀ (n : Nat) (b : Int) (x : Int) (y : Int) (BX : Int → Int) (S2 : Int) (Φ : Int → Int) (X : Int → Int) (o7 : Option Value) (f : mF) (g : mA) (h : zH) (b0 : a < b) (b1 : b ≤ K 76) (b2 : K 76 < b + n) (es : (x, y) = exI K cl k a s (b - a - 1).toNat) (xb : 0 ≤ x ∧ x ≤ 4000) (yb : -1 ≤ y ∧ y ≤ 99) (hB : MsB K cl BX S2 (K 76)) (h6 : Φ 6 = K 75) (h8 : Φ 8 = K 28) (eg33 : g 33 = Fr) (eg34 : g 34 = To) (eg35 : g 35 = Ln) (eg36 : g 36 = Kd) (eg46 : g 46 = Lw) (eg352 : g 352 = BX) (eg353 : g 353 = HX) (eg355 : g 355 = X) (eg356 : g 356 = Φ) (ef32 : f 32 = (K 76)) (ef37 : f 37 = dp) (ef45 : f 45 = (K 79)) (ef47 : f 47 = (K 80)) (ef354 : f 354 = S2) (hfE : eqx [354] f0 f) (hgE : eqx [35, 352, 355, 356, 384] g0 g) (hH : HC E f g j h) (hA : cAg E h0 h), Z l MX7_exchanged d 0 0 Pz 94 [some (.ref (E.1 31)), some (vI k), some (vI w), some (vI x), some (vI y), some (vI a), some (vI b), o7] [] h 0 0 := by
  intro n
  induction n with
  | zero => intro b x y BX S2 Φ X o7 f g h b0 b1 b2 es xb yb hB h6 h8 eg33 eg34 eg35 eg36 eg46 eg352 eg353 eg355 eg356 ef32 ef37 ef45 ef47 ef354 hfE hgE hH hA; exfalso; omega
  | succ n ih =>
    intro b x y BX S2 Φ X o7 f g h b0 b1 b2 es xb yb hB h6 h8 eg33 eg34 eg35 eg36 eg46 eg352 eg353 eg355 eg356 ef32 ef37 ef45 ef47 ef354 hfE hgE hH hA
    have hn := hK.1
    have hL := LwN_fr hL0 hfE hgE (by decide) (by decide)
    have hz1 := shl_31 (i := k) k0 (by omega)
    have hz2 : z31 1023 := by decide
    refine z_ild_6 (TX7_exchanged_1.at 9 rfl) ?_
    refine z_ald_0 (TX7_exchanged_1.at 10 rfl) ?_
    refine zc_getO (m := 0) (s := 0) (k := 63) (hH.lv (by decide)) (TX7_exchanged_1.at 11 rfl) fl7_12 hH rfl rfl (by decide) (by decide) ?_
    refine zc_getIE (m := 1) (s := 0) (k := 32) (hH.lv (by decide)) ef32 (TX7_exchanged_1.at 12 rfl) fl7_96 hH rfl rfl (by decide) (by decide) (fun r100 => ?_)
    refine z_icmp_ge (tgt := 180) (TX7_exchanged_1.at 13 rfl) rfl (by omega) (by omega) (fun c1 => ?_) (fun c1 => ?_)
    · skip
      obtain rfl : b = K 76 := by omega
      exact kx _ _ _ _ _ _ _ _ _ _ es xb yb hB h6 h8 eg33 eg34 eg35 eg36 eg46 eg352 eg353 eg355 eg356 ef32 ef37 ef45 ef47 ef354 hfE hgE hH hA
    · skip
      refine z_ald_0 (TX7_exchanged_1.at 14 rfl) ?_
      refine z_ild_5 (TX7_exchanged_1.at 15 rfl) ?_
      refine z_ild_6 (TX7_exchanged_1.at 16 rfl) ?_
      refine zc_callV2 (m := 0) (c_swapP eg33 eg34 eg35 eg36 eg46 eg352 eg356 ef32 ef37 ef45 ef47 ef354 (by omega) (by omega) hL hK hP hB h6 h8 (by omega) (by omega) (by omega) (by omega)) (hH.lv (by decide)) (TX7_exchanged_1.at 17 rfl) c7_358 rfl rfl hH hA (by omega) (Nat.le_of_ble_eq_true rfl) (fun f111 g111 j111 h q111 hH hA => ?_)
      obtain ⟨q111, xf, xg, xj⟩ := q111
      rw [xj] at hH
      have ef32 := (xf 32 (by decide)).trans ef32
      have ef37 := (xf 37 (by decide)).trans ef37
      have ef45 := (xf 45 (by decide)).trans ef45
      have ef47 := (xf 47 (by decide)).trans ef47
      have hfE := hfE.trans xf (by decide)
      have eg33 := (xg 33 (by decide)).trans eg33
      have eg34 := (xg 34 (by decide)).trans eg34
      have eg36 := (xg 36 (by decide)).trans eg36
      have eg46 := (xg 46 (by decide)).trans eg46
      have eg353 := (xg 353 (by decide)).trans eg353
      have eg355 := (xg 355 (by decide)).trans eg355
      have hgE := hgE.trans xg (by decide)
      have qL := q111
      obtain ⟨eg35, ⟨B2, S3, eg352, ef354, hB2⟩, g6, g8⟩ := qL
      obtain ⟨Φ111, eg356⟩ : ∃ z, g111 356 = z := ⟨_, rfl⟩
      rw [eg356] at g6 g8
      have hL2 := LwN_fr hL xf xg (by decide) (by decide)
      have hK2 := KOK_exch (a := a) (b := b) hK (by omega) (by omega) (by omega) (by omega)
      have hP2 := ex_FrA (a := a) (b := b) hn.2 (by omega) (by omega) (by omega) (by omega) hP
      have ef := fun (i : Int) (hi : i < 10 ∨ 20 ≤ i) => ex_far (K := K) (a := a) (b := b) (i := i) (by omega) (by omega) (by omega) (by omega) hi
      have hH2 : MsH (exchK K a b) cl HX 8 := by unfold MsH; rw [ex_hld hn.1 (by omega) (by omega) (by omega) (by omega)]; exact hHs
      have hT2 := ms_FiT hK2 hP2 hB2 hH2
      have hct2 := fun x x0 x1 => (hB2.2 x x0 x1).2
      refine z_ald_0 (TX7_exchanged_1.at 18 rfl) ?_
      refine zc_getO (m := 0) (s := 9) (k := 383) (hH.lv (by decide)) (TX7_exchanged_1.at 19 rfl) fl7_60 hH rfl rfl (by decide) (by decide) ?_
      refine z_ald_0 (TX7_exchanged_1.at 20 rfl) ?_
      refine zc_getO (m := 0) (s := 0) (k := 63) (hH.lv (by decide)) (TX7_exchanged_1.at 21 rfl) fl7_12 hH rfl rfl (by decide) (by decide) ?_
      refine z_iconst (TX7_exchanged_1.at 22 rfl) ?_
      refine z_ild_1 (TX7_exchanged_1.at 23 rfl) ?_
      refine z_ishl (TX7_exchanged_1.at 24 rfl) ?_
      refine zc_callV2 (m := 11) (c_sprF1 eg33 eg34 eg352 eg353 rfl (ef32.trans (ef 76 (by omega)).symm) ef354 hz1.zin hz1 hT2) (hH.lv (by decide)) (TX7_exchanged_1.at 25 rfl) c7_314 rfl rfl hH hA (by omega) (Nat.le_of_ble_eq_true rfl) (fun f125 g125 j125 h q125 hH hA => ?_)
      obtain ⟨q125, xf, xg, xj⟩ := q125
      rw [xj] at hH
      have ef32 := (xf 32 (by decide)).trans ef32
      have ef37 := (xf 37 (by decide)).trans ef37
      have ef45 := (xf 45 (by decide)).trans ef45
      have ef47 := (xf 47 (by decide)).trans ef47
      have ef354 := (xf 354 (by decide)).trans ef354
      have hfE := hfE.trans xf (by decide)
      have eg33 := (xg 33 (by decide)).trans eg33
      have eg34 := (xg 34 (by decide)).trans eg34
      have eg35 := (xg 35 (by decide)).trans eg35
      have eg36 := (xg 36 (by decide)).trans eg36
      have eg46 := (xg 46 (by decide)).trans eg46
      have eg352 := (xg 352 (by decide)).trans eg352
      have eg353 := (xg 353 (by decide)).trans eg353
      have eg356 := (xg 356 (by decide)).trans eg356
      have hgE := hgE.trans xg (by decide)
      have qL := q125
      have hI := qL
      rw [fire_cm hK2 hct2] at hI
      obtain ⟨X125, eg355⟩ : ∃ z, g125 355 = z := ⟨_, rfl⟩
      rw [eg355] at hI
      have hL2 := LwN_fr hL2 xf xg (by decide) (by decide)
      refine z_ald_0 (TX7_exchanged_1.at 26 rfl) ?_
      refine zc_getO (m := 0) (s := 9) (k := 383) (hH.lv (by decide)) (TX7_exchanged_1.at 27 rfl) fl7_60 hH rfl rfl (by decide) (by decide) ?_
      refine z_ald_0 (TX7_exchanged_1.at 28 rfl) ?_
      refine zc_getO (m := 0) (s := 0) (k := 63) (hH.lv (by decide)) (TX7_exchanged_1.at 29 rfl) fl7_12 hH rfl rfl (by decide) (by decide) ?_
      refine z_sipush (by decide) (TX7_exchanged_1.at 30 rfl) ?_
      refine zc_callI2 (m := 11) (c_lastOut1 eg33 eg34 eg352 eg353 eg355 (ef32.trans (ef 76 (by omega)).symm) ef354 hz2.zin hI hz2) (hH.lv (by decide)) (TX7_exchanged_1.at 31 rfl) c7_318 rfl rfl hH hA (by omega) (Nat.le_of_ble_eq_true rfl) (fun x139 f139 g139 j139 h r139 q139 hH hA => ?_)
      obtain ⟨q139, xf, xg, xj⟩ := q139
      rw [xj] at hH
      have ef32 := (xf 32 (by decide)).trans ef32
      have ef37 := (xf 37 (by decide)).trans ef37
      have ef45 := (xf 45 (by decide)).trans ef45
      have ef47 := (xf 47 (by decide)).trans ef47
      have ef354 := (xf 354 (by decide)).trans ef354
      have hfE := hfE.trans xf (by decide)
      have eg33 := (xg 33 (by decide)).trans eg33
      have eg34 := (xg 34 (by decide)).trans eg34
      have eg35 := (xg 35 (by decide)).trans eg35
      have eg36 := (xg 36 (by decide)).trans eg36
      have eg46 := (xg 46 (by decide)).trans eg46
      have eg352 := (xg 352 (by decide)).trans eg352
      have eg353 := (xg 353 (by decide)).trans eg353
      have eg355 := (xg 355 (by decide)).trans eg355
      have eg356 := (xg 356 (by decide)).trans eg356
      have hgE := hgE.trans xg (by decide)
      have qL := q139
      have hv := lastN_b (S := 1023) (exchK K a b 76).toNat (fun t t0 t1 => out_b hI t0 (by have := hK2.1; omega))
      rw [fire_la hK2 hct2] at hv qL
      have hov := orN_b hv
      subst qL
      rw [show laP (exchK K a b) cl (zshl 1 k) 1023 = lasF (exchK K a b) cl k from rfl] at hv hov r139 ⊢
      have hL2 := LwN_cg hL2 xf xg
      refine z_ist_7 (TX7_exchanged_1.at 32 rfl) (Nat.le_of_ble_eq_true rfl) rfl ?_
      refine z_ald_0 (TX7_exchanged_1.at 33 rfl) ?_
      refine z_ild_5 (TX7_exchanged_1.at 34 rfl) ?_
      refine z_ild_6 (TX7_exchanged_1.at 35 rfl) ?_
      refine zc_callV2 (m := 0) (c_swapP (K := exchK K a b) eg33 eg34 eg35 eg36 eg46 eg352 eg356 (ef32.trans (ef 76 (by omega)).symm) ef37 (ef45.trans (ef 79 (by omega)).symm) (ef47.trans (ef 80 (by omega)).symm) ef354 (by omega) (by omega) (by rw [ef 80 (by omega), ef 79 (by omega)]; exact hL2) hK2 hP2 hB2 (g6.trans (ef 75 (by omega)).symm) (g8.trans (ef 28 (by omega)).symm) (by omega) (by rw [ef 76 (by omega)]; omega) (by omega) (by rw [ef 76 (by omega)]; omega)) (hH.lv (by decide)) (TX7_exchanged_1.at 36 rfl) c7_358 rfl rfl hH hA (by omega) (Nat.le_of_ble_eq_true rfl) (fun f149 g149 j149 h q149 hH hA => ?_)
      obtain ⟨q149, xf, xg, xj⟩ := q149
      rw [xj] at hH
      have ef32 := (xf 32 (by decide)).trans ef32
      have ef37 := (xf 37 (by decide)).trans ef37
      have ef45 := (xf 45 (by decide)).trans ef45
      have ef47 := (xf 47 (by decide)).trans ef47
      have hfE := hfE.trans xf (by decide)
      have eg33 := (xg 33 (by decide)).trans eg33
      have eg34 := (xg 34 (by decide)).trans eg34
      have eg36 := (xg 36 (by decide)).trans eg36
      have eg46 := (xg 46 (by decide)).trans eg46
      have eg353 := (xg 353 (by decide)).trans eg353
      have eg355 := (xg 355 (by decide)).trans eg355
      have hgE := hgE.trans xg (by decide)
      have qL := q149
      rw [swp_2 (by omega), exchK_2] at qL
      obtain ⟨eg35, ⟨B4, S4, eg352, ef354, hB4⟩, j6, j8⟩ := qL
      obtain ⟨Φ149, eg356⟩ : ∃ z, g149 356 = z := ⟨_, rfl⟩
      rw [eg356, ef 75 (by omega)] at j6
      rw [eg356, ef 28 (by omega)] at j8
      refine z_ild_7 (TX7_exchanged_1.at 37 rfl) ?_
      refine z_ild_3 (TX7_exchanged_1.at 38 rfl) ?_
      refine zs_call2 (c_isSooner (by omega) (by omega)) (TX7_exchanged_1.at 39 rfl) c7_324 rfl (by omega) (Nat.le_of_ble_eq_true rfl) (fun r155 => ?_)
      refine z_if_eqB (tgt := 174) (TX7_exchanged_2.at 0 rfl) rfl (fun c2 => ?_) (fun c2 => ?_)
      · skip
        refine z_iinc_6 (TX7_exchanged_2.at 9 rfl) (Nat.le_of_ble_eq_true rfl) rfl ?_
        refine z_goto (tgt := 94) (TX7_exchanged_2.at 10 rfl) rfl ?_
        exact ih (b + 1) _ _ _ _ _ _ _ _ _ _ (by omega) (by omega) (by omega) (exI_f b0 es (by omega)) (by omega) (by omega) hB4 j6 j8 eg33 eg34 eg35 eg36 eg46 eg352 eg353 eg355 eg356 ef32 ef37 ef45 ef47 ef354 hfE hgE hH hA
      · skip
        refine z_ild_7 (TX7_exchanged_2.at 1 rfl) ?_
        refine z_ist_3 (TX7_exchanged_2.at 2 rfl) (Nat.le_of_ble_eq_true rfl) rfl ?_
        refine z_bipush (by decide) (TX7_exchanged_2.at 3 rfl) ?_
        refine z_ild_5 (TX7_exchanged_2.at 4 rfl) ?_
        refine z_imul (TX7_exchanged_2.at 5 rfl) ?_
        refine z_ild_6 (TX7_exchanged_2.at 6 rfl) ?_
        refine z_iadd (TX7_exchanged_2.at 7 rfl) ?_
        refine z_ist_4 (TX7_exchanged_2.at 8 rfl) (Nat.le_of_ble_eq_true rfl) rfl ?_
        refine z_iinc_6 (TX7_exchanged_2.at 9 rfl) (Nat.le_of_ble_eq_true rfl) rfl ?_
        refine z_goto (tgt := 94) (TX7_exchanged_2.at 10 rfl) rfl ?_
        have ho : orN (lasF (exchK K a b) cl k) = lasF (exchK K a b) cl k := by omega
        rw [ho]
        exact ih (b + 1) (lasF (exchK K a b) cl k) (10 * a + b) _ _ _ _ _ _ _ _ (by omega) (by omega) (by omega) (exI_t b0 es (by omega)) (by omega) (by omega) hB4 j6 j8 eg33 eg34 eg35 eg36 eg46 eg352 eg353 eg355 eg356 ef32 ef37 ef45 ef47 ef354 hfE hgE hH hA

theorem exO_sC {K : Int → Int} {cl : List Cla} {k a x y x2 y2 : Int} {s : Int × Int} (a0 : 0 ≤ a) (e : (x, y) = exO K cl k s a.toNat) (e2 : (x2, y2) = exI K cl k a (x, y) (K 76 - a - 1).toNat) : (x2, y2) = exO K cl k s (a + 1).toNat := by
  rw [show (a + 1).toNat = a.toNat + 1 by omega, exO, ← e, e2, show ((a.toNat : Nat) : Int) = a by omega, show (K 76 - a - 1).toNat = (K 76).toNat - 1 - a.toNat by omega]
theorem exI_pr {K : Int → Int} {cl : List Cla} {k a v : Int} {s : Int × Int} (a0 : 0 ≤ a) (hs : s.2 = -1 ∨ (0 ≤ s.2 ∧ s.1 < v)) (hv : s.1 ≤ v) : ∀ m : Nat, ((exI K cl k a s m).2 = -1 ∨ (0 ≤ (exI K cl k a s m).2 ∧ (exI K cl k a s m).1 < v)) ∧ (exI K cl k a s m).1 ≤ v := by
  intro m
  induction m with
  | zero => exact ⟨hs, hv⟩
  | succ m ih =>
    simp only [exI, exS]
    split
    · simp only; omega
    · exact ih
set_option maxHeartbeats 4000000 in
set_option maxRecDepth 100000 in
theorem lp_cex2 {l : Launch} {E : cE} {d : Nat} {Pz : Option Value → zH → Prop} {h0 : zH} {f0 : mF} {g0 : mA} {j : mA} (hd : 6 ≤ d) {Fr To Ln Kd Lw HX K : Int → Int} {dp : Int} {cl : List Cla} {k w : Int} (hL0 : LwN E f0 g0 (if 0 ≤ K 80 ∧ K 80 < K 79 then Lw (K 80) else -1) cl) (hK : KOK K) (hP : FrA Fr To Ln Kd dp K) (hHs : MsH K cl HX 8) (k0 : 0 ≤ k) (k7 : k ≤ 7) {s : Int × Int} (kx : ∀ (x y : Int) (o6 o7 : Option Value) (f : mF) (g : mA) (h : zH), (x, y) = exO K cl k s (K 76).toNat → (0 ≤ x ∧ x ≤ 4000) → (-1 ≤ y ∧ y ≤ 99) → eqx [354] f0 f → eqx [35, 352, 355, 356, 384] g0 g → g 35 = Ln → HC E f g j h → cAg E h0 h → Z l MX7_exchanged d 0 0 Pz 186 [some (.ref (E.1 31)), some (vI k), some (vI w), some (vI x), some (vI y), some (vI (K 76)), o6, o7] [] h 0 0)  : ∀ (n : Nat) (a : Int) (x : Int) (y : Int) (BX : Int → Int) (S2 : Int) (Φ : Int → Int) (X : Int → Int) (o6 : Option Value) (o7 : Option Value) (f : mF) (g : mA) (h : zH) (a0 : 0 ≤ a) (a1 : a ≤ K 76) (a2 : K 76 < a + n) (es : (x, y) = exO K cl k s a.toNat) (xb : 0 ≤ x ∧ x ≤ 4000) (yb : -1 ≤ y ∧ y ≤ 99) (hB : MsB K cl BX S2 (K 76)) (h6 : Φ 6 = K 75) (h8 : Φ 8 = K 28) (eg33 : g 33 = Fr) (eg34 : g 34 = To) (eg35 : g 35 = Ln) (eg36 : g 36 = Kd) (eg46 : g 46 = Lw) (eg352 : g 352 = BX) (eg353 : g 353 = HX) (eg355 : g 355 = X) (eg356 : g 356 = Φ) (ef32 : f 32 = (K 76)) (ef37 : f 37 = dp) (ef45 : f 45 = (K 79)) (ef47 : f 47 = (K 80)) (ef354 : f 354 = S2) (hfE : eqx [354] f0 f) (hgE : eqx [35, 352, 355, 356, 384] g0 g) (hH : HC E f g j h) (hA : cAg E h0 h), Z l MX7_exchanged d 0 0 Pz 76 [some (.ref (E.1 31)), some (vI k), some (vI w), some (vI x), some (vI y), some (vI a), o6, o7] [] h 0 0 := by
  intro n
  induction n with
  | zero => intro a x y BX S2 Φ X o6 o7 f g h a0 a1 a2 es xb yb hB h6 h8 eg33 eg34 eg35 eg36 eg46 eg352 eg353 eg355 eg356 ef32 ef37 ef45 ef47 ef354 hfE hgE hH hA; exfalso; omega
  | succ n ih =>
    intro a x y BX S2 Φ X o6 o7 f g h a0 a1 a2 es xb yb hB h6 h8 eg33 eg34 eg35 eg36 eg46 eg352 eg353 eg355 eg356 ef32 ef37 ef45 ef47 ef354 hfE hgE hH hA
    have hn := hK.1
    have hL := LwN_fr hL0 hfE hgE (by decide) (by decide)
    refine z_ild_5 (TX7_exchanged_1.at 0 rfl) ?_
    refine z_ald_0 (TX7_exchanged_1.at 1 rfl) ?_
    refine zc_getO (m := 0) (s := 0) (k := 63) (hH.lv (by decide)) (TX7_exchanged_1.at 2 rfl) fl7_12 hH rfl rfl (by decide) (by decide) ?_
    refine zc_getIE (m := 1) (s := 0) (k := 32) (hH.lv (by decide)) ef32 (TX7_exchanged_1.at 3 rfl) fl7_96 hH rfl rfl (by decide) (by decide) (fun r82 => ?_)
    refine z_icmp_ge (tgt := 186) (TX7_exchanged_1.at 4 rfl) rfl (by omega) (by omega) (fun c1 => ?_) (fun c1 => ?_)
    · skip
      obtain rfl : a = K 76 := by omega
      exact kx _ _ _ _ _ _ _ es xb yb hfE hgE eg35 hH hA
    · skip
      refine z_ild_5 (TX7_exchanged_1.at 5 rfl) ?_
      refine z_iconst (TX7_exchanged_1.at 6 rfl) ?_
      refine z_iadd (TX7_exchanged_1.at 7 rfl) ?_
      refine z_ist_6 (TX7_exchanged_1.at 8 rfl) (Nat.le_of_ble_eq_true rfl) rfl ?_
      refine lp_cex1 hd hL hK hP hHs k0 k7 a0 (by omega) (fun x2 y2 B9 S9 Φ9 X9 p7 f9 g9 h9 es2 xb yb hB h6 h8 eg33 eg34 eg35 eg36 eg46 eg352 eg353 eg355 eg356 ef32 ef37 ef45 ef47 ef354 xf xg hH hA => ?_) 11 (a + 1) x y _ _ _ _ _ _ _ _ (by omega) (by omega) (by omega) (by rw [show (a + 1 - a - 1).toNat = 0 by omega]; rfl) xb yb hB h6 h8 eg33 eg34 eg35 eg36 eg46 eg352 eg353 eg355 eg356 ef32 ef37 ef45 ef47 ef354 eqx.rf eqx.rf hH hA
      have hfE := hfE.trans xf (by decide)
      have hgE := hgE.trans xg (by decide)
      refine z_iinc_5 (TX7_exchanged_2.at 11 rfl) (Nat.le_of_ble_eq_true rfl) rfl ?_
      refine z_goto (tgt := 76) (TX7_exchanged_2.at 12 rfl) rfl ?_
      exact ih (a + 1) _ _ _ _ _ _ _ _ _ _ _ (by omega) (by omega) (by omega) (exO_sC a0 es es2) xb yb hB h6 h8 eg33 eg34 eg35 eg36 eg46 eg352 eg353 eg355 eg356 ef32 ef37 ef45 ef47 ef354 hfE hgE hH hA

theorem exO_pr {K : Int → Int} {cl : List Cla} {k v : Int} : ∀ m : Nat, ((exO K cl k (v, -1) m).2 = -1 ∨ (0 ≤ (exO K cl k (v, -1) m).2 ∧ (exO K cl k (v, -1) m).1 < v)) ∧ (exO K cl k (v, -1) m).1 ≤ v := by
  intro m
  induction m with
  | zero => exact ⟨Or.inl rfl, Int.le_refl _⟩
  | succ m ih =>
    simp only [exO]
    exact exI_pr (by omega) ih.1 ih.2 _
set_option maxHeartbeats 4000000 in
set_option maxRecDepth 100000 in
theorem c_exch {l : Launch} {E : cE} {f : mF} {g j : mA} {Fr : Int → Int} {To : Int → Int} {Ln : Int → Int} {Kd : Int → Int} {Tm : Int → Int} {Lw : Int → Int} {dp : Int} {S : Int} {k w : Int} {K : Int → Int} {cl : List Cla} (eg33 : g 33 = Fr) (eg34 : g 34 = To) (eg35 : g 35 = Ln) (eg36 : g 36 = Kd) (eg44 : g 44 = Tm) (eg46 : g 46 = Lw) (ef32 : f 32 = (K 76)) (ef37 : f 37 = dp) (ef354 : f 354 = S) (ef45 : f 45 = (K 79)) (ef47 : f 47 = (K 80)) (hk : zIn k) (hw : zIn w) (hL0 : LwN E f g (if 0 ≤ K 80 ∧ K 80 < K 79 then Lw (K 80) else -1) cl) (hK : KOK K) (hP : FrA Fr To Ln Kd dp K) (hS : z31 S) (t0 : Tm 0 = K 28) (t2 : Tm 2 = K 75) : CM l E MX7_exchanged 7 [.ref (E.1 31), vI k, vI w] f g j (PI (fun r f' g' j' => (r = exV K cl k w ∧ g' 35 = Ln) ∧ eqx [354] f f' ∧ eqx [35, 352, 353, 355, 356, 384] g g' ∧ j' = j)) := by
  refine CM.intro [some (.ref (E.1 31)), some (vI k), some (vI w), none, none, none, none, none] (by decide) (Nat.le_of_ble_eq_true rfl) rfl (fun d hd h0 h hH hA => ?_)
  have hfE : eqx [354] f f := eqx.rf
  have hgE : eqx [35, 352, 353, 355, 356, 384] g g := eqx.rf
  have h79 := hK.2.2.2.2.2.2.2.2.2.2.1
  have hn := hK.1
  have hz2 : z31 1023 := by decide
  refine z_ild_1 (TX7_exchanged_0.at 0 rfl) ?_
  refine zs_call1 (c_isKnot (by omega)) (TX7_exchanged_0.at 1 rfl) c7_157 rfl (by omega) (Nat.le_of_ble_eq_true rfl) (fun r1 => ?_)
  refine z_if_eqB (tgt := 14) (TX7_exchanged_0.at 2 rfl) rfl (fun c1 => ?_) (fun c1 => ?_)
  · skip
    refine z_iconst (TX7_exchanged_0.at 6 rfl) ?_
    refine zc_iret (TX7_exchanged_0.at 7 rfl) rfl hH hA (by omega) ?_
    exact ⟨⟨by unfold exV; rw [if_neg (by omega)], eg35⟩, hfE, hgE, rfl⟩
  · skip
    refine z_ild_2 (TX7_exchanged_0.at 3 rfl) ?_
    refine zs_call1 (c_isPair (by omega)) (TX7_exchanged_0.at 4 rfl) c7_321 rfl (by omega) (Nat.le_of_ble_eq_true rfl) (fun r8 => ?_)
    refine z_if_neB (tgt := 16) (TX7_exchanged_0.at 5 rfl) rfl (fun c2 => ?_) (fun c2 => ?_)
    · skip
      refine z_ald_0 (TX7_exchanged_0.at 8 rfl) ?_
      refine zc_getO (m := 0) (s := 9) (k := 383) (hH.lv (by decide)) (TX7_exchanged_0.at 9 rfl) fl7_60 hH rfl rfl (by decide) (by decide) ?_
      refine z_ald_0 (TX7_exchanged_0.at 10 rfl) ?_
      refine zc_getO (m := 0) (s := 0) (k := 63) (hH.lv (by decide)) (TX7_exchanged_0.at 11 rfl) fl7_12 hH rfl rfl (by decide) (by decide) ?_
      refine z_ald_0 (TX7_exchanged_0.at 12 rfl) ?_
      refine zc_getO (m := 0) (s := 0) (k := 63) (hH.lv (by decide)) (TX7_exchanged_0.at 13 rfl) fl7_12 hH rfl rfl (by decide) (by decide) ?_
      refine zc_callO (m := 1) (As := []) (c_lawIn1 eg46 ef45 ef47 h79.1 h79.2) (hH.lv (by decide)) (TX7_exchanged_0.at 14 rfl) c7_135 rfl rfl hH hA (by omega) (Nat.le_of_ble_eq_true rfl) (fun y28 f28 g28 j28 h q28 hH hA => ?_)
      obtain ⟨q28, xf, xg, xj⟩ := q28
      rw [xj] at hH
      have ef32 := (xf 32 (by decide)).trans ef32
      have ef37 := (xf 37 (by decide)).trans ef37
      have ef354 := (xf 354 (by decide)).trans ef354
      have ef45 := (xf 45 (by decide)).trans ef45
      have ef47 := (xf 47 (by decide)).trans ef47
      have hfE := hfE.trans xf (by decide)
      have eg33 := (xg 33 (by decide)).trans eg33
      have eg34 := (xg 34 (by decide)).trans eg34
      have eg35 := (xg 35 (by decide)).trans eg35
      have eg36 := (xg 36 (by decide)).trans eg36
      have eg44 := (xg 44 (by decide)).trans eg44
      have eg46 := (xg 46 (by decide)).trans eg46
      have hgE := hgE.trans xg (by decide)
      have qL := q28
      have hL0 := LwN_cg hL0 xf xg
      have hL := hL0
      rw [← qL] at hL
      refine zc_callV2 (m := 11) (c_measYx1 eg33 eg34 eg35 eg36 eg44 ef32 ef37 ef354 hL hK hP hS t0 t2) (hH.lv (by decide)) (TX7_exchanged_0.at 15 rfl) c7_139 rfl rfl hH hA (by omega) (Nat.le_of_ble_eq_true rfl) (fun f31 g31 j31 h q31 hH hA => ?_)
      obtain ⟨q31, xf, xg, xj⟩ := q31
      rw [xj] at hH
      have ef32 := (xf 32 (by decide)).trans ef32
      have ef37 := (xf 37 (by decide)).trans ef37
      have ef45 := (xf 45 (by decide)).trans ef45
      have ef47 := (xf 47 (by decide)).trans ef47
      have hfE := hfE.trans xf (by decide)
      have eg33 := (xg 33 (by decide)).trans eg33
      have eg34 := (xg 34 (by decide)).trans eg34
      have eg35 := (xg 35 (by decide)).trans eg35
      have eg36 := (xg 36 (by decide)).trans eg36
      have eg44 := (xg 44 (by decide)).trans eg44
      have eg46 := (xg 46 (by decide)).trans eg46
      have hgE := hgE.trans xg (by decide)
      have qL := q31
      obtain ⟨hT, hct, h6, h8⟩ := qL
      obtain ⟨BX, eg352⟩ : ∃ z, g31 352 = z := ⟨_, rfl⟩
      obtain ⟨HX, eg353⟩ : ∃ z, g31 353 = z := ⟨_, rfl⟩
      obtain ⟨S2, ef354⟩ : ∃ z, f31 354 = z := ⟨_, rfl⟩
      rw [eg352, eg353, ef354] at hT
      rw [ef354] at hct
      obtain ⟨Φ31, eg356⟩ : ∃ z, g31 356 = z := ⟨_, rfl⟩
      rw [eg356] at h6 h8
      have hL0 := LwN_fr hL0 xf xg (by decide) (by decide)
      refine z_ald_0 (TX7_exchanged_0.at 16 rfl) ?_
      refine zc_getO (m := 0) (s := 9) (k := 383) (hH.lv (by decide)) (TX7_exchanged_0.at 17 rfl) fl7_60 hH rfl rfl (by decide) (by decide) ?_
      refine z_ald_0 (TX7_exchanged_0.at 18 rfl) ?_
      refine zc_getO (m := 0) (s := 0) (k := 63) (hH.lv (by decide)) (TX7_exchanged_0.at 19 rfl) fl7_12 hH rfl rfl (by decide) (by decide) ?_
      refine z_iconst (TX7_exchanged_0.at 20 rfl) ?_
      refine z_ild_1 (TX7_exchanged_0.at 21 rfl) ?_
      refine z_ishl (TX7_exchanged_0.at 22 rfl) ?_
      have hz1 := shl_31 (i := k) (by omega) (by omega)
      refine zc_callV2 (m := 11) (c_sprF1 eg33 eg34 eg352 eg353 rfl ef32 ef354 hz1.zin hz1 hT) (hH.lv (by decide)) (TX7_exchanged_0.at 23 rfl) c7_314 rfl rfl hH hA (by omega) (Nat.le_of_ble_eq_true rfl) (fun f45 g45 j45 h q45 hH hA => ?_)
      obtain ⟨q45, xf, xg, xj⟩ := q45
      rw [xj] at hH
      have ef32 := (xf 32 (by decide)).trans ef32
      have ef37 := (xf 37 (by decide)).trans ef37
      have ef354 := (xf 354 (by decide)).trans ef354
      have ef45 := (xf 45 (by decide)).trans ef45
      have ef47 := (xf 47 (by decide)).trans ef47
      have hfE := hfE.trans xf (by decide)
      have eg33 := (xg 33 (by decide)).trans eg33
      have eg34 := (xg 34 (by decide)).trans eg34
      have eg35 := (xg 35 (by decide)).trans eg35
      have eg36 := (xg 36 (by decide)).trans eg36
      have eg44 := (xg 44 (by decide)).trans eg44
      have eg46 := (xg 46 (by decide)).trans eg46
      have eg352 := (xg 352 (by decide)).trans eg352
      have eg353 := (xg 353 (by decide)).trans eg353
      have eg356 := (xg 356 (by decide)).trans eg356
      have hgE := hgE.trans xg (by decide)
      have qL := q45
      have hI := qL
      rw [fire_cm hK hct] at hI
      obtain ⟨X45, eg355⟩ : ∃ z, g45 355 = z := ⟨_, rfl⟩
      rw [eg355] at hI
      have hL0 := LwN_fr hL0 xf xg (by decide) (by decide)
      refine z_ald_0 (TX7_exchanged_0.at 24 rfl) ?_
      refine zc_getO (m := 0) (s := 9) (k := 383) (hH.lv (by decide)) (TX7_exchanged_0.at 25 rfl) fl7_60 hH rfl rfl (by decide) (by decide) ?_
      refine z_ald_0 (TX7_exchanged_0.at 26 rfl) ?_
      refine zc_getO (m := 0) (s := 0) (k := 63) (hH.lv (by decide)) (TX7_exchanged_0.at 27 rfl) fl7_12 hH rfl rfl (by decide) (by decide) ?_
      refine z_sipush (by decide) (TX7_exchanged_0.at 28 rfl) ?_
      refine zc_callI2 (m := 11) (c_lastOut1 eg33 eg34 eg352 eg353 eg355 ef32 ef354 hz2.zin hI hz2) (hH.lv (by decide)) (TX7_exchanged_0.at 29 rfl) c7_318 rfl rfl hH hA (by omega) (Nat.le_of_ble_eq_true rfl) (fun x59 f59 g59 j59 h r59 q59 hH hA => ?_)
      obtain ⟨q59, xf, xg, xj⟩ := q59
      rw [xj] at hH
      have ef32 := (xf 32 (by decide)).trans ef32
      have ef37 := (xf 37 (by decide)).trans ef37
      have ef354 := (xf 354 (by decide)).trans ef354
      have ef45 := (xf 45 (by decide)).trans ef45
      have ef47 := (xf 47 (by decide)).trans ef47
      have hfE := hfE.trans xf (by decide)
      have eg33 := (xg 33 (by decide)).trans eg33
      have eg34 := (xg 34 (by decide)).trans eg34
      have eg35 := (xg 35 (by decide)).trans eg35
      have eg36 := (xg 36 (by decide)).trans eg36
      have eg44 := (xg 44 (by decide)).trans eg44
      have eg46 := (xg 46 (by decide)).trans eg46
      have eg352 := (xg 352 (by decide)).trans eg352
      have eg353 := (xg 353 (by decide)).trans eg353
      have eg356 := (xg 356 (by decide)).trans eg356
      have eg355 := (xg 355 (by decide)).trans eg355
      have hgE := hgE.trans xg (by decide)
      have qL := q59
      have hv := lastN_b (S := 1023) (K 76).toNat (fun t t0 t1 => out_b hI t0 (by omega))
      rw [fire_la hK hct] at hv qL
      have hov := orN_b hv
      subst qL
      rw [show laP K cl (zshl 1 k) 1023 = lasF K cl k from rfl] at hv hov r59 ⊢
      have hL0 := LwN_cg hL0 xf xg
      refine z_ist_3 (TX7_exchanged_0.at 30 rfl) (Nat.le_of_ble_eq_true rfl) rfl ?_
      refine z_iconst (TX7_exchanged_0.at 31 rfl) ?_
      refine z_ist_4 (TX7_exchanged_0.at 32 rfl) (Nat.le_of_ble_eq_true rfl) rfl ?_
      refine z_ild_3 (TX7_exchanged_0.at 33 rfl) ?_
      refine z_iconst (TX7_exchanged_0.at 34 rfl) ?_
      refine z_icmp_ne (tgt := 73) (TX7_exchanged_0.at 35 rfl) rfl (by omega) (by omega) (fun c3 => ?_) (fun c3 => ?_)
      · skip
        refine z_iconst (TX7_exchanged_0.at 38 rfl) ?_
        refine z_ist_5 (TX7_exchanged_0.at 39 rfl) (Nat.le_of_ble_eq_true rfl) rfl ?_
        have hms := FiT_MsB hT hct
        have hev := hov
        rcases hev with hev | hev
        · exfalso; omega
        rw [hev.1]
        refine lp_cex2 (k := k) (w := w) (s := (lasF K cl k, -1)) (by omega) hL0 hK hP hms.2 (by omega) (by omega) (fun x y o6 o7 f9 g9 h9 es xb yb xf xg eg35 hH hA => ?_) 11 0 _ _ _ _ _ _ _ _ _ _ _ (by omega) (by omega) (by omega) rfl (by omega) (by omega) hms.1 h6 h8 eg33 eg34 eg35 eg36 eg46 eg352 eg353 eg355 eg356 ef32 ef37 ef45 ef47 ef354 eqx.rf eqx.rf hH hA
        have hfE := hfE.trans xf (by decide)
        have hgE := hgE.trans xg (by decide)
        have hpr := exO_pr (k := k) (cl := cl) (v := lasF K cl k) (K := K) (K 76).toNat
        rw [← es] at hpr
        simp only at hpr
        refine z_ild_4 (TX7_exchanged_2.at 13 rfl) ?_
        refine z_iconst (TX7_exchanged_2.at 14 rfl) ?_
        refine z_icmp_ne (tgt := 194) (TX7_exchanged_2.at 15 rfl) rfl (by omega) (by omega) (fun c9 => ?_) (fun c9 => ?_)
        · refine z_ild_2 (TX7_exchanged_2.at 18 rfl) ?_
          refine z_if_ne (tgt := 203) (TX7_exchanged_2.at 19 rfl) rfl (by omega) (fun c8 => ?_) (fun c8 => ?_)
          · refine z_ild_3 (TX7_exchanged_2.at 22 rfl) ?_
            refine zc_iret (TX7_exchanged_2.at 23 rfl) rfl hH hA (by omega) ?_
            exact ⟨⟨by unfold exV srchR; rw [if_pos (by omega), if_neg (by omega), ← es]; simp only; rw [if_neg (by omega)], eg35⟩, hfE, hgE, rfl⟩
          · refine z_ild_4 (TX7_exchanged_2.at 20 rfl) ?_
            refine z_goto (tgt := 204) (TX7_exchanged_2.at 21 rfl) rfl ?_
            refine zc_iret (TX7_exchanged_2.at 23 rfl) rfl hH hA (by omega) ?_
            exact ⟨⟨by unfold exV srchR; rw [if_pos (by omega), if_neg (by omega), ← es]; simp only; rw [if_pos (by omega)], eg35⟩, hfE, hgE, rfl⟩
        · refine z_iconst (TX7_exchanged_2.at 16 rfl) ?_
          refine zc_iret (TX7_exchanged_2.at 17 rfl) rfl hH hA (by omega) ?_
          exact ⟨⟨by unfold exV srchR; rw [if_pos (by omega), if_neg (by omega), ← es]; simp only; rw [if_pos (by omega)]; omega, eg35⟩, hfE, hgE, rfl⟩
      · skip
        refine z_iconst (TX7_exchanged_0.at 36 rfl) ?_
        refine zc_iret (TX7_exchanged_0.at 37 rfl) rfl hH hA (by omega) ?_
        exact ⟨⟨by unfold exV; rw [if_pos (by omega), if_pos (by omega)], eg35⟩, hfE, hgE, rfl⟩
    · skip
      refine z_iconst (TX7_exchanged_0.at 6 rfl) ?_
      refine zc_iret (TX7_exchanged_0.at 7 rfl) rfl hH hA (by omega) ?_
      exact ⟨⟨by unfold exV; rw [if_neg (by omega)], eg35⟩, hfE, hgE, rfl⟩

