/-! ===== the class: a fuse is measured ===== -/
def cS (S x : Int) (p : Prop) [Decidable p] : Int := if p then zor S (zshl 1 x) else zand S (zxor (zshl 1 x) (-1))
theorem cS_31 {S x : Int} {p : Prop} [Decidable p] (hS : z31 S) (x0 : 0 ≤ x) (x9 : x ≤ 9) : z31 (cS S x p) := by
  have h1 := shl_31 (i := x) x0 (by omega)
  unfold cS
  split
  · exact zor_31 hS h1
  · have h2 := zandn_le hS h1
    exact ⟨h2.1, by have := hS.2; omega⟩
set_option maxHeartbeats 4000000 in
set_option maxRecDepth 100000 in
theorem sg_mf1 {l : Launch} {E : cE} {d : Nat} {Pz : Option Value → zH → Prop} {h0 h : zH} {f0 f : mF} {g0 g j : mA} {x W3 S dp : Int} {K : Int → Int} {cl : List Cla} {o2 o5 o6 o7 o8 : Option Value} (hd : 1 ≤ d) (x0 : 0 ≤ x) (x9 : x ≤ 9) (hS : z31 S) (hdp : z31 dp) (hW : W3 = 0 ∨ W3 = 1) (eW : W3 = tellF 3 0 1 (askF K x) cl 0) (hx5 : K x = 0 ∨ K x = 1) (hx6 : bt dp x ↔ K x = 1) (kx : ∀ (f : mF) (g : mA) (h : zH), f 354 = cS S x (ctc K cl x) → eqx [354] f0 f → eqx [] g0 g → HC E f g j h → cAg E h0 h → Z l MX0_measureFuse d 0 0 Pz 229 [some (.ref (E.1 383)), some (.ref (E.1 63)), o2, some (vI x), some (vI W3), o5, o6, o7, o8] [] h 0 0) (ef37 : f 37 = dp) (ef354 : f 354 = S) (hfE : eqx [354] f0 f) (hgE : eqx [] g0 g) (hH : HC E f g j h) (hA : cAg E h0 h) : Z l MX0_measureFuse d 0 0 Pz 183 [some (.ref (E.1 383)), some (.ref (E.1 63)), o2, some (vI x), some (vI W3), o5, o6, o7, o8] [] h 0 0 := by
  have hz1 := shl_31 (i := x) (by omega) (by omega)
  have hn1 := zandn_le hS hz1
  have hn2 := zor_31 hS hz1
  refine z_ild_4 (TX0_measureFuse_2.at 25 rfl) ?_
  refine z_if_ne (tgt := 200) (TX0_measureFuse_2.at 26 rfl) rfl (by omega) (fun c1 => ?_) (fun c1 => ?_)
  · skip
    refine z_ald_0 (TX0_measureFuse_2.at 33 rfl) ?_
    refine z_dup rfl (TX0_measureFuse_2.at 34 rfl) ?_
    refine zc_getIE (m := 11) (s := 2) (k := 354) (hH.lv (by decide)) ef354 (TX0_measureFuse_2.at 35 rfl) fl0_18 hH rfl rfl (by decide) (by decide) (fun r202 => ?_)
    refine z_iconst (TX0_measureFuse_2.at 36 rfl) ?_
    refine z_ild_3 (TX0_measureFuse_2.at 37 rfl) ?_
    refine z_ishl (TX0_measureFuse_2.at 38 rfl) ?_
    refine z_iconst (TX0_measureFuse_2.at 39 rfl) ?_
    refine z_ixor (TX0_measureFuse_3.at 0 rfl) ?_
    refine z_iand (TX0_measureFuse_3.at 1 rfl) ?_
    refine zc_putI (m := 11) (s := 2) (k := 354) (hH.lv (by decide)) (TX0_measureFuse_3.at 2 rfl) fp0_18 hH hA rfl rfl (by decide) (by decide) (by first | omega | exact b2i_01 _) (fun h f211 e1 e2 hH hA => ?_)
    have ef37 := (e1 37 (by decide)).trans ef37
    have ef354 := e2
    have hfE := hfE.put e1 (by decide)
    refine z_goto (tgt := 229) (TX0_measureFuse_3.at 3 rfl) rfl ?_
    have ec : cS S x (ctc K cl x) = zand S (zxor (zshl 1 x) (-1)) := if_neg (fun z => by have := z.2; rw [← eW] at this; omega)
    rw [← ec] at ef354
    exact kx _ _ _ ef354 hfE hgE hH hA
  · skip
    refine z_ald_1 (TX0_measureFuse_2.at 27 rfl) ?_
    refine zc_getIE (m := 1) (s := 5) (k := 37) (hH.lv (by decide)) ef37 (TX0_measureFuse_2.at 28 rfl) fl0_87 hH rfl rfl (by decide) (by decide) (fun r189 => ?_)
    refine z_ild_3 (TX0_measureFuse_2.at 29 rfl) ?_
    refine zs_callN2 (c_bit hdp ⟨by omega, by omega⟩) (TX0_measureFuse_2.at 30 rfl) c0_90 rfl (by omega) (Nat.le_of_ble_eq_true rfl) (fun r193 => ?_)
    refine z_iconst (TX0_measureFuse_2.at 31 rfl) ?_
    refine z_icmp_ne (tgt := 217) (TX0_measureFuse_2.at 32 rfl) rfl (by omega) (by omega) (fun c2 => ?_) (fun c2 => ?_)
    · skip
      refine z_ald_0 (TX0_measureFuse_3.at 4 rfl) ?_
      refine z_dup rfl (TX0_measureFuse_3.at 5 rfl) ?_
      refine zc_getIE (m := 11) (s := 2) (k := 354) (hH.lv (by decide)) ef354 (TX0_measureFuse_3.at 6 rfl) fl0_18 hH rfl rfl (by decide) (by decide) (fun r219 => ?_)
      refine z_iconst (TX0_measureFuse_3.at 7 rfl) ?_
      refine z_ild_3 (TX0_measureFuse_3.at 8 rfl) ?_
      refine z_ishl (TX0_measureFuse_3.at 9 rfl) ?_
      refine z_ior (TX0_measureFuse_3.at 10 rfl) ?_
      refine zc_putI (m := 11) (s := 2) (k := 354) (hH.lv (by decide)) (TX0_measureFuse_3.at 11 rfl) fp0_18 hH hA rfl rfl (by decide) (by decide) (by first | omega | exact b2i_01 _) (fun h f226 e1 e2 hH hA => ?_)
      have ef37 := (e1 37 (by decide)).trans ef37
      have ef354 := e2
      have hfE := hfE.put e1 (by decide)
      have hk1 : ¬ K x = 1 := fun z => absurd (b2i_t (hx6.mpr z)) (by assumption)
      have ec : cS S x (ctc K cl x) = zor S (zshl 1 x) := if_pos ⟨by omega, by rw [← eW]; omega⟩
      rw [← ec] at ef354
      exact kx _ _ _ ef354 hfE hgE hH hA
    · skip
      refine z_ald_0 (TX0_measureFuse_2.at 33 rfl) ?_
      refine z_dup rfl (TX0_measureFuse_2.at 34 rfl) ?_
      refine zc_getIE (m := 11) (s := 2) (k := 354) (hH.lv (by decide)) ef354 (TX0_measureFuse_2.at 35 rfl) fl0_18 hH rfl rfl (by decide) (by decide) (fun r202 => ?_)
      refine z_iconst (TX0_measureFuse_2.at 36 rfl) ?_
      refine z_ild_3 (TX0_measureFuse_2.at 37 rfl) ?_
      refine z_ishl (TX0_measureFuse_2.at 38 rfl) ?_
      refine z_iconst (TX0_measureFuse_2.at 39 rfl) ?_
      refine z_ixor (TX0_measureFuse_3.at 0 rfl) ?_
      refine z_iand (TX0_measureFuse_3.at 1 rfl) ?_
      refine zc_putI (m := 11) (s := 2) (k := 354) (hH.lv (by decide)) (TX0_measureFuse_3.at 2 rfl) fp0_18 hH hA rfl rfl (by decide) (by decide) (by first | omega | exact b2i_01 _) (fun h f211 e1 e2 hH hA => ?_)
      have ef37 := (e1 37 (by decide)).trans ef37
      have ef354 := e2
      have hfE := hfE.put e1 (by decide)
      refine z_goto (tgt := 229) (TX0_measureFuse_3.at 3 rfl) rfl ?_
      have hk1 : K x = 1 := hx6.mp (b2y (by assumption))
      have ec : cS S x (ctc K cl x) = zand S (zxor (zshl 1 x) (-1)) := if_neg (fun z => by have := z.1; omega)
      rw [← ec] at ef354
      exact kx _ _ _ ef354 hfE hgE hH hA

set_option maxHeartbeats 4000000 in
set_option maxRecDepth 100000 in
theorem sg_mf3 {l : Launch} {E : cE} {d : Nat} {Pz : Option Value → zH → Prop} {h0 h : zH} {f0 f : mF} {g0 g j : mA} {x W3 S dp : Int} {K : Int → Int} {cl : List Cla} {o2 o5 o6 o7 o8 : Option Value} (hd : 1 ≤ d) (x0 : 0 ≤ x) (x9 : x ≤ 9) (hS : z31 S) (hdp : z31 dp) (hW : W3 = 0 ∨ W3 = 1) (eW : W3 = tellF 3 0 1 (askF K x) cl 0) (hx5 : K x = 0 ∨ K x = 1) (hx6 : bt dp x ↔ K x = 1) (kx : ∀ (f : mF) (g : mA) (h : zH), f 354 = cS S x (ctc K cl x) → eqx [354] f0 f → eqx [] g0 g → HC E f g j h → cAg E h0 h → Z l MX0_measureFuse d 0 0 Pz 229 [some (.ref (E.1 383)), some (.ref (E.1 127)), o2, some (vI x), some (vI W3), o5, o6, o7, o8] [] h 0 0) (ef101 : f 101 = dp) (ef354 : f 354 = S) (hfE : eqx [354] f0 f) (hgE : eqx [] g0 g) (hH : HC E f g j h) (hA : cAg E h0 h) : Z l MX0_measureFuse d 0 0 Pz 183 [some (.ref (E.1 383)), some (.ref (E.1 127)), o2, some (vI x), some (vI W3), o5, o6, o7, o8] [] h 0 0 := by
  have hz1 := shl_31 (i := x) (by omega) (by omega)
  have hn1 := zandn_le hS hz1
  have hn2 := zor_31 hS hz1
  refine z_ild_4 (TX0_measureFuse_2.at 25 rfl) ?_
  refine z_if_ne (tgt := 200) (TX0_measureFuse_2.at 26 rfl) rfl (by omega) (fun c1 => ?_) (fun c1 => ?_)
  · skip
    refine z_ald_0 (TX0_measureFuse_2.at 33 rfl) ?_
    refine z_dup rfl (TX0_measureFuse_2.at 34 rfl) ?_
    refine zc_getIE (m := 11) (s := 2) (k := 354) (hH.lv (by decide)) ef354 (TX0_measureFuse_2.at 35 rfl) fl0_18 hH rfl rfl (by decide) (by decide) (fun r202 => ?_)
    refine z_iconst (TX0_measureFuse_2.at 36 rfl) ?_
    refine z_ild_3 (TX0_measureFuse_2.at 37 rfl) ?_
    refine z_ishl (TX0_measureFuse_2.at 38 rfl) ?_
    refine z_iconst (TX0_measureFuse_2.at 39 rfl) ?_
    refine z_ixor (TX0_measureFuse_3.at 0 rfl) ?_
    refine z_iand (TX0_measureFuse_3.at 1 rfl) ?_
    refine zc_putI (m := 11) (s := 2) (k := 354) (hH.lv (by decide)) (TX0_measureFuse_3.at 2 rfl) fp0_18 hH hA rfl rfl (by decide) (by decide) (by first | omega | exact b2i_01 _) (fun h f211 e1 e2 hH hA => ?_)
    have ef101 := (e1 101 (by decide)).trans ef101
    have ef354 := e2
    have hfE := hfE.put e1 (by decide)
    refine z_goto (tgt := 229) (TX0_measureFuse_3.at 3 rfl) rfl ?_
    have ec : cS S x (ctc K cl x) = zand S (zxor (zshl 1 x) (-1)) := if_neg (fun z => by have := z.2; rw [← eW] at this; omega)
    rw [← ec] at ef354
    exact kx _ _ _ ef354 hfE hgE hH hA
  · skip
    refine z_ald_1 (TX0_measureFuse_2.at 27 rfl) ?_
    refine zc_getIE (m := 3) (s := 5) (k := 101) (hH.lv (by decide)) ef101 (TX0_measureFuse_2.at 28 rfl) fl0_87 hH rfl rfl (by decide) (by decide) (fun r189 => ?_)
    refine z_ild_3 (TX0_measureFuse_2.at 29 rfl) ?_
    refine zs_callN2 (c_bit hdp ⟨by omega, by omega⟩) (TX0_measureFuse_2.at 30 rfl) c0_90 rfl (by omega) (Nat.le_of_ble_eq_true rfl) (fun r193 => ?_)
    refine z_iconst (TX0_measureFuse_2.at 31 rfl) ?_
    refine z_icmp_ne (tgt := 217) (TX0_measureFuse_2.at 32 rfl) rfl (by omega) (by omega) (fun c2 => ?_) (fun c2 => ?_)
    · skip
      refine z_ald_0 (TX0_measureFuse_3.at 4 rfl) ?_
      refine z_dup rfl (TX0_measureFuse_3.at 5 rfl) ?_
      refine zc_getIE (m := 11) (s := 2) (k := 354) (hH.lv (by decide)) ef354 (TX0_measureFuse_3.at 6 rfl) fl0_18 hH rfl rfl (by decide) (by decide) (fun r219 => ?_)
      refine z_iconst (TX0_measureFuse_3.at 7 rfl) ?_
      refine z_ild_3 (TX0_measureFuse_3.at 8 rfl) ?_
      refine z_ishl (TX0_measureFuse_3.at 9 rfl) ?_
      refine z_ior (TX0_measureFuse_3.at 10 rfl) ?_
      refine zc_putI (m := 11) (s := 2) (k := 354) (hH.lv (by decide)) (TX0_measureFuse_3.at 11 rfl) fp0_18 hH hA rfl rfl (by decide) (by decide) (by first | omega | exact b2i_01 _) (fun h f226 e1 e2 hH hA => ?_)
      have ef101 := (e1 101 (by decide)).trans ef101
      have ef354 := e2
      have hfE := hfE.put e1 (by decide)
      have hk1 : ¬ K x = 1 := fun z => absurd (b2i_t (hx6.mpr z)) (by assumption)
      have ec : cS S x (ctc K cl x) = zor S (zshl 1 x) := if_pos ⟨by omega, by rw [← eW]; omega⟩
      rw [← ec] at ef354
      exact kx _ _ _ ef354 hfE hgE hH hA
    · skip
      refine z_ald_0 (TX0_measureFuse_2.at 33 rfl) ?_
      refine z_dup rfl (TX0_measureFuse_2.at 34 rfl) ?_
      refine zc_getIE (m := 11) (s := 2) (k := 354) (hH.lv (by decide)) ef354 (TX0_measureFuse_2.at 35 rfl) fl0_18 hH rfl rfl (by decide) (by decide) (fun r202 => ?_)
      refine z_iconst (TX0_measureFuse_2.at 36 rfl) ?_
      refine z_ild_3 (TX0_measureFuse_2.at 37 rfl) ?_
      refine z_ishl (TX0_measureFuse_2.at 38 rfl) ?_
      refine z_iconst (TX0_measureFuse_2.at 39 rfl) ?_
      refine z_ixor (TX0_measureFuse_3.at 0 rfl) ?_
      refine z_iand (TX0_measureFuse_3.at 1 rfl) ?_
      refine zc_putI (m := 11) (s := 2) (k := 354) (hH.lv (by decide)) (TX0_measureFuse_3.at 2 rfl) fp0_18 hH hA rfl rfl (by decide) (by decide) (by first | omega | exact b2i_01 _) (fun h f211 e1 e2 hH hA => ?_)
      have ef101 := (e1 101 (by decide)).trans ef101
      have ef354 := e2
      have hfE := hfE.put e1 (by decide)
      refine z_goto (tgt := 229) (TX0_measureFuse_3.at 3 rfl) rfl ?_
      have hk1 : K x = 1 := hx6.mp (b2y (by assumption))
      have ec : cS S x (ctc K cl x) = zand S (zxor (zshl 1 x) (-1)) := if_neg (fun z => by have := z.1; omega)
      rw [← ec] at ef354
      exact kx _ _ _ ef354 hfE hgE hH hA

set_option maxHeartbeats 4000000 in
set_option maxRecDepth 100000 in
theorem c_mf1 {l : Launch} {E : cE} {f : mF} {g j : mA} {Fr : Int → Int} {To : Int → Int} {Ln : Int → Int} {Kd : Int → Int} {Bx : Int → Int} {Vb : Int → Int} {Te : Int → Int} {On : Int → Int} {C : Int → Int} {Φ : Int → Int} {dp : Int} {S : Int} {N : Int} {n4 : Int} {x : Int} {m : Nat} {K : Int → Int} {cl : List Cla} (eg33 : g 33 = Fr) (eg34 : g 34 = To) (eg35 : g 35 = Ln) (eg36 : g 36 = Kd) (eg352 : g 352 = Bx) (egm3 : g (32 * m + 3) = Vb) (egm7 : g (32 * m + 7) = Te) (egm5 : g (32 * m + 5) = On) (egm8 : g (32 * m + 8) = C) (eg356 : g 356 = Φ) (ef37 : f 37 = dp) (ef354 : f 354 = S) (efm1 : f (32 * m + 1) = N) (efm0 : f (32 * m + 0) = n4) (hx : zIn x) (hlm : E.2.1 m = true) (hcls : cCls m = 4) (h16 : 13 ≤ m) (hNl : N ≤ E.2.2 (32 * m + 8)) (hN0 : N ≤ 400) (q3 : n4 ≤ E.2.2 (32 * m + 3)) (q5 : n4 ≤ E.2.2 (32 * m + 5)) (q7 : n4 ≤ E.2.2 (32 * m + 7)) (n40 : 0 ≤ n4) (n12 : n4 ≤ 12) (hsc : ScL Vb On Te C N 0 cl) (hln : n4 = (cl.length : Int)) (x0 : 0 ≤ x) (x9 : x ≤ 9) (h6 : Φ 6 = K 75) (h8 : Φ 8 = K 28) (p5 : 0 ≤ K 75) (p2 : 0 ≤ K 28) (hS : z31 S) (hdp : z31 dp) (hx1 : Kd x = K (49 + x) ∧ 0 ≤ K (49 + x)) (hx2 : Fr x = K (29 + x) ∧ 0 ≤ K (29 + x)) (hx3 : To x = K (39 + x) ∧ 0 ≤ K (39 + x)) (hx4 : Ln x = K (10 + x) ∧ 0 ≤ K (10 + x)) (hx5 : K x = 0 ∨ K x = 1) (hx6 : bt dp x ↔ K x = 1) : CM l E MX0_measureFuse 4 [.ref (E.1 383), .ref (E.1 63), .ref (E.1 (32 * m + 31)), vI x] f g j (PV (fun f' g' j' => (g' 352 = iu Bx x (brn K cl x) ∧ f' 354 = cS S x (ctc K cl x) ∧ (g' 356) 6 = K 75 ∧ (g' 356) 8 = K 28) ∧ eqx [354] f f' ∧ eqx [352, 356, 384] g g' ∧ j' = j)) := by
  refine CM.intro [some (.ref (E.1 383)), some (.ref (E.1 63)), some (.ref (E.1 (32 * m + 31))), some (vI x), none, none, none, none, none] (by decide) (Nat.le_of_ble_eq_true rfl) rfl (fun d hd h0 h hH hA => ?_)
  have hfE : eqx [354] f f := eqx.rf
  have hgE : eqx [352, 356, 384] g g := eqx.rf
  refine z_ald_0 (TX0_measureFuse_0.at 0 rfl) ?_
  refine zc_getA (m := 11) (s := 4) (k := 356) (hH.lv (by decide)) (TX0_measureFuse_0.at 1 rfl) fl0_25 hH rfl rfl (by decide) (by decide) ?_
  refine z_iconst (TX0_measureFuse_0.at 2 rfl) ?_
  refine z_iconst (TX0_measureFuse_0.at 3 rfl) ?_
  refine zcf_iast (k := 356) (N := 31) (hH.lv (by decide)) (by decide) rfl (TX0_measureFuse_0.at 4 rfl) hH hA (by decide) (by omega) (show _ < ((31 : Nat) : Int) by omega) (by omega) (fun h g6 e1 e2 hH hA => ?_)
  have eg33 := (e1 33 (by decide)).trans eg33
  have eg34 := (e1 34 (by decide)).trans eg34
  have eg35 := (e1 35 (by decide)).trans eg35
  have eg36 := (e1 36 (by decide)).trans eg36
  have eg352 := (e1 352 (by decide)).trans eg352
  have egm3 := (e1 (32 * m + 3) (by omega)).trans egm3
  have egm7 := (e1 (32 * m + 7) (by omega)).trans egm7
  have egm5 := (e1 (32 * m + 5) (by omega)).trans egm5
  have egm8 := (e1 (32 * m + 8) (by omega)).trans egm8
  rw [eg356] at e2; have eg356 := e2
  have hgE := hgE.put e1 (by decide)
  refine z_ald_0 (TX0_measureFuse_0.at 5 rfl) ?_
  refine zc_getA (m := 11) (s := 4) (k := 356) (hH.lv (by decide)) (TX0_measureFuse_0.at 6 rfl) fl0_25 hH rfl rfl (by decide) (by decide) ?_
  refine z_iconst (TX0_measureFuse_0.at 7 rfl) ?_
  refine z_iconst (TX0_measureFuse_0.at 8 rfl) ?_
  refine zcf_iast (k := 356) (N := 31) (hH.lv (by decide)) (by decide) rfl (TX0_measureFuse_0.at 9 rfl) hH hA (by decide) (by omega) (show _ < ((31 : Nat) : Int) by omega) (by omega) (fun h g13 e1 e2 hH hA => ?_)
  have eg33 := (e1 33 (by decide)).trans eg33
  have eg34 := (e1 34 (by decide)).trans eg34
  have eg35 := (e1 35 (by decide)).trans eg35
  have eg36 := (e1 36 (by decide)).trans eg36
  have eg352 := (e1 352 (by decide)).trans eg352
  have egm3 := (e1 (32 * m + 3) (by omega)).trans egm3
  have egm7 := (e1 (32 * m + 7) (by omega)).trans egm7
  have egm5 := (e1 (32 * m + 5) (by omega)).trans egm5
  have egm8 := (e1 (32 * m + 8) (by omega)).trans egm8
  rw [eg356] at e2; have eg356 := e2
  have hgE := hgE.put e1 (by decide)
  refine z_ald_0 (TX0_measureFuse_0.at 10 rfl) ?_
  refine zc_getA (m := 11) (s := 4) (k := 356) (hH.lv (by decide)) (TX0_measureFuse_0.at 11 rfl) fl0_25 hH rfl rfl (by decide) (by decide) ?_
  refine z_iconst (TX0_measureFuse_0.at 12 rfl) ?_
  refine z_ild_3 (TX0_measureFuse_0.at 13 rfl) ?_
  refine zcf_iast (k := 356) (N := 31) (hH.lv (by decide)) (by decide) rfl (TX0_measureFuse_0.at 14 rfl) hH hA (by decide) (by omega) (show _ < ((31 : Nat) : Int) by omega) (by omega) (fun h g20 e1 e2 hH hA => ?_)
  have eg33 := (e1 33 (by decide)).trans eg33
  have eg34 := (e1 34 (by decide)).trans eg34
  have eg35 := (e1 35 (by decide)).trans eg35
  have eg36 := (e1 36 (by decide)).trans eg36
  have eg352 := (e1 352 (by decide)).trans eg352
  have egm3 := (e1 (32 * m + 3) (by omega)).trans egm3
  have egm7 := (e1 (32 * m + 7) (by omega)).trans egm7
  have egm5 := (e1 (32 * m + 5) (by omega)).trans egm5
  have egm8 := (e1 (32 * m + 8) (by omega)).trans egm8
  rw [eg356] at e2; have eg356 := e2
  have hgE := hgE.put e1 (by decide)
  refine z_ald_0 (TX0_measureFuse_0.at 15 rfl) ?_
  refine zc_getA (m := 11) (s := 4) (k := 356) (hH.lv (by decide)) (TX0_measureFuse_0.at 16 rfl) fl0_25 hH rfl rfl (by decide) (by decide) ?_
  refine z_iconst (TX0_measureFuse_0.at 17 rfl) ?_
  refine z_ald_1 (TX0_measureFuse_0.at 18 rfl) ?_
  refine zc_getA (m := 1) (s := 4) (k := 36) (hH.lv (by decide)) (TX0_measureFuse_0.at 19 rfl) fl0_53 hH rfl rfl (by decide) (by decide) ?_
  refine z_ild_3 (TX0_measureFuse_0.at 20 rfl) ?_
  refine zcf_iald (k := 36) (N := 10) (hH.lv (by decide)) (by decide) rfl eg36 (TX0_measureFuse_0.at 21 rfl) hH (by decide) (by omega) (show _ < ((10 : Nat) : Int) by omega) (fun r31 => ?_)
  refine zcf_iast (k := 356) (N := 31) (hH.lv (by decide)) (by decide) rfl (TX0_measureFuse_0.at 22 rfl) hH hA (by decide) (by omega) (show _ < ((31 : Nat) : Int) by omega) (by omega) (fun h g32 e1 e2 hH hA => ?_)
  have eg33 := (e1 33 (by decide)).trans eg33
  have eg34 := (e1 34 (by decide)).trans eg34
  have eg35 := (e1 35 (by decide)).trans eg35
  have eg36 := (e1 36 (by decide)).trans eg36
  have eg352 := (e1 352 (by decide)).trans eg352
  have egm3 := (e1 (32 * m + 3) (by omega)).trans egm3
  have egm7 := (e1 (32 * m + 7) (by omega)).trans egm7
  have egm5 := (e1 (32 * m + 5) (by omega)).trans egm5
  have egm8 := (e1 (32 * m + 8) (by omega)).trans egm8
  rw [eg356] at e2; have eg356 := e2
  have hgE := hgE.put e1 (by decide)
  refine z_ald_0 (TX0_measureFuse_0.at 23 rfl) ?_
  refine zc_getA (m := 11) (s := 4) (k := 356) (hH.lv (by decide)) (TX0_measureFuse_0.at 24 rfl) fl0_25 hH rfl rfl (by decide) (by decide) ?_
  refine z_bipush (by decide) (TX0_measureFuse_0.at 25 rfl) ?_
  refine z_ald_1 (TX0_measureFuse_0.at 26 rfl) ?_
  refine zc_getA (m := 1) (s := 3) (k := 35) (hH.lv (by decide)) (TX0_measureFuse_0.at 27 rfl) fl0_56 hH rfl rfl (by decide) (by decide) ?_
  refine z_ild_3 (TX0_measureFuse_0.at 28 rfl) ?_
  refine zcf_iald (k := 35) (N := 10) (hH.lv (by decide)) (by decide) rfl eg35 (TX0_measureFuse_0.at 29 rfl) hH (by decide) (by omega) (show _ < ((10 : Nat) : Int) by omega) (fun r44 => ?_)
  refine zcf_iast (k := 356) (N := 31) (hH.lv (by decide)) (by decide) rfl (TX0_measureFuse_0.at 30 rfl) hH hA (by decide) (by omega) (show _ < ((31 : Nat) : Int) by omega) (by omega) (fun h g45 e1 e2 hH hA => ?_)
  have eg33 := (e1 33 (by decide)).trans eg33
  have eg34 := (e1 34 (by decide)).trans eg34
  have eg35 := (e1 35 (by decide)).trans eg35
  have eg36 := (e1 36 (by decide)).trans eg36
  have eg352 := (e1 352 (by decide)).trans eg352
  have egm3 := (e1 (32 * m + 3) (by omega)).trans egm3
  have egm7 := (e1 (32 * m + 7) (by omega)).trans egm7
  have egm5 := (e1 (32 * m + 5) (by omega)).trans egm5
  have egm8 := (e1 (32 * m + 8) (by omega)).trans egm8
  rw [eg356] at e2; have eg356 := e2
  have hgE := hgE.put e1 (by decide)
  refine z_ald_0 (TX0_measureFuse_0.at 31 rfl) ?_
  refine zc_getA (m := 11) (s := 4) (k := 356) (hH.lv (by decide)) (TX0_measureFuse_0.at 32 rfl) fl0_25 hH rfl rfl (by decide) (by decide) ?_
  refine z_iconst (TX0_measureFuse_0.at 33 rfl) ?_
  refine z_ald_1 (TX0_measureFuse_0.at 34 rfl) ?_
  refine zc_getA (m := 1) (s := 1) (k := 33) (hH.lv (by decide)) (TX0_measureFuse_0.at 35 rfl) fl0_59 hH rfl rfl (by decide) (by decide) ?_
  refine z_ild_3 (TX0_measureFuse_0.at 36 rfl) ?_
  refine zcf_iald (k := 33) (N := 10) (hH.lv (by decide)) (by decide) rfl eg33 (TX0_measureFuse_0.at 37 rfl) hH (by decide) (by omega) (show _ < ((10 : Nat) : Int) by omega) (fun r56 => ?_)
  refine zcf_iast (k := 356) (N := 31) (hH.lv (by decide)) (by decide) rfl (TX0_measureFuse_0.at 38 rfl) hH hA (by decide) (by omega) (show _ < ((31 : Nat) : Int) by omega) (by omega) (fun h g57 e1 e2 hH hA => ?_)
  have eg33 := (e1 33 (by decide)).trans eg33
  have eg34 := (e1 34 (by decide)).trans eg34
  have eg35 := (e1 35 (by decide)).trans eg35
  have eg36 := (e1 36 (by decide)).trans eg36
  have eg352 := (e1 352 (by decide)).trans eg352
  have egm3 := (e1 (32 * m + 3) (by omega)).trans egm3
  have egm7 := (e1 (32 * m + 7) (by omega)).trans egm7
  have egm5 := (e1 (32 * m + 5) (by omega)).trans egm5
  have egm8 := (e1 (32 * m + 8) (by omega)).trans egm8
  rw [eg356] at e2; have eg356 := e2
  have hgE := hgE.put e1 (by decide)
  refine z_ald_0 (TX0_measureFuse_0.at 39 rfl) ?_
  refine zc_getA (m := 11) (s := 4) (k := 356) (hH.lv (by decide)) (TX0_measureFuse_1.at 0 rfl) fl0_25 hH rfl rfl (by decide) (by decide) ?_
  refine z_iconst (TX0_measureFuse_1.at 1 rfl) ?_
  refine z_ald_1 (TX0_measureFuse_1.at 2 rfl) ?_
  refine zc_getA (m := 1) (s := 2) (k := 34) (hH.lv (by decide)) (TX0_measureFuse_1.at 3 rfl) fl0_62 hH rfl rfl (by decide) (by decide) ?_
  refine z_ild_3 (TX0_measureFuse_1.at 4 rfl) ?_
  refine zcf_iald (k := 34) (N := 10) (hH.lv (by decide)) (by decide) rfl eg34 (TX0_measureFuse_1.at 5 rfl) hH (by decide) (by omega) (show _ < ((10 : Nat) : Int) by omega) (fun r68 => ?_)
  refine zcf_iast (k := 356) (N := 31) (hH.lv (by decide)) (by decide) rfl (TX0_measureFuse_1.at 6 rfl) hH hA (by decide) (by omega) (show _ < ((31 : Nat) : Int) by omega) (by omega) (fun h g69 e1 e2 hH hA => ?_)
  have eg33 := (e1 33 (by decide)).trans eg33
  have eg34 := (e1 34 (by decide)).trans eg34
  have eg35 := (e1 35 (by decide)).trans eg35
  have eg36 := (e1 36 (by decide)).trans eg36
  have eg352 := (e1 352 (by decide)).trans eg352
  have egm3 := (e1 (32 * m + 3) (by omega)).trans egm3
  have egm7 := (e1 (32 * m + 7) (by omega)).trans egm7
  have egm5 := (e1 (32 * m + 5) (by omega)).trans egm5
  have egm8 := (e1 (32 * m + 8) (by omega)).trans egm8
  rw [eg356] at e2; have eg356 := e2
  have hgE := hgE.put e1 (by decide)
  refine z_ald_0 (TX0_measureFuse_1.at 7 rfl) ?_
  refine zc_getA (m := 11) (s := 0) (k := 352) (hH.lv (by decide)) (TX0_measureFuse_1.at 8 rfl) fl0_9 hH rfl rfl (by decide) (by decide) ?_
  refine z_ild_3 (TX0_measureFuse_1.at 9 rfl) ?_
  refine z_ald_1 (TX0_measureFuse_1.at 10 rfl) ?_
  refine zc_getA (m := 1) (s := 3) (k := 35) (hH.lv (by decide)) (TX0_measureFuse_1.at 11 rfl) fl0_56 hH rfl rfl (by decide) (by decide) ?_
  refine z_ild_3 (TX0_measureFuse_1.at 12 rfl) ?_
  refine zcf_iald (k := 35) (N := 10) (hH.lv (by decide)) (by decide) rfl eg35 (TX0_measureFuse_1.at 13 rfl) hH (by decide) (by omega) (show _ < ((10 : Nat) : Int) by omega) (fun r80 => ?_)
  refine zcf_iast (k := 352) (N := 10) (hH.lv (by decide)) (by decide) rfl (TX0_measureFuse_1.at 14 rfl) hH hA (by decide) (by omega) (show _ < ((10 : Nat) : Int) by omega) (by omega) (fun h g81 e1 e2 hH hA => ?_)
  have eg33 := (e1 33 (by decide)).trans eg33
  have eg34 := (e1 34 (by decide)).trans eg34
  have eg35 := (e1 35 (by decide)).trans eg35
  have eg36 := (e1 36 (by decide)).trans eg36
  rw [eg352] at e2; have eg352 := e2
  have egm3 := (e1 (32 * m + 3) (by omega)).trans egm3
  have egm7 := (e1 (32 * m + 7) (by omega)).trans egm7
  have egm5 := (e1 (32 * m + 5) (by omega)).trans egm5
  have egm8 := (e1 (32 * m + 8) (by omega)).trans egm8
  have eg356 := (e1 356 (by decide)).trans eg356
  have hgE := hgE.put e1 (by decide)
  refine z_iconst (TX0_measureFuse_1.at 15 rfl) ?_
  refine z_ist_4 (TX0_measureFuse_1.at 16 rfl) (Nat.le_of_ble_eq_true rfl) rfl ?_
  refine z_ald_2 (TX0_measureFuse_1.at 17 rfl) ?_
  refine z_ifnn (tgt := 93) (TX0_measureFuse_1.at 18 rfl) rfl ?_
  refine z_ald_2 (TX0_measureFuse_1.at 21 rfl) ?_
  refine zc_getIE (m := m) (s := 0) (k := (32 * m + 0)) hlm efm0 (TX0_measureFuse_1.at 22 rfl) fl0_65 hH hcls rfl (by decide) (by decide) (fun r94 => ?_)
  refine z_ist_5 (TX0_measureFuse_1.at 23 rfl) (Nat.le_of_ble_eq_true rfl) rfl ?_
  refine z_iconst (TX0_measureFuse_1.at 24 rfl) ?_
  refine z_ist_6 (TX0_measureFuse_1.at 25 rfl) (Nat.le_of_ble_eq_true rfl) rfl ?_
  have hfk := ff_ok (x := x) h6 h8 hx1.1 hx4.1 hx2.1 hx3.1
  have hk6 := hfk 6 (by decide) (by decide)
  have hk8 := hfk 8 (by decide) (by decide)
  refine lp_mf (φ := askF K x) (W1 := brn K cl x) (W3 := tellF 3 0 1 (askF K x) cl 0) (Bx := Bx) (by omega) hlm hcls h16 hNl hN0 q3 q5 q7 n12 hfk (askF_nb x0 hx1.2 hx2.2 hx3.2 hx4.2 p5 p2) x0 x9 (fun o7 o8 f3 g3 h3 hW eg352 xf xg hH hA => ?_) 13 0 cl (Ln x) 0 _ _ _ _ _ (by omega) (by omega) (by omega) (by omega) hsc (by unfold brn; rw [hx4.1]) rfl (Or.inl rfl) egm3 egm7 egm5 egm8 eg356 eg352 efm1 eqx.rf eqx.rf hH hA
  have eg356 := (xg 356 (by decide)).trans eg356
  have ef37 := (xf 37 (by decide)).trans ef37
  have ef354 := (xf 354 (by decide)).trans ef354
  refine sg_mf1 (f0 := f3) (g0 := g3) (by omega) x0 x9 hS hdp hW rfl hx5 hx6 (fun f4 g4 h4 ef354 yf yg hH hA => ?_) ef37 ef354 eqx.rf eqx.rf hH hA
  refine zc_vret (TX0_measureFuse_3.at 12 rfl) rfl hH hA ?_
  exact ⟨⟨(yg 352 (by decide)).trans eg352, ef354, by rw [yg 356 (by decide), eg356]; exact hk6, by rw [yg 356 (by decide), eg356]; exact hk8⟩, (hfE.trans xf (by decide)).trans yf (by decide), (hgE.trans xg (by decide)).trans yg (by decide), rfl⟩

set_option maxHeartbeats 4000000 in
set_option maxRecDepth 100000 in
theorem c_mfN1 {l : Launch} {E : cE} {f : mF} {g j : mA} {Fr : Int → Int} {To : Int → Int} {Ln : Int → Int} {Kd : Int → Int} {Bx : Int → Int} {Φ : Int → Int} {dp : Int} {S : Int} {x : Int} {K : Int → Int} (eg33 : g 33 = Fr) (eg34 : g 34 = To) (eg35 : g 35 = Ln) (eg36 : g 36 = Kd) (eg352 : g 352 = Bx) (eg356 : g 356 = Φ) (ef37 : f 37 = dp) (ef354 : f 354 = S) (hx : zIn x) (x0 : 0 ≤ x) (x9 : x ≤ 9) (h6 : Φ 6 = K 75) (h8 : Φ 8 = K 28) (p5 : 0 ≤ K 75) (p2 : 0 ≤ K 28) (hS : z31 S) (hdp : z31 dp) (hx1 : Kd x = K (49 + x) ∧ 0 ≤ K (49 + x)) (hx2 : Fr x = K (29 + x) ∧ 0 ≤ K (29 + x)) (hx3 : To x = K (39 + x) ∧ 0 ≤ K (39 + x)) (hx4 : Ln x = K (10 + x) ∧ 0 ≤ K (10 + x)) (hx5 : K x = 0 ∨ K x = 1) (hx6 : bt dp x ↔ K x = 1) : CM l E MX0_measureFuse 4 [.ref (E.1 383), .ref (E.1 63), .null, vI x] f g j (PV (fun f' g' j' => (g' 352 = iu Bx x (brn K [] x) ∧ f' 354 = cS S x (ctc K [] x) ∧ (g' 356) 6 = K 75 ∧ (g' 356) 8 = K 28) ∧ eqx [354] f f' ∧ eqx [352, 356, 384] g g' ∧ j' = j)) := by
  refine CM.intro [some (.ref (E.1 383)), some (.ref (E.1 63)), some (.null), some (vI x), none, none, none, none, none] (by decide) (Nat.le_of_ble_eq_true rfl) rfl (fun d hd h0 h hH hA => ?_)
  have hfE : eqx [354] f f := eqx.rf
  have hgE : eqx [352, 356, 384] g g := eqx.rf
  refine z_ald_0 (TX0_measureFuse_0.at 0 rfl) ?_
  refine zc_getA (m := 11) (s := 4) (k := 356) (hH.lv (by decide)) (TX0_measureFuse_0.at 1 rfl) fl0_25 hH rfl rfl (by decide) (by decide) ?_
  refine z_iconst (TX0_measureFuse_0.at 2 rfl) ?_
  refine z_iconst (TX0_measureFuse_0.at 3 rfl) ?_
  refine zcf_iast (k := 356) (N := 31) (hH.lv (by decide)) (by decide) rfl (TX0_measureFuse_0.at 4 rfl) hH hA (by decide) (by omega) (show _ < ((31 : Nat) : Int) by omega) (by omega) (fun h g6 e1 e2 hH hA => ?_)
  have eg33 := (e1 33 (by decide)).trans eg33
  have eg34 := (e1 34 (by decide)).trans eg34
  have eg35 := (e1 35 (by decide)).trans eg35
  have eg36 := (e1 36 (by decide)).trans eg36
  have eg352 := (e1 352 (by decide)).trans eg352
  rw [eg356] at e2; have eg356 := e2
  have hgE := hgE.put e1 (by decide)
  refine z_ald_0 (TX0_measureFuse_0.at 5 rfl) ?_
  refine zc_getA (m := 11) (s := 4) (k := 356) (hH.lv (by decide)) (TX0_measureFuse_0.at 6 rfl) fl0_25 hH rfl rfl (by decide) (by decide) ?_
  refine z_iconst (TX0_measureFuse_0.at 7 rfl) ?_
  refine z_iconst (TX0_measureFuse_0.at 8 rfl) ?_
  refine zcf_iast (k := 356) (N := 31) (hH.lv (by decide)) (by decide) rfl (TX0_measureFuse_0.at 9 rfl) hH hA (by decide) (by omega) (show _ < ((31 : Nat) : Int) by omega) (by omega) (fun h g13 e1 e2 hH hA => ?_)
  have eg33 := (e1 33 (by decide)).trans eg33
  have eg34 := (e1 34 (by decide)).trans eg34
  have eg35 := (e1 35 (by decide)).trans eg35
  have eg36 := (e1 36 (by decide)).trans eg36
  have eg352 := (e1 352 (by decide)).trans eg352
  rw [eg356] at e2; have eg356 := e2
  have hgE := hgE.put e1 (by decide)
  refine z_ald_0 (TX0_measureFuse_0.at 10 rfl) ?_
  refine zc_getA (m := 11) (s := 4) (k := 356) (hH.lv (by decide)) (TX0_measureFuse_0.at 11 rfl) fl0_25 hH rfl rfl (by decide) (by decide) ?_
  refine z_iconst (TX0_measureFuse_0.at 12 rfl) ?_
  refine z_ild_3 (TX0_measureFuse_0.at 13 rfl) ?_
  refine zcf_iast (k := 356) (N := 31) (hH.lv (by decide)) (by decide) rfl (TX0_measureFuse_0.at 14 rfl) hH hA (by decide) (by omega) (show _ < ((31 : Nat) : Int) by omega) (by omega) (fun h g20 e1 e2 hH hA => ?_)
  have eg33 := (e1 33 (by decide)).trans eg33
  have eg34 := (e1 34 (by decide)).trans eg34
  have eg35 := (e1 35 (by decide)).trans eg35
  have eg36 := (e1 36 (by decide)).trans eg36
  have eg352 := (e1 352 (by decide)).trans eg352
  rw [eg356] at e2; have eg356 := e2
  have hgE := hgE.put e1 (by decide)
  refine z_ald_0 (TX0_measureFuse_0.at 15 rfl) ?_
  refine zc_getA (m := 11) (s := 4) (k := 356) (hH.lv (by decide)) (TX0_measureFuse_0.at 16 rfl) fl0_25 hH rfl rfl (by decide) (by decide) ?_
  refine z_iconst (TX0_measureFuse_0.at 17 rfl) ?_
  refine z_ald_1 (TX0_measureFuse_0.at 18 rfl) ?_
  refine zc_getA (m := 1) (s := 4) (k := 36) (hH.lv (by decide)) (TX0_measureFuse_0.at 19 rfl) fl0_53 hH rfl rfl (by decide) (by decide) ?_
  refine z_ild_3 (TX0_measureFuse_0.at 20 rfl) ?_
  refine zcf_iald (k := 36) (N := 10) (hH.lv (by decide)) (by decide) rfl eg36 (TX0_measureFuse_0.at 21 rfl) hH (by decide) (by omega) (show _ < ((10 : Nat) : Int) by omega) (fun r31 => ?_)
  refine zcf_iast (k := 356) (N := 31) (hH.lv (by decide)) (by decide) rfl (TX0_measureFuse_0.at 22 rfl) hH hA (by decide) (by omega) (show _ < ((31 : Nat) : Int) by omega) (by omega) (fun h g32 e1 e2 hH hA => ?_)
  have eg33 := (e1 33 (by decide)).trans eg33
  have eg34 := (e1 34 (by decide)).trans eg34
  have eg35 := (e1 35 (by decide)).trans eg35
  have eg36 := (e1 36 (by decide)).trans eg36
  have eg352 := (e1 352 (by decide)).trans eg352
  rw [eg356] at e2; have eg356 := e2
  have hgE := hgE.put e1 (by decide)
  refine z_ald_0 (TX0_measureFuse_0.at 23 rfl) ?_
  refine zc_getA (m := 11) (s := 4) (k := 356) (hH.lv (by decide)) (TX0_measureFuse_0.at 24 rfl) fl0_25 hH rfl rfl (by decide) (by decide) ?_
  refine z_bipush (by decide) (TX0_measureFuse_0.at 25 rfl) ?_
  refine z_ald_1 (TX0_measureFuse_0.at 26 rfl) ?_
  refine zc_getA (m := 1) (s := 3) (k := 35) (hH.lv (by decide)) (TX0_measureFuse_0.at 27 rfl) fl0_56 hH rfl rfl (by decide) (by decide) ?_
  refine z_ild_3 (TX0_measureFuse_0.at 28 rfl) ?_
  refine zcf_iald (k := 35) (N := 10) (hH.lv (by decide)) (by decide) rfl eg35 (TX0_measureFuse_0.at 29 rfl) hH (by decide) (by omega) (show _ < ((10 : Nat) : Int) by omega) (fun r44 => ?_)
  refine zcf_iast (k := 356) (N := 31) (hH.lv (by decide)) (by decide) rfl (TX0_measureFuse_0.at 30 rfl) hH hA (by decide) (by omega) (show _ < ((31 : Nat) : Int) by omega) (by omega) (fun h g45 e1 e2 hH hA => ?_)
  have eg33 := (e1 33 (by decide)).trans eg33
  have eg34 := (e1 34 (by decide)).trans eg34
  have eg35 := (e1 35 (by decide)).trans eg35
  have eg36 := (e1 36 (by decide)).trans eg36
  have eg352 := (e1 352 (by decide)).trans eg352
  rw [eg356] at e2; have eg356 := e2
  have hgE := hgE.put e1 (by decide)
  refine z_ald_0 (TX0_measureFuse_0.at 31 rfl) ?_
  refine zc_getA (m := 11) (s := 4) (k := 356) (hH.lv (by decide)) (TX0_measureFuse_0.at 32 rfl) fl0_25 hH rfl rfl (by decide) (by decide) ?_
  refine z_iconst (TX0_measureFuse_0.at 33 rfl) ?_
  refine z_ald_1 (TX0_measureFuse_0.at 34 rfl) ?_
  refine zc_getA (m := 1) (s := 1) (k := 33) (hH.lv (by decide)) (TX0_measureFuse_0.at 35 rfl) fl0_59 hH rfl rfl (by decide) (by decide) ?_
  refine z_ild_3 (TX0_measureFuse_0.at 36 rfl) ?_
  refine zcf_iald (k := 33) (N := 10) (hH.lv (by decide)) (by decide) rfl eg33 (TX0_measureFuse_0.at 37 rfl) hH (by decide) (by omega) (show _ < ((10 : Nat) : Int) by omega) (fun r56 => ?_)
  refine zcf_iast (k := 356) (N := 31) (hH.lv (by decide)) (by decide) rfl (TX0_measureFuse_0.at 38 rfl) hH hA (by decide) (by omega) (show _ < ((31 : Nat) : Int) by omega) (by omega) (fun h g57 e1 e2 hH hA => ?_)
  have eg33 := (e1 33 (by decide)).trans eg33
  have eg34 := (e1 34 (by decide)).trans eg34
  have eg35 := (e1 35 (by decide)).trans eg35
  have eg36 := (e1 36 (by decide)).trans eg36
  have eg352 := (e1 352 (by decide)).trans eg352
  rw [eg356] at e2; have eg356 := e2
  have hgE := hgE.put e1 (by decide)
  refine z_ald_0 (TX0_measureFuse_0.at 39 rfl) ?_
  refine zc_getA (m := 11) (s := 4) (k := 356) (hH.lv (by decide)) (TX0_measureFuse_1.at 0 rfl) fl0_25 hH rfl rfl (by decide) (by decide) ?_
  refine z_iconst (TX0_measureFuse_1.at 1 rfl) ?_
  refine z_ald_1 (TX0_measureFuse_1.at 2 rfl) ?_
  refine zc_getA (m := 1) (s := 2) (k := 34) (hH.lv (by decide)) (TX0_measureFuse_1.at 3 rfl) fl0_62 hH rfl rfl (by decide) (by decide) ?_
  refine z_ild_3 (TX0_measureFuse_1.at 4 rfl) ?_
  refine zcf_iald (k := 34) (N := 10) (hH.lv (by decide)) (by decide) rfl eg34 (TX0_measureFuse_1.at 5 rfl) hH (by decide) (by omega) (show _ < ((10 : Nat) : Int) by omega) (fun r68 => ?_)
  refine zcf_iast (k := 356) (N := 31) (hH.lv (by decide)) (by decide) rfl (TX0_measureFuse_1.at 6 rfl) hH hA (by decide) (by omega) (show _ < ((31 : Nat) : Int) by omega) (by omega) (fun h g69 e1 e2 hH hA => ?_)
  have eg33 := (e1 33 (by decide)).trans eg33
  have eg34 := (e1 34 (by decide)).trans eg34
  have eg35 := (e1 35 (by decide)).trans eg35
  have eg36 := (e1 36 (by decide)).trans eg36
  have eg352 := (e1 352 (by decide)).trans eg352
  rw [eg356] at e2; have eg356 := e2
  have hgE := hgE.put e1 (by decide)
  refine z_ald_0 (TX0_measureFuse_1.at 7 rfl) ?_
  refine zc_getA (m := 11) (s := 0) (k := 352) (hH.lv (by decide)) (TX0_measureFuse_1.at 8 rfl) fl0_9 hH rfl rfl (by decide) (by decide) ?_
  refine z_ild_3 (TX0_measureFuse_1.at 9 rfl) ?_
  refine z_ald_1 (TX0_measureFuse_1.at 10 rfl) ?_
  refine zc_getA (m := 1) (s := 3) (k := 35) (hH.lv (by decide)) (TX0_measureFuse_1.at 11 rfl) fl0_56 hH rfl rfl (by decide) (by decide) ?_
  refine z_ild_3 (TX0_measureFuse_1.at 12 rfl) ?_
  refine zcf_iald (k := 35) (N := 10) (hH.lv (by decide)) (by decide) rfl eg35 (TX0_measureFuse_1.at 13 rfl) hH (by decide) (by omega) (show _ < ((10 : Nat) : Int) by omega) (fun r80 => ?_)
  refine zcf_iast (k := 352) (N := 10) (hH.lv (by decide)) (by decide) rfl (TX0_measureFuse_1.at 14 rfl) hH hA (by decide) (by omega) (show _ < ((10 : Nat) : Int) by omega) (by omega) (fun h g81 e1 e2 hH hA => ?_)
  have eg33 := (e1 33 (by decide)).trans eg33
  have eg34 := (e1 34 (by decide)).trans eg34
  have eg35 := (e1 35 (by decide)).trans eg35
  have eg36 := (e1 36 (by decide)).trans eg36
  rw [eg352] at e2; have eg352 := e2
  have eg356 := (e1 356 (by decide)).trans eg356
  have hgE := hgE.put e1 (by decide)
  refine z_iconst (TX0_measureFuse_1.at 15 rfl) ?_
  refine z_ist_4 (TX0_measureFuse_1.at 16 rfl) (Nat.le_of_ble_eq_true rfl) rfl ?_
  refine z_nld_2 (TX0_measureFuse_1.at 17 rfl) ?_
  refine z_ifnnN (TX0_measureFuse_1.at 18 rfl) ?_
  refine z_iconst (TX0_measureFuse_1.at 19 rfl) ?_
  refine z_goto (tgt := 97) (TX0_measureFuse_1.at 20 rfl) rfl ?_
  refine z_ist_5 (TX0_measureFuse_1.at 23 rfl) (Nat.le_of_ble_eq_true rfl) rfl ?_
  refine z_iconst (TX0_measureFuse_1.at 24 rfl) ?_
  refine z_ist_6 (TX0_measureFuse_1.at 25 rfl) (Nat.le_of_ble_eq_true rfl) rfl ?_
  refine z_ild_6 (TX0_measureFuse_1.at 26 rfl) ?_
  refine z_ild_5 (TX0_measureFuse_1.at 27 rfl) ?_
  refine z_icmp_ge (tgt := 183) (TX0_measureFuse_1.at 28 rfl) rfl (by omega) (by omega) (fun c1 => ?_) (fun c1 => absurd c1 (by omega))
  have hfk := ff_ok (x := x) h6 h8 hx1.1 hx4.1 hx2.1 hx3.1
  have hk6 := hfk 6 (by decide) (by decide)
  have hk8 := hfk 8 (by decide) (by decide)
  refine sg_mf1 (K := K) (cl := []) (f0 := f) (by omega) x0 x9 hS hdp (Or.inl rfl) rfl hx5 hx6 (fun f4 g4 h4 ef354 yf yg hH hA => ?_) ef37 ef354 eqx.rf eqx.rf hH hA
  refine zc_vret (TX0_measureFuse_3.at 12 rfl) rfl hH hA ?_
  exact ⟨⟨(yg 352 (by decide)).trans (eg352.trans (by rw [hx4.1]; rfl)), ef354, by rw [yg 356 (by decide), eg356]; exact hk6, by rw [yg 356 (by decide), eg356]; exact hk8⟩, hfE.trans yf (by decide), hgE.trans yg (by decide), rfl⟩

set_option maxHeartbeats 4000000 in
set_option maxRecDepth 100000 in
theorem c_mf3 {l : Launch} {E : cE} {f : mF} {g j : mA} {Fr : Int → Int} {To : Int → Int} {Ln : Int → Int} {Kd : Int → Int} {Bx : Int → Int} {Vb : Int → Int} {Te : Int → Int} {On : Int → Int} {C : Int → Int} {Φ : Int → Int} {dp : Int} {S : Int} {N : Int} {n4 : Int} {x : Int} {m : Nat} {K : Int → Int} {cl : List Cla} (eg97 : g 97 = Fr) (eg98 : g 98 = To) (eg99 : g 99 = Ln) (eg100 : g 100 = Kd) (eg352 : g 352 = Bx) (egm3 : g (32 * m + 3) = Vb) (egm7 : g (32 * m + 7) = Te) (egm5 : g (32 * m + 5) = On) (egm8 : g (32 * m + 8) = C) (eg356 : g 356 = Φ) (ef101 : f 101 = dp) (ef354 : f 354 = S) (efm1 : f (32 * m + 1) = N) (efm0 : f (32 * m + 0) = n4) (hx : zIn x) (hlm : E.2.1 m = true) (hcls : cCls m = 4) (h16 : 13 ≤ m) (hNl : N ≤ E.2.2 (32 * m + 8)) (hN0 : N ≤ 400) (q3 : n4 ≤ E.2.2 (32 * m + 3)) (q5 : n4 ≤ E.2.2 (32 * m + 5)) (q7 : n4 ≤ E.2.2 (32 * m + 7)) (n40 : 0 ≤ n4) (n12 : n4 ≤ 12) (hsc : ScL Vb On Te C N 0 cl) (hln : n4 = (cl.length : Int)) (x0 : 0 ≤ x) (x9 : x ≤ 9) (h6 : Φ 6 = K 75) (h8 : Φ 8 = K 28) (p5 : 0 ≤ K 75) (p2 : 0 ≤ K 28) (hS : z31 S) (hdp : z31 dp) (hx1 : Kd x = K (49 + x) ∧ 0 ≤ K (49 + x)) (hx2 : Fr x = K (29 + x) ∧ 0 ≤ K (29 + x)) (hx3 : To x = K (39 + x) ∧ 0 ≤ K (39 + x)) (hx4 : Ln x = K (10 + x) ∧ 0 ≤ K (10 + x)) (hx5 : K x = 0 ∨ K x = 1) (hx6 : bt dp x ↔ K x = 1) : CM l E MX0_measureFuse 4 [.ref (E.1 383), .ref (E.1 127), .ref (E.1 (32 * m + 31)), vI x] f g j (PV (fun f' g' j' => (g' 352 = iu Bx x (brn K cl x) ∧ f' 354 = cS S x (ctc K cl x) ∧ (g' 356) 6 = K 75 ∧ (g' 356) 8 = K 28) ∧ eqx [354] f f' ∧ eqx [352, 356, 384] g g' ∧ j' = j)) := by
  refine CM.intro [some (.ref (E.1 383)), some (.ref (E.1 127)), some (.ref (E.1 (32 * m + 31))), some (vI x), none, none, none, none, none] (by decide) (Nat.le_of_ble_eq_true rfl) rfl (fun d hd h0 h hH hA => ?_)
  have hfE : eqx [354] f f := eqx.rf
  have hgE : eqx [352, 356, 384] g g := eqx.rf
  refine z_ald_0 (TX0_measureFuse_0.at 0 rfl) ?_
  refine zc_getA (m := 11) (s := 4) (k := 356) (hH.lv (by decide)) (TX0_measureFuse_0.at 1 rfl) fl0_25 hH rfl rfl (by decide) (by decide) ?_
  refine z_iconst (TX0_measureFuse_0.at 2 rfl) ?_
  refine z_iconst (TX0_measureFuse_0.at 3 rfl) ?_
  refine zcf_iast (k := 356) (N := 31) (hH.lv (by decide)) (by decide) rfl (TX0_measureFuse_0.at 4 rfl) hH hA (by decide) (by omega) (show _ < ((31 : Nat) : Int) by omega) (by omega) (fun h g6 e1 e2 hH hA => ?_)
  have eg97 := (e1 97 (by decide)).trans eg97
  have eg98 := (e1 98 (by decide)).trans eg98
  have eg99 := (e1 99 (by decide)).trans eg99
  have eg100 := (e1 100 (by decide)).trans eg100
  have eg352 := (e1 352 (by decide)).trans eg352
  have egm3 := (e1 (32 * m + 3) (by omega)).trans egm3
  have egm7 := (e1 (32 * m + 7) (by omega)).trans egm7
  have egm5 := (e1 (32 * m + 5) (by omega)).trans egm5
  have egm8 := (e1 (32 * m + 8) (by omega)).trans egm8
  rw [eg356] at e2; have eg356 := e2
  have hgE := hgE.put e1 (by decide)
  refine z_ald_0 (TX0_measureFuse_0.at 5 rfl) ?_
  refine zc_getA (m := 11) (s := 4) (k := 356) (hH.lv (by decide)) (TX0_measureFuse_0.at 6 rfl) fl0_25 hH rfl rfl (by decide) (by decide) ?_
  refine z_iconst (TX0_measureFuse_0.at 7 rfl) ?_
  refine z_iconst (TX0_measureFuse_0.at 8 rfl) ?_
  refine zcf_iast (k := 356) (N := 31) (hH.lv (by decide)) (by decide) rfl (TX0_measureFuse_0.at 9 rfl) hH hA (by decide) (by omega) (show _ < ((31 : Nat) : Int) by omega) (by omega) (fun h g13 e1 e2 hH hA => ?_)
  have eg97 := (e1 97 (by decide)).trans eg97
  have eg98 := (e1 98 (by decide)).trans eg98
  have eg99 := (e1 99 (by decide)).trans eg99
  have eg100 := (e1 100 (by decide)).trans eg100
  have eg352 := (e1 352 (by decide)).trans eg352
  have egm3 := (e1 (32 * m + 3) (by omega)).trans egm3
  have egm7 := (e1 (32 * m + 7) (by omega)).trans egm7
  have egm5 := (e1 (32 * m + 5) (by omega)).trans egm5
  have egm8 := (e1 (32 * m + 8) (by omega)).trans egm8
  rw [eg356] at e2; have eg356 := e2
  have hgE := hgE.put e1 (by decide)
  refine z_ald_0 (TX0_measureFuse_0.at 10 rfl) ?_
  refine zc_getA (m := 11) (s := 4) (k := 356) (hH.lv (by decide)) (TX0_measureFuse_0.at 11 rfl) fl0_25 hH rfl rfl (by decide) (by decide) ?_
  refine z_iconst (TX0_measureFuse_0.at 12 rfl) ?_
  refine z_ild_3 (TX0_measureFuse_0.at 13 rfl) ?_
  refine zcf_iast (k := 356) (N := 31) (hH.lv (by decide)) (by decide) rfl (TX0_measureFuse_0.at 14 rfl) hH hA (by decide) (by omega) (show _ < ((31 : Nat) : Int) by omega) (by omega) (fun h g20 e1 e2 hH hA => ?_)
  have eg97 := (e1 97 (by decide)).trans eg97
  have eg98 := (e1 98 (by decide)).trans eg98
  have eg99 := (e1 99 (by decide)).trans eg99
  have eg100 := (e1 100 (by decide)).trans eg100
  have eg352 := (e1 352 (by decide)).trans eg352
  have egm3 := (e1 (32 * m + 3) (by omega)).trans egm3
  have egm7 := (e1 (32 * m + 7) (by omega)).trans egm7
  have egm5 := (e1 (32 * m + 5) (by omega)).trans egm5
  have egm8 := (e1 (32 * m + 8) (by omega)).trans egm8
  rw [eg356] at e2; have eg356 := e2
  have hgE := hgE.put e1 (by decide)
  refine z_ald_0 (TX0_measureFuse_0.at 15 rfl) ?_
  refine zc_getA (m := 11) (s := 4) (k := 356) (hH.lv (by decide)) (TX0_measureFuse_0.at 16 rfl) fl0_25 hH rfl rfl (by decide) (by decide) ?_
  refine z_iconst (TX0_measureFuse_0.at 17 rfl) ?_
  refine z_ald_1 (TX0_measureFuse_0.at 18 rfl) ?_
  refine zc_getA (m := 3) (s := 4) (k := 100) (hH.lv (by decide)) (TX0_measureFuse_0.at 19 rfl) fl0_53 hH rfl rfl (by decide) (by decide) ?_
  refine z_ild_3 (TX0_measureFuse_0.at 20 rfl) ?_
  refine zcf_iald (k := 100) (N := 10) (hH.lv (by decide)) (by decide) rfl eg100 (TX0_measureFuse_0.at 21 rfl) hH (by decide) (by omega) (show _ < ((10 : Nat) : Int) by omega) (fun r31 => ?_)
  refine zcf_iast (k := 356) (N := 31) (hH.lv (by decide)) (by decide) rfl (TX0_measureFuse_0.at 22 rfl) hH hA (by decide) (by omega) (show _ < ((31 : Nat) : Int) by omega) (by omega) (fun h g32 e1 e2 hH hA => ?_)
  have eg97 := (e1 97 (by decide)).trans eg97
  have eg98 := (e1 98 (by decide)).trans eg98
  have eg99 := (e1 99 (by decide)).trans eg99
  have eg100 := (e1 100 (by decide)).trans eg100
  have eg352 := (e1 352 (by decide)).trans eg352
  have egm3 := (e1 (32 * m + 3) (by omega)).trans egm3
  have egm7 := (e1 (32 * m + 7) (by omega)).trans egm7
  have egm5 := (e1 (32 * m + 5) (by omega)).trans egm5
  have egm8 := (e1 (32 * m + 8) (by omega)).trans egm8
  rw [eg356] at e2; have eg356 := e2
  have hgE := hgE.put e1 (by decide)
  refine z_ald_0 (TX0_measureFuse_0.at 23 rfl) ?_
  refine zc_getA (m := 11) (s := 4) (k := 356) (hH.lv (by decide)) (TX0_measureFuse_0.at 24 rfl) fl0_25 hH rfl rfl (by decide) (by decide) ?_
  refine z_bipush (by decide) (TX0_measureFuse_0.at 25 rfl) ?_
  refine z_ald_1 (TX0_measureFuse_0.at 26 rfl) ?_
  refine zc_getA (m := 3) (s := 3) (k := 99) (hH.lv (by decide)) (TX0_measureFuse_0.at 27 rfl) fl0_56 hH rfl rfl (by decide) (by decide) ?_
  refine z_ild_3 (TX0_measureFuse_0.at 28 rfl) ?_
  refine zcf_iald (k := 99) (N := 10) (hH.lv (by decide)) (by decide) rfl eg99 (TX0_measureFuse_0.at 29 rfl) hH (by decide) (by omega) (show _ < ((10 : Nat) : Int) by omega) (fun r44 => ?_)
  refine zcf_iast (k := 356) (N := 31) (hH.lv (by decide)) (by decide) rfl (TX0_measureFuse_0.at 30 rfl) hH hA (by decide) (by omega) (show _ < ((31 : Nat) : Int) by omega) (by omega) (fun h g45 e1 e2 hH hA => ?_)
  have eg97 := (e1 97 (by decide)).trans eg97
  have eg98 := (e1 98 (by decide)).trans eg98
  have eg99 := (e1 99 (by decide)).trans eg99
  have eg100 := (e1 100 (by decide)).trans eg100
  have eg352 := (e1 352 (by decide)).trans eg352
  have egm3 := (e1 (32 * m + 3) (by omega)).trans egm3
  have egm7 := (e1 (32 * m + 7) (by omega)).trans egm7
  have egm5 := (e1 (32 * m + 5) (by omega)).trans egm5
  have egm8 := (e1 (32 * m + 8) (by omega)).trans egm8
  rw [eg356] at e2; have eg356 := e2
  have hgE := hgE.put e1 (by decide)
  refine z_ald_0 (TX0_measureFuse_0.at 31 rfl) ?_
  refine zc_getA (m := 11) (s := 4) (k := 356) (hH.lv (by decide)) (TX0_measureFuse_0.at 32 rfl) fl0_25 hH rfl rfl (by decide) (by decide) ?_
  refine z_iconst (TX0_measureFuse_0.at 33 rfl) ?_
  refine z_ald_1 (TX0_measureFuse_0.at 34 rfl) ?_
  refine zc_getA (m := 3) (s := 1) (k := 97) (hH.lv (by decide)) (TX0_measureFuse_0.at 35 rfl) fl0_59 hH rfl rfl (by decide) (by decide) ?_
  refine z_ild_3 (TX0_measureFuse_0.at 36 rfl) ?_
  refine zcf_iald (k := 97) (N := 10) (hH.lv (by decide)) (by decide) rfl eg97 (TX0_measureFuse_0.at 37 rfl) hH (by decide) (by omega) (show _ < ((10 : Nat) : Int) by omega) (fun r56 => ?_)
  refine zcf_iast (k := 356) (N := 31) (hH.lv (by decide)) (by decide) rfl (TX0_measureFuse_0.at 38 rfl) hH hA (by decide) (by omega) (show _ < ((31 : Nat) : Int) by omega) (by omega) (fun h g57 e1 e2 hH hA => ?_)
  have eg97 := (e1 97 (by decide)).trans eg97
  have eg98 := (e1 98 (by decide)).trans eg98
  have eg99 := (e1 99 (by decide)).trans eg99
  have eg100 := (e1 100 (by decide)).trans eg100
  have eg352 := (e1 352 (by decide)).trans eg352
  have egm3 := (e1 (32 * m + 3) (by omega)).trans egm3
  have egm7 := (e1 (32 * m + 7) (by omega)).trans egm7
  have egm5 := (e1 (32 * m + 5) (by omega)).trans egm5
  have egm8 := (e1 (32 * m + 8) (by omega)).trans egm8
  rw [eg356] at e2; have eg356 := e2
  have hgE := hgE.put e1 (by decide)
  refine z_ald_0 (TX0_measureFuse_0.at 39 rfl) ?_
  refine zc_getA (m := 11) (s := 4) (k := 356) (hH.lv (by decide)) (TX0_measureFuse_1.at 0 rfl) fl0_25 hH rfl rfl (by decide) (by decide) ?_
  refine z_iconst (TX0_measureFuse_1.at 1 rfl) ?_
  refine z_ald_1 (TX0_measureFuse_1.at 2 rfl) ?_
  refine zc_getA (m := 3) (s := 2) (k := 98) (hH.lv (by decide)) (TX0_measureFuse_1.at 3 rfl) fl0_62 hH rfl rfl (by decide) (by decide) ?_
  refine z_ild_3 (TX0_measureFuse_1.at 4 rfl) ?_
  refine zcf_iald (k := 98) (N := 10) (hH.lv (by decide)) (by decide) rfl eg98 (TX0_measureFuse_1.at 5 rfl) hH (by decide) (by omega) (show _ < ((10 : Nat) : Int) by omega) (fun r68 => ?_)
  refine zcf_iast (k := 356) (N := 31) (hH.lv (by decide)) (by decide) rfl (TX0_measureFuse_1.at 6 rfl) hH hA (by decide) (by omega) (show _ < ((31 : Nat) : Int) by omega) (by omega) (fun h g69 e1 e2 hH hA => ?_)
  have eg97 := (e1 97 (by decide)).trans eg97
  have eg98 := (e1 98 (by decide)).trans eg98
  have eg99 := (e1 99 (by decide)).trans eg99
  have eg100 := (e1 100 (by decide)).trans eg100
  have eg352 := (e1 352 (by decide)).trans eg352
  have egm3 := (e1 (32 * m + 3) (by omega)).trans egm3
  have egm7 := (e1 (32 * m + 7) (by omega)).trans egm7
  have egm5 := (e1 (32 * m + 5) (by omega)).trans egm5
  have egm8 := (e1 (32 * m + 8) (by omega)).trans egm8
  rw [eg356] at e2; have eg356 := e2
  have hgE := hgE.put e1 (by decide)
  refine z_ald_0 (TX0_measureFuse_1.at 7 rfl) ?_
  refine zc_getA (m := 11) (s := 0) (k := 352) (hH.lv (by decide)) (TX0_measureFuse_1.at 8 rfl) fl0_9 hH rfl rfl (by decide) (by decide) ?_
  refine z_ild_3 (TX0_measureFuse_1.at 9 rfl) ?_
  refine z_ald_1 (TX0_measureFuse_1.at 10 rfl) ?_
  refine zc_getA (m := 3) (s := 3) (k := 99) (hH.lv (by decide)) (TX0_measureFuse_1.at 11 rfl) fl0_56 hH rfl rfl (by decide) (by decide) ?_
  refine z_ild_3 (TX0_measureFuse_1.at 12 rfl) ?_
  refine zcf_iald (k := 99) (N := 10) (hH.lv (by decide)) (by decide) rfl eg99 (TX0_measureFuse_1.at 13 rfl) hH (by decide) (by omega) (show _ < ((10 : Nat) : Int) by omega) (fun r80 => ?_)
  refine zcf_iast (k := 352) (N := 10) (hH.lv (by decide)) (by decide) rfl (TX0_measureFuse_1.at 14 rfl) hH hA (by decide) (by omega) (show _ < ((10 : Nat) : Int) by omega) (by omega) (fun h g81 e1 e2 hH hA => ?_)
  have eg97 := (e1 97 (by decide)).trans eg97
  have eg98 := (e1 98 (by decide)).trans eg98
  have eg99 := (e1 99 (by decide)).trans eg99
  have eg100 := (e1 100 (by decide)).trans eg100
  rw [eg352] at e2; have eg352 := e2
  have egm3 := (e1 (32 * m + 3) (by omega)).trans egm3
  have egm7 := (e1 (32 * m + 7) (by omega)).trans egm7
  have egm5 := (e1 (32 * m + 5) (by omega)).trans egm5
  have egm8 := (e1 (32 * m + 8) (by omega)).trans egm8
  have eg356 := (e1 356 (by decide)).trans eg356
  have hgE := hgE.put e1 (by decide)
  refine z_iconst (TX0_measureFuse_1.at 15 rfl) ?_
  refine z_ist_4 (TX0_measureFuse_1.at 16 rfl) (Nat.le_of_ble_eq_true rfl) rfl ?_
  refine z_ald_2 (TX0_measureFuse_1.at 17 rfl) ?_
  refine z_ifnn (tgt := 93) (TX0_measureFuse_1.at 18 rfl) rfl ?_
  refine z_ald_2 (TX0_measureFuse_1.at 21 rfl) ?_
  refine zc_getIE (m := m) (s := 0) (k := (32 * m + 0)) hlm efm0 (TX0_measureFuse_1.at 22 rfl) fl0_65 hH hcls rfl (by decide) (by decide) (fun r94 => ?_)
  refine z_ist_5 (TX0_measureFuse_1.at 23 rfl) (Nat.le_of_ble_eq_true rfl) rfl ?_
  refine z_iconst (TX0_measureFuse_1.at 24 rfl) ?_
  refine z_ist_6 (TX0_measureFuse_1.at 25 rfl) (Nat.le_of_ble_eq_true rfl) rfl ?_
  have hfk := ff_ok (x := x) h6 h8 hx1.1 hx4.1 hx2.1 hx3.1
  have hk6 := hfk 6 (by decide) (by decide)
  have hk8 := hfk 8 (by decide) (by decide)
  refine lp_mf (φ := askF K x) (W1 := brn K cl x) (W3 := tellF 3 0 1 (askF K x) cl 0) (Bx := Bx) (by omega) hlm hcls h16 hNl hN0 q3 q5 q7 n12 hfk (askF_nb x0 hx1.2 hx2.2 hx3.2 hx4.2 p5 p2) x0 x9 (fun o7 o8 f3 g3 h3 hW eg352 xf xg hH hA => ?_) 13 0 cl (Ln x) 0 _ _ _ _ _ (by omega) (by omega) (by omega) (by omega) hsc (by unfold brn; rw [hx4.1]) rfl (Or.inl rfl) egm3 egm7 egm5 egm8 eg356 eg352 efm1 eqx.rf eqx.rf hH hA
  have eg356 := (xg 356 (by decide)).trans eg356
  have ef101 := (xf 101 (by decide)).trans ef101
  have ef354 := (xf 354 (by decide)).trans ef354
  refine sg_mf3 (f0 := f3) (g0 := g3) (by omega) x0 x9 hS hdp hW rfl hx5 hx6 (fun f4 g4 h4 ef354 yf yg hH hA => ?_) ef101 ef354 eqx.rf eqx.rf hH hA
  refine zc_vret (TX0_measureFuse_3.at 12 rfl) rfl hH hA ?_
  exact ⟨⟨(yg 352 (by decide)).trans eg352, ef354, by rw [yg 356 (by decide), eg356]; exact hk6, by rw [yg 356 (by decide), eg356]; exact hk8⟩, (hfE.trans xf (by decide)).trans yf (by decide), (hgE.trans xg (by decide)).trans yg (by decide), rfl⟩

set_option maxHeartbeats 4000000 in
set_option maxRecDepth 100000 in
theorem c_mfN3 {l : Launch} {E : cE} {f : mF} {g j : mA} {Fr : Int → Int} {To : Int → Int} {Ln : Int → Int} {Kd : Int → Int} {Bx : Int → Int} {Φ : Int → Int} {dp : Int} {S : Int} {x : Int} {K : Int → Int} (eg97 : g 97 = Fr) (eg98 : g 98 = To) (eg99 : g 99 = Ln) (eg100 : g 100 = Kd) (eg352 : g 352 = Bx) (eg356 : g 356 = Φ) (ef101 : f 101 = dp) (ef354 : f 354 = S) (hx : zIn x) (x0 : 0 ≤ x) (x9 : x ≤ 9) (h6 : Φ 6 = K 75) (h8 : Φ 8 = K 28) (p5 : 0 ≤ K 75) (p2 : 0 ≤ K 28) (hS : z31 S) (hdp : z31 dp) (hx1 : Kd x = K (49 + x) ∧ 0 ≤ K (49 + x)) (hx2 : Fr x = K (29 + x) ∧ 0 ≤ K (29 + x)) (hx3 : To x = K (39 + x) ∧ 0 ≤ K (39 + x)) (hx4 : Ln x = K (10 + x) ∧ 0 ≤ K (10 + x)) (hx5 : K x = 0 ∨ K x = 1) (hx6 : bt dp x ↔ K x = 1) : CM l E MX0_measureFuse 4 [.ref (E.1 383), .ref (E.1 127), .null, vI x] f g j (PV (fun f' g' j' => (g' 352 = iu Bx x (brn K [] x) ∧ f' 354 = cS S x (ctc K [] x) ∧ (g' 356) 6 = K 75 ∧ (g' 356) 8 = K 28) ∧ eqx [354] f f' ∧ eqx [352, 356, 384] g g' ∧ j' = j)) := by
  refine CM.intro [some (.ref (E.1 383)), some (.ref (E.1 127)), some (.null), some (vI x), none, none, none, none, none] (by decide) (Nat.le_of_ble_eq_true rfl) rfl (fun d hd h0 h hH hA => ?_)
  have hfE : eqx [354] f f := eqx.rf
  have hgE : eqx [352, 356, 384] g g := eqx.rf
  refine z_ald_0 (TX0_measureFuse_0.at 0 rfl) ?_
  refine zc_getA (m := 11) (s := 4) (k := 356) (hH.lv (by decide)) (TX0_measureFuse_0.at 1 rfl) fl0_25 hH rfl rfl (by decide) (by decide) ?_
  refine z_iconst (TX0_measureFuse_0.at 2 rfl) ?_
  refine z_iconst (TX0_measureFuse_0.at 3 rfl) ?_
  refine zcf_iast (k := 356) (N := 31) (hH.lv (by decide)) (by decide) rfl (TX0_measureFuse_0.at 4 rfl) hH hA (by decide) (by omega) (show _ < ((31 : Nat) : Int) by omega) (by omega) (fun h g6 e1 e2 hH hA => ?_)
  have eg97 := (e1 97 (by decide)).trans eg97
  have eg98 := (e1 98 (by decide)).trans eg98
  have eg99 := (e1 99 (by decide)).trans eg99
  have eg100 := (e1 100 (by decide)).trans eg100
  have eg352 := (e1 352 (by decide)).trans eg352
  rw [eg356] at e2; have eg356 := e2
  have hgE := hgE.put e1 (by decide)
  refine z_ald_0 (TX0_measureFuse_0.at 5 rfl) ?_
  refine zc_getA (m := 11) (s := 4) (k := 356) (hH.lv (by decide)) (TX0_measureFuse_0.at 6 rfl) fl0_25 hH rfl rfl (by decide) (by decide) ?_
  refine z_iconst (TX0_measureFuse_0.at 7 rfl) ?_
  refine z_iconst (TX0_measureFuse_0.at 8 rfl) ?_
  refine zcf_iast (k := 356) (N := 31) (hH.lv (by decide)) (by decide) rfl (TX0_measureFuse_0.at 9 rfl) hH hA (by decide) (by omega) (show _ < ((31 : Nat) : Int) by omega) (by omega) (fun h g13 e1 e2 hH hA => ?_)
  have eg97 := (e1 97 (by decide)).trans eg97
  have eg98 := (e1 98 (by decide)).trans eg98
  have eg99 := (e1 99 (by decide)).trans eg99
  have eg100 := (e1 100 (by decide)).trans eg100
  have eg352 := (e1 352 (by decide)).trans eg352
  rw [eg356] at e2; have eg356 := e2
  have hgE := hgE.put e1 (by decide)
  refine z_ald_0 (TX0_measureFuse_0.at 10 rfl) ?_
  refine zc_getA (m := 11) (s := 4) (k := 356) (hH.lv (by decide)) (TX0_measureFuse_0.at 11 rfl) fl0_25 hH rfl rfl (by decide) (by decide) ?_
  refine z_iconst (TX0_measureFuse_0.at 12 rfl) ?_
  refine z_ild_3 (TX0_measureFuse_0.at 13 rfl) ?_
  refine zcf_iast (k := 356) (N := 31) (hH.lv (by decide)) (by decide) rfl (TX0_measureFuse_0.at 14 rfl) hH hA (by decide) (by omega) (show _ < ((31 : Nat) : Int) by omega) (by omega) (fun h g20 e1 e2 hH hA => ?_)
  have eg97 := (e1 97 (by decide)).trans eg97
  have eg98 := (e1 98 (by decide)).trans eg98
  have eg99 := (e1 99 (by decide)).trans eg99
  have eg100 := (e1 100 (by decide)).trans eg100
  have eg352 := (e1 352 (by decide)).trans eg352
  rw [eg356] at e2; have eg356 := e2
  have hgE := hgE.put e1 (by decide)
  refine z_ald_0 (TX0_measureFuse_0.at 15 rfl) ?_
  refine zc_getA (m := 11) (s := 4) (k := 356) (hH.lv (by decide)) (TX0_measureFuse_0.at 16 rfl) fl0_25 hH rfl rfl (by decide) (by decide) ?_
  refine z_iconst (TX0_measureFuse_0.at 17 rfl) ?_
  refine z_ald_1 (TX0_measureFuse_0.at 18 rfl) ?_
  refine zc_getA (m := 3) (s := 4) (k := 100) (hH.lv (by decide)) (TX0_measureFuse_0.at 19 rfl) fl0_53 hH rfl rfl (by decide) (by decide) ?_
  refine z_ild_3 (TX0_measureFuse_0.at 20 rfl) ?_
  refine zcf_iald (k := 100) (N := 10) (hH.lv (by decide)) (by decide) rfl eg100 (TX0_measureFuse_0.at 21 rfl) hH (by decide) (by omega) (show _ < ((10 : Nat) : Int) by omega) (fun r31 => ?_)
  refine zcf_iast (k := 356) (N := 31) (hH.lv (by decide)) (by decide) rfl (TX0_measureFuse_0.at 22 rfl) hH hA (by decide) (by omega) (show _ < ((31 : Nat) : Int) by omega) (by omega) (fun h g32 e1 e2 hH hA => ?_)
  have eg97 := (e1 97 (by decide)).trans eg97
  have eg98 := (e1 98 (by decide)).trans eg98
  have eg99 := (e1 99 (by decide)).trans eg99
  have eg100 := (e1 100 (by decide)).trans eg100
  have eg352 := (e1 352 (by decide)).trans eg352
  rw [eg356] at e2; have eg356 := e2
  have hgE := hgE.put e1 (by decide)
  refine z_ald_0 (TX0_measureFuse_0.at 23 rfl) ?_
  refine zc_getA (m := 11) (s := 4) (k := 356) (hH.lv (by decide)) (TX0_measureFuse_0.at 24 rfl) fl0_25 hH rfl rfl (by decide) (by decide) ?_
  refine z_bipush (by decide) (TX0_measureFuse_0.at 25 rfl) ?_
  refine z_ald_1 (TX0_measureFuse_0.at 26 rfl) ?_
  refine zc_getA (m := 3) (s := 3) (k := 99) (hH.lv (by decide)) (TX0_measureFuse_0.at 27 rfl) fl0_56 hH rfl rfl (by decide) (by decide) ?_
  refine z_ild_3 (TX0_measureFuse_0.at 28 rfl) ?_
  refine zcf_iald (k := 99) (N := 10) (hH.lv (by decide)) (by decide) rfl eg99 (TX0_measureFuse_0.at 29 rfl) hH (by decide) (by omega) (show _ < ((10 : Nat) : Int) by omega) (fun r44 => ?_)
  refine zcf_iast (k := 356) (N := 31) (hH.lv (by decide)) (by decide) rfl (TX0_measureFuse_0.at 30 rfl) hH hA (by decide) (by omega) (show _ < ((31 : Nat) : Int) by omega) (by omega) (fun h g45 e1 e2 hH hA => ?_)
  have eg97 := (e1 97 (by decide)).trans eg97
  have eg98 := (e1 98 (by decide)).trans eg98
  have eg99 := (e1 99 (by decide)).trans eg99
  have eg100 := (e1 100 (by decide)).trans eg100
  have eg352 := (e1 352 (by decide)).trans eg352
  rw [eg356] at e2; have eg356 := e2
  have hgE := hgE.put e1 (by decide)
  refine z_ald_0 (TX0_measureFuse_0.at 31 rfl) ?_
  refine zc_getA (m := 11) (s := 4) (k := 356) (hH.lv (by decide)) (TX0_measureFuse_0.at 32 rfl) fl0_25 hH rfl rfl (by decide) (by decide) ?_
  refine z_iconst (TX0_measureFuse_0.at 33 rfl) ?_
  refine z_ald_1 (TX0_measureFuse_0.at 34 rfl) ?_
  refine zc_getA (m := 3) (s := 1) (k := 97) (hH.lv (by decide)) (TX0_measureFuse_0.at 35 rfl) fl0_59 hH rfl rfl (by decide) (by decide) ?_
  refine z_ild_3 (TX0_measureFuse_0.at 36 rfl) ?_
  refine zcf_iald (k := 97) (N := 10) (hH.lv (by decide)) (by decide) rfl eg97 (TX0_measureFuse_0.at 37 rfl) hH (by decide) (by omega) (show _ < ((10 : Nat) : Int) by omega) (fun r56 => ?_)
  refine zcf_iast (k := 356) (N := 31) (hH.lv (by decide)) (by decide) rfl (TX0_measureFuse_0.at 38 rfl) hH hA (by decide) (by omega) (show _ < ((31 : Nat) : Int) by omega) (by omega) (fun h g57 e1 e2 hH hA => ?_)
  have eg97 := (e1 97 (by decide)).trans eg97
  have eg98 := (e1 98 (by decide)).trans eg98
  have eg99 := (e1 99 (by decide)).trans eg99
  have eg100 := (e1 100 (by decide)).trans eg100
  have eg352 := (e1 352 (by decide)).trans eg352
  rw [eg356] at e2; have eg356 := e2
  have hgE := hgE.put e1 (by decide)
  refine z_ald_0 (TX0_measureFuse_0.at 39 rfl) ?_
  refine zc_getA (m := 11) (s := 4) (k := 356) (hH.lv (by decide)) (TX0_measureFuse_1.at 0 rfl) fl0_25 hH rfl rfl (by decide) (by decide) ?_
  refine z_iconst (TX0_measureFuse_1.at 1 rfl) ?_
  refine z_ald_1 (TX0_measureFuse_1.at 2 rfl) ?_
  refine zc_getA (m := 3) (s := 2) (k := 98) (hH.lv (by decide)) (TX0_measureFuse_1.at 3 rfl) fl0_62 hH rfl rfl (by decide) (by decide) ?_
  refine z_ild_3 (TX0_measureFuse_1.at 4 rfl) ?_
  refine zcf_iald (k := 98) (N := 10) (hH.lv (by decide)) (by decide) rfl eg98 (TX0_measureFuse_1.at 5 rfl) hH (by decide) (by omega) (show _ < ((10 : Nat) : Int) by omega) (fun r68 => ?_)
  refine zcf_iast (k := 356) (N := 31) (hH.lv (by decide)) (by decide) rfl (TX0_measureFuse_1.at 6 rfl) hH hA (by decide) (by omega) (show _ < ((31 : Nat) : Int) by omega) (by omega) (fun h g69 e1 e2 hH hA => ?_)
  have eg97 := (e1 97 (by decide)).trans eg97
  have eg98 := (e1 98 (by decide)).trans eg98
  have eg99 := (e1 99 (by decide)).trans eg99
  have eg100 := (e1 100 (by decide)).trans eg100
  have eg352 := (e1 352 (by decide)).trans eg352
  rw [eg356] at e2; have eg356 := e2
  have hgE := hgE.put e1 (by decide)
  refine z_ald_0 (TX0_measureFuse_1.at 7 rfl) ?_
  refine zc_getA (m := 11) (s := 0) (k := 352) (hH.lv (by decide)) (TX0_measureFuse_1.at 8 rfl) fl0_9 hH rfl rfl (by decide) (by decide) ?_
  refine z_ild_3 (TX0_measureFuse_1.at 9 rfl) ?_
  refine z_ald_1 (TX0_measureFuse_1.at 10 rfl) ?_
  refine zc_getA (m := 3) (s := 3) (k := 99) (hH.lv (by decide)) (TX0_measureFuse_1.at 11 rfl) fl0_56 hH rfl rfl (by decide) (by decide) ?_
  refine z_ild_3 (TX0_measureFuse_1.at 12 rfl) ?_
  refine zcf_iald (k := 99) (N := 10) (hH.lv (by decide)) (by decide) rfl eg99 (TX0_measureFuse_1.at 13 rfl) hH (by decide) (by omega) (show _ < ((10 : Nat) : Int) by omega) (fun r80 => ?_)
  refine zcf_iast (k := 352) (N := 10) (hH.lv (by decide)) (by decide) rfl (TX0_measureFuse_1.at 14 rfl) hH hA (by decide) (by omega) (show _ < ((10 : Nat) : Int) by omega) (by omega) (fun h g81 e1 e2 hH hA => ?_)
  have eg97 := (e1 97 (by decide)).trans eg97
  have eg98 := (e1 98 (by decide)).trans eg98
  have eg99 := (e1 99 (by decide)).trans eg99
  have eg100 := (e1 100 (by decide)).trans eg100
  rw [eg352] at e2; have eg352 := e2
  have eg356 := (e1 356 (by decide)).trans eg356
  have hgE := hgE.put e1 (by decide)
  refine z_iconst (TX0_measureFuse_1.at 15 rfl) ?_
  refine z_ist_4 (TX0_measureFuse_1.at 16 rfl) (Nat.le_of_ble_eq_true rfl) rfl ?_
  refine z_nld_2 (TX0_measureFuse_1.at 17 rfl) ?_
  refine z_ifnnN (TX0_measureFuse_1.at 18 rfl) ?_
  refine z_iconst (TX0_measureFuse_1.at 19 rfl) ?_
  refine z_goto (tgt := 97) (TX0_measureFuse_1.at 20 rfl) rfl ?_
  refine z_ist_5 (TX0_measureFuse_1.at 23 rfl) (Nat.le_of_ble_eq_true rfl) rfl ?_
  refine z_iconst (TX0_measureFuse_1.at 24 rfl) ?_
  refine z_ist_6 (TX0_measureFuse_1.at 25 rfl) (Nat.le_of_ble_eq_true rfl) rfl ?_
  refine z_ild_6 (TX0_measureFuse_1.at 26 rfl) ?_
  refine z_ild_5 (TX0_measureFuse_1.at 27 rfl) ?_
  refine z_icmp_ge (tgt := 183) (TX0_measureFuse_1.at 28 rfl) rfl (by omega) (by omega) (fun c1 => ?_) (fun c1 => absurd c1 (by omega))
  have hfk := ff_ok (x := x) h6 h8 hx1.1 hx4.1 hx2.1 hx3.1
  have hk6 := hfk 6 (by decide) (by decide)
  have hk8 := hfk 8 (by decide) (by decide)
  refine sg_mf3 (K := K) (cl := []) (f0 := f) (by omega) x0 x9 hS hdp (Or.inl rfl) rfl hx5 hx6 (fun f4 g4 h4 ef354 yf yg hH hA => ?_) ef101 ef354 eqx.rf eqx.rf hH hA
  refine zc_vret (TX0_measureFuse_3.at 12 rfl) rfl hH hA ?_
  exact ⟨⟨(yg 352 (by decide)).trans (eg352.trans (by rw [hx4.1]; rfl)), ef354, by rw [yg 356 (by decide), eg356]; exact hk6, by rw [yg 356 (by decide), eg356]; exact hk8⟩, hfE.trans yf (by decide), hgE.trans yg (by decide), rfl⟩

