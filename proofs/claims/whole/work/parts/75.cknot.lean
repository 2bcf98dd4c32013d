/-! ===== the class: knots and fuses are measured ===== -/
theorem fk_ok {Φ K : Int → Int} {kn e : Int} (h6 : Φ 6 = K 75) (h8 : Φ 8 = K 28) (he : e = ends K kn) : ∀ t : Int, 0 ≤ t → t < 9 → iu (iu (iu (iu (iu (iu (iu Φ 0 (-1)) 1 (-1)) 7 (-1)) 2 (-1)) 3 (-1)) 4 kn) 5 e t = askN K kn t := by
  intro t t0 t9
  subst he
  rcases (show t = 0 ∨ t = 1 ∨ t = 2 ∨ t = 3 ∨ t = 4 ∨ t = 5 ∨ t = 6 ∨ t = 7 ∨ t = 8 by omega) with rfl | rfl | rfl | rfl | rfl | rfl | rfl | rfl | rfl <;> simp [iu, askN, h6, h8]
theorem ff_ok {Φ K : Int → Int} {x a b c e : Int} (h6 : Φ 6 = K 75) (h8 : Φ 8 = K 28) (h1 : a = K (49 + x)) (h7 : b = K (10 + x)) (h2 : c = K (29 + x)) (h3 : e = K (39 + x)) : ∀ t : Int, 0 ≤ t → t < 9 → iu (iu (iu (iu (iu (iu (iu Φ 4 (-1)) 5 (-1)) 0 x) 1 a) 7 b) 2 c) 3 e t = askF K x t := by
  intro t t0 t9
  subst h1 h7 h2 h3
  rcases (show t = 0 ∨ t = 1 ∨ t = 2 ∨ t = 3 ∨ t = 4 ∨ t = 5 ∨ t = 6 ∨ t = 7 ∨ t = 8 by omega) with rfl | rfl | rfl | rfl | rfl | rfl | rfl | rfl | rfl <;> simp [iu, askF, h6, h8]
theorem endz_in {K : Int → Int} {k : Int} (h : 0 ≤ K 76) : 0 ≤ ends K k ∧ ends K k ≤ K 76 := sm_in h (fun t _ _ => by have := b2i_01 (K (29 + t) = k ∨ K (39 + t) = k); omega)
theorem askN_nb {K : Int → Int} {k : Int} (h : 0 ≤ K 76) (h5 : 0 ≤ K 75) (h2 : 0 ≤ K 28) (hk : 0 ≤ k) : ∀ t : Int, askN K k t ≠ -2000000000 := by
  intro t
  have := endz_in (k := k) h
  unfold askN
  repeat' split
  all_goals omega
theorem askF_nb {K : Int → Int} {x : Int} (x0 : 0 ≤ x) (h1 : 0 ≤ K (49 + x)) (h2 : 0 ≤ K (29 + x)) (h3 : 0 ≤ K (39 + x)) (h4 : 0 ≤ K (10 + x)) (h5 : 0 ≤ K 75) (h6 : 0 ≤ K 28) : ∀ t : Int, askF K x t ≠ -2000000000 := by
  intro t
  unfold askF
  repeat' split
  all_goals omega
theorem ends_eq {Fr To K : Int → Int} {n9 kn : Int} (hn : n9 = K 76) (hft : ∀ i : Int, 0 ≤ i → i < n9 → Fr i = K (29 + i) ∧ To i = K (39 + i)) : sm (fun q => b2i (Fr q = kn ∨ To q = kn)) n9 = ends K kn := by
  unfold ends
  rw [← hn]
  exact sm_cg (fun t t0 t1 => by rw [(hft t t0 t1).1, (hft t t0 t1).2])
set_option maxHeartbeats 4000000 in
set_option maxRecDepth 100000 in
theorem c_mk1 {l : Launch} {E : cE} {f : mF} {g j : mA} {Fr : Int → Int} {To : Int → Int} {Hx : Int → Int} {Vb : Int → Int} {Te : Int → Int} {On : Int → Int} {C : Int → Int} {Φ : Int → Int} {n9 : Int} {N : Int} {n4 : Int} {kn : Int} {m : Nat} {K : Int → Int} {cl : List Cla} (eg33 : g 33 = Fr) (eg34 : g 34 = To) (eg353 : g 353 = Hx) (egm3 : g (32 * m + 3) = Vb) (egm7 : g (32 * m + 7) = Te) (egm5 : g (32 * m + 5) = On) (egm8 : g (32 * m + 8) = C) (eg356 : g 356 = Φ) (ef32 : f 32 = n9) (efm1 : f (32 * m + 1) = N) (efm0 : f (32 * m + 0) = n4) (hkn : zIn kn) (hlm : E.2.1 m = true) (hcls : cCls m = 4) (h16 : 13 ≤ m) (hNl : N ≤ E.2.2 (32 * m + 8)) (hN0 : N ≤ 400) (q3 : n4 ≤ E.2.2 (32 * m + 3)) (q5 : n4 ≤ E.2.2 (32 * m + 5)) (q7 : n4 ≤ E.2.2 (32 * m + 7)) (n40 : 0 ≤ n4) (n12 : n4 ≤ 12) (hsc : ScL Vb On Te C N 0 cl) (hln : n4 = (cl.length : Int)) (k0 : 0 ≤ kn) (k7 : kn ≤ 7) (n0 : 0 ≤ n9) (n1 : n9 ≤ 10) (hn : n9 = K 76) (h6 : Φ 6 = K 75) (h8 : Φ 8 = K 28) (p5 : 0 ≤ K 75) (p2 : 0 ≤ K 28) (hft : ∀ i : Int, 0 ≤ i → i < n9 → Fr i = K (29 + i) ∧ To i = K (39 + i)) : CM l E MX0_measureKnot 4 [.ref (E.1 383), .ref (E.1 63), .ref (E.1 (32 * m + 31)), vI kn] f g j (PV (fun f' g' j' => (g' 353 = iu Hx kn (hld K cl kn) ∧ (g' 356) 6 = K 75 ∧ (g' 356) 8 = K 28) ∧ eqx [] f f' ∧ eqx [353, 356, 384] g g' ∧ j' = j)) := by
  refine CM.intro [some (.ref (E.1 383)), some (.ref (E.1 63)), some (.ref (E.1 (32 * m + 31))), some (vI kn), none, none, none] (by decide) (Nat.le_of_ble_eq_true rfl) rfl (fun d hd h0 h hH hA => ?_)
  have hfE : eqx [] f f := eqx.rf
  have hgE : eqx [353, 356, 384] g g := eqx.rf
  refine z_ald_0 (TX0_measureKnot_0.at 0 rfl) ?_
  refine zc_getA (m := 11) (s := 4) (k := 356) (hH.lv (by decide)) (TX0_measureKnot_0.at 1 rfl) fl0_25 hH rfl rfl (by decide) (by decide) ?_
  refine z_iconst (TX0_measureKnot_0.at 2 rfl) ?_
  refine z_iconst (TX0_measureKnot_0.at 3 rfl) ?_
  refine zcf_iast (k := 356) (N := 31) (hH.lv (by decide)) (by decide) rfl (TX0_measureKnot_0.at 4 rfl) hH hA (by decide) (by omega) (show _ < ((31 : Nat) : Int) by omega) (by omega) (fun h g6 e1 e2 hH hA => ?_)
  have eg33 := (e1 33 (by decide)).trans eg33
  have eg34 := (e1 34 (by decide)).trans eg34
  have eg353 := (e1 353 (by decide)).trans eg353
  have egm3 := (e1 (32 * m + 3) (by omega)).trans egm3
  have egm7 := (e1 (32 * m + 7) (by omega)).trans egm7
  have egm5 := (e1 (32 * m + 5) (by omega)).trans egm5
  have egm8 := (e1 (32 * m + 8) (by omega)).trans egm8
  rw [eg356] at e2; have eg356 := e2
  have hgE := hgE.put e1 (by decide)
  refine z_ald_0 (TX0_measureKnot_0.at 5 rfl) ?_
  refine zc_getA (m := 11) (s := 4) (k := 356) (hH.lv (by decide)) (TX0_measureKnot_0.at 6 rfl) fl0_25 hH rfl rfl (by decide) (by decide) ?_
  refine z_iconst (TX0_measureKnot_0.at 7 rfl) ?_
  refine z_iconst (TX0_measureKnot_0.at 8 rfl) ?_
  refine zcf_iast (k := 356) (N := 31) (hH.lv (by decide)) (by decide) rfl (TX0_measureKnot_0.at 9 rfl) hH hA (by decide) (by omega) (show _ < ((31 : Nat) : Int) by omega) (by omega) (fun h g13 e1 e2 hH hA => ?_)
  have eg33 := (e1 33 (by decide)).trans eg33
  have eg34 := (e1 34 (by decide)).trans eg34
  have eg353 := (e1 353 (by decide)).trans eg353
  have egm3 := (e1 (32 * m + 3) (by omega)).trans egm3
  have egm7 := (e1 (32 * m + 7) (by omega)).trans egm7
  have egm5 := (e1 (32 * m + 5) (by omega)).trans egm5
  have egm8 := (e1 (32 * m + 8) (by omega)).trans egm8
  rw [eg356] at e2; have eg356 := e2
  have hgE := hgE.put e1 (by decide)
  refine z_ald_0 (TX0_measureKnot_0.at 10 rfl) ?_
  refine zc_getA (m := 11) (s := 4) (k := 356) (hH.lv (by decide)) (TX0_measureKnot_0.at 11 rfl) fl0_25 hH rfl rfl (by decide) (by decide) ?_
  refine z_bipush (by decide) (TX0_measureKnot_0.at 12 rfl) ?_
  refine z_iconst (TX0_measureKnot_0.at 13 rfl) ?_
  refine zcf_iast (k := 356) (N := 31) (hH.lv (by decide)) (by decide) rfl (TX0_measureKnot_0.at 14 rfl) hH hA (by decide) (by omega) (show _ < ((31 : Nat) : Int) by omega) (by omega) (fun h g21 e1 e2 hH hA => ?_)
  have eg33 := (e1 33 (by decide)).trans eg33
  have eg34 := (e1 34 (by decide)).trans eg34
  have eg353 := (e1 353 (by decide)).trans eg353
  have egm3 := (e1 (32 * m + 3) (by omega)).trans egm3
  have egm7 := (e1 (32 * m + 7) (by omega)).trans egm7
  have egm5 := (e1 (32 * m + 5) (by omega)).trans egm5
  have egm8 := (e1 (32 * m + 8) (by omega)).trans egm8
  rw [eg356] at e2; have eg356 := e2
  have hgE := hgE.put e1 (by decide)
  refine z_ald_0 (TX0_measureKnot_0.at 15 rfl) ?_
  refine zc_getA (m := 11) (s := 4) (k := 356) (hH.lv (by decide)) (TX0_measureKnot_0.at 16 rfl) fl0_25 hH rfl rfl (by decide) (by decide) ?_
  refine z_iconst (TX0_measureKnot_0.at 17 rfl) ?_
  refine z_iconst (TX0_measureKnot_0.at 18 rfl) ?_
  refine zcf_iast (k := 356) (N := 31) (hH.lv (by decide)) (by decide) rfl (TX0_measureKnot_0.at 19 rfl) hH hA (by decide) (by omega) (show _ < ((31 : Nat) : Int) by omega) (by omega) (fun h g28 e1 e2 hH hA => ?_)
  have eg33 := (e1 33 (by decide)).trans eg33
  have eg34 := (e1 34 (by decide)).trans eg34
  have eg353 := (e1 353 (by decide)).trans eg353
  have egm3 := (e1 (32 * m + 3) (by omega)).trans egm3
  have egm7 := (e1 (32 * m + 7) (by omega)).trans egm7
  have egm5 := (e1 (32 * m + 5) (by omega)).trans egm5
  have egm8 := (e1 (32 * m + 8) (by omega)).trans egm8
  rw [eg356] at e2; have eg356 := e2
  have hgE := hgE.put e1 (by decide)
  refine z_ald_0 (TX0_measureKnot_0.at 20 rfl) ?_
  refine zc_getA (m := 11) (s := 4) (k := 356) (hH.lv (by decide)) (TX0_measureKnot_0.at 21 rfl) fl0_25 hH rfl rfl (by decide) (by decide) ?_
  refine z_iconst (TX0_measureKnot_0.at 22 rfl) ?_
  refine z_iconst (TX0_measureKnot_0.at 23 rfl) ?_
  refine zcf_iast (k := 356) (N := 31) (hH.lv (by decide)) (by decide) rfl (TX0_measureKnot_0.at 24 rfl) hH hA (by decide) (by omega) (show _ < ((31 : Nat) : Int) by omega) (by omega) (fun h g35 e1 e2 hH hA => ?_)
  have eg33 := (e1 33 (by decide)).trans eg33
  have eg34 := (e1 34 (by decide)).trans eg34
  have eg353 := (e1 353 (by decide)).trans eg353
  have egm3 := (e1 (32 * m + 3) (by omega)).trans egm3
  have egm7 := (e1 (32 * m + 7) (by omega)).trans egm7
  have egm5 := (e1 (32 * m + 5) (by omega)).trans egm5
  have egm8 := (e1 (32 * m + 8) (by omega)).trans egm8
  rw [eg356] at e2; have eg356 := e2
  have hgE := hgE.put e1 (by decide)
  refine z_ald_0 (TX0_measureKnot_0.at 25 rfl) ?_
  refine zc_getA (m := 11) (s := 4) (k := 356) (hH.lv (by decide)) (TX0_measureKnot_0.at 26 rfl) fl0_25 hH rfl rfl (by decide) (by decide) ?_
  refine z_iconst (TX0_measureKnot_0.at 27 rfl) ?_
  refine z_ild_3 (TX0_measureKnot_0.at 28 rfl) ?_
  refine zcf_iast (k := 356) (N := 31) (hH.lv (by decide)) (by decide) rfl (TX0_measureKnot_0.at 29 rfl) hH hA (by decide) (by omega) (show _ < ((31 : Nat) : Int) by omega) (by omega) (fun h g42 e1 e2 hH hA => ?_)
  have eg33 := (e1 33 (by decide)).trans eg33
  have eg34 := (e1 34 (by decide)).trans eg34
  have eg353 := (e1 353 (by decide)).trans eg353
  have egm3 := (e1 (32 * m + 3) (by omega)).trans egm3
  have egm7 := (e1 (32 * m + 7) (by omega)).trans egm7
  have egm5 := (e1 (32 * m + 5) (by omega)).trans egm5
  have egm8 := (e1 (32 * m + 8) (by omega)).trans egm8
  rw [eg356] at e2; have eg356 := e2
  have hgE := hgE.put e1 (by decide)
  refine z_ald_0 (TX0_measureKnot_0.at 30 rfl) ?_
  refine zc_getA (m := 11) (s := 4) (k := 356) (hH.lv (by decide)) (TX0_measureKnot_0.at 31 rfl) fl0_25 hH rfl rfl (by decide) (by decide) ?_
  refine z_iconst (TX0_measureKnot_0.at 32 rfl) ?_
  refine z_ald_1 (TX0_measureKnot_0.at 33 rfl) ?_
  refine z_ild_3 (TX0_measureKnot_0.at 34 rfl) ?_
  refine zc_callI1 (m := 1) (c_tiedTo1 eg33 eg34 ef32 (by omega) (by omega) (by omega)) (hH.lv (by decide)) (TX0_measureKnot_0.at 35 rfl) c0_93 rfl rfl hH hA (by omega) (Nat.le_of_ble_eq_true rfl) (fun x50 f50 g50 j50 h r50 q50 hH hA => ?_)
  obtain ⟨q50, xf, xg, xj⟩ := q50
  rw [xj] at hH
  have ef32 := (xf 32 (by decide)).trans ef32
  have efm1 := (xf (32 * m + 1) (by simp only [List.mem_cons, List.not_mem_nil, or_false, not_or, not_false_eq_true] <;> omega)).trans efm1
  have efm0 := (xf (32 * m + 0) (by simp only [List.mem_cons, List.not_mem_nil, or_false, not_or, not_false_eq_true] <;> omega)).trans efm0
  have hfE := hfE.trans xf (by decide)
  have eg33 := (xg 33 (by decide)).trans eg33
  have eg34 := (xg 34 (by decide)).trans eg34
  have eg353 := (xg 353 (by decide)).trans eg353
  have egm3 := (xg (32 * m + 3) (by simp only [List.mem_cons, List.not_mem_nil, or_false, not_or, not_false_eq_true] <;> omega)).trans egm3
  have egm7 := (xg (32 * m + 7) (by simp only [List.mem_cons, List.not_mem_nil, or_false, not_or, not_false_eq_true] <;> omega)).trans egm7
  have egm5 := (xg (32 * m + 5) (by simp only [List.mem_cons, List.not_mem_nil, or_false, not_or, not_false_eq_true] <;> omega)).trans egm5
  have egm8 := (xg (32 * m + 8) (by simp only [List.mem_cons, List.not_mem_nil, or_false, not_or, not_false_eq_true] <;> omega)).trans egm8
  have eg356 := (xg 356 (by decide)).trans eg356
  have hgE := hgE.trans xg (by decide)
  have qL := q50
  obtain rfl := qL
  rw [ends_eq hn hft]
  have hen := endz_in (K := K) (k := kn) (by omega)
  refine zcf_iast (k := 356) (N := 31) (hH.lv (by decide)) (by decide) rfl (TX0_measureKnot_0.at 36 rfl) hH hA (by decide) (by omega) (show _ < ((31 : Nat) : Int) by omega) (by omega) (fun h g53 e1 e2 hH hA => ?_)
  have eg33 := (e1 33 (by decide)).trans eg33
  have eg34 := (e1 34 (by decide)).trans eg34
  have eg353 := (e1 353 (by decide)).trans eg353
  have egm3 := (e1 (32 * m + 3) (by omega)).trans egm3
  have egm7 := (e1 (32 * m + 7) (by omega)).trans egm7
  have egm5 := (e1 (32 * m + 5) (by omega)).trans egm5
  have egm8 := (e1 (32 * m + 8) (by omega)).trans egm8
  rw [eg356] at e2; have eg356 := e2
  have hgE := hgE.put e1 (by decide)
  refine z_ald_0 (TX0_measureKnot_0.at 37 rfl) ?_
  refine zc_getA (m := 11) (s := 1) (k := 353) (hH.lv (by decide)) (TX0_measureKnot_0.at 38 rfl) fl0_15 hH rfl rfl (by decide) (by decide) ?_
  refine z_ild_3 (TX0_measureKnot_0.at 39 rfl) ?_
  refine z_iconst (TX0_measureKnot_1.at 0 rfl) ?_
  refine zcf_iast (k := 353) (N := 8) (hH.lv (by decide)) (by decide) rfl (TX0_measureKnot_1.at 1 rfl) hH hA (by decide) (by omega) (show _ < ((8 : Nat) : Int) by omega) (by omega) (fun h g60 e1 e2 hH hA => ?_)
  have eg33 := (e1 33 (by decide)).trans eg33
  have eg34 := (e1 34 (by decide)).trans eg34
  rw [eg353] at e2; have eg353 := e2
  have egm3 := (e1 (32 * m + 3) (by omega)).trans egm3
  have egm7 := (e1 (32 * m + 7) (by omega)).trans egm7
  have egm5 := (e1 (32 * m + 5) (by omega)).trans egm5
  have egm8 := (e1 (32 * m + 8) (by omega)).trans egm8
  have eg356 := (e1 356 (by decide)).trans eg356
  have hgE := hgE.put e1 (by decide)
  refine z_ald_2 (TX0_measureKnot_1.at 2 rfl) ?_
  refine z_ifnn (tgt := 69) (TX0_measureKnot_1.at 3 rfl) rfl ?_
  refine z_ald_2 (TX0_measureKnot_1.at 6 rfl) ?_
  refine zc_getIE (m := m) (s := 0) (k := (32 * m + 0)) hlm efm0 (TX0_measureKnot_1.at 7 rfl) fl0_65 hH hcls rfl (by decide) (by decide) (fun r70 => ?_)
  refine z_ist_4 (TX0_measureKnot_1.at 8 rfl) (Nat.le_of_ble_eq_true rfl) rfl ?_
  refine z_iconst (TX0_measureKnot_1.at 9 rfl) ?_
  refine z_ist_5 (TX0_measureKnot_1.at 10 rfl) (Nat.le_of_ble_eq_true rfl) rfl ?_
  have hfk := fk_ok (kn := kn) h6 h8 (rfl : ends K kn = ends K kn)
  have hk6 := hfk 6 (by decide) (by decide)
  have hk8 := hfk 8 (by decide) (by decide)
  refine lp_mk (φ := askN K kn) (W := hld K cl kn) (Hx := Hx) (by omega) hlm hcls h16 hNl hN0 q3 q5 q7 n12 hfk (askN_nb (by omega) p5 p2 k0) k0 k7 (fun o6 f3 g3 h3 eg353 xf xg hH hA => ?_) 13 0 cl 0 _ _ _ _ (by omega) (by omega) (by omega) (by omega) hsc rfl egm3 egm7 egm5 egm8 eg356 eg353 efm1 eqx.rf eqx.rf hH hA
  have eg356 := (xg 356 (by decide)).trans eg356
  refine zc_vret (TX0_measureKnot_2.at 1 rfl) rfl hH hA ?_
  exact ⟨⟨eg353, by rw [eg356]; exact hk6, by rw [eg356]; exact hk8⟩, hfE.trans xf (by decide), hgE.trans xg (by decide), rfl⟩

set_option maxHeartbeats 4000000 in
set_option maxRecDepth 100000 in
theorem c_mkN1 {l : Launch} {E : cE} {f : mF} {g j : mA} {Fr : Int → Int} {To : Int → Int} {Hx : Int → Int} {Φ : Int → Int} {n9 : Int} {kn : Int} {K : Int → Int} (eg33 : g 33 = Fr) (eg34 : g 34 = To) (eg353 : g 353 = Hx) (eg356 : g 356 = Φ) (ef32 : f 32 = n9) (hkn : zIn kn) (k0 : 0 ≤ kn) (k7 : kn ≤ 7) (n0 : 0 ≤ n9) (n1 : n9 ≤ 10) (hn : n9 = K 76) (h6 : Φ 6 = K 75) (h8 : Φ 8 = K 28) (p5 : 0 ≤ K 75) (p2 : 0 ≤ K 28) (hft : ∀ i : Int, 0 ≤ i → i < n9 → Fr i = K (29 + i) ∧ To i = K (39 + i)) : CM l E MX0_measureKnot 4 [.ref (E.1 383), .ref (E.1 63), .null, vI kn] f g j (PV (fun f' g' j' => (g' 353 = iu Hx kn (hld K [] kn) ∧ (g' 356) 6 = K 75 ∧ (g' 356) 8 = K 28) ∧ eqx [] f f' ∧ eqx [353, 356, 384] g g' ∧ j' = j)) := by
  refine CM.intro [some (.ref (E.1 383)), some (.ref (E.1 63)), some (.null), some (vI kn), none, none, none] (by decide) (Nat.le_of_ble_eq_true rfl) rfl (fun d hd h0 h hH hA => ?_)
  have hfE : eqx [] f f := eqx.rf
  have hgE : eqx [353, 356, 384] g g := eqx.rf
  refine z_ald_0 (TX0_measureKnot_0.at 0 rfl) ?_
  refine zc_getA (m := 11) (s := 4) (k := 356) (hH.lv (by decide)) (TX0_measureKnot_0.at 1 rfl) fl0_25 hH rfl rfl (by decide) (by decide) ?_
  refine z_iconst (TX0_measureKnot_0.at 2 rfl) ?_
  refine z_iconst (TX0_measureKnot_0.at 3 rfl) ?_
  refine zcf_iast (k := 356) (N := 31) (hH.lv (by decide)) (by decide) rfl (TX0_measureKnot_0.at 4 rfl) hH hA (by decide) (by omega) (show _ < ((31 : Nat) : Int) by omega) (by omega) (fun h g6 e1 e2 hH hA => ?_)
  have eg33 := (e1 33 (by decide)).trans eg33
  have eg34 := (e1 34 (by decide)).trans eg34
  have eg353 := (e1 353 (by decide)).trans eg353
  rw [eg356] at e2; have eg356 := e2
  have hgE := hgE.put e1 (by decide)
  refine z_ald_0 (TX0_measureKnot_0.at 5 rfl) ?_
  refine zc_getA (m := 11) (s := 4) (k := 356) (hH.lv (by decide)) (TX0_measureKnot_0.at 6 rfl) fl0_25 hH rfl rfl (by decide) (by decide) ?_
  refine z_iconst (TX0_measureKnot_0.at 7 rfl) ?_
  refine z_iconst (TX0_measureKnot_0.at 8 rfl) ?_
  refine zcf_iast (k := 356) (N := 31) (hH.lv (by decide)) (by decide) rfl (TX0_measureKnot_0.at 9 rfl) hH hA (by decide) (by omega) (show _ < ((31 : Nat) : Int) by omega) (by omega) (fun h g13 e1 e2 hH hA => ?_)
  have eg33 := (e1 33 (by decide)).trans eg33
  have eg34 := (e1 34 (by decide)).trans eg34
  have eg353 := (e1 353 (by decide)).trans eg353
  rw [eg356] at e2; have eg356 := e2
  have hgE := hgE.put e1 (by decide)
  refine z_ald_0 (TX0_measureKnot_0.at 10 rfl) ?_
  refine zc_getA (m := 11) (s := 4) (k := 356) (hH.lv (by decide)) (TX0_measureKnot_0.at 11 rfl) fl0_25 hH rfl rfl (by decide) (by decide) ?_
  refine z_bipush (by decide) (TX0_measureKnot_0.at 12 rfl) ?_
  refine z_iconst (TX0_measureKnot_0.at 13 rfl) ?_
  refine zcf_iast (k := 356) (N := 31) (hH.lv (by decide)) (by decide) rfl (TX0_measureKnot_0.at 14 rfl) hH hA (by decide) (by omega) (show _ < ((31 : Nat) : Int) by omega) (by omega) (fun h g21 e1 e2 hH hA => ?_)
  have eg33 := (e1 33 (by decide)).trans eg33
  have eg34 := (e1 34 (by decide)).trans eg34
  have eg353 := (e1 353 (by decide)).trans eg353
  rw [eg356] at e2; have eg356 := e2
  have hgE := hgE.put e1 (by decide)
  refine z_ald_0 (TX0_measureKnot_0.at 15 rfl) ?_
  refine zc_getA (m := 11) (s := 4) (k := 356) (hH.lv (by decide)) (TX0_measureKnot_0.at 16 rfl) fl0_25 hH rfl rfl (by decide) (by decide) ?_
  refine z_iconst (TX0_measureKnot_0.at 17 rfl) ?_
  refine z_iconst (TX0_measureKnot_0.at 18 rfl) ?_
  refine zcf_iast (k := 356) (N := 31) (hH.lv (by decide)) (by decide) rfl (TX0_measureKnot_0.at 19 rfl) hH hA (by decide) (by omega) (show _ < ((31 : Nat) : Int) by omega) (by omega) (fun h g28 e1 e2 hH hA => ?_)
  have eg33 := (e1 33 (by decide)).trans eg33
  have eg34 := (e1 34 (by decide)).trans eg34
  have eg353 := (e1 353 (by decide)).trans eg353
  rw [eg356] at e2; have eg356 := e2
  have hgE := hgE.put e1 (by decide)
  refine z_ald_0 (TX0_measureKnot_0.at 20 rfl) ?_
  refine zc_getA (m := 11) (s := 4) (k := 356) (hH.lv (by decide)) (TX0_measureKnot_0.at 21 rfl) fl0_25 hH rfl rfl (by decide) (by decide) ?_
  refine z_iconst (TX0_measureKnot_0.at 22 rfl) ?_
  refine z_iconst (TX0_measureKnot_0.at 23 rfl) ?_
  refine zcf_iast (k := 356) (N := 31) (hH.lv (by decide)) (by decide) rfl (TX0_measureKnot_0.at 24 rfl) hH hA (by decide) (by omega) (show _ < ((31 : Nat) : Int) by omega) (by omega) (fun h g35 e1 e2 hH hA => ?_)
  have eg33 := (e1 33 (by decide)).trans eg33
  have eg34 := (e1 34 (by decide)).trans eg34
  have eg353 := (e1 353 (by decide)).trans eg353
  rw [eg356] at e2; have eg356 := e2
  have hgE := hgE.put e1 (by decide)
  refine z_ald_0 (TX0_measureKnot_0.at 25 rfl) ?_
  refine zc_getA (m := 11) (s := 4) (k := 356) (hH.lv (by decide)) (TX0_measureKnot_0.at 26 rfl) fl0_25 hH rfl rfl (by decide) (by decide) ?_
  refine z_iconst (TX0_measureKnot_0.at 27 rfl) ?_
  refine z_ild_3 (TX0_measureKnot_0.at 28 rfl) ?_
  refine zcf_iast (k := 356) (N := 31) (hH.lv (by decide)) (by decide) rfl (TX0_measureKnot_0.at 29 rfl) hH hA (by decide) (by omega) (show _ < ((31 : Nat) : Int) by omega) (by omega) (fun h g42 e1 e2 hH hA => ?_)
  have eg33 := (e1 33 (by decide)).trans eg33
  have eg34 := (e1 34 (by decide)).trans eg34
  have eg353 := (e1 353 (by decide)).trans eg353
  rw [eg356] at e2; have eg356 := e2
  have hgE := hgE.put e1 (by decide)
  refine z_ald_0 (TX0_measureKnot_0.at 30 rfl) ?_
  refine zc_getA (m := 11) (s := 4) (k := 356) (hH.lv (by decide)) (TX0_measureKnot_0.at 31 rfl) fl0_25 hH rfl rfl (by decide) (by decide) ?_
  refine z_iconst (TX0_measureKnot_0.at 32 rfl) ?_
  refine z_ald_1 (TX0_measureKnot_0.at 33 rfl) ?_
  refine z_ild_3 (TX0_measureKnot_0.at 34 rfl) ?_
  refine zc_callI1 (m := 1) (c_tiedTo1 eg33 eg34 ef32 (by omega) (by omega) (by omega)) (hH.lv (by decide)) (TX0_measureKnot_0.at 35 rfl) c0_93 rfl rfl hH hA (by omega) (Nat.le_of_ble_eq_true rfl) (fun x50 f50 g50 j50 h r50 q50 hH hA => ?_)
  obtain ⟨q50, xf, xg, xj⟩ := q50
  rw [xj] at hH
  have ef32 := (xf 32 (by decide)).trans ef32
  have hfE := hfE.trans xf (by decide)
  have eg33 := (xg 33 (by decide)).trans eg33
  have eg34 := (xg 34 (by decide)).trans eg34
  have eg353 := (xg 353 (by decide)).trans eg353
  have eg356 := (xg 356 (by decide)).trans eg356
  have hgE := hgE.trans xg (by decide)
  have qL := q50
  obtain rfl := qL
  rw [ends_eq hn hft]
  have hen := endz_in (K := K) (k := kn) (by omega)
  refine zcf_iast (k := 356) (N := 31) (hH.lv (by decide)) (by decide) rfl (TX0_measureKnot_0.at 36 rfl) hH hA (by decide) (by omega) (show _ < ((31 : Nat) : Int) by omega) (by omega) (fun h g53 e1 e2 hH hA => ?_)
  have eg33 := (e1 33 (by decide)).trans eg33
  have eg34 := (e1 34 (by decide)).trans eg34
  have eg353 := (e1 353 (by decide)).trans eg353
  rw [eg356] at e2; have eg356 := e2
  have hgE := hgE.put e1 (by decide)
  refine z_ald_0 (TX0_measureKnot_0.at 37 rfl) ?_
  refine zc_getA (m := 11) (s := 1) (k := 353) (hH.lv (by decide)) (TX0_measureKnot_0.at 38 rfl) fl0_15 hH rfl rfl (by decide) (by decide) ?_
  refine z_ild_3 (TX0_measureKnot_0.at 39 rfl) ?_
  refine z_iconst (TX0_measureKnot_1.at 0 rfl) ?_
  refine zcf_iast (k := 353) (N := 8) (hH.lv (by decide)) (by decide) rfl (TX0_measureKnot_1.at 1 rfl) hH hA (by decide) (by omega) (show _ < ((8 : Nat) : Int) by omega) (by omega) (fun h g60 e1 e2 hH hA => ?_)
  have eg33 := (e1 33 (by decide)).trans eg33
  have eg34 := (e1 34 (by decide)).trans eg34
  rw [eg353] at e2; have eg353 := e2
  have eg356 := (e1 356 (by decide)).trans eg356
  have hgE := hgE.put e1 (by decide)
  refine z_nld_2 (TX0_measureKnot_1.at 2 rfl) ?_
  refine z_ifnnN (TX0_measureKnot_1.at 3 rfl) ?_
  refine z_iconst (TX0_measureKnot_1.at 4 rfl) ?_
  refine z_goto (tgt := 73) (TX0_measureKnot_1.at 5 rfl) rfl ?_
  refine z_ist_4 (TX0_measureKnot_1.at 8 rfl) (Nat.le_of_ble_eq_true rfl) rfl ?_
  refine z_iconst (TX0_measureKnot_1.at 9 rfl) ?_
  refine z_ist_5 (TX0_measureKnot_1.at 10 rfl) (Nat.le_of_ble_eq_true rfl) rfl ?_
  refine z_ild_5 (TX0_measureKnot_1.at 11 rfl) ?_
  refine z_ild_4 (TX0_measureKnot_1.at 12 rfl) ?_
  refine z_icmp_ge (tgt := 140) (TX0_measureKnot_1.at 13 rfl) rfl (by omega) (by omega) (fun c1 => ?_) (fun c1 => absurd c1 (by omega))
  have hfk := fk_ok (kn := kn) h6 h8 (rfl : ends K kn = ends K kn)
  have hk6 := hfk 6 (by decide) (by decide)
  have hk8 := hfk 8 (by decide) (by decide)
  refine zc_vret (TX0_measureKnot_2.at 1 rfl) rfl hH hA ?_
  exact ⟨⟨eg353, by rw [eg356]; exact hk6, by rw [eg356]; exact hk8⟩, hfE, hgE, rfl⟩

set_option maxHeartbeats 4000000 in
set_option maxRecDepth 100000 in
theorem c_mk3 {l : Launch} {E : cE} {f : mF} {g j : mA} {Fr : Int → Int} {To : Int → Int} {Hx : Int → Int} {Vb : Int → Int} {Te : Int → Int} {On : Int → Int} {C : Int → Int} {Φ : Int → Int} {n9 : Int} {N : Int} {n4 : Int} {kn : Int} {m : Nat} {K : Int → Int} {cl : List Cla} (eg97 : g 97 = Fr) (eg98 : g 98 = To) (eg353 : g 353 = Hx) (egm3 : g (32 * m + 3) = Vb) (egm7 : g (32 * m + 7) = Te) (egm5 : g (32 * m + 5) = On) (egm8 : g (32 * m + 8) = C) (eg356 : g 356 = Φ) (ef96 : f 96 = n9) (efm1 : f (32 * m + 1) = N) (efm0 : f (32 * m + 0) = n4) (hkn : zIn kn) (hlm : E.2.1 m = true) (hcls : cCls m = 4) (h16 : 13 ≤ m) (hNl : N ≤ E.2.2 (32 * m + 8)) (hN0 : N ≤ 400) (q3 : n4 ≤ E.2.2 (32 * m + 3)) (q5 : n4 ≤ E.2.2 (32 * m + 5)) (q7 : n4 ≤ E.2.2 (32 * m + 7)) (n40 : 0 ≤ n4) (n12 : n4 ≤ 12) (hsc : ScL Vb On Te C N 0 cl) (hln : n4 = (cl.length : Int)) (k0 : 0 ≤ kn) (k7 : kn ≤ 7) (n0 : 0 ≤ n9) (n1 : n9 ≤ 10) (hn : n9 = K 76) (h6 : Φ 6 = K 75) (h8 : Φ 8 = K 28) (p5 : 0 ≤ K 75) (p2 : 0 ≤ K 28) (hft : ∀ i : Int, 0 ≤ i → i < n9 → Fr i = K (29 + i) ∧ To i = K (39 + i)) : CM l E MX0_measureKnot 4 [.ref (E.1 383), .ref (E.1 127), .ref (E.1 (32 * m + 31)), vI kn] f g j (PV (fun f' g' j' => (g' 353 = iu Hx kn (hld K cl kn) ∧ (g' 356) 6 = K 75 ∧ (g' 356) 8 = K 28) ∧ eqx [] f f' ∧ eqx [353, 356, 384] g g' ∧ j' = j)) := by
  refine CM.intro [some (.ref (E.1 383)), some (.ref (E.1 127)), some (.ref (E.1 (32 * m + 31))), some (vI kn), none, none, none] (by decide) (Nat.le_of_ble_eq_true rfl) rfl (fun d hd h0 h hH hA => ?_)
  have hfE : eqx [] f f := eqx.rf
  have hgE : eqx [353, 356, 384] g g := eqx.rf
  refine z_ald_0 (TX0_measureKnot_0.at 0 rfl) ?_
  refine zc_getA (m := 11) (s := 4) (k := 356) (hH.lv (by decide)) (TX0_measureKnot_0.at 1 rfl) fl0_25 hH rfl rfl (by decide) (by decide) ?_
  refine z_iconst (TX0_measureKnot_0.at 2 rfl) ?_
  refine z_iconst (TX0_measureKnot_0.at 3 rfl) ?_
  refine zcf_iast (k := 356) (N := 31) (hH.lv (by decide)) (by decide) rfl (TX0_measureKnot_0.at 4 rfl) hH hA (by decide) (by omega) (show _ < ((31 : Nat) : Int) by omega) (by omega) (fun h g6 e1 e2 hH hA => ?_)
  have eg97 := (e1 97 (by decide)).trans eg97
  have eg98 := (e1 98 (by decide)).trans eg98
  have eg353 := (e1 353 (by decide)).trans eg353
  have egm3 := (e1 (32 * m + 3) (by omega)).trans egm3
  have egm7 := (e1 (32 * m + 7) (by omega)).trans egm7
  have egm5 := (e1 (32 * m + 5) (by omega)).trans egm5
  have egm8 := (e1 (32 * m + 8) (by omega)).trans egm8
  rw [eg356] at e2; have eg356 := e2
  have hgE := hgE.put e1 (by decide)
  refine z_ald_0 (TX0_measureKnot_0.at 5 rfl) ?_
  refine zc_getA (m := 11) (s := 4) (k := 356) (hH.lv (by decide)) (TX0_measureKnot_0.at 6 rfl) fl0_25 hH rfl rfl (by decide) (by decide) ?_
  refine z_iconst (TX0_measureKnot_0.at 7 rfl) ?_
  refine z_iconst (TX0_measureKnot_0.at 8 rfl) ?_
  refine zcf_iast (k := 356) (N := 31) (hH.lv (by decide)) (by decide) rfl (TX0_measureKnot_0.at 9 rfl) hH hA (by decide) (by omega) (show _ < ((31 : Nat) : Int) by omega) (by omega) (fun h g13 e1 e2 hH hA => ?_)
  have eg97 := (e1 97 (by decide)).trans eg97
  have eg98 := (e1 98 (by decide)).trans eg98
  have eg353 := (e1 353 (by decide)).trans eg353
  have egm3 := (e1 (32 * m + 3) (by omega)).trans egm3
  have egm7 := (e1 (32 * m + 7) (by omega)).trans egm7
  have egm5 := (e1 (32 * m + 5) (by omega)).trans egm5
  have egm8 := (e1 (32 * m + 8) (by omega)).trans egm8
  rw [eg356] at e2; have eg356 := e2
  have hgE := hgE.put e1 (by decide)
  refine z_ald_0 (TX0_measureKnot_0.at 10 rfl) ?_
  refine zc_getA (m := 11) (s := 4) (k := 356) (hH.lv (by decide)) (TX0_measureKnot_0.at 11 rfl) fl0_25 hH rfl rfl (by decide) (by decide) ?_
  refine z_bipush (by decide) (TX0_measureKnot_0.at 12 rfl) ?_
  refine z_iconst (TX0_measureKnot_0.at 13 rfl) ?_
  refine zcf_iast (k := 356) (N := 31) (hH.lv (by decide)) (by decide) rfl (TX0_measureKnot_0.at 14 rfl) hH hA (by decide) (by omega) (show _ < ((31 : Nat) : Int) by omega) (by omega) (fun h g21 e1 e2 hH hA => ?_)
  have eg97 := (e1 97 (by decide)).trans eg97
  have eg98 := (e1 98 (by decide)).trans eg98
  have eg353 := (e1 353 (by decide)).trans eg353
  have egm3 := (e1 (32 * m + 3) (by omega)).trans egm3
  have egm7 := (e1 (32 * m + 7) (by omega)).trans egm7
  have egm5 := (e1 (32 * m + 5) (by omega)).trans egm5
  have egm8 := (e1 (32 * m + 8) (by omega)).trans egm8
  rw [eg356] at e2; have eg356 := e2
  have hgE := hgE.put e1 (by decide)
  refine z_ald_0 (TX0_measureKnot_0.at 15 rfl) ?_
  refine zc_getA (m := 11) (s := 4) (k := 356) (hH.lv (by decide)) (TX0_measureKnot_0.at 16 rfl) fl0_25 hH rfl rfl (by decide) (by decide) ?_
  refine z_iconst (TX0_measureKnot_0.at 17 rfl) ?_
  refine z_iconst (TX0_measureKnot_0.at 18 rfl) ?_
  refine zcf_iast (k := 356) (N := 31) (hH.lv (by decide)) (by decide) rfl (TX0_measureKnot_0.at 19 rfl) hH hA (by decide) (by omega) (show _ < ((31 : Nat) : Int) by omega) (by omega) (fun h g28 e1 e2 hH hA => ?_)
  have eg97 := (e1 97 (by decide)).trans eg97
  have eg98 := (e1 98 (by decide)).trans eg98
  have eg353 := (e1 353 (by decide)).trans eg353
  have egm3 := (e1 (32 * m + 3) (by omega)).trans egm3
  have egm7 := (e1 (32 * m + 7) (by omega)).trans egm7
  have egm5 := (e1 (32 * m + 5) (by omega)).trans egm5
  have egm8 := (e1 (32 * m + 8) (by omega)).trans egm8
  rw [eg356] at e2; have eg356 := e2
  have hgE := hgE.put e1 (by decide)
  refine z_ald_0 (TX0_measureKnot_0.at 20 rfl) ?_
  refine zc_getA (m := 11) (s := 4) (k := 356) (hH.lv (by decide)) (TX0_measureKnot_0.at 21 rfl) fl0_25 hH rfl rfl (by decide) (by decide) ?_
  refine z_iconst (TX0_measureKnot_0.at 22 rfl) ?_
  refine z_iconst (TX0_measureKnot_0.at 23 rfl) ?_
  refine zcf_iast (k := 356) (N := 31) (hH.lv (by decide)) (by decide) rfl (TX0_measureKnot_0.at 24 rfl) hH hA (by decide) (by omega) (show _ < ((31 : Nat) : Int) by omega) (by omega) (fun h g35 e1 e2 hH hA => ?_)
  have eg97 := (e1 97 (by decide)).trans eg97
  have eg98 := (e1 98 (by decide)).trans eg98
  have eg353 := (e1 353 (by decide)).trans eg353
  have egm3 := (e1 (32 * m + 3) (by omega)).trans egm3
  have egm7 := (e1 (32 * m + 7) (by omega)).trans egm7
  have egm5 := (e1 (32 * m + 5) (by omega)).trans egm5
  have egm8 := (e1 (32 * m + 8) (by omega)).trans egm8
  rw [eg356] at e2; have eg356 := e2
  have hgE := hgE.put e1 (by decide)
  refine z_ald_0 (TX0_measureKnot_0.at 25 rfl) ?_
  refine zc_getA (m := 11) (s := 4) (k := 356) (hH.lv (by decide)) (TX0_measureKnot_0.at 26 rfl) fl0_25 hH rfl rfl (by decide) (by decide) ?_
  refine z_iconst (TX0_measureKnot_0.at 27 rfl) ?_
  refine z_ild_3 (TX0_measureKnot_0.at 28 rfl) ?_
  refine zcf_iast (k := 356) (N := 31) (hH.lv (by decide)) (by decide) rfl (TX0_measureKnot_0.at 29 rfl) hH hA (by decide) (by omega) (show _ < ((31 : Nat) : Int) by omega) (by omega) (fun h g42 e1 e2 hH hA => ?_)
  have eg97 := (e1 97 (by decide)).trans eg97
  have eg98 := (e1 98 (by decide)).trans eg98
  have eg353 := (e1 353 (by decide)).trans eg353
  have egm3 := (e1 (32 * m + 3) (by omega)).trans egm3
  have egm7 := (e1 (32 * m + 7) (by omega)).trans egm7
  have egm5 := (e1 (32 * m + 5) (by omega)).trans egm5
  have egm8 := (e1 (32 * m + 8) (by omega)).trans egm8
  rw [eg356] at e2; have eg356 := e2
  have hgE := hgE.put e1 (by decide)
  refine z_ald_0 (TX0_measureKnot_0.at 30 rfl) ?_
  refine zc_getA (m := 11) (s := 4) (k := 356) (hH.lv (by decide)) (TX0_measureKnot_0.at 31 rfl) fl0_25 hH rfl rfl (by decide) (by decide) ?_
  refine z_iconst (TX0_measureKnot_0.at 32 rfl) ?_
  refine z_ald_1 (TX0_measureKnot_0.at 33 rfl) ?_
  refine z_ild_3 (TX0_measureKnot_0.at 34 rfl) ?_
  refine zc_callI1 (m := 3) (c_tiedTo3 eg97 eg98 ef96 (by omega) (by omega) (by omega)) (hH.lv (by decide)) (TX0_measureKnot_0.at 35 rfl) c0_93 rfl rfl hH hA (by omega) (Nat.le_of_ble_eq_true rfl) (fun x50 f50 g50 j50 h r50 q50 hH hA => ?_)
  obtain ⟨q50, xf, xg, xj⟩ := q50
  rw [xj] at hH
  have ef96 := (xf 96 (by decide)).trans ef96
  have efm1 := (xf (32 * m + 1) (by simp only [List.mem_cons, List.not_mem_nil, or_false, not_or, not_false_eq_true] <;> omega)).trans efm1
  have efm0 := (xf (32 * m + 0) (by simp only [List.mem_cons, List.not_mem_nil, or_false, not_or, not_false_eq_true] <;> omega)).trans efm0
  have hfE := hfE.trans xf (by decide)
  have eg97 := (xg 97 (by decide)).trans eg97
  have eg98 := (xg 98 (by decide)).trans eg98
  have eg353 := (xg 353 (by decide)).trans eg353
  have egm3 := (xg (32 * m + 3) (by simp only [List.mem_cons, List.not_mem_nil, or_false, not_or, not_false_eq_true] <;> omega)).trans egm3
  have egm7 := (xg (32 * m + 7) (by simp only [List.mem_cons, List.not_mem_nil, or_false, not_or, not_false_eq_true] <;> omega)).trans egm7
  have egm5 := (xg (32 * m + 5) (by simp only [List.mem_cons, List.not_mem_nil, or_false, not_or, not_false_eq_true] <;> omega)).trans egm5
  have egm8 := (xg (32 * m + 8) (by simp only [List.mem_cons, List.not_mem_nil, or_false, not_or, not_false_eq_true] <;> omega)).trans egm8
  have eg356 := (xg 356 (by decide)).trans eg356
  have hgE := hgE.trans xg (by decide)
  have qL := q50
  obtain rfl := qL
  rw [ends_eq hn hft]
  have hen := endz_in (K := K) (k := kn) (by omega)
  refine zcf_iast (k := 356) (N := 31) (hH.lv (by decide)) (by decide) rfl (TX0_measureKnot_0.at 36 rfl) hH hA (by decide) (by omega) (show _ < ((31 : Nat) : Int) by omega) (by omega) (fun h g53 e1 e2 hH hA => ?_)
  have eg97 := (e1 97 (by decide)).trans eg97
  have eg98 := (e1 98 (by decide)).trans eg98
  have eg353 := (e1 353 (by decide)).trans eg353
  have egm3 := (e1 (32 * m + 3) (by omega)).trans egm3
  have egm7 := (e1 (32 * m + 7) (by omega)).trans egm7
  have egm5 := (e1 (32 * m + 5) (by omega)).trans egm5
  have egm8 := (e1 (32 * m + 8) (by omega)).trans egm8
  rw [eg356] at e2; have eg356 := e2
  have hgE := hgE.put e1 (by decide)
  refine z_ald_0 (TX0_measureKnot_0.at 37 rfl) ?_
  refine zc_getA (m := 11) (s := 1) (k := 353) (hH.lv (by decide)) (TX0_measureKnot_0.at 38 rfl) fl0_15 hH rfl rfl (by decide) (by decide) ?_
  refine z_ild_3 (TX0_measureKnot_0.at 39 rfl) ?_
  refine z_iconst (TX0_measureKnot_1.at 0 rfl) ?_
  refine zcf_iast (k := 353) (N := 8) (hH.lv (by decide)) (by decide) rfl (TX0_measureKnot_1.at 1 rfl) hH hA (by decide) (by omega) (show _ < ((8 : Nat) : Int) by omega) (by omega) (fun h g60 e1 e2 hH hA => ?_)
  have eg97 := (e1 97 (by decide)).trans eg97
  have eg98 := (e1 98 (by decide)).trans eg98
  rw [eg353] at e2; have eg353 := e2
  have egm3 := (e1 (32 * m + 3) (by omega)).trans egm3
  have egm7 := (e1 (32 * m + 7) (by omega)).trans egm7
  have egm5 := (e1 (32 * m + 5) (by omega)).trans egm5
  have egm8 := (e1 (32 * m + 8) (by omega)).trans egm8
  have eg356 := (e1 356 (by decide)).trans eg356
  have hgE := hgE.put e1 (by decide)
  refine z_ald_2 (TX0_measureKnot_1.at 2 rfl) ?_
  refine z_ifnn (tgt := 69) (TX0_measureKnot_1.at 3 rfl) rfl ?_
  refine z_ald_2 (TX0_measureKnot_1.at 6 rfl) ?_
  refine zc_getIE (m := m) (s := 0) (k := (32 * m + 0)) hlm efm0 (TX0_measureKnot_1.at 7 rfl) fl0_65 hH hcls rfl (by decide) (by decide) (fun r70 => ?_)
  refine z_ist_4 (TX0_measureKnot_1.at 8 rfl) (Nat.le_of_ble_eq_true rfl) rfl ?_
  refine z_iconst (TX0_measureKnot_1.at 9 rfl) ?_
  refine z_ist_5 (TX0_measureKnot_1.at 10 rfl) (Nat.le_of_ble_eq_true rfl) rfl ?_
  have hfk := fk_ok (kn := kn) h6 h8 (rfl : ends K kn = ends K kn)
  have hk6 := hfk 6 (by decide) (by decide)
  have hk8 := hfk 8 (by decide) (by decide)
  refine lp_mk (φ := askN K kn) (W := hld K cl kn) (Hx := Hx) (by omega) hlm hcls h16 hNl hN0 q3 q5 q7 n12 hfk (askN_nb (by omega) p5 p2 k0) k0 k7 (fun o6 f3 g3 h3 eg353 xf xg hH hA => ?_) 13 0 cl 0 _ _ _ _ (by omega) (by omega) (by omega) (by omega) hsc rfl egm3 egm7 egm5 egm8 eg356 eg353 efm1 eqx.rf eqx.rf hH hA
  have eg356 := (xg 356 (by decide)).trans eg356
  refine zc_vret (TX0_measureKnot_2.at 1 rfl) rfl hH hA ?_
  exact ⟨⟨eg353, by rw [eg356]; exact hk6, by rw [eg356]; exact hk8⟩, hfE.trans xf (by decide), hgE.trans xg (by decide), rfl⟩

set_option maxHeartbeats 4000000 in
set_option maxRecDepth 100000 in
theorem c_mkN3 {l : Launch} {E : cE} {f : mF} {g j : mA} {Fr : Int → Int} {To : Int → Int} {Hx : Int → Int} {Φ : Int → Int} {n9 : Int} {kn : Int} {K : Int → Int} (eg97 : g 97 = Fr) (eg98 : g 98 = To) (eg353 : g 353 = Hx) (eg356 : g 356 = Φ) (ef96 : f 96 = n9) (hkn : zIn kn) (k0 : 0 ≤ kn) (k7 : kn ≤ 7) (n0 : 0 ≤ n9) (n1 : n9 ≤ 10) (hn : n9 = K 76) (h6 : Φ 6 = K 75) (h8 : Φ 8 = K 28) (p5 : 0 ≤ K 75) (p2 : 0 ≤ K 28) (hft : ∀ i : Int, 0 ≤ i → i < n9 → Fr i = K (29 + i) ∧ To i = K (39 + i)) : CM l E MX0_measureKnot 4 [.ref (E.1 383), .ref (E.1 127), .null, vI kn] f g j (PV (fun f' g' j' => (g' 353 = iu Hx kn (hld K [] kn) ∧ (g' 356) 6 = K 75 ∧ (g' 356) 8 = K 28) ∧ eqx [] f f' ∧ eqx [353, 356, 384] g g' ∧ j' = j)) := by
  refine CM.intro [some (.ref (E.1 383)), some (.ref (E.1 127)), some (.null), some (vI kn), none, none, none] (by decide) (Nat.le_of_ble_eq_true rfl) rfl (fun d hd h0 h hH hA => ?_)
  have hfE : eqx [] f f := eqx.rf
  have hgE : eqx [353, 356, 384] g g := eqx.rf
  refine z_ald_0 (TX0_measureKnot_0.at 0 rfl) ?_
  refine zc_getA (m := 11) (s := 4) (k := 356) (hH.lv (by decide)) (TX0_measureKnot_0.at 1 rfl) fl0_25 hH rfl rfl (by decide) (by decide) ?_
  refine z_iconst (TX0_measureKnot_0.at 2 rfl) ?_
  refine z_iconst (TX0_measureKnot_0.at 3 rfl) ?_
  refine zcf_iast (k := 356) (N := 31) (hH.lv (by decide)) (by decide) rfl (TX0_measureKnot_0.at 4 rfl) hH hA (by decide) (by omega) (show _ < ((31 : Nat) : Int) by omega) (by omega) (fun h g6 e1 e2 hH hA => ?_)
  have eg97 := (e1 97 (by decide)).trans eg97
  have eg98 := (e1 98 (by decide)).trans eg98
  have eg353 := (e1 353 (by decide)).trans eg353
  rw [eg356] at e2; have eg356 := e2
  have hgE := hgE.put e1 (by decide)
  refine z_ald_0 (TX0_measureKnot_0.at 5 rfl) ?_
  refine zc_getA (m := 11) (s := 4) (k := 356) (hH.lv (by decide)) (TX0_measureKnot_0.at 6 rfl) fl0_25 hH rfl rfl (by decide) (by decide) ?_
  refine z_iconst (TX0_measureKnot_0.at 7 rfl) ?_
  refine z_iconst (TX0_measureKnot_0.at 8 rfl) ?_
  refine zcf_iast (k := 356) (N := 31) (hH.lv (by decide)) (by decide) rfl (TX0_measureKnot_0.at 9 rfl) hH hA (by decide) (by omega) (show _ < ((31 : Nat) : Int) by omega) (by omega) (fun h g13 e1 e2 hH hA => ?_)
  have eg97 := (e1 97 (by decide)).trans eg97
  have eg98 := (e1 98 (by decide)).trans eg98
  have eg353 := (e1 353 (by decide)).trans eg353
  rw [eg356] at e2; have eg356 := e2
  have hgE := hgE.put e1 (by decide)
  refine z_ald_0 (TX0_measureKnot_0.at 10 rfl) ?_
  refine zc_getA (m := 11) (s := 4) (k := 356) (hH.lv (by decide)) (TX0_measureKnot_0.at 11 rfl) fl0_25 hH rfl rfl (by decide) (by decide) ?_
  refine z_bipush (by decide) (TX0_measureKnot_0.at 12 rfl) ?_
  refine z_iconst (TX0_measureKnot_0.at 13 rfl) ?_
  refine zcf_iast (k := 356) (N := 31) (hH.lv (by decide)) (by decide) rfl (TX0_measureKnot_0.at 14 rfl) hH hA (by decide) (by omega) (show _ < ((31 : Nat) : Int) by omega) (by omega) (fun h g21 e1 e2 hH hA => ?_)
  have eg97 := (e1 97 (by decide)).trans eg97
  have eg98 := (e1 98 (by decide)).trans eg98
  have eg353 := (e1 353 (by decide)).trans eg353
  rw [eg356] at e2; have eg356 := e2
  have hgE := hgE.put e1 (by decide)
  refine z_ald_0 (TX0_measureKnot_0.at 15 rfl) ?_
  refine zc_getA (m := 11) (s := 4) (k := 356) (hH.lv (by decide)) (TX0_measureKnot_0.at 16 rfl) fl0_25 hH rfl rfl (by decide) (by decide) ?_
  refine z_iconst (TX0_measureKnot_0.at 17 rfl) ?_
  refine z_iconst (TX0_measureKnot_0.at 18 rfl) ?_
  refine zcf_iast (k := 356) (N := 31) (hH.lv (by decide)) (by decide) rfl (TX0_measureKnot_0.at 19 rfl) hH hA (by decide) (by omega) (show _ < ((31 : Nat) : Int) by omega) (by omega) (fun h g28 e1 e2 hH hA => ?_)
  have eg97 := (e1 97 (by decide)).trans eg97
  have eg98 := (e1 98 (by decide)).trans eg98
  have eg353 := (e1 353 (by decide)).trans eg353
  rw [eg356] at e2; have eg356 := e2
  have hgE := hgE.put e1 (by decide)
  refine z_ald_0 (TX0_measureKnot_0.at 20 rfl) ?_
  refine zc_getA (m := 11) (s := 4) (k := 356) (hH.lv (by decide)) (TX0_measureKnot_0.at 21 rfl) fl0_25 hH rfl rfl (by decide) (by decide) ?_
  refine z_iconst (TX0_measureKnot_0.at 22 rfl) ?_
  refine z_iconst (TX0_measureKnot_0.at 23 rfl) ?_
  refine zcf_iast (k := 356) (N := 31) (hH.lv (by decide)) (by decide) rfl (TX0_measureKnot_0.at 24 rfl) hH hA (by decide) (by omega) (show _ < ((31 : Nat) : Int) by omega) (by omega) (fun h g35 e1 e2 hH hA => ?_)
  have eg97 := (e1 97 (by decide)).trans eg97
  have eg98 := (e1 98 (by decide)).trans eg98
  have eg353 := (e1 353 (by decide)).trans eg353
  rw [eg356] at e2; have eg356 := e2
  have hgE := hgE.put e1 (by decide)
  refine z_ald_0 (TX0_measureKnot_0.at 25 rfl) ?_
  refine zc_getA (m := 11) (s := 4) (k := 356) (hH.lv (by decide)) (TX0_measureKnot_0.at 26 rfl) fl0_25 hH rfl rfl (by decide) (by decide) ?_
  refine z_iconst (TX0_measureKnot_0.at 27 rfl) ?_
  refine z_ild_3 (TX0_measureKnot_0.at 28 rfl) ?_
  refine zcf_iast (k := 356) (N := 31) (hH.lv (by decide)) (by decide) rfl (TX0_measureKnot_0.at 29 rfl) hH hA (by decide) (by omega) (show _ < ((31 : Nat) : Int) by omega) (by omega) (fun h g42 e1 e2 hH hA => ?_)
  have eg97 := (e1 97 (by decide)).trans eg97
  have eg98 := (e1 98 (by decide)).trans eg98
  have eg353 := (e1 353 (by decide)).trans eg353
  rw [eg356] at e2; have eg356 := e2
  have hgE := hgE.put e1 (by decide)
  refine z_ald_0 (TX0_measureKnot_0.at 30 rfl) ?_
  refine zc_getA (m := 11) (s := 4) (k := 356) (hH.lv (by decide)) (TX0_measureKnot_0.at 31 rfl) fl0_25 hH rfl rfl (by decide) (by decide) ?_
  refine z_iconst (TX0_measureKnot_0.at 32 rfl) ?_
  refine z_ald_1 (TX0_measureKnot_0.at 33 rfl) ?_
  refine z_ild_3 (TX0_measureKnot_0.at 34 rfl) ?_
  refine zc_callI1 (m := 3) (c_tiedTo3 eg97 eg98 ef96 (by omega) (by omega) (by omega)) (hH.lv (by decide)) (TX0_measureKnot_0.at 35 rfl) c0_93 rfl rfl hH hA (by omega) (Nat.le_of_ble_eq_true rfl) (fun x50 f50 g50 j50 h r50 q50 hH hA => ?_)
  obtain ⟨q50, xf, xg, xj⟩ := q50
  rw [xj] at hH
  have ef96 := (xf 96 (by decide)).trans ef96
  have hfE := hfE.trans xf (by decide)
  have eg97 := (xg 97 (by decide)).trans eg97
  have eg98 := (xg 98 (by decide)).trans eg98
  have eg353 := (xg 353 (by decide)).trans eg353
  have eg356 := (xg 356 (by decide)).trans eg356
  have hgE := hgE.trans xg (by decide)
  have qL := q50
  obtain rfl := qL
  rw [ends_eq hn hft]
  have hen := endz_in (K := K) (k := kn) (by omega)
  refine zcf_iast (k := 356) (N := 31) (hH.lv (by decide)) (by decide) rfl (TX0_measureKnot_0.at 36 rfl) hH hA (by decide) (by omega) (show _ < ((31 : Nat) : Int) by omega) (by omega) (fun h g53 e1 e2 hH hA => ?_)
  have eg97 := (e1 97 (by decide)).trans eg97
  have eg98 := (e1 98 (by decide)).trans eg98
  have eg353 := (e1 353 (by decide)).trans eg353
  rw [eg356] at e2; have eg356 := e2
  have hgE := hgE.put e1 (by decide)
  refine z_ald_0 (TX0_measureKnot_0.at 37 rfl) ?_
  refine zc_getA (m := 11) (s := 1) (k := 353) (hH.lv (by decide)) (TX0_measureKnot_0.at 38 rfl) fl0_15 hH rfl rfl (by decide) (by decide) ?_
  refine z_ild_3 (TX0_measureKnot_0.at 39 rfl) ?_
  refine z_iconst (TX0_measureKnot_1.at 0 rfl) ?_
  refine zcf_iast (k := 353) (N := 8) (hH.lv (by decide)) (by decide) rfl (TX0_measureKnot_1.at 1 rfl) hH hA (by decide) (by omega) (show _ < ((8 : Nat) : Int) by omega) (by omega) (fun h g60 e1 e2 hH hA => ?_)
  have eg97 := (e1 97 (by decide)).trans eg97
  have eg98 := (e1 98 (by decide)).trans eg98
  rw [eg353] at e2; have eg353 := e2
  have eg356 := (e1 356 (by decide)).trans eg356
  have hgE := hgE.put e1 (by decide)
  refine z_nld_2 (TX0_measureKnot_1.at 2 rfl) ?_
  refine z_ifnnN (TX0_measureKnot_1.at 3 rfl) ?_
  refine z_iconst (TX0_measureKnot_1.at 4 rfl) ?_
  refine z_goto (tgt := 73) (TX0_measureKnot_1.at 5 rfl) rfl ?_
  refine z_ist_4 (TX0_measureKnot_1.at 8 rfl) (Nat.le_of_ble_eq_true rfl) rfl ?_
  refine z_iconst (TX0_measureKnot_1.at 9 rfl) ?_
  refine z_ist_5 (TX0_measureKnot_1.at 10 rfl) (Nat.le_of_ble_eq_true rfl) rfl ?_
  refine z_ild_5 (TX0_measureKnot_1.at 11 rfl) ?_
  refine z_ild_4 (TX0_measureKnot_1.at 12 rfl) ?_
  refine z_icmp_ge (tgt := 140) (TX0_measureKnot_1.at 13 rfl) rfl (by omega) (by omega) (fun c1 => ?_) (fun c1 => absurd c1 (by omega))
  have hfk := fk_ok (kn := kn) h6 h8 (rfl : ends K kn = ends K kn)
  have hk6 := hfk 6 (by decide) (by decide)
  have hk8 := hfk 8 (by decide) (by decide)
  refine zc_vret (TX0_measureKnot_2.at 1 rfl) rfl hH hA ?_
  exact ⟨⟨eg353, by rw [eg356]; exact hk6, by rw [eg356]; exact hk8⟩, hfE, hgE, rfl⟩

