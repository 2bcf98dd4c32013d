/-! ===== the class: fire spreads ===== -/
theorem b2n {p : Prop} [Decidable p] (h : b2i p ≠ 1) : ¬ p := fun q => h (b2i_t q)
theorem b2y {p : Prop} [Decidable p] (h : b2i p = 1) : p := by
  by_cases q : p
  · exact q
  · rw [b2i_f q] at h; omega
def nC (C : Int → Int) (t : Int) : Int := if C t = 1000000 then -1 else C t
def cm8 (X C : Int → Int) : Prop := ∀ t : Int, 0 ≤ t → t ≤ 7 → X t = nC C t
theorem cm_a {X C : Int → Int} {t : Int} (h : cm8 X C) (hC : COK C) (h0 : 0 ≤ t) (h1 : t ≤ 7) : (X t = -1 ∧ C t = 1000000) ∨ (X t = C t ∧ 0 ≤ C t ∧ C t ≤ 1863) := by
  have a := h t h0 h1
  have b := hC.bd h0 h1
  unfold nC at a
  by_cases e : C t = 1000000
  · rw [if_pos e] at a; exact Or.inl ⟨a, e⟩
  · rw [if_neg e] at a; exact Or.inr ⟨a, b.1, b.2.2 e⟩
theorem car_0 {X C B Hd : Int → Int} {x a b : Int} (hX : cm8 X C) (hC : COK C) (ha : 0 ≤ a ∧ a ≤ 7) (hb : 0 ≤ b ∧ b ≤ 7) (e : X a = -1) : b2i (gIs C B Hd x a < C b) = 0 ∧ cm8 X (gC C B Hd x a b) := by
  have h1 := cm_a hX hC ha.1 ha.2
  have h2 := hC.bd hb.1 hb.2
  have e1 : C a = 1000000 := by omega
  have e2 : ¬ gIs C B Hd x a < C b := by unfold gIs; rw [if_pos e1]; omega
  exact ⟨b2i_f e2, by rw [gC_no e2]; exact hX⟩
theorem car_1 {X C B Hd : Int → Int} {x a b z : Int} (hX : cm8 X C) (hC : COK C) (ha : 0 ≤ a ∧ a ≤ 7) (hb : 0 ≤ b ∧ b ≤ 7) (e : X a ≠ -1) (hz : z = X a + Hd a + B x) (hs : ¬ (z ≠ -1 ∧ (X b = -1 ∨ z < X b))) (hB : 1 ≤ B x ∧ B x ≤ 99) (hH : 0 ≤ Hd a ∧ Hd a ≤ 9) : b2i (gIs C B Hd x a < C b) = 0 ∧ cm8 X (gC C B Hd x a b) := by
  have h1 := cm_a hX hC ha.1 ha.2
  have h2 := cm_a hX hC hb.1 hb.2
  have e2 : ¬ gIs C B Hd x a < C b := by unfold gIs; rw [if_neg (by omega)]; omega
  exact ⟨b2i_f e2, by rw [gC_no e2]; exact hX⟩
theorem car_2 {X C B Hd : Int → Int} {x a b z : Int} (hX : cm8 X C) (hC : COK C) (ha : 0 ≤ a ∧ a ≤ 7) (hb : 0 ≤ b ∧ b ≤ 7) (e : X a ≠ -1) (hz : z = X a + Hd a + B x) (hs : z ≠ -1 ∧ (X b = -1 ∨ z < X b)) (hB : 1 ≤ B x ∧ B x ≤ 99) (hH : 0 ≤ Hd a ∧ Hd a ≤ 9) : b2i (gIs C B Hd x a < C b) = 1 ∧ cm8 (iu X b z) (gC C B Hd x a b) := by
  have h1 := cm_a hX hC ha.1 ha.2
  have h2 := cm_a hX hC hb.1 hb.2
  have eg : gIs C B Hd x a = z := by unfold gIs; rw [if_neg (by omega)]; omega
  have e2 : gIs C B Hd x a < C b := by omega
  refine ⟨b2i_t e2, fun t t0 t7 => ?_⟩
  unfold nC
  by_cases q : t = b
  · subst q
    rw [iu_self, gC_at, eg, if_neg (by omega)]
    omega
  · rw [iu_ne q, gC_far q]
    exact hX t t0 t7
set_option maxHeartbeats 4000000 in
set_option maxRecDepth 100000 in
theorem c_carried {l : Launch} {E : cE} {f : mF} {g j : mA} {HX : Int → Int} {X : Int → Int} {a b bu : Int} {C B Hd : Int → Int} {x : Int} (eg353 : g 353 = HX) (eg355 : g 355 = X) (ha : zIn a) (hb : zIn b) (hbu : zIn bu) (ha0 : 0 ≤ a) (ha1 : a ≤ 7) (hb0 : 0 ≤ b) (hb1 : b ≤ 7) (hX : cm8 X C) (hC : COK C) (hBx : bu = B x) (hB : 1 ≤ B x ∧ B x ≤ 99) (hHa : HX a = Hd a) (hHd : 0 ≤ Hd a ∧ Hd a ≤ 9) : CM l E MX0_carried 1 [.ref (E.1 383), vI a, vI b, vI bu] f g j (PI (fun r f' g' j' => (r = b2i (gIs C B Hd x a < C b) ∧ cm8 (g' 355) (gC C B Hd x a b)) ∧ eqx [] f f' ∧ eqx [355] g g' ∧ j' = j)) := by
  refine CM.intro [some (.ref (E.1 383)), some (vI a), some (vI b), some (vI bu), none] (by decide) (Nat.le_of_ble_eq_true rfl) rfl (fun d hd h0 h hH hA => ?_)
  have hfE : eqx [] f f := eqx.rf
  have hgE : eqx [355] g g := eqx.rf
  refine z_ald_0 (TX0_carried.at 0 rfl) ?_
  refine zc_getA (m := 11) (s := 3) (k := 355) (hH.lv (by decide)) (TX0_carried.at 1 rfl) fl0_22 hH rfl rfl (by decide) (by decide) ?_
  refine z_ild_1 (TX0_carried.at 2 rfl) ?_
  refine zcf_iald (k := 355) (N := 8) (hH.lv (by decide)) (by decide) rfl eg355 (TX0_carried.at 3 rfl) hH (by decide) (by omega) (show _ < ((8 : Nat) : Int) by omega) (fun r5 => ?_)
  have hca := cm_a hX hC ha0 ha1
  have hcb := cm_a hX hC hb0 hb1
  refine z_iconst (TX0_carried.at 4 rfl) ?_
  refine z_icmp_ne (tgt := 12) (TX0_carried.at 5 rfl) rfl (by omega) (by omega) (fun c1 => ?_) (fun c1 => ?_)
  · skip
    refine z_ald_0 (TX0_carried.at 8 rfl) ?_
    refine zc_getA (m := 11) (s := 3) (k := 355) (hH.lv (by decide)) (TX0_carried.at 9 rfl) fl0_22 hH rfl rfl (by decide) (by decide) ?_
    refine z_ild_1 (TX0_carried.at 10 rfl) ?_
    refine zcf_iald (k := 355) (N := 8) (hH.lv (by decide)) (by decide) rfl eg355 (TX0_carried.at 11 rfl) hH (by decide) (by omega) (show _ < ((8 : Nat) : Int) by omega) (fun r17 => ?_)
    refine z_ald_0 (TX0_carried.at 12 rfl) ?_
    refine zc_getA (m := 11) (s := 1) (k := 353) (hH.lv (by decide)) (TX0_carried.at 13 rfl) fl0_15 hH rfl rfl (by decide) (by decide) ?_
    refine z_ild_1 (TX0_carried.at 14 rfl) ?_
    refine zcf_iald (k := 353) (N := 8) (hH.lv (by decide)) (by decide) rfl eg353 (TX0_carried.at 15 rfl) hH (by decide) (by omega) (show _ < ((8 : Nat) : Int) by omega) (fun r23 => ?_)
    refine z_iadd (TX0_carried.at 16 rfl) ?_
    refine z_ild_3 (TX0_carried.at 17 rfl) ?_
    refine z_iadd (TX0_carried.at 18 rfl) ?_
    refine z_ist_4 (TX0_carried.at 19 rfl) (Nat.le_of_ble_eq_true rfl) rfl ?_
    refine z_ild_4 (TX0_carried.at 20 rfl) ?_
    refine z_ald_0 (TX0_carried.at 21 rfl) ?_
    refine zc_getA (m := 11) (s := 3) (k := 355) (hH.lv (by decide)) (TX0_carried.at 22 rfl) fl0_22 hH rfl rfl (by decide) (by decide) ?_
    refine z_ild_2 (TX0_carried.at 23 rfl) ?_
    refine zcf_iald (k := 355) (N := 8) (hH.lv (by decide)) (by decide) rfl eg355 (TX0_carried.at 24 rfl) hH (by decide) (by omega) (show _ < ((8 : Nat) : Int) by omega) (fun r36 => ?_)
    refine zs_callN2 (c_isSooner (by omega) (by omega)) (TX0_carried.at 25 rfl) c0_128 rfl (by omega) (Nat.le_of_ble_eq_true rfl) (fun r37 => ?_)
    refine z_if_neB (tgt := 45) (TX0_carried.at 26 rfl) rfl (fun c2 => ?_) (fun c2 => ?_)
    · skip
      refine z_ald_0 (TX0_carried.at 29 rfl) ?_
      refine zc_getA (m := 11) (s := 3) (k := 355) (hH.lv (by decide)) (TX0_carried.at 30 rfl) fl0_22 hH rfl rfl (by decide) (by decide) ?_
      refine z_ild_2 (TX0_carried.at 31 rfl) ?_
      refine z_ild_4 (TX0_carried.at 32 rfl) ?_
      refine zcf_iast (k := 355) (N := 8) (hH.lv (by decide)) (by decide) rfl (TX0_carried.at 33 rfl) hH hA (by decide) (by omega) (show _ < ((8 : Nat) : Int) by omega) (by omega) (fun h g52 e1 e2 hH hA => ?_)
      have eg353 := (e1 353 (by decide)).trans eg353
      rw [eg355] at e2; have eg355 := e2
      have hgE := hgE.put e1 (by decide)
      refine z_iconst (TX0_carried.at 34 rfl) ?_
      refine zc_zret (TX0_carried.at 35 rfl) rfl hH hA (by first | omega | exact b2i_01 _) ?_
      exact ⟨by have q := car_2 (B := B) (Hd := Hd) (x := x) (z := X a + HX a + bu) hX hC ⟨ha0, ha1⟩ ⟨hb0, hb1⟩ (by omega) (by omega) (by assumption) hB hHd; rw [eg355]; exact ⟨q.1.symm, q.2⟩, hfE, hgE, rfl⟩
    · skip
      refine z_iconst (TX0_carried.at 27 rfl) ?_
      refine zc_zret (TX0_carried.at 28 rfl) rfl hH hA (by first | omega | exact b2i_01 _) ?_
      exact ⟨by have q := car_1 (B := B) (Hd := Hd) (x := x) (z := X a + HX a + bu) hX hC ⟨ha0, ha1⟩ ⟨hb0, hb1⟩ (by omega) (by omega) (by assumption) hB hHd; rw [eg355]; exact ⟨q.1.symm, q.2⟩, hfE, hgE, rfl⟩
  · skip
    refine z_iconst (TX0_carried.at 6 rfl) ?_
    refine zc_zret (TX0_carried.at 7 rfl) rfl hH hA (by first | omega | exact b2i_01 _) ?_
    exact ⟨by have q := car_0 (B := B) (Hd := Hd) (x := x) hX hC ⟨ha0, ha1⟩ ⟨hb0, hb1⟩ (by omega); rw [eg355]; exact ⟨q.1.symm, q.2⟩, hfE, hgE, rfl⟩

set_option maxHeartbeats 4000000 in
set_option maxRecDepth 100000 in
theorem lp_spr1_1 {l : Launch} {E : cE} {d : Nat} {Pz : Option Value → zH → Prop} {h0 : zH} {f0 : mF} {g0 : mA} {j : mA} (hd : 2 ≤ d) {Fr To BX HX fr to B Hd C0 : Int → Int} {S n9 : Int} (hS : z31 S) (n0 : 0 ≤ n9) (n1 : n9 ≤ 10) (hF : FrOK fr to B Hd n9.toNat) (hft : ∀ i : Int, 0 ≤ i → i < n9 → Fr i = fr i ∧ To i = to i ∧ BX i = B i) (hhd : ∀ k : Int, 0 ≤ k → k ≤ 7 → HX k = Hd k) (hC0 : COK C0) {r3 : Int} (kx : ∀ (C X : Int → Int) (mo : Int) (o5 o6 : Option Value) (f : mF) (g : mA) (h : zH), (C, mo) = rdN fr to B Hd S (C0, 0) n9.toNat → cm8 X C → g 33 = Fr → g 34 = To → g 352 = BX → g 353 = HX → g 355 = X → f 32 = n9 → f 354 = S → eqx [] f0 f → eqx [355] g0 g → HC E f g j h → cAg E h0 h → Z l MX0_spread d 0 0 Pz 121 [some (.ref (E.1 383)), some (.ref (E.1 63)), some (vI mo), some (vI r3), some (vI n9), o5, o6] [] h 0 0)  : ∀ (n : Nat) (m : Nat) (i : Int) (mo : Int) (C : Int → Int) (X : Int → Int) (o5 : Option Value) (o6 : Option Value) (f : mF) (g : mA) (h : zH) (em : i = (m : Int)) (i1 : i ≤ n9) (i2 : n9 < i + n) (es : (C, mo) = rdN fr to B Hd S (C0, 0) m) (hX : cm8 X C) (eg33 : g 33 = Fr) (eg34 : g 34 = To) (eg352 : g 352 = BX) (eg353 : g 353 = HX) (eg355 : g 355 = X) (ef32 : f 32 = n9) (ef354 : f 354 = S) (hfE : eqx [] f0 f) (hgE : eqx [355] g0 g) (hH : HC E f g j h) (hA : cAg E h0 h), Z l MX0_spread d 0 0 Pz 19 [some (.ref (E.1 383)), some (.ref (E.1 63)), some (vI mo), some (vI r3), some (vI i), o5, o6] [] h 0 0 := by
  intro n
  induction n with
  | zero => intro m i mo C X o5 o6 f g h em i1 i2 es hX eg33 eg34 eg352 eg353 eg355 ef32 ef354 hfE hgE hH hA; exfalso; omega
  | succ n ih =>
    intro m i mo C X o5 o6 f g h em i1 i2 es hX eg33 eg34 eg352 eg353 eg355 ef32 ef354 hfE hgE hH hA
    have hmo0 : zIn mo := by
      have q := rdN_01 (fr := fr) (to := to) (B := B) (Hd := Hd) (S := S) (p := (C0, 0)) (Or.inl rfl) m
      rw [← es] at q
      simp only at q
      omega
    refine z_ild_4 (TX0_spread_0.at 13 rfl) ?_
    refine z_ald_1 (TX0_spread_0.at 14 rfl) ?_
    refine zc_getIE (m := 1) (s := 0) (k := 32) (hH.lv (by decide)) ef32 (TX0_spread_0.at 15 rfl) fl0_43 hH rfl rfl (by decide) (by decide) (fun r22 => ?_)
    refine z_icmp_ge (tgt := 121) (TX0_spread_0.at 16 rfl) rfl (by omega) (by omega) (fun c1 => ?_) (fun c1 => ?_)
    · skip
      obtain rfl : m = n9.toNat := by omega
      rw [show i = n9 by omega]
      exact kx C X mo _ _ _ _ _ es hX eg33 eg34 eg352 eg353 eg355 ef32 ef354 hfE hgE hH hA
    · skip
      refine z_ald_0 (TX0_spread_0.at 17 rfl) ?_
      refine zc_getIE (m := 11) (s := 2) (k := 354) (hH.lv (by decide)) ef354 (TX0_spread_0.at 18 rfl) fl0_18 hH rfl rfl (by decide) (by decide) (fun r29 => ?_)
      refine z_ild_4 (TX0_spread_0.at 19 rfl) ?_
      refine zs_callN2 (c_bit hS ⟨by omega, by omega⟩) (TX0_spread_0.at 20 rfl) c0_90 rfl (by omega) (Nat.le_of_ble_eq_true rfl) (fun r34 => ?_)
      refine z_iconst (TX0_spread_0.at 21 rfl) ?_
      refine z_icmp_ne (tgt := 115) (TX0_spread_0.at 22 rfl) rfl (by omega) (by omega) (fun c2 => ?_) (fun c2 => ?_)
      · skip
        have hnb : ¬ bt S i := b2n (by assumption)
        refine z_iinc_4 (TX0_spread_1.at 23 rfl) (Nat.le_of_ble_eq_true rfl) rfl ?_
        refine z_goto (tgt := 19) (TX0_spread_1.at 24 rfl) rfl ?_
        exact ih (m + 1) _ _ _ _ _ _ _ _ _ (by omega) (by omega) (by omega) (by first | exact rd_skip es em (by assumption) | exact rd_take es em (by assumption) rfl rfl (by (repeat split) <;> omega)) (by assumption) eg33 eg34 eg352 eg353 eg355 ef32 ef354 hfE hgE hH hA
      · skip
        have hbt : bt S i := b2y (by assumption)
        have hfi := hF.2.1 i (by omega) (by omega)
        have hfx := hft i (by omega) (by omega)
        have hCi : COK C := by have q := (rdN_ok (S := S) (p := (C0, 0)) hF hC0 m (by omega)).1; rw [← es] at q; exact q
        have hC1 := gC_ok (C := C) (B := B) (Hd := Hd) (f := i) (a := fr i) (b := to i) hCi hfi.1 hfi.2.1 ⟨hfi.2.2.1, hfi.2.2.2⟩ (hF.2.2 _ hfi.1.1 hfi.1.2)
        have hmo : mo = 0 ∨ mo = 1 := by have q := rdN_01 (fr := fr) (to := to) (B := B) (Hd := Hd) (S := S) (p := (C0, 0)) (Or.inl rfl) m; rw [← es] at q; exact q
        refine z_ald_0 (TX0_spread_0.at 23 rfl) ?_
        refine z_ald_1 (TX0_spread_0.at 24 rfl) ?_
        refine zc_getA (m := 1) (s := 1) (k := 33) (hH.lv (by decide)) (TX0_spread_0.at 25 rfl) fl0_59 hH rfl rfl (by decide) (by decide) ?_
        refine z_ild_4 (TX0_spread_0.at 26 rfl) ?_
        refine zcf_iald (k := 33) (N := 10) (hH.lv (by decide)) (by decide) rfl eg33 (TX0_spread_0.at 27 rfl) hH (by decide) (by omega) (show _ < ((10 : Nat) : Int) by omega) (fun r48 => ?_)
        rw [hfx.1]
        refine z_ald_1 (TX0_spread_0.at 28 rfl) ?_
        refine zc_getA (m := 1) (s := 2) (k := 34) (hH.lv (by decide)) (TX0_spread_0.at 29 rfl) fl0_62 hH rfl rfl (by decide) (by decide) ?_
        refine z_ild_4 (TX0_spread_0.at 30 rfl) ?_
        refine zcf_iald (k := 34) (N := 10) (hH.lv (by decide)) (by decide) rfl eg34 (TX0_spread_0.at 31 rfl) hH (by decide) (by omega) (show _ < ((10 : Nat) : Int) by omega) (fun r55 => ?_)
        rw [hfx.2.1]
        refine z_ald_0 (TX0_spread_0.at 32 rfl) ?_
        refine zc_getA (m := 11) (s := 0) (k := 352) (hH.lv (by decide)) (TX0_spread_0.at 33 rfl) fl0_9 hH rfl rfl (by decide) (by decide) ?_
        refine z_ild_4 (TX0_spread_0.at 34 rfl) ?_
        refine zcf_iald (k := 352) (N := 10) (hH.lv (by decide)) (by decide) rfl eg352 (TX0_spread_0.at 35 rfl) hH (by decide) (by omega) (show _ < ((10 : Nat) : Int) by omega) (fun r62 => ?_)
        rw [hfx.2.2]
        refine zc_callI3 (m := 11) (c_carried eg353 eg355 (by omega) (by omega) (by omega) (by omega) (by omega) (by omega) (by omega) hX hCi rfl ⟨hfi.2.2.1, hfi.2.2.2⟩ (hhd _ hfi.1.1 hfi.1.2) (hF.2.2 _ hfi.1.1 hfi.1.2)) (hH.lv (by decide)) (TX0_spread_0.at 36 rfl) c0_124 rfl rfl hH hA (by omega) (Nat.le_of_ble_eq_true rfl) (fun x63 f63 g63 j63 h r63 q63 hH hA => ?_)
        obtain ⟨q63, xf, xg, xj⟩ := q63
        rw [xj] at hH
        have ef32 := (xf 32 (by decide)).trans ef32
        have ef354 := (xf 354 (by decide)).trans ef354
        have hfE := hfE.trans xf (by decide)
        have eg33 := (xg 33 (by decide)).trans eg33
        have eg34 := (xg 34 (by decide)).trans eg34
        have eg352 := (xg 352 (by decide)).trans eg352
        have eg353 := (xg 353 (by decide)).trans eg353
        have hgE := hgE.trans xg (by decide)
        have qL := q63
        obtain ⟨X63, eg355⟩ : ∃ z, g63 355 = z := ⟨_, rfl⟩
        rw [eg355] at qL
        have hX63 := qL.2
        obtain rfl := qL.1
        refine z_ist_5 (TX0_spread_0.at 37 rfl) (Nat.le_of_ble_eq_true rfl) rfl ?_
        refine z_ald_0 (TX0_spread_0.at 38 rfl) ?_
        refine z_ald_1 (TX0_spread_0.at 39 rfl) ?_
        refine zc_getA (m := 1) (s := 2) (k := 34) (hH.lv (by decide)) (TX0_spread_1.at 0 rfl) fl0_62 hH rfl rfl (by decide) (by decide) ?_
        refine z_ild_4 (TX0_spread_1.at 1 rfl) ?_
        refine zcf_iald (k := 34) (N := 10) (hH.lv (by decide)) (by decide) rfl eg34 (TX0_spread_1.at 2 rfl) hH (by decide) (by omega) (show _ < ((10 : Nat) : Int) by omega) (fun r75 => ?_)
        rw [hfx.2.1]
        refine z_ald_1 (TX0_spread_1.at 3 rfl) ?_
        refine zc_getA (m := 1) (s := 1) (k := 33) (hH.lv (by decide)) (TX0_spread_1.at 4 rfl) fl0_59 hH rfl rfl (by decide) (by decide) ?_
        refine z_ild_4 (TX0_spread_1.at 5 rfl) ?_
        refine zcf_iald (k := 33) (N := 10) (hH.lv (by decide)) (by decide) rfl eg33 (TX0_spread_1.at 6 rfl) hH (by decide) (by omega) (show _ < ((10 : Nat) : Int) by omega) (fun r82 => ?_)
        rw [hfx.1]
        refine z_ald_0 (TX0_spread_1.at 7 rfl) ?_
        refine zc_getA (m := 11) (s := 0) (k := 352) (hH.lv (by decide)) (TX0_spread_1.at 8 rfl) fl0_9 hH rfl rfl (by decide) (by decide) ?_
        refine z_ild_4 (TX0_spread_1.at 9 rfl) ?_
        refine zcf_iald (k := 352) (N := 10) (hH.lv (by decide)) (by decide) rfl eg352 (TX0_spread_1.at 10 rfl) hH (by decide) (by omega) (show _ < ((10 : Nat) : Int) by omega) (fun r89 => ?_)
        rw [hfx.2.2]
        refine zc_callI3 (m := 11) (c_carried eg353 eg355 (by omega) (by omega) (by omega) (by omega) (by omega) (by omega) (by omega) hX63 hC1.1 rfl ⟨hfi.2.2.1, hfi.2.2.2⟩ (hhd _ hfi.2.1.1 hfi.2.1.2) (hF.2.2 _ hfi.2.1.1 hfi.2.1.2)) (hH.lv (by decide)) (TX0_spread_1.at 11 rfl) c0_124 rfl rfl hH hA (by omega) (Nat.le_of_ble_eq_true rfl) (fun x90 f90 g90 j90 h r90 q90 hH hA => ?_)
        obtain ⟨q90, xf, xg, xj⟩ := q90
        rw [xj] at hH
        have ef32 := (xf 32 (by decide)).trans ef32
        have ef354 := (xf 354 (by decide)).trans ef354
        have hfE := hfE.trans xf (by decide)
        have eg33 := (xg 33 (by decide)).trans eg33
        have eg34 := (xg 34 (by decide)).trans eg34
        have eg352 := (xg 352 (by decide)).trans eg352
        have eg353 := (xg 353 (by decide)).trans eg353
        have hgE := hgE.trans xg (by decide)
        have qL := q90
        obtain ⟨X90, eg355⟩ : ∃ z, g90 355 = z := ⟨_, rfl⟩
        rw [eg355] at qL
        have hX90 := qL.2
        obtain rfl := qL.1
        refine z_ist_6 (TX0_spread_1.at 12 rfl) (Nat.le_of_ble_eq_true rfl) rfl ?_
        refine z_ild_2 (TX0_spread_1.at 13 rfl) ?_
        refine z_if_ne (tgt := 109) (TX0_spread_1.at 14 rfl) rfl (by omega) (fun c3 => ?_) (fun c3 => ?_)
        · skip
          refine z_iconst (TX0_spread_1.at 19 rfl) ?_
          refine z_goto (tgt := 114) (TX0_spread_1.at 20 rfl) rfl ?_
          refine z_ist_2 (TX0_spread_1.at 22 rfl) (Nat.le_of_ble_eq_true rfl) rfl ?_
          refine z_iinc_4 (TX0_spread_1.at 23 rfl) (Nat.le_of_ble_eq_true rfl) rfl ?_
          refine z_goto (tgt := 19) (TX0_spread_1.at 24 rfl) rfl ?_
          exact ih (m + 1) _ _ _ _ _ _ _ _ _ (by omega) (by omega) (by omega) (by first | exact rd_skip es em (by assumption) | exact rd_take es em (by assumption) rfl rfl (by (repeat split) <;> omega)) (by assumption) eg33 eg34 eg352 eg353 eg355 ef32 ef354 hfE hgE hH hA
        · skip
          refine z_ild_5 (TX0_spread_1.at 15 rfl) ?_
          refine z_if_neB (tgt := 109) (TX0_spread_1.at 16 rfl) rfl (fun c4 => ?_) (fun c4 => ?_)
          · skip
            refine z_iconst (TX0_spread_1.at 19 rfl) ?_
            refine z_goto (tgt := 114) (TX0_spread_1.at 20 rfl) rfl ?_
            refine z_ist_2 (TX0_spread_1.at 22 rfl) (Nat.le_of_ble_eq_true rfl) rfl ?_
            refine z_iinc_4 (TX0_spread_1.at 23 rfl) (Nat.le_of_ble_eq_true rfl) rfl ?_
            refine z_goto (tgt := 19) (TX0_spread_1.at 24 rfl) rfl ?_
            exact ih (m + 1) _ _ _ _ _ _ _ _ _ (by omega) (by omega) (by omega) (by first | exact rd_skip es em (by assumption) | exact rd_take es em (by assumption) rfl rfl (by (repeat split) <;> omega)) (by assumption) eg33 eg34 eg352 eg353 eg355 ef32 ef354 hfE hgE hH hA
          · skip
            refine z_ild_6 (TX0_spread_1.at 17 rfl) ?_
            refine z_if_eqB (tgt := 113) (TX0_spread_1.at 18 rfl) rfl (fun c5 => ?_) (fun c5 => ?_)
            · skip
              refine z_iconst (TX0_spread_1.at 21 rfl) ?_
              refine z_ist_2 (TX0_spread_1.at 22 rfl) (Nat.le_of_ble_eq_true rfl) rfl ?_
              refine z_iinc_4 (TX0_spread_1.at 23 rfl) (Nat.le_of_ble_eq_true rfl) rfl ?_
              refine z_goto (tgt := 19) (TX0_spread_1.at 24 rfl) rfl ?_
              exact ih (m + 1) _ _ _ _ _ _ _ _ _ (by omega) (by omega) (by omega) (by first | exact rd_skip es em (by assumption) | exact rd_take es em (by assumption) rfl rfl (by (repeat split) <;> omega)) (by assumption) eg33 eg34 eg352 eg353 eg355 ef32 ef354 hfE hgE hH hA
            · skip
              refine z_iconst (TX0_spread_1.at 19 rfl) ?_
              refine z_goto (tgt := 114) (TX0_spread_1.at 20 rfl) rfl ?_
              refine z_ist_2 (TX0_spread_1.at 22 rfl) (Nat.le_of_ble_eq_true rfl) rfl ?_
              refine z_iinc_4 (TX0_spread_1.at 23 rfl) (Nat.le_of_ble_eq_true rfl) rfl ?_
              refine z_goto (tgt := 19) (TX0_spread_1.at 24 rfl) rfl ?_
              exact ih (m + 1) _ _ _ _ _ _ _ _ _ (by omega) (by omega) (by omega) (by first | exact rd_skip es em (by assumption) | exact rd_take es em (by assumption) rfl rfl (by (repeat split) <;> omega)) (by assumption) eg33 eg34 eg352 eg353 eg355 ef32 ef354 hfE hgE hH hA

set_option maxHeartbeats 4000000 in
set_option maxRecDepth 100000 in
theorem lp_spr2_1 {l : Launch} {E : cE} {d : Nat} {Pz : Option Value → zH → Prop} {h0 : zH} {f0 : mF} {g0 : mA} {j : mA} (hd : 2 ≤ d) {Fr To BX HX fr to B Hd C0 : Int → Int} {S n9 : Int} (hS : z31 S) (n0 : 0 ≤ n9) (n1 : n9 ≤ 10) (hF : FrOK fr to B Hd n9.toNat) (hft : ∀ i : Int, 0 ≤ i → i < n9 → Fr i = fr i ∧ To i = to i ∧ BX i = B i) (hhd : ∀ k : Int, 0 ≤ k → k ≤ 7 → HX k = Hd k) (hC0 : COK C0) (kx : ∀ (X : Int → Int) (o2 o3 o4 o5 o6 : Option Value) (f : mF) (g : mA) (h : zH), cm8 X (dist fr to B Hd S n9.toNat C0) → g 33 = Fr → g 34 = To → g 352 = BX → g 353 = HX → g 355 = X → f 32 = n9 → f 354 = S → eqx [] f0 f → eqx [355] g0 g → HC E f g j h → cAg E h0 h → Z l MX0_spread d 0 0 Pz 127 [some (.ref (E.1 383)), some (.ref (E.1 63)), o2, o3, o4, o5, o6] [] h 0 0)  : ∀ (n : Nat) (k : Nat) (r3 : Int) (mo : Int) (C : Int → Int) (X : Int → Int) (o4 : Option Value) (o5 : Option Value) (o6 : Option Value) (f : mF) (g : mA) (h : zH) (er : r3 = (k : Int)) (k1 : k ≤ 8) (k2 : 10 ≤ k + n) (ec : C = rdI fr to B Hd S n9.toNat C0 k) (em : mo = 1 ∨ (mo = 0 ∧ rd fr to B Hd S n9.toNat C = C)) (hX : cm8 X C) (eg33 : g 33 = Fr) (eg34 : g 34 = To) (eg352 : g 352 = BX) (eg353 : g 353 = HX) (eg355 : g 355 = X) (ef32 : f 32 = n9) (ef354 : f 354 = S) (hfE : eqx [] f0 f) (hgE : eqx [355] g0 g) (hH : HC E f g j h) (hA : cAg E h0 h), Z l MX0_spread d 0 0 Pz 4 [some (.ref (E.1 383)), some (.ref (E.1 63)), some (vI mo), some (vI r3), o4, o5, o6] [] h 0 0 := by
  intro n
  induction n with
  | zero => intro k r3 mo C X o4 o5 o6 f g h er k1 k2 ec em hX eg33 eg34 eg352 eg353 eg355 ef32 ef354 hfE hgE hH hA; exfalso; omega
  | succ n ih =>
    intro k r3 mo C X o4 o5 o6 f g h er k1 k2 ec em hX eg33 eg34 eg352 eg353 eg355 ef32 ef354 hfE hgE hH hA
    refine z_ild_3 (TX0_spread_0.at 4 rfl) ?_
    refine z_bipush (by decide) (TX0_spread_0.at 5 rfl) ?_
    refine z_icmp_ge (tgt := 127) (TX0_spread_0.at 6 rfl) rfl (by omega) (by omega) (fun c1 => ?_) (fun c1 => ?_)
    · skip
      have ed : C = dist fr to B Hd S n9.toNat C0 := by
        have e8 : k = 8 := by omega
        rw [ec, e8]; rfl
      rw [ed] at hX
      exact kx X _ _ _ _ _ _ _ _ hX eg33 eg34 eg352 eg353 eg355 ef32 ef354 hfE hgE hH hA
    · skip
      refine z_ild_2 (TX0_spread_0.at 7 rfl) ?_
      refine z_if_eq (tgt := 127) (TX0_spread_0.at 8 rfl) rfl (by omega) (fun c2 => ?_) (fun c2 => ?_)
      · skip
        have ed : C = dist fr to B Hd S n9.toNat C0 := by
          rcases em with q | q
          · omega
          · rw [ec]; rw [ec] at q; exact dist_eq hF hC0 q.2
        rw [ed] at hX
        exact kx X _ _ _ _ _ _ _ _ hX eg33 eg34 eg352 eg353 eg355 ef32 ef354 hfE hgE hH hA
      · skip
        refine z_iconst (TX0_spread_0.at 9 rfl) ?_
        refine z_ist_2 (TX0_spread_0.at 10 rfl) (Nat.le_of_ble_eq_true rfl) rfl ?_
        refine z_iconst (TX0_spread_0.at 11 rfl) ?_
        refine z_ist_4 (TX0_spread_0.at 12 rfl) (Nat.le_of_ble_eq_true rfl) rfl ?_
        refine lp_spr1_1 (C0 := C) hd hS n0 n1 hF hft hhd (by rw [ec]; exact (rdI_ok hF hC0 k).1) (fun C2 X2 mo2 o5 o6 f3 g3 h3 es hX2 eg33 eg34 eg352 eg353 eg355 ef32 ef354 xf xg hH hA => ?_) 12 0 0 0 C X _ _ _ _ _ (by omega) (by omega) (by omega) rfl hX eg33 eg34 eg352 eg353 eg355 ef32 ef354 eqx.rf eqx.rf hH hA
        refine z_iinc_3 (TX0_spread_1.at 25 rfl) (Nat.le_of_ble_eq_true rfl) rfl ?_
        refine z_goto (tgt := 4) (TX0_spread_1.at 26 rfl) rfl ?_
        have hk1 : k + 1 ≤ 8 := by omega
        have hk2 : 10 ≤ k + 1 + n := by omega
        have e01 := rdN_01 (fr := fr) (to := to) (B := B) (Hd := Hd) (S := S) (p := (C, 0)) (Or.inl rfl) n9.toNat
        have e0 := rdN_0 (fr := fr) (to := to) (B := B) (Hd := Hd) (S := S) (p := (C, 0)) n9.toNat
        have ec2 : C2 = rdI fr to B Hd S n9.toNat C0 (k + 1) := by
          show C2 = (rdN fr to B Hd S (rdI fr to B Hd S n9.toNat C0 k, 0) n9.toNat).1
          rw [← ec, ← es]
        rw [← es] at e01 e0
        simp only at e01 e0
        refine ih (k + 1) _ mo2 C2 X2 _ _ _ _ _ _ (by omega) hk1 hk2 ec2 ?_ hX2 eg33 eg34 eg352 eg353 eg355 ef32 ef354 (hfE.trans xf (by decide)) (hgE.trans xg (by decide)) hH hA
        rcases e01 with q | q
        · right
          refine ⟨q, ?_⟩
          have q2 := (e0 q).2
          rw [q2]
          show (rdN fr to B Hd S (C, 0) n9.toNat).1 = C
          rw [← es]
          exact q2
        · exact Or.inl q

set_option maxHeartbeats 4000000 in
set_option maxRecDepth 100000 in
theorem c_spread1 {l : Launch} {E : cE} {f : mF} {g j : mA} {Fr : Int → Int} {To : Int → Int} {BX : Int → Int} {HX : Int → Int} {X : Int → Int} {n9 : Int} {S : Int} {fr to B Hd C : Int → Int} (eg33 : g 33 = Fr) (eg34 : g 34 = To) (eg352 : g 352 = BX) (eg353 : g 353 = HX) (eg355 : g 355 = X) (ef32 : f 32 = n9) (ef354 : f 354 = S) (hS : z31 S) (n0 : 0 ≤ n9) (n1 : n9 ≤ 10) (hF : FrOK fr to B Hd n9.toNat) (hft : ∀ i : Int, 0 ≤ i → i < n9 → Fr i = fr i ∧ To i = to i ∧ BX i = B i) (hhd : ∀ k : Int, 0 ≤ k → k ≤ 7 → HX k = Hd k) (hC : COK C) (hX : cm8 X C) : CM l E MX0_spread 2 [.ref (E.1 383), .ref (E.1 63)] f g j (PV (fun f' g' j' => (cm8 (g' 355) (dist fr to B Hd S n9.toNat C)) ∧ eqx [] f f' ∧ eqx [355] g g' ∧ j' = j)) := by
  refine CM.intro [some (.ref (E.1 383)), some (.ref (E.1 63)), none, none, none, none, none] (by decide) (Nat.le_of_ble_eq_true rfl) rfl (fun d hd h0 h hH hA => ?_)
  have hfE : eqx [] f f := eqx.rf
  have hgE : eqx [355] g g := eqx.rf
  refine z_iconst (TX0_spread_0.at 0 rfl) ?_
  refine z_ist_2 (TX0_spread_0.at 1 rfl) (Nat.le_of_ble_eq_true rfl) rfl ?_
  refine z_iconst (TX0_spread_0.at 2 rfl) ?_
  refine z_ist_3 (TX0_spread_0.at 3 rfl) (Nat.le_of_ble_eq_true rfl) rfl ?_
  refine lp_spr2_1 (C0 := C) hd hS n0 n1 hF hft hhd hC (fun X2 o2 o3 o4 o5 o6 f3 g3 h3 hX2 eg33 eg34 eg352 eg353 eg355 ef32 ef354 hfE hgE hH hA => ?_) 10 0 0 1 C X _ _ _ _ _ _ rfl (by omega) (by omega) rfl (Or.inl rfl) hX eg33 eg34 eg352 eg353 eg355 ef32 ef354 hfE hgE hH hA
  refine zc_vret (TX0_spread_1.at 27 rfl) rfl hH hA ?_
  exact ⟨by rw [eg355]; exact hX2, hfE, hgE, rfl⟩

set_option maxHeartbeats 4000000 in
set_option maxRecDepth 100000 in
theorem lp_spr1_3 {l : Launch} {E : cE} {d : Nat} {Pz : Option Value → zH → Prop} {h0 : zH} {f0 : mF} {g0 : mA} {j : mA} (hd : 2 ≤ d) {Fr To BX HX fr to B Hd C0 : Int → Int} {S n9 : Int} (hS : z31 S) (n0 : 0 ≤ n9) (n1 : n9 ≤ 10) (hF : FrOK fr to B Hd n9.toNat) (hft : ∀ i : Int, 0 ≤ i → i < n9 → Fr i = fr i ∧ To i = to i ∧ BX i = B i) (hhd : ∀ k : Int, 0 ≤ k → k ≤ 7 → HX k = Hd k) (hC0 : COK C0) {r3 : Int} (kx : ∀ (C X : Int → Int) (mo : Int) (o5 o6 : Option Value) (f : mF) (g : mA) (h : zH), (C, mo) = rdN fr to B Hd S (C0, 0) n9.toNat → cm8 X C → g 97 = Fr → g 98 = To → g 352 = BX → g 353 = HX → g 355 = X → f 96 = n9 → f 354 = S → eqx [] f0 f → eqx [355] g0 g → HC E f g j h → cAg E h0 h → Z l MX0_spread d 0 0 Pz 121 [some (.ref (E.1 383)), some (.ref (E.1 127)), some (vI mo), some (vI r3), some (vI n9), o5, o6] [] h 0 0)  : ∀ (n : Nat) (m : Nat) (i : Int) (mo : Int) (C : Int → Int) (X : Int → Int) (o5 : Option Value) (o6 : Option Value) (f : mF) (g : mA) (h : zH) (em : i = (m : Int)) (i1 : i ≤ n9) (i2 : n9 < i + n) (es : (C, mo) = rdN fr to B Hd S (C0, 0) m) (hX : cm8 X C) (eg97 : g 97 = Fr) (eg98 : g 98 = To) (eg352 : g 352 = BX) (eg353 : g 353 = HX) (eg355 : g 355 = X) (ef96 : f 96 = n9) (ef354 : f 354 = S) (hfE : eqx [] f0 f) (hgE : eqx [355] g0 g) (hH : HC E f g j h) (hA : cAg E h0 h), Z l MX0_spread d 0 0 Pz 19 [some (.ref (E.1 383)), some (.ref (E.1 127)), some (vI mo), some (vI r3), some (vI i), o5, o6] [] h 0 0 := by
  intro n
  induction n with
  | zero => intro m i mo C X o5 o6 f g h em i1 i2 es hX eg97 eg98 eg352 eg353 eg355 ef96 ef354 hfE hgE hH hA; exfalso; omega
  | succ n ih =>
    intro m i mo C X o5 o6 f g h em i1 i2 es hX eg97 eg98 eg352 eg353 eg355 ef96 ef354 hfE hgE hH hA
    have hmo0 : zIn mo := by
      have q := rdN_01 (fr := fr) (to := to) (B := B) (Hd := Hd) (S := S) (p := (C0, 0)) (Or.inl rfl) m
      rw [← es] at q
      simp only at q
      omega
    refine z_ild_4 (TX0_spread_0.at 13 rfl) ?_
    refine z_ald_1 (TX0_spread_0.at 14 rfl) ?_
    refine zc_getIE (m := 3) (s := 0) (k := 96) (hH.lv (by decide)) ef96 (TX0_spread_0.at 15 rfl) fl0_43 hH rfl rfl (by decide) (by decide) (fun r22 => ?_)
    refine z_icmp_ge (tgt := 121) (TX0_spread_0.at 16 rfl) rfl (by omega) (by omega) (fun c1 => ?_) (fun c1 => ?_)
    · skip
      obtain rfl : m = n9.toNat := by omega
      rw [show i = n9 by omega]
      exact kx C X mo _ _ _ _ _ es hX eg97 eg98 eg352 eg353 eg355 ef96 ef354 hfE hgE hH hA
    · skip
      refine z_ald_0 (TX0_spread_0.at 17 rfl) ?_
      refine zc_getIE (m := 11) (s := 2) (k := 354) (hH.lv (by decide)) ef354 (TX0_spread_0.at 18 rfl) fl0_18 hH rfl rfl (by decide) (by decide) (fun r29 => ?_)
      refine z_ild_4 (TX0_spread_0.at 19 rfl) ?_
      refine zs_callN2 (c_bit hS ⟨by omega, by omega⟩) (TX0_spread_0.at 20 rfl) c0_90 rfl (by omega) (Nat.le_of_ble_eq_true rfl) (fun r34 => ?_)
      refine z_iconst (TX0_spread_0.at 21 rfl) ?_
      refine z_icmp_ne (tgt := 115) (TX0_spread_0.at 22 rfl) rfl (by omega) (by omega) (fun c2 => ?_) (fun c2 => ?_)
      · skip
        have hnb : ¬ bt S i := b2n (by assumption)
        refine z_iinc_4 (TX0_spread_1.at 23 rfl) (Nat.le_of_ble_eq_true rfl) rfl ?_
        refine z_goto (tgt := 19) (TX0_spread_1.at 24 rfl) rfl ?_
        exact ih (m + 1) _ _ _ _ _ _ _ _ _ (by omega) (by omega) (by omega) (by first | exact rd_skip es em (by assumption) | exact rd_take es em (by assumption) rfl rfl (by (repeat split) <;> omega)) (by assumption) eg97 eg98 eg352 eg353 eg355 ef96 ef354 hfE hgE hH hA
      · skip
        have hbt : bt S i := b2y (by assumption)
        have hfi := hF.2.1 i (by omega) (by omega)
        have hfx := hft i (by omega) (by omega)
        have hCi : COK C := by have q := (rdN_ok (S := S) (p := (C0, 0)) hF hC0 m (by omega)).1; rw [← es] at q; exact q
        have hC1 := gC_ok (C := C) (B := B) (Hd := Hd) (f := i) (a := fr i) (b := to i) hCi hfi.1 hfi.2.1 ⟨hfi.2.2.1, hfi.2.2.2⟩ (hF.2.2 _ hfi.1.1 hfi.1.2)
        have hmo : mo = 0 ∨ mo = 1 := by have q := rdN_01 (fr := fr) (to := to) (B := B) (Hd := Hd) (S := S) (p := (C0, 0)) (Or.inl rfl) m; rw [← es] at q; exact q
        refine z_ald_0 (TX0_spread_0.at 23 rfl) ?_
        refine z_ald_1 (TX0_spread_0.at 24 rfl) ?_
        refine zc_getA (m := 3) (s := 1) (k := 97) (hH.lv (by decide)) (TX0_spread_0.at 25 rfl) fl0_59 hH rfl rfl (by decide) (by decide) ?_
        refine z_ild_4 (TX0_spread_0.at 26 rfl) ?_
        refine zcf_iald (k := 97) (N := 10) (hH.lv (by decide)) (by decide) rfl eg97 (TX0_spread_0.at 27 rfl) hH (by decide) (by omega) (show _ < ((10 : Nat) : Int) by omega) (fun r48 => ?_)
        rw [hfx.1]
        refine z_ald_1 (TX0_spread_0.at 28 rfl) ?_
        refine zc_getA (m := 3) (s := 2) (k := 98) (hH.lv (by decide)) (TX0_spread_0.at 29 rfl) fl0_62 hH rfl rfl (by decide) (by decide) ?_
        refine z_ild_4 (TX0_spread_0.at 30 rfl) ?_
        refine zcf_iald (k := 98) (N := 10) (hH.lv (by decide)) (by decide) rfl eg98 (TX0_spread_0.at 31 rfl) hH (by decide) (by omega) (show _ < ((10 : Nat) : Int) by omega) (fun r55 => ?_)
        rw [hfx.2.1]
        refine z_ald_0 (TX0_spread_0.at 32 rfl) ?_
        refine zc_getA (m := 11) (s := 0) (k := 352) (hH.lv (by decide)) (TX0_spread_0.at 33 rfl) fl0_9 hH rfl rfl (by decide) (by decide) ?_
        refine z_ild_4 (TX0_spread_0.at 34 rfl) ?_
        refine zcf_iald (k := 352) (N := 10) (hH.lv (by decide)) (by decide) rfl eg352 (TX0_spread_0.at 35 rfl) hH (by decide) (by omega) (show _ < ((10 : Nat) : Int) by omega) (fun r62 => ?_)
        rw [hfx.2.2]
        refine zc_callI3 (m := 11) (c_carried eg353 eg355 (by omega) (by omega) (by omega) (by omega) (by omega) (by omega) (by omega) hX hCi rfl ⟨hfi.2.2.1, hfi.2.2.2⟩ (hhd _ hfi.1.1 hfi.1.2) (hF.2.2 _ hfi.1.1 hfi.1.2)) (hH.lv (by decide)) (TX0_spread_0.at 36 rfl) c0_124 rfl rfl hH hA (by omega) (Nat.le_of_ble_eq_true rfl) (fun x63 f63 g63 j63 h r63 q63 hH hA => ?_)
        obtain ⟨q63, xf, xg, xj⟩ := q63
        rw [xj] at hH
        have ef96 := (xf 96 (by decide)).trans ef96
        have ef354 := (xf 354 (by decide)).trans ef354
        have hfE := hfE.trans xf (by decide)
        have eg97 := (xg 97 (by decide)).trans eg97
        have eg98 := (xg 98 (by decide)).trans eg98
        have eg352 := (xg 352 (by decide)).trans eg352
        have eg353 := (xg 353 (by decide)).trans eg353
        have hgE := hgE.trans xg (by decide)
        have qL := q63
        obtain ⟨X63, eg355⟩ : ∃ z, g63 355 = z := ⟨_, rfl⟩
        rw [eg355] at qL
        have hX63 := qL.2
        obtain rfl := qL.1
        refine z_ist_5 (TX0_spread_0.at 37 rfl) (Nat.le_of_ble_eq_true rfl) rfl ?_
        refine z_ald_0 (TX0_spread_0.at 38 rfl) ?_
        refine z_ald_1 (TX0_spread_0.at 39 rfl) ?_
        refine zc_getA (m := 3) (s := 2) (k := 98) (hH.lv (by decide)) (TX0_spread_1.at 0 rfl) fl0_62 hH rfl rfl (by decide) (by decide) ?_
        refine z_ild_4 (TX0_spread_1.at 1 rfl) ?_
        refine zcf_iald (k := 98) (N := 10) (hH.lv (by decide)) (by decide) rfl eg98 (TX0_spread_1.at 2 rfl) hH (by decide) (by omega) (show _ < ((10 : Nat) : Int) by omega) (fun r75 => ?_)
        rw [hfx.2.1]
        refine z_ald_1 (TX0_spread_1.at 3 rfl) ?_
        refine zc_getA (m := 3) (s := 1) (k := 97) (hH.lv (by decide)) (TX0_spread_1.at 4 rfl) fl0_59 hH rfl rfl (by decide) (by decide) ?_
        refine z_ild_4 (TX0_spread_1.at 5 rfl) ?_
        refine zcf_iald (k := 97) (N := 10) (hH.lv (by decide)) (by decide) rfl eg97 (TX0_spread_1.at 6 rfl) hH (by decide) (by omega) (show _ < ((10 : Nat) : Int) by omega) (fun r82 => ?_)
        rw [hfx.1]
        refine z_ald_0 (TX0_spread_1.at 7 rfl) ?_
        refine zc_getA (m := 11) (s := 0) (k := 352) (hH.lv (by decide)) (TX0_spread_1.at 8 rfl) fl0_9 hH rfl rfl (by decide) (by decide) ?_
        refine z_ild_4 (TX0_spread_1.at 9 rfl) ?_
        refine zcf_iald (k := 352) (N := 10) (hH.lv (by decide)) (by decide) rfl eg352 (TX0_spread_1.at 10 rfl) hH (by decide) (by omega) (show _ < ((10 : Nat) : Int) by omega) (fun r89 => ?_)
        rw [hfx.2.2]
        refine zc_callI3 (m := 11) (c_carried eg353 eg355 (by omega) (by omega) (by omega) (by omega) (by omega) (by omega) (by omega) hX63 hC1.1 rfl ⟨hfi.2.2.1, hfi.2.2.2⟩ (hhd _ hfi.2.1.1 hfi.2.1.2) (hF.2.2 _ hfi.2.1.1 hfi.2.1.2)) (hH.lv (by decide)) (TX0_spread_1.at 11 rfl) c0_124 rfl rfl hH hA (by omega) (Nat.le_of_ble_eq_true rfl) (fun x90 f90 g90 j90 h r90 q90 hH hA => ?_)
        obtain ⟨q90, xf, xg, xj⟩ := q90
        rw [xj] at hH
        have ef96 := (xf 96 (by decide)).trans ef96
        have ef354 := (xf 354 (by decide)).trans ef354
        have hfE := hfE.trans xf (by decide)
        have eg97 := (xg 97 (by decide)).trans eg97
        have eg98 := (xg 98 (by decide)).trans eg98
        have eg352 := (xg 352 (by decide)).trans eg352
        have eg353 := (xg 353 (by decide)).trans eg353
        have hgE := hgE.trans xg (by decide)
        have qL := q90
        obtain ⟨X90, eg355⟩ : ∃ z, g90 355 = z := ⟨_, rfl⟩
        rw [eg355] at qL
        have hX90 := qL.2
        obtain rfl := qL.1
        refine z_ist_6 (TX0_spread_1.at 12 rfl) (Nat.le_of_ble_eq_true rfl) rfl ?_
        refine z_ild_2 (TX0_spread_1.at 13 rfl) ?_
        refine z_if_ne (tgt := 109) (TX0_spread_1.at 14 rfl) rfl (by omega) (fun c3 => ?_) (fun c3 => ?_)
        · skip
          refine z_iconst (TX0_spread_1.at 19 rfl) ?_
          refine z_goto (tgt := 114) (TX0_spread_1.at 20 rfl) rfl ?_
          refine z_ist_2 (TX0_spread_1.at 22 rfl) (Nat.le_of_ble_eq_true rfl) rfl ?_
          refine z_iinc_4 (TX0_spread_1.at 23 rfl) (Nat.le_of_ble_eq_true rfl) rfl ?_
          refine z_goto (tgt := 19) (TX0_spread_1.at 24 rfl) rfl ?_
          exact ih (m + 1) _ _ _ _ _ _ _ _ _ (by omega) (by omega) (by omega) (by first | exact rd_skip es em (by assumption) | exact rd_take es em (by assumption) rfl rfl (by (repeat split) <;> omega)) (by assumption) eg97 eg98 eg352 eg353 eg355 ef96 ef354 hfE hgE hH hA
        · skip
          refine z_ild_5 (TX0_spread_1.at 15 rfl) ?_
          refine z_if_neB (tgt := 109) (TX0_spread_1.at 16 rfl) rfl (fun c4 => ?_) (fun c4 => ?_)
          · skip
            refine z_iconst (TX0_spread_1.at 19 rfl) ?_
            refine z_goto (tgt := 114) (TX0_spread_1.at 20 rfl) rfl ?_
            refine z_ist_2 (TX0_spread_1.at 22 rfl) (Nat.le_of_ble_eq_true rfl) rfl ?_
            refine z_iinc_4 (TX0_spread_1.at 23 rfl) (Nat.le_of_ble_eq_true rfl) rfl ?_
            refine z_goto (tgt := 19) (TX0_spread_1.at 24 rfl) rfl ?_
            exact ih (m + 1) _ _ _ _ _ _ _ _ _ (by omega) (by omega) (by omega) (by first | exact rd_skip es em (by assumption) | exact rd_take es em (by assumption) rfl rfl (by (repeat split) <;> omega)) (by assumption) eg97 eg98 eg352 eg353 eg355 ef96 ef354 hfE hgE hH hA
          · skip
            refine z_ild_6 (TX0_spread_1.at 17 rfl) ?_
            refine z_if_eqB (tgt := 113) (TX0_spread_1.at 18 rfl) rfl (fun c5 => ?_) (fun c5 => ?_)
            · skip
              refine z_iconst (TX0_spread_1.at 21 rfl) ?_
              refine z_ist_2 (TX0_spread_1.at 22 rfl) (Nat.le_of_ble_eq_true rfl) rfl ?_
              refine z_iinc_4 (TX0_spread_1.at 23 rfl) (Nat.le_of_ble_eq_true rfl) rfl ?_
              refine z_goto (tgt := 19) (TX0_spread_1.at 24 rfl) rfl ?_
              exact ih (m + 1) _ _ _ _ _ _ _ _ _ (by omega) (by omega) (by omega) (by first | exact rd_skip es em (by assumption) | exact rd_take es em (by assumption) rfl rfl (by (repeat split) <;> omega)) (by assumption) eg97 eg98 eg352 eg353 eg355 ef96 ef354 hfE hgE hH hA
            · skip
              refine z_iconst (TX0_spread_1.at 19 rfl) ?_
              refine z_goto (tgt := 114) (TX0_spread_1.at 20 rfl) rfl ?_
              refine z_ist_2 (TX0_spread_1.at 22 rfl) (Nat.le_of_ble_eq_true rfl) rfl ?_
              refine z_iinc_4 (TX0_spread_1.at 23 rfl) (Nat.le_of_ble_eq_true rfl) rfl ?_
              refine z_goto (tgt := 19) (TX0_spread_1.at 24 rfl) rfl ?_
              exact ih (m + 1) _ _ _ _ _ _ _ _ _ (by omega) (by omega) (by omega) (by first | exact rd_skip es em (by assumption) | exact rd_take es em (by assumption) rfl rfl (by (repeat split) <;> omega)) (by assumption) eg97 eg98 eg352 eg353 eg355 ef96 ef354 hfE hgE hH hA

set_option maxHeartbeats 4000000 in
set_option maxRecDepth 100000 in
theorem lp_spr2_3 {l : Launch} {E : cE} {d : Nat} {Pz : Option Value → zH → Prop} {h0 : zH} {f0 : mF} {g0 : mA} {j : mA} (hd : 2 ≤ d) {Fr To BX HX fr to B Hd C0 : Int → Int} {S n9 : Int} (hS : z31 S) (n0 : 0 ≤ n9) (n1 : n9 ≤ 10) (hF : FrOK fr to B Hd n9.toNat) (hft : ∀ i : Int, 0 ≤ i → i < n9 → Fr i = fr i ∧ To i = to i ∧ BX i = B i) (hhd : ∀ k : Int, 0 ≤ k → k ≤ 7 → HX k = Hd k) (hC0 : COK C0) (kx : ∀ (X : Int → Int) (o2 o3 o4 o5 o6 : Option Value) (f : mF) (g : mA) (h : zH), cm8 X (dist fr to B Hd S n9.toNat C0) → g 97 = Fr → g 98 = To → g 352 = BX → g 353 = HX → g 355 = X → f 96 = n9 → f 354 = S → eqx [] f0 f → eqx [355] g0 g → HC E f g j h → cAg E h0 h → Z l MX0_spread d 0 0 Pz 127 [some (.ref (E.1 383)), some (.ref (E.1 127)), o2, o3, o4, o5, o6] [] h 0 0)  : ∀ (n : Nat) (k : Nat) (r3 : Int) (mo : Int) (C : Int → Int) (X : Int → Int) (o4 : Option Value) (o5 : Option Value) (o6 : Option Value) (f : mF) (g : mA) (h : zH) (er : r3 = (k : Int)) (k1 : k ≤ 8) (k2 : 10 ≤ k + n) (ec : C = rdI fr to B Hd S n9.toNat C0 k) (em : mo = 1 ∨ (mo = 0 ∧ rd fr to B Hd S n9.toNat C = C)) (hX : cm8 X C) (eg97 : g 97 = Fr) (eg98 : g 98 = To) (eg352 : g 352 = BX) (eg353 : g 353 = HX) (eg355 : g 355 = X) (ef96 : f 96 = n9) (ef354 : f 354 = S) (hfE : eqx [] f0 f) (hgE : eqx [355] g0 g) (hH : HC E f g j h) (hA : cAg E h0 h), Z l MX0_spread d 0 0 Pz 4 [some (.ref (E.1 383)), some (.ref (E.1 127)), some (vI mo), some (vI r3), o4, o5, o6] [] h 0 0 := by
  intro n
  induction n with
  | zero => intro k r3 mo C X o4 o5 o6 f g h er k1 k2 ec em hX eg97 eg98 eg352 eg353 eg355 ef96 ef354 hfE hgE hH hA; exfalso; omega
  | succ n ih =>
    intro k r3 mo C X o4 o5 o6 f g h er k1 k2 ec em hX eg97 eg98 eg352 eg353 eg355 ef96 ef354 hfE hgE hH hA
    refine z_ild_3 (TX0_spread_0.at 4 rfl) ?_
    refine z_bipush (by decide) (TX0_spread_0.at 5 rfl) ?_
    refine z_icmp_ge (tgt := 127) (TX0_spread_0.at 6 rfl) rfl (by omega) (by omega) (fun c1 => ?_) (fun c1 => ?_)
    · skip
      have ed : C = dist fr to B Hd S n9.toNat C0 := by
        have e8 : k = 8 := by omega
        rw [ec, e8]; rfl
      rw [ed] at hX
      exact kx X _ _ _ _ _ _ _ _ hX eg97 eg98 eg352 eg353 eg355 ef96 ef354 hfE hgE hH hA
    · skip
      refine z_ild_2 (TX0_spread_0.at 7 rfl) ?_
      refine z_if_eq (tgt := 127) (TX0_spread_0.at 8 rfl) rfl (by omega) (fun c2 => ?_) (fun c2 => ?_)
      · skip
        have ed : C = dist fr to B Hd S n9.toNat C0 := by
          rcases em with q | q
          · omega
          · rw [ec]; rw [ec] at q; exact dist_eq hF hC0 q.2
        rw [ed] at hX
        exact kx X _ _ _ _ _ _ _ _ hX eg97 eg98 eg352 eg353 eg355 ef96 ef354 hfE hgE hH hA
      · skip
        refine z_iconst (TX0_spread_0.at 9 rfl) ?_
        refine z_ist_2 (TX0_spread_0.at 10 rfl) (Nat.le_of_ble_eq_true rfl) rfl ?_
        refine z_iconst (TX0_spread_0.at 11 rfl) ?_
        refine z_ist_4 (TX0_spread_0.at 12 rfl) (Nat.le_of_ble_eq_true rfl) rfl ?_
        refine lp_spr1_3 (C0 := C) hd hS n0 n1 hF hft hhd (by rw [ec]; exact (rdI_ok hF hC0 k).1) (fun C2 X2 mo2 o5 o6 f3 g3 h3 es hX2 eg97 eg98 eg352 eg353 eg355 ef96 ef354 xf xg hH hA => ?_) 12 0 0 0 C X _ _ _ _ _ (by omega) (by omega) (by omega) rfl hX eg97 eg98 eg352 eg353 eg355 ef96 ef354 eqx.rf eqx.rf hH hA
        refine z_iinc_3 (TX0_spread_1.at 25 rfl) (Nat.le_of_ble_eq_true rfl) rfl ?_
        refine z_goto (tgt := 4) (TX0_spread_1.at 26 rfl) rfl ?_
        have hk1 : k + 1 ≤ 8 := by omega
        have hk2 : 10 ≤ k + 1 + n := by omega
        have e01 := rdN_01 (fr := fr) (to := to) (B := B) (Hd := Hd) (S := S) (p := (C, 0)) (Or.inl rfl) n9.toNat
        have e0 := rdN_0 (fr := fr) (to := to) (B := B) (Hd := Hd) (S := S) (p := (C, 0)) n9.toNat
        have ec2 : C2 = rdI fr to B Hd S n9.toNat C0 (k + 1) := by
          show C2 = (rdN fr to B Hd S (rdI fr to B Hd S n9.toNat C0 k, 0) n9.toNat).1
          rw [← ec, ← es]
        rw [← es] at e01 e0
        simp only at e01 e0
        refine ih (k + 1) _ mo2 C2 X2 _ _ _ _ _ _ (by omega) hk1 hk2 ec2 ?_ hX2 eg97 eg98 eg352 eg353 eg355 ef96 ef354 (hfE.trans xf (by decide)) (hgE.trans xg (by decide)) hH hA
        rcases e01 with q | q
        · right
          refine ⟨q, ?_⟩
          have q2 := (e0 q).2
          rw [q2]
          show (rdN fr to B Hd S (C, 0) n9.toNat).1 = C
          rw [← es]
          exact q2
        · exact Or.inl q

set_option maxHeartbeats 4000000 in
set_option maxRecDepth 100000 in
theorem c_spread3 {l : Launch} {E : cE} {f : mF} {g j : mA} {Fr : Int → Int} {To : Int → Int} {BX : Int → Int} {HX : Int → Int} {X : Int → Int} {n9 : Int} {S : Int} {fr to B Hd C : Int → Int} (eg97 : g 97 = Fr) (eg98 : g 98 = To) (eg352 : g 352 = BX) (eg353 : g 353 = HX) (eg355 : g 355 = X) (ef96 : f 96 = n9) (ef354 : f 354 = S) (hS : z31 S) (n0 : 0 ≤ n9) (n1 : n9 ≤ 10) (hF : FrOK fr to B Hd n9.toNat) (hft : ∀ i : Int, 0 ≤ i → i < n9 → Fr i = fr i ∧ To i = to i ∧ BX i = B i) (hhd : ∀ k : Int, 0 ≤ k → k ≤ 7 → HX k = Hd k) (hC : COK C) (hX : cm8 X C) : CM l E MX0_spread 2 [.ref (E.1 383), .ref (E.1 127)] f g j (PV (fun f' g' j' => (cm8 (g' 355) (dist fr to B Hd S n9.toNat C)) ∧ eqx [] f f' ∧ eqx [355] g g' ∧ j' = j)) := by
  refine CM.intro [some (.ref (E.1 383)), some (.ref (E.1 127)), none, none, none, none, none] (by decide) (Nat.le_of_ble_eq_true rfl) rfl (fun d hd h0 h hH hA => ?_)
  have hfE : eqx [] f f := eqx.rf
  have hgE : eqx [355] g g := eqx.rf
  refine z_iconst (TX0_spread_0.at 0 rfl) ?_
  refine z_ist_2 (TX0_spread_0.at 1 rfl) (Nat.le_of_ble_eq_true rfl) rfl ?_
  refine z_iconst (TX0_spread_0.at 2 rfl) ?_
  refine z_ist_3 (TX0_spread_0.at 3 rfl) (Nat.le_of_ble_eq_true rfl) rfl ?_
  refine lp_spr2_3 (C0 := C) hd hS n0 n1 hF hft hhd hC (fun X2 o2 o3 o4 o5 o6 f3 g3 h3 hX2 eg97 eg98 eg352 eg353 eg355 ef96 ef354 hfE hgE hH hA => ?_) 10 0 0 1 C X _ _ _ _ _ _ rfl (by omega) (by omega) rfl (Or.inl rfl) hX eg97 eg98 eg352 eg353 eg355 ef96 ef354 hfE hgE hH hA
  refine zc_vret (TX0_spread_1.at 27 rfl) rfl hH hA ?_
  exact ⟨by rw [eg355]; exact hX2, hfE, hgE, rfl⟩

