/-! ===== the class: spans; knots that look alike ===== -/
theorem aprt_abs {x y z : Int} (h : z = if 0 ≤ x - y then x - y else 0 - (x - y)) : z = aprt x y := by
  unfold aprt
  split at h <;> split <;> omega
set_option maxHeartbeats 4000000 in
set_option maxRecDepth 100000 in
theorem lp_sp_in {l : Launch} {E : cE} {d : Nat} {Pz : Option Value → zH → Prop} {h0 : zH} {f0 : mF} {g0 : mA} {j : mA} (hd : 2 ≤ d) {Fr To BX HX fr to B Hd X C : Int → Int} {S n9 : Int} (hI : FiH Fr To BX HX fr to B Hd n9 S X C) {hh a s0 : Int} (hh0 : 1 ≤ hh) (hh1 : hh ≤ 400) (a0 : 0 ≤ a) (haf : 0 ≤ (outC fr to B Hd S C) a ∧ (outC fr to B Hd S C) a ≤ 4000) (kx : ∀ (s : Int) (o7 : Option Value) (f : mF) (g : mA) (h : zH), 0 ≤ s ∧ s ≤ 1000 + n9 → s = twI (outC fr to B Hd S C) hh a s0 (n9 - a - 1).toNat → g 33 = Fr → g 34 = To → g 352 = BX → g 353 = HX → g 355 = X → f 32 = n9 → f 354 = S → eqx [] f0 f → eqx [] g0 g → HC E f g j h → cAg E h0 h → Z l MX0_spans d 0 0 Pz 92 [some (.ref (E.1 383)), some (.ref (E.1 63)), some (vI hh), some (vI s), some (vI a), some (vI ((outC fr to B Hd S C) a)), some (vI n9), o7] [] h 0 0)  : ∀ (n : Nat) (c : Int) (s : Int) (o7 : Option Value) (f : mF) (g : mA) (h : zH) (b0 : a < c) (b1 : c ≤ n9) (b2 : n9 < c + n) (hs : 0 ≤ s ∧ s ≤ 1000 + c) (es : s = twI (outC fr to B Hd S C) hh a s0 (c - a - 1).toNat) (eg33 : g 33 = Fr) (eg34 : g 34 = To) (eg352 : g 352 = BX) (eg353 : g 353 = HX) (eg355 : g 355 = X) (ef32 : f 32 = n9) (ef354 : f 354 = S) (hfE : eqx [] f0 f) (hgE : eqx [] g0 g) (hH : HC E f g j h) (hA : cAg E h0 h), Z l MX0_spans d 0 0 Pz 47 [some (.ref (E.1 383)), some (.ref (E.1 63)), some (vI hh), some (vI s), some (vI a), some (vI ((outC fr to B Hd S C) a)), some (vI c), o7] [] h 0 0 := by
  intro n
  induction n with
  | zero => intro c s o7 f g h b0 b1 b2 hs es eg33 eg34 eg352 eg353 eg355 ef32 ef354 hfE hgE hH hA; exfalso; omega
  | succ n ih =>
    intro c s o7 f g h b0 b1 b2 hs es eg33 eg34 eg352 eg353 eg355 ef32 ef354 hfE hgE hH hA
    have hn := hI.1.2.1
    refine z_ild_6 (TX0_spans.at 25 rfl) ?_
    refine z_ald_1 (TX0_spans.at 26 rfl) ?_
    refine zc_getIE (m := 1) (s := 0) (k := 32) (hH.lv (by decide)) ef32 (TX0_spans.at 27 rfl) fl0_43 hH rfl rfl (by decide) (by decide) (fun r50 => ?_)
    refine z_icmp_ge (tgt := 92) (TX0_spans.at 28 rfl) rfl (by omega) (by omega) (fun c1 => ?_) (fun c1 => ?_)
    · skip
      obtain rfl : c = n9 := by omega
      exact kx _ _ _ _ _ hs es eg33 eg34 eg352 eg353 eg355 ef32 ef354 hfE hgE hH hA
    · skip
      refine z_ald_0 (TX0_spans.at 29 rfl) ?_
      refine z_ald_1 (TX0_spans.at 30 rfl) ?_
      refine z_ild_6 (TX0_spans.at 31 rfl) ?_
      refine zc_callI2 (m := 11) (c_outOf1 eg33 eg34 eg352 eg353 eg355 ef32 ef354 (by omega) hI (by omega) (by omega)) (hH.lv (by decide)) (TX0_spans.at 32 rfl) c0_132 rfl rfl hH hA (by omega) (Nat.le_of_ble_eq_true rfl) (fun x60 f60 g60 j60 h r60 q60 hH hA => ?_)
      obtain ⟨q60, xf, xg, xj⟩ := q60
      rw [xj] at hH
      have ef32 := (xf 32 (by decide)).trans ef32
      have ef354 := (xf 354 (by decide)).trans ef354
      have hfE := hfE.trans xf (by decide)
      have eg33 := (xg 33 (by decide)).trans eg33
      have eg34 := (xg 34 (by decide)).trans eg34
      have eg352 := (xg 352 (by decide)).trans eg352
      have eg353 := (xg 353 (by decide)).trans eg353
      have eg355 := (xg 355 (by decide)).trans eg355
      have hgE := hgE.trans xg (by decide)
      have qL := q60
      obtain rfl := qL
      have hon := orN_b (out_b hI (x := c) (by omega) (by omega))
      refine z_ist_7 (TX0_spans.at 33 rfl) (Nat.le_of_ble_eq_true rfl) rfl ?_
      refine z_ild_7 (TX0_spans.at 34 rfl) ?_
      refine z_iconst (TX0_spans.at 35 rfl) ?_
      refine z_icmp_eq (tgt := 86) (TX0_spans.at 36 rfl) rfl (by omega) (by omega) (fun c2 => ?_) (fun c2 => ?_)
      · skip
        refine z_iinc_6 (TX0_spans.at 44 rfl) (Nat.le_of_ble_eq_true rfl) rfl ?_
        refine z_goto (tgt := 47) (TX0_spans.at 45 rfl) rfl ?_
        exact ih (c + 1) _ _ _ _ _ (by omega) (by omega) (by omega) (by omega) (by first | (rw [← twI_s b0 es, b2i_t ⟨by omega, (aprt_abs rfl).symm.trans (by assumption)⟩]; done) | (rw [← twI_s b0 es, b2i_f (fun z => absurd z.1 (by omega))]; omega) | (rw [← twI_s b0 es, b2i_f (fun z => absurd ((aprt_abs rfl).trans z.2) (by assumption))]; omega)) eg33 eg34 eg352 eg353 eg355 ef32 ef354 hfE hgE hH hA
      · skip
        have hov : orN ((outC fr to B Hd S C) c) = (outC fr to B Hd S C) c := by omega
        rw [hov]
        refine z_ild_5 (TX0_spans.at 37 rfl) ?_
        refine z_ild_7 (TX0_spans.at 38 rfl) ?_
        refine z_isub (TX0_spans.at 39 rfl) ?_
        refine z_abs (TX0_spans.at 40 rfl) cm0_136 (by omega) (by omega) (Nat.le_of_ble_eq_true rfl) ?_
        refine z_ild_2 (TX0_spans.at 41 rfl) ?_
        refine z_icmp_ne (tgt := 86) (TX0_spans.at 42 rfl) rfl (by omega) (by omega) (fun c3 => ?_) (fun c3 => ?_)
        · skip
          refine z_iinc_6 (TX0_spans.at 44 rfl) (Nat.le_of_ble_eq_true rfl) rfl ?_
          refine z_goto (tgt := 47) (TX0_spans.at 45 rfl) rfl ?_
          exact ih (c + 1) _ _ _ _ _ (by omega) (by omega) (by omega) (by omega) (by first | (rw [← twI_s b0 es, b2i_t ⟨by omega, (aprt_abs rfl).symm.trans (by assumption)⟩]; done) | (rw [← twI_s b0 es, b2i_f (fun z => absurd z.1 (by omega))]; omega) | (rw [← twI_s b0 es, b2i_f (fun z => absurd ((aprt_abs rfl).trans z.2) (by assumption))]; omega)) eg33 eg34 eg352 eg353 eg355 ef32 ef354 hfE hgE hH hA
        · skip
          refine z_iinc_3 (TX0_spans.at 43 rfl) (Nat.le_of_ble_eq_true rfl) rfl ?_
          refine z_iinc_6 (TX0_spans.at 44 rfl) (Nat.le_of_ble_eq_true rfl) rfl ?_
          refine z_goto (tgt := 47) (TX0_spans.at 45 rfl) rfl ?_
          exact ih (c + 1) _ _ _ _ _ (by omega) (by omega) (by omega) (by omega) (by first | (rw [← twI_s b0 es, b2i_t ⟨by omega, (aprt_abs rfl).symm.trans (by assumption)⟩]; done) | (rw [← twI_s b0 es, b2i_f (fun z => absurd z.1 (by omega))]; omega) | (rw [← twI_s b0 es, b2i_f (fun z => absurd ((aprt_abs rfl).trans z.2) (by assumption))]; omega)) eg33 eg34 eg352 eg353 eg355 ef32 ef354 hfE hgE hH hA

set_option maxHeartbeats 4000000 in
set_option maxRecDepth 100000 in
theorem lp_sp_out {l : Launch} {E : cE} {d : Nat} {Pz : Option Value → zH → Prop} {h0 : zH} {f0 : mF} {g0 : mA} {j : mA} (hd : 2 ≤ d) {Fr To BX HX fr to B Hd X C : Int → Int} {S n9 : Int} (hI : FiH Fr To BX HX fr to B Hd n9 S X C) {hh : Int} (hh0 : 1 ≤ hh) (hh1 : hh ≤ 400) (kx : ∀ (o5 o6 o7 : Option Value) (f : mF) (g : mA) (h : zH), 0 ≤ twO (outC fr to B Hd S C) hh n9.toNat n9.toNat → twO (outC fr to B Hd S C) hh n9.toNat n9.toNat ≤ 200 → eqx [] f0 f → eqx [] g0 g → HC E f g j h → cAg E h0 h → Z l MX0_spans d 0 0 Pz 98 [some (.ref (E.1 383)), some (.ref (E.1 63)), some (vI hh), some (vI (twO (outC fr to B Hd S C) hh n9.toNat n9.toNat)), some (vI n9), o5, o6, o7] [] h 0 0)  : ∀ (n : Nat) (a : Int) (s : Int) (o5 : Option Value) (o6 : Option Value) (o7 : Option Value) (f : mF) (g : mA) (h : zH) (a0 : 0 ≤ a) (a1 : a ≤ n9) (a2 : n9 < a + n) (hs : 0 ≤ s ∧ s ≤ 20 * a) (es : s = twO (outC fr to B Hd S C) hh n9.toNat a.toNat) (eg33 : g 33 = Fr) (eg34 : g 34 = To) (eg352 : g 352 = BX) (eg353 : g 353 = HX) (eg355 : g 355 = X) (ef32 : f 32 = n9) (ef354 : f 354 = S) (hfE : eqx [] f0 f) (hgE : eqx [] g0 g) (hH : HC E f g j h) (hA : cAg E h0 h), Z l MX0_spans d 0 0 Pz 5 [some (.ref (E.1 383)), some (.ref (E.1 63)), some (vI hh), some (vI s), some (vI a), o5, o6, o7] [] h 0 0 := by
  intro n
  induction n with
  | zero => intro a s o5 o6 o7 f g h a0 a1 a2 hs es eg33 eg34 eg352 eg353 eg355 ef32 ef354 hfE hgE hH hA; exfalso; omega
  | succ n ih =>
    intro a s o5 o6 o7 f g h a0 a1 a2 hs es eg33 eg34 eg352 eg353 eg355 ef32 ef354 hfE hgE hH hA
    have hn := hI.1.2.1
    refine z_ild_4 (TX0_spans.at 4 rfl) ?_
    refine z_ald_1 (TX0_spans.at 5 rfl) ?_
    refine zc_getIE (m := 1) (s := 0) (k := 32) (hH.lv (by decide)) ef32 (TX0_spans.at 6 rfl) fl0_43 hH rfl rfl (by decide) (by decide) (fun r8 => ?_)
    refine z_icmp_ge (tgt := 98) (TX0_spans.at 7 rfl) rfl (by omega) (by omega) (fun c1 => ?_) (fun c1 => ?_)
    · skip
      obtain rfl : a = n9 := by omega
      rw [es] at hs ⊢
      exact kx _ _ _ _ _ _ hs.1 (by omega) hfE hgE hH hA
    · skip
      refine z_ald_0 (TX0_spans.at 8 rfl) ?_
      refine z_ald_1 (TX0_spans.at 9 rfl) ?_
      refine z_ild_4 (TX0_spans.at 10 rfl) ?_
      refine zc_callI2 (m := 11) (c_outOf1 eg33 eg34 eg352 eg353 eg355 ef32 ef354 (by omega) hI (by omega) (by omega)) (hH.lv (by decide)) (TX0_spans.at 11 rfl) c0_132 rfl rfl hH hA (by omega) (Nat.le_of_ble_eq_true rfl) (fun x18 f18 g18 j18 h r18 q18 hH hA => ?_)
      obtain ⟨q18, xf, xg, xj⟩ := q18
      rw [xj] at hH
      have ef32 := (xf 32 (by decide)).trans ef32
      have ef354 := (xf 354 (by decide)).trans ef354
      have hfE := hfE.trans xf (by decide)
      have eg33 := (xg 33 (by decide)).trans eg33
      have eg34 := (xg 34 (by decide)).trans eg34
      have eg352 := (xg 352 (by decide)).trans eg352
      have eg353 := (xg 353 (by decide)).trans eg353
      have eg355 := (xg 355 (by decide)).trans eg355
      have hgE := hgE.trans xg (by decide)
      have qL := q18
      obtain rfl := qL
      have hon := orN_b (out_b hI (x := a) (by omega) (by omega))
      refine z_ist_5 (TX0_spans.at 12 rfl) (Nat.le_of_ble_eq_true rfl) rfl ?_
      refine z_ild_5 (TX0_spans.at 13 rfl) ?_
      refine z_iconst (TX0_spans.at 14 rfl) ?_
      refine z_icmp_ne (tgt := 32) (TX0_spans.at 15 rfl) rfl (by omega) (by omega) (fun c2 => ?_) (fun c2 => ?_)
      · skip
        refine z_ild_5 (TX0_spans.at 17 rfl) ?_
        refine z_ild_2 (TX0_spans.at 18 rfl) ?_
        refine z_icmp_ne (tgt := 41) (TX0_spans.at 19 rfl) rfl (by omega) (by omega) (fun c3 => ?_) (fun c3 => ?_)
        · skip
          have hov : orN ((outC fr to B Hd S C) a) = (outC fr to B Hd S C) a := by omega
          rw [hov]
          rw [hov] at c3
          refine z_ild_4 (TX0_spans.at 21 rfl) ?_
          refine z_iconst (TX0_spans.at 22 rfl) ?_
          refine z_iadd (TX0_spans.at 23 rfl) ?_
          refine z_ist_6 (TX0_spans.at 24 rfl) (Nat.le_of_ble_eq_true rfl) rfl ?_
          have hin := twI_in (v := (outC fr to B Hd S C)) (h := hh) (a := a) (s := s + b2i ((outC fr to B Hd S C) a = hh)) (n9 - a - 1).toNat
          have h01 := b2i_01 ((outC fr to B Hd S C) a = hh)
          have esb : s = twI (outC fr to B Hd S C) hh a (s + b2i ((outC fr to B Hd S C) a = hh)) (a + 1 - a - 1).toNat := by
            rw [show (a + 1 - a - 1).toNat = 0 by omega]
            show _ = s + b2i ((outC fr to B Hd S C) a = hh)
            rw [b2i_f (by assumption)]; omega
          refine lp_sp_in hd hI hh0 hh1 a0 (by omega) (fun s2 o7 f3 g3 h3 hs2 es2 eg33 eg34 eg352 eg353 eg355 ef32 ef354 xf xg hH hA => ?_) n9.toNat (a + 1) s _ _ _ _ (by omega) (by omega) (by omega) (by omega) esb eg33 eg34 eg352 eg353 eg355 ef32 ef354 hfE hgE hH hA
          refine z_iinc_4 (TX0_spans.at 46 rfl) (Nat.le_of_ble_eq_true rfl) rfl ?_
          refine z_goto (tgt := 5) (TX0_spans.at 47 rfl) rfl ?_
          exact ih (a + 1) s2 _ _ _ _ _ _ (by omega) (by omega) (by omega) (by omega) (twO_1 a0 (by omega) (by omega) es (by omega) es2) eg33 eg34 eg352 eg353 eg355 ef32 ef354 xf xg hH hA
        · skip
          refine z_iinc_3 (TX0_spans.at 20 rfl) (Nat.le_of_ble_eq_true rfl) rfl ?_
          have hov : orN ((outC fr to B Hd S C) a) = (outC fr to B Hd S C) a := by omega
          rw [hov]
          rw [hov] at c3
          refine z_ild_4 (TX0_spans.at 21 rfl) ?_
          refine z_iconst (TX0_spans.at 22 rfl) ?_
          refine z_iadd (TX0_spans.at 23 rfl) ?_
          refine z_ist_6 (TX0_spans.at 24 rfl) (Nat.le_of_ble_eq_true rfl) rfl ?_
          have hin := twI_in (v := (outC fr to B Hd S C)) (h := hh) (a := a) (s := s + b2i ((outC fr to B Hd S C) a = hh)) (n9 - a - 1).toNat
          have h01 := b2i_01 ((outC fr to B Hd S C) a = hh)
          have esb : (s + 1) = twI (outC fr to B Hd S C) hh a (s + b2i ((outC fr to B Hd S C) a = hh)) (a + 1 - a - 1).toNat := by
            rw [show (a + 1 - a - 1).toNat = 0 by omega]
            show _ = s + b2i ((outC fr to B Hd S C) a = hh)
            rw [b2i_t (by assumption)]
          refine lp_sp_in hd hI hh0 hh1 a0 (by omega) (fun s2 o7 f3 g3 h3 hs2 es2 eg33 eg34 eg352 eg353 eg355 ef32 ef354 xf xg hH hA => ?_) n9.toNat (a + 1) (s + 1) _ _ _ _ (by omega) (by omega) (by omega) (by omega) esb eg33 eg34 eg352 eg353 eg355 ef32 ef354 hfE hgE hH hA
          refine z_iinc_4 (TX0_spans.at 46 rfl) (Nat.le_of_ble_eq_true rfl) rfl ?_
          refine z_goto (tgt := 5) (TX0_spans.at 47 rfl) rfl ?_
          exact ih (a + 1) s2 _ _ _ _ _ _ (by omega) (by omega) (by omega) (by omega) (twO_1 a0 (by omega) (by omega) es (by omega) es2) eg33 eg34 eg352 eg353 eg355 ef32 ef354 xf xg hH hA
      · skip
        refine z_goto (tgt := 92) (TX0_spans.at 16 rfl) rfl ?_
        refine z_iinc_4 (TX0_spans.at 46 rfl) (Nat.le_of_ble_eq_true rfl) rfl ?_
        refine z_goto (tgt := 5) (TX0_spans.at 47 rfl) rfl ?_
        exact ih (a + 1) _ _ _ _ _ _ _ (by omega) (by omega) (by omega) (by omega) (twO_0 a0 es (by omega)) eg33 eg34 eg352 eg353 eg355 ef32 ef354 hfE hgE hH hA

set_option maxHeartbeats 4000000 in
set_option maxRecDepth 100000 in
theorem c_spans {l : Launch} {E : cE} {f : mF} {g j : mA} {Fr : Int → Int} {To : Int → Int} {BX : Int → Int} {HX : Int → Int} {X : Int → Int} {n9 : Int} {S : Int} {hh : Int} {fr to B Hd C : Int → Int} (eg33 : g 33 = Fr) (eg34 : g 34 = To) (eg352 : g 352 = BX) (eg353 : g 353 = HX) (eg355 : g 355 = X) (ef32 : f 32 = n9) (ef354 : f 354 = S) (hhh : zIn hh) (hI : FiH Fr To BX HX fr to B Hd n9 S X C) (hh0 : 1 ≤ hh) (hh1 : hh ≤ 400) : CM l E MX0_spans 2 [.ref (E.1 383), .ref (E.1 63), vI hh] f g j (PI (fun r f' g' j' => (r = twO (outC fr to B Hd S C) hh n9.toNat n9.toNat) ∧ eqx [] f f' ∧ eqx [] g g' ∧ j' = j)) := by
  refine CM.intro [some (.ref (E.1 383)), some (.ref (E.1 63)), some (vI hh), none, none, none, none, none] (by decide) (Nat.le_of_ble_eq_true rfl) rfl (fun d hd h0 h hH hA => ?_)
  have hfE : eqx [] f f := eqx.rf
  have hgE : eqx [] g g := eqx.rf
  refine z_iconst (TX0_spans.at 0 rfl) ?_
  refine z_ist_3 (TX0_spans.at 1 rfl) (Nat.le_of_ble_eq_true rfl) rfl ?_
  refine z_iconst (TX0_spans.at 2 rfl) ?_
  refine z_ist_4 (TX0_spans.at 3 rfl) (Nat.le_of_ble_eq_true rfl) rfl ?_
  have hn := hI.1.2.1
  refine lp_sp_out hd hI hh0 hh1 (fun o5 o6 o7 f3 g3 h3 l0 l1 hfE hgE hH hA => ?_) 11 0 0 _ _ _ _ _ _ (by omega) (by omega) (by omega) (by omega) rfl eg33 eg34 eg352 eg353 eg355 ef32 ef354 eqx.rf eqx.rf hH hA
  refine z_ild_3 (TX0_spans.at 48 rfl) ?_
  refine zc_iret (TX0_spans.at 49 rfl) rfl hH hA (by omega) ?_
  exact ⟨rfl, hfE, hgE, rfl⟩

set_option maxHeartbeats 4000000 in
set_option maxRecDepth 100000 in
theorem lp_al0 {l : Launch} {E : cE} {d : Nat} {Pz : Option Value → zH → Prop} {h0 : zH} {f0 : mF} {g0 : mA} {j : mA} (hd : 5 ≤ d) {Fr To BX HX fr to B Hd : Int → Int} {S n9 : Int} (hT : FiT Fr To BX HX fr to B Hd n9 S) {Al : Int → Int} {kn tt : Int} (ht0 : 0 ≤ tt) (ht1 : tt ≤ 7) (kx : ∀ (f : mF) (g : mA) (h : zH), g 357 = cpF Al (fun k => nC (dist fr to B Hd S n9.toNat (src (zshl 1 k))) tt) 0 8 → eqx [] f0 f → eqx [355, 357] g0 g → HC E f g j h → cAg E h0 h → Z l MX0_mostAlike d 0 0 Pz 31 [some (.ref (E.1 383)), some (.ref (E.1 63)), some (vI kn), some (vI tt), some (vI 8), none, none, none] [] h 0 0)  : ∀ (n : Nat) (i : Int) (X : Int → Int) (f : mF) (g : mA) (h : zH) (i0 : 0 ≤ i) (i1 : i ≤ 8) (i2 : 8 < i + n) (eg33 : g 33 = Fr) (eg34 : g 34 = To) (eg352 : g 352 = BX) (eg353 : g 353 = HX) (eg355 : g 355 = X) (eg357 : g 357 = cpF Al (fun k => nC (dist fr to B Hd S n9.toNat (src (zshl 1 k))) tt) 0 i) (ef32 : f 32 = n9) (ef354 : f 354 = S) (hfE : eqx [] f0 f) (hgE : eqx [355, 357] g0 g) (hH : HC E f g j h) (hA : cAg E h0 h), Z l MX0_mostAlike d 0 0 Pz 3 [some (.ref (E.1 383)), some (.ref (E.1 63)), some (vI kn), some (vI tt), some (vI i), none, none, none] [] h 0 0 := by
  intro n
  induction n with
  | zero => intro i X f g h i0 i1 i2 eg33 eg34 eg352 eg353 eg355 eg357 ef32 ef354 hfE hgE hH hA; exfalso; omega
  | succ n ih =>
    intro i X f g h i0 i1 i2 eg33 eg34 eg352 eg353 eg355 eg357 ef32 ef354 hfE hgE hH hA
    refine z_ild_4 (TX0_mostAlike.at 2 rfl) ?_
    refine z_bipush (by decide) (TX0_mostAlike.at 3 rfl) ?_
    refine z_icmp_ge (tgt := 31) (TX0_mostAlike.at 4 rfl) rfl (by omega) (by omega) (fun c1 => ?_) (fun c1 => ?_)
    · skip
      obtain rfl : i = 8 := by omega
      exact kx _ _ _ eg357 hfE hgE hH hA
    · skip
      refine z_ald_0 (TX0_mostAlike.at 5 rfl) ?_
      refine zc_getA (m := 11) (s := 5) (k := 357) (hH.lv (by decide)) (TX0_mostAlike.at 6 rfl) fl0_28 hH rfl rfl (by decide) (by decide) ?_
      refine z_ild_4 (TX0_mostAlike.at 7 rfl) ?_
      refine z_ald_0 (TX0_mostAlike.at 8 rfl) ?_
      refine z_ald_1 (TX0_mostAlike.at 9 rfl) ?_
      refine z_ild_4 (TX0_mostAlike.at 10 rfl) ?_
      refine z_ild_3 (TX0_mostAlike.at 11 rfl) ?_
      refine zc_callI3 (m := 11) (c_fromTo eg33 eg34 eg352 eg353 eg355 ef32 ef354 (by omega) (by omega) hT (by omega) (by omega) (by omega) (by omega)) (hH.lv (by decide)) (TX0_mostAlike.at 12 rfl) c0_148 rfl rfl hH hA (by omega) (Nat.le_of_ble_eq_true rfl) (fun x21 f21 g21 j21 h r21 q21 hH hA => ?_)
      obtain ⟨q21, xf, xg, xj⟩ := q21
      rw [xj] at hH
      have ef32 := (xf 32 (by decide)).trans ef32
      have ef354 := (xf 354 (by decide)).trans ef354
      have hfE := hfE.trans xf (by decide)
      have eg33 := (xg 33 (by decide)).trans eg33
      have eg34 := (xg 34 (by decide)).trans eg34
      have eg352 := (xg 352 (by decide)).trans eg352
      have eg353 := (xg 353 (by decide)).trans eg353
      have eg357 := (xg 357 (by decide)).trans eg357
      have hgE := hgE.trans xg (by decide)
      have qL := q21
      obtain rfl := qL
      obtain ⟨X21, eg355⟩ : ∃ z, g21 355 = z := ⟨_, rfl⟩
      refine zcf_iast (k := 357) (N := 8) (hH.lv (by decide)) (by decide) rfl (TX0_mostAlike.at 13 rfl) hH hA (by decide) (by omega) (show _ < ((8 : Nat) : Int) by omega) (by omega) (fun h g24 e1 e2 hH hA => ?_)
      have eg33 := (e1 33 (by decide)).trans eg33
      have eg34 := (e1 34 (by decide)).trans eg34
      have eg352 := (e1 352 (by decide)).trans eg352
      have eg353 := (e1 353 (by decide)).trans eg353
      have eg355 := (e1 355 (by decide)).trans eg355
      rw [eg357] at e2; have eg357 := e2
      have hgE := hgE.put e1 (by decide)
      refine z_iinc_4 (TX0_mostAlike.at 14 rfl) (Nat.le_of_ble_eq_true rfl) rfl ?_
      refine z_goto (tgt := 3) (TX0_mostAlike.at 15 rfl) rfl ?_
      exact ih (i + 1) _ _ _ _ (by omega) (by omega) (by omega) eg33 eg34 eg352 eg353 eg355 (eg357.trans (cpF_s i0 (by omega) rfl)) ef32 ef354 hfE hgE hH hA

