/-! ===== the class: orders, what they are told ===== -/
def runF (φ : Int → Int) (b : Int) (V : Int → Int) (n : Int) : Int → Int := fun t => if b ≤ t ∧ t < b + n then V (t - b) else φ t
theorem runF_0 {φ V : Int → Int} {b : Int} : runF φ b V 0 = φ := by funext t; unfold runF; rw [if_neg (by omega)]
theorem runF_s {φ V : Int → Int} {b n : Int} (hn : 0 ≤ n) {x : Int} (hx : x = V n) : iu (runF φ b V n) (b + n) x = runF φ b V (n + 1) := by
  funext t
  unfold iu runF
  by_cases e : t = b + n
  · rw [if_pos e, if_pos (by omega), hx, show t - b = n by omega]
  · rw [if_neg e]
    by_cases q : b ≤ t ∧ t < b + n
    · rw [if_pos q, if_pos (by omega)]
    · rw [if_neg q, if_neg (by omega)]
def lnV (Ln : Int → Int) (n9 : Int) : Int → Int := fun i => if i < n9 then Ln i else -1
/-- the facts that orders are told -/
def telF (φ Tm Mt Ln : Int → Int) (bc n9 : Int) : Int → Int := runF (runF (iu (iu φ 8 (Tm 0)) 12 bc) 13 Mt 8) 21 (lnV Ln n9) 10
set_option maxHeartbeats 4000000 in
set_option maxRecDepth 100000 in
theorem lp_tel1 {l : Launch} {E : cE} {d : Nat} {Pz : Option Value → zH → Prop} {h0 : zH} {f0 : mF} {g0 : mA} {j : mA}  {Φ0 Tm Mt Ln : Int → Int} {dp n9 : Int} (n90 : n9 ≤ 10) (kx : ∀ (i : Int) (f : mF) (g : mA) (h : zH), g 10 = runF Φ0 13 Mt 8 → g 44 = Tm → g 38 = Mt → g 35 = Ln → f 37 = dp → f 32 = n9 → eqx [] f0 f → eqx [10] g0 g → HC E f g j h → cAg E h0 h → Z l MX7_tellFacts d 0 0 Pz 65 [some (.ref (E.1 31)), some (vI i)] [] h 0 0)  : ∀ (n : Nat) (i : Int) (f : mF) (g : mA) (h : zH) (i0 : 0 ≤ i) (i1 : i ≤ 8) (i2 : 8 < i + n) (eg10 : g 10 = runF Φ0 13 Mt i) (eg44 : g 44 = Tm) (eg38 : g 38 = Mt) (eg35 : g 35 = Ln) (ef37 : f 37 = dp) (ef32 : f 32 = n9) (hfE : eqx [] f0 f) (hgE : eqx [10] g0 g) (hH : HC E f g j h) (hA : cAg E h0 h), Z l MX7_tellFacts d 0 0 Pz 35 [some (.ref (E.1 31)), some (vI i)] [] h 0 0 := by
  intro n
  induction n with
  | zero => intro i f g h i0 i1 i2 eg10 eg44 eg38 eg35 ef37 ef32 hfE hgE hH hA; exfalso; omega
  | succ n ih =>
    intro i f g h i0 i1 i2 eg10 eg44 eg38 eg35 ef37 ef32 hfE hgE hH hA
    refine z_ild_1 (TX7_tellFacts_0.at 19 rfl) ?_
    refine z_bipush (by decide) (TX7_tellFacts_0.at 20 rfl) ?_
    refine z_icmp_ge (tgt := 65) (TX7_tellFacts_0.at 21 rfl) rfl (by omega) (by omega) (fun c1 => ?_) (fun c1 => ?_)
    · skip
      have ei : i = 8 := (by omega)
      subst ei
      exact kx _ _ _ _ eg10 eg44 eg38 eg35 ef37 ef32 hfE hgE hH hA
    · skip
      refine z_ald_0 (TX7_tellFacts_0.at 22 rfl) ?_
      refine zc_getA (m := 0) (s := 10) (k := 10) (hH.lv (by decide)) (TX7_tellFacts_0.at 23 rfl) fl7_64 hH rfl rfl (by decide) (by decide) ?_
      refine z_bipush (by decide) (TX7_tellFacts_0.at 24 rfl) ?_
      refine z_ild_1 (TX7_tellFacts_0.at 25 rfl) ?_
      refine z_iadd (TX7_tellFacts_0.at 26 rfl) ?_
      refine z_ald_0 (TX7_tellFacts_0.at 27 rfl) ?_
      refine zc_getO (m := 0) (s := 0) (k := 63) (hH.lv (by decide)) (TX7_tellFacts_0.at 28 rfl) fl7_12 hH rfl rfl (by decide) (by decide) ?_
      refine zc_getA (m := 1) (s := 6) (k := 38) (hH.lv (by decide)) (TX7_tellFacts_0.at 29 rfl) fl7_160 hH rfl rfl (by decide) (by decide) ?_
      refine z_ild_1 (TX7_tellFacts_0.at 30 rfl) ?_
      refine zcf_iald (k := 38) (N := 8) (hH.lv (by decide)) (by decide) rfl eg38 (TX7_tellFacts_0.at 31 rfl) hH (by decide) (by omega) (show _ < ((8 : Nat) : Int) by omega) (fun r57 => ?_)
      refine zcf_iast (k := 10) (N := 31) (hH.lv (by decide)) (by decide) rfl (TX7_tellFacts_0.at 32 rfl) hH hA (by decide) (by omega) (show _ < ((31 : Nat) : Int) by omega) (by omega) (fun h g58 e1 e2 hH hA => ?_)
      rw [eg10] at e2; have eg10 := e2
      have eg44 := (e1 44 (by decide)).trans eg44
      have eg38 := (e1 38 (by decide)).trans eg38
      have eg35 := (e1 35 (by decide)).trans eg35
      have hgE := hgE.put e1 (by decide)
      refine z_iinc_1 (TX7_tellFacts_0.at 33 rfl) (Nat.le_of_ble_eq_true rfl) rfl ?_
      refine z_goto (tgt := 35) (TX7_tellFacts_0.at 34 rfl) rfl ?_
      exact ih _ _ _ _ (by omega) (by omega) (by omega) (eg10.trans (runF_s (by omega) rfl)) eg44 eg38 eg35 ef37 ef32 hfE hgE hH hA

set_option maxHeartbeats 4000000 in
set_option maxRecDepth 100000 in
theorem lp_tel2 {l : Launch} {E : cE} {d : Nat} {Pz : Option Value → zH → Prop} {h0 : zH} {f0 : mF} {g0 : mA} {j : mA}  {Φ0 Tm Mt Ln : Int → Int} {dp n9 : Int} (n90 : n9 ≤ 10) (kx : ∀ (i : Int) (f : mF) (g : mA) (h : zH), g 10 = runF Φ0 21 (lnV Ln n9) 10 → g 44 = Tm → g 38 = Mt → g 35 = Ln → f 37 = dp → f 32 = n9 → eqx [] f0 f → eqx [10] g0 g → HC E f g j h → cAg E h0 h → Z l MX7_tellFacts d 0 0 Pz 112 [some (.ref (E.1 31)), some (vI i)] [] h 0 0)  : ∀ (n : Nat) (i : Int) (f : mF) (g : mA) (h : zH) (i0 : 0 ≤ i) (i1 : i ≤ 10) (i2 : 10 < i + n) (eg10 : g 10 = runF Φ0 21 (lnV Ln n9) i) (eg44 : g 44 = Tm) (eg38 : g 38 = Mt) (eg35 : g 35 = Ln) (ef37 : f 37 = dp) (ef32 : f 32 = n9) (hfE : eqx [] f0 f) (hgE : eqx [10] g0 g) (hH : HC E f g j h) (hA : cAg E h0 h), Z l MX7_tellFacts d 0 0 Pz 67 [some (.ref (E.1 31)), some (vI i)] [] h 0 0 := by
  intro n
  induction n with
  | zero => intro i f g h i0 i1 i2 eg10 eg44 eg38 eg35 ef37 ef32 hfE hgE hH hA; exfalso; omega
  | succ n ih =>
    intro i f g h i0 i1 i2 eg10 eg44 eg38 eg35 ef37 ef32 hfE hgE hH hA
    refine z_ild_1 (TX7_tellFacts_0.at 37 rfl) ?_
    refine z_bipush (by decide) (TX7_tellFacts_0.at 38 rfl) ?_
    refine z_icmp_ge (tgt := 112) (TX7_tellFacts_0.at 39 rfl) rfl (by omega) (by omega) (fun c1 => ?_) (fun c1 => ?_)
    · skip
      have ei : i = 10 := (by omega)
      subst ei
      exact kx _ _ _ _ eg10 eg44 eg38 eg35 ef37 ef32 hfE hgE hH hA
    · skip
      refine z_ald_0 (TX7_tellFacts_1.at 0 rfl) ?_
      refine zc_getA (m := 0) (s := 10) (k := 10) (hH.lv (by decide)) (TX7_tellFacts_1.at 1 rfl) fl7_64 hH rfl rfl (by decide) (by decide) ?_
      refine z_bipush (by decide) (TX7_tellFacts_1.at 2 rfl) ?_
      refine z_ild_1 (TX7_tellFacts_1.at 3 rfl) ?_
      refine z_iadd (TX7_tellFacts_1.at 4 rfl) ?_
      refine z_ild_1 (TX7_tellFacts_1.at 5 rfl) ?_
      refine z_ald_0 (TX7_tellFacts_1.at 6 rfl) ?_
      refine zc_getO (m := 0) (s := 0) (k := 63) (hH.lv (by decide)) (TX7_tellFacts_1.at 7 rfl) fl7_12 hH rfl rfl (by decide) (by decide) ?_
      refine zc_getIE (m := 1) (s := 0) (k := 32) (hH.lv (by decide)) ef32 (TX7_tellFacts_1.at 8 rfl) fl7_96 hH rfl rfl (by decide) (by decide) (fun r86 => ?_)
      refine z_icmp_ge (tgt := 104) (TX7_tellFacts_1.at 9 rfl) rfl (by omega) (by omega) (fun c2 => ?_) (fun c2 => ?_)
      · skip
        refine z_iconst (TX7_tellFacts_1.at 16 rfl) ?_
        refine zcf_iast (k := 10) (N := 31) (hH.lv (by decide)) (by decide) rfl (TX7_tellFacts_1.at 17 rfl) hH hA (by decide) (by omega) (show _ < ((31 : Nat) : Int) by omega) (by omega) (fun h g105 e1 e2 hH hA => ?_)
        rw [eg10] at e2; have eg10 := e2
        have eg44 := (e1 44 (by decide)).trans eg44
        have eg38 := (e1 38 (by decide)).trans eg38
        have eg35 := (e1 35 (by decide)).trans eg35
        have hgE := hgE.put e1 (by decide)
        refine z_iinc_1 (TX7_tellFacts_1.at 18 rfl) (Nat.le_of_ble_eq_true rfl) rfl ?_
        refine z_goto (tgt := 67) (TX7_tellFacts_1.at 19 rfl) rfl ?_
        exact ih _ _ _ _ (by omega) (by omega) (by omega) (eg10.trans (runF_s (by omega) (by unfold lnV; first | (rw [if_pos (by omega)]; done) | (rw [if_neg (by omega)]; done)))) eg44 eg38 eg35 ef37 ef32 hfE hgE hH hA
      · skip
        refine z_ald_0 (TX7_tellFacts_1.at 10 rfl) ?_
        refine zc_getO (m := 0) (s := 0) (k := 63) (hH.lv (by decide)) (TX7_tellFacts_1.at 11 rfl) fl7_12 hH rfl rfl (by decide) (by decide) ?_
        refine zc_getA (m := 1) (s := 3) (k := 35) (hH.lv (by decide)) (TX7_tellFacts_1.at 12 rfl) fl7_119 hH rfl rfl (by decide) (by decide) ?_
        refine z_ild_1 (TX7_tellFacts_1.at 13 rfl) ?_
        refine zcf_iald (k := 35) (N := 10) (hH.lv (by decide)) (by decide) rfl eg35 (TX7_tellFacts_1.at 14 rfl) hH (by decide) (by omega) (show _ < ((10 : Nat) : Int) by omega) (fun r100 => ?_)
        refine z_goto (tgt := 105) (TX7_tellFacts_1.at 15 rfl) rfl ?_
        refine zcf_iast (k := 10) (N := 31) (hH.lv (by decide)) (by decide) rfl (TX7_tellFacts_1.at 17 rfl) hH hA (by decide) (by omega) (show _ < ((31 : Nat) : Int) by omega) (by omega) (fun h g105 e1 e2 hH hA => ?_)
        rw [eg10] at e2; have eg10 := e2
        have eg44 := (e1 44 (by decide)).trans eg44
        have eg38 := (e1 38 (by decide)).trans eg38
        have eg35 := (e1 35 (by decide)).trans eg35
        have hgE := hgE.put e1 (by decide)
        refine z_iinc_1 (TX7_tellFacts_1.at 18 rfl) (Nat.le_of_ble_eq_true rfl) rfl ?_
        refine z_goto (tgt := 67) (TX7_tellFacts_1.at 19 rfl) rfl ?_
        exact ih _ _ _ _ (by omega) (by omega) (by omega) (eg10.trans (runF_s (by omega) (by unfold lnV; first | (rw [if_pos (by omega)]; done) | (rw [if_neg (by omega)]; done)))) eg44 eg38 eg35 ef37 ef32 hfE hgE hH hA

set_option maxHeartbeats 4000000 in
set_option maxRecDepth 100000 in
theorem c_tell {l : Launch} {E : cE} {f : mF} {g j : mA} {Φ : Int → Int} {Tm : Int → Int} {Mt : Int → Int} {Ln : Int → Int} {dp : Int} {n9 : Int}  (eg10 : g 10 = Φ) (eg44 : g 44 = Tm) (eg38 : g 38 = Mt) (eg35 : g 35 = Ln) (ef37 : f 37 = dp) (ef32 : f 32 = n9) (d0 : 0 ≤ dp) (d1 : dp ≤ 1023) (n90 : n9 ≤ 10) : CM l E MX7_tellFacts 1 [.ref (E.1 31)] f g j (PV (fun f' g' j' => (g' 10 = telF Φ Tm Mt Ln (cnt dp 10) n9) ∧ eqx [] f f' ∧ eqx [10] g g' ∧ j' = j)) := by
  refine CM.intro [some (.ref (E.1 31)), none] (by decide) (Nat.le_of_ble_eq_true rfl) rfl (fun d hd h0 h hH hA => ?_)
  have hfE : eqx [] f f := eqx.rf
  have hgE : eqx [10] g g := eqx.rf
  refine z_ald_0 (TX7_tellFacts_0.at 0 rfl) ?_
  refine zc_getA (m := 0) (s := 10) (k := 10) (hH.lv (by decide)) (TX7_tellFacts_0.at 1 rfl) fl7_64 hH rfl rfl (by decide) (by decide) ?_
  refine z_bipush (by decide) (TX7_tellFacts_0.at 2 rfl) ?_
  refine z_ald_0 (TX7_tellFacts_0.at 3 rfl) ?_
  refine zc_getO (m := 0) (s := 0) (k := 63) (hH.lv (by decide)) (TX7_tellFacts_0.at 4 rfl) fl7_12 hH rfl rfl (by decide) (by decide) ?_
  refine zc_getA (m := 1) (s := 12) (k := 44) (hH.lv (by decide)) (TX7_tellFacts_0.at 5 rfl) fl7_178 hH rfl rfl (by decide) (by decide) ?_
  refine z_iconst (TX7_tellFacts_0.at 6 rfl) ?_
  refine zcf_iald (k := 44) (N := 3) (hH.lv (by decide)) (by decide) rfl eg44 (TX7_tellFacts_0.at 7 rfl) hH (by decide) (by omega) (show _ < ((3 : Nat) : Int) by omega) (fun r14 => ?_)
  refine zcf_iast (k := 10) (N := 31) (hH.lv (by decide)) (by decide) rfl (TX7_tellFacts_0.at 8 rfl) hH hA (by decide) (by omega) (show _ < ((31 : Nat) : Int) by omega) (by omega) (fun h g15 e1 e2 hH hA => ?_)
  rw [eg10] at e2; have eg10 := e2
  have eg44 := (e1 44 (by decide)).trans eg44
  have eg38 := (e1 38 (by decide)).trans eg38
  have eg35 := (e1 35 (by decide)).trans eg35
  have hgE := hgE.put e1 (by decide)
  refine z_ald_0 (TX7_tellFacts_0.at 9 rfl) ?_
  refine zc_getA (m := 0) (s := 10) (k := 10) (hH.lv (by decide)) (TX7_tellFacts_0.at 10 rfl) fl7_64 hH rfl rfl (by decide) (by decide) ?_
  refine z_bipush (by decide) (TX7_tellFacts_0.at 11 rfl) ?_
  refine z_ald_0 (TX7_tellFacts_0.at 12 rfl) ?_
  refine zc_getO (m := 0) (s := 0) (k := 63) (hH.lv (by decide)) (TX7_tellFacts_0.at 13 rfl) fl7_12 hH rfl rfl (by decide) (by decide) ?_
  refine zc_getIE (m := 1) (s := 5) (k := 37) (hH.lv (by decide)) ef37 (TX7_tellFacts_0.at 14 rfl) fl7_125 hH rfl rfl (by decide) (by decide) (fun r26 => ?_)
  refine zs_call1 (c_bits d0 d1) (TX7_tellFacts_0.at 15 rfl) c7_264 rfl (by omega) (Nat.le_of_ble_eq_true rfl) (fun r29 => ?_)
  refine zcf_iast (k := 10) (N := 31) (hH.lv (by decide)) (by decide) rfl (TX7_tellFacts_0.at 16 rfl) hH hA (by decide) (by omega) (show _ < ((31 : Nat) : Int) by omega) (by omega) (fun h g32 e1 e2 hH hA => ?_)
  rw [eg10] at e2; have eg10 := e2
  have eg44 := (e1 44 (by decide)).trans eg44
  have eg38 := (e1 38 (by decide)).trans eg38
  have eg35 := (e1 35 (by decide)).trans eg35
  have hgE := hgE.put e1 (by decide)
  refine z_iconst (TX7_tellFacts_0.at 17 rfl) ?_
  refine z_ist_1 (TX7_tellFacts_0.at 18 rfl) (Nat.le_of_ble_eq_true rfl) rfl ?_
  refine lp_tel1 (n9 := n9) n90 (fun i f g h eg10 eg44 eg38 eg35 ef37 ef32 xf xg hH hA => ?_) 9 0 _ _ _ (by omega) (by omega) (by omega) (eg10.trans runF_0.symm) eg44 eg38 eg35 ef37 ef32 hfE hgE hH hA
  refine z_iconst (TX7_tellFacts_0.at 35 rfl) ?_
  refine z_ist_1 (TX7_tellFacts_0.at 36 rfl) (by decide) rfl ?_
  refine lp_tel2 (n9 := n9) n90 (fun i f g h eg10 eg44 eg38 eg35 ef37 ef32 xf xg hH hA => ?_) 11 0 _ _ _ (by omega) (by omega) (by omega) (eg10.trans runF_0.symm) eg44 eg38 eg35 ef37 ef32 xf xg hH hA
  refine zc_vret (TX7_tellFacts_1.at 20 rfl) rfl hH hA ?_
  exact ⟨eg10, xf, xg, rfl⟩

