/-! ===== the class: reading on behind a fault ===== -/
def DdS (tk fl ag : Int) (f : mF) : Prop := f 293 = tk ∧ (1 ≤ tk ∧ tk ≤ 401) ∧ (0 ≤ f 294 ∧ f 294 < tk) ∧ (0 ≤ f 295 ∧ f 295 ≤ 50) ∧ (0 ≤ f 417 ∧ f 417 ≤ 400) ∧ in01 (f 418) ∧ (ag = 1 → f 418 = 1) ∧ f 289 = fl ∧ fl ≠ -1
section DD
variable {tk fl ag : Int} {f f' : mF}
theorem DdS.a {z : Int} (h : DdS tk fl ag f) (xf : eqx [289] f f') (e : f' 289 = flF (f 289) z) : DdS tk fl ag f' := by
  obtain ⟨h1, h2, h3, h4, h5, h6, h7, h8, h9⟩ := h
  unfold DdS
  rw [xf 293 (by decide), xf 294 (by decide), xf 295 (by decide), xf 417 (by decide), xf 418 (by decide), e, flF, if_neg (by omega)]
  exact ⟨h1, h2, h3, h4, h5, h6, h7, h8, h9⟩
theorem DdS.b (h : DdS tk fl ag f) (xf : eqx [294] f f') (e : f' 294 = gnF (f 293) (f 294)) : DdS tk fl ag f' := by
  obtain ⟨h1, h2, h3, h4, h5, h6, h7, h8, h9⟩ := h
  unfold DdS
  have q := gnF_in (tk := f 293) (nx := f 294) h3.1 (by omega) (by omega) (by omega)
  rw [xf 293 (by decide), xf 289 (by decide), xf 295 (by decide), xf 417 (by decide), xf 418 (by decide), e]
  exact ⟨h1, h2, by omega, h4, h5, h6, h7, h8, h9⟩
theorem DdS.c {z : Int} {P : Prop} [Decidable P] (h : DdS tk fl ag f) (xf : eqx [289, 294] f f') (e1 : f' 289 = (if P then f 289 else flF (f 289) z)) (e2 : f' 294 = (if P then gnF (f 293) (f 294) else f 294)) : DdS tk fl ag f' := by
  obtain ⟨h1, h2, h3, h4, h5, h6, h7, h8, h9⟩ := h
  unfold DdS
  have q := gnF_in (tk := f 293) (nx := f 294) h3.1 (by omega) (by omega) (by omega)
  have q1 : f' 289 = fl := by rw [e1]; split; exact h8; unfold flF; rw [if_neg (by omega)]; exact h8
  have q2 : 0 ≤ f' 294 ∧ f' 294 < tk := by rw [e2]; split <;> omega
  rw [xf 293 (by decide), xf 295 (by decide), xf 417 (by decide), xf 418 (by decide)]
  exact ⟨h1, h2, q2, h4, h5, h6, h7, q1, h9⟩
theorem DdS.p (h : DdS tk fl ag f) (xf : eqx [417] f f') (e : f' 417 = (if f 417 < 400 then f 417 + 1 else f 417)) : DdS tk fl ag f' := by
  obtain ⟨h1, h2, h3, h4, h5, h6, h7, h8, h9⟩ := h
  unfold DdS
  have q : 0 ≤ f' 417 ∧ f' 417 ≤ 400 := by rw [e]; split <;> omega
  rw [xf 293 (by decide), xf 289 (by decide), xf 294 (by decide), xf 295 (by decide), xf 418 (by decide)]
  exact ⟨h1, h2, h3, h4, q, h6, h7, h8, h9⟩
theorem DdS.n (h : DdS tk fl ag f) (xf : eqx [] f f') : DdS tk fl ag f' := by rw [eqx_nil xf]; exact h
theorem DdS.q (h : DdS tk fl ag f) (e1 : ∀ q, q ≠ 295 → f' q = f q) (e2 : f' 295 = f 295 + 1) (hp : f 295 < 50) : DdS tk fl ag f' := by
  obtain ⟨h1, h2, h3, h4, h5, h6, h7, h8, h9⟩ := h
  unfold DdS
  rw [e1 293 (by decide), e1 289 (by decide), e1 294 (by decide), e1 417 (by decide), e1 418 (by decide), e2]
  exact ⟨h1, h2, h3, by omega, h5, h6, h7, h8, h9⟩
theorem DdS.g (h : DdS tk fl ag f) (e1 : ∀ q, q ≠ 418 → f' q = f q) (e2 : f' 418 = 1) : DdS tk fl ag f' := by
  obtain ⟨h1, h2, h3, h4, h5, h6, h7, h8, h9⟩ := h
  unfold DdS
  rw [e1 293 (by decide), e1 289 (by decide), e1 294 (by decide), e1 417 (by decide), e1 295 (by decide), e2]
  exact ⟨h1, h2, h3, h4, h5, Or.inr rfl, fun _ => rfl, h8, h9⟩
end DD
theorem small_in {Kd Vl : Int → Int} {nx a b r : Int} (e : r = (if isN Kd Vl nx a b then Vl nx else a)) (h : a ≤ b) : a ≤ r ∧ r ≤ b := by
  rw [e]
  split
  · rename_i hh; exact hh.2
  · omega
theorem zor_in (a b : Int) : zIn (zor a b) := by
  unfold zor
  have h1 := Int32.minValue_le_toInt (Int32.ofInt a ||| Int32.ofInt b)
  have h2 := Int32.toInt_le (Int32.ofInt a ||| Int32.ofInt b)
  have e1 : Int32.minValue.toInt = -2147483648 := by decide
  have e2 : Int32.maxValue.toInt = 2147483647 := by decide
  exact ⟨by omega, by omega⟩
def DdM (l : Launch) (E : cE) (M : zM) (n : Nat) (as : List Value) (tk : Int) : Prop := ∀ (fl ag : Int) (f : mF) (g j : mA), DdS tk fl ag f → CM l E M n (.ref (E.1 319) :: as) f g j (PV (fun f' g' j' => (DdS tk fl ag f') ∧ eqx [289, 294, 295, 417, 418] f f' ∧ eqx [424] g g' ∧ j' = j))
set_option maxHeartbeats 4000000 in
set_option maxRecDepth 100000 in
theorem d_aim {l : Launch} {E : cE} {f : mF} {g j : mA} {t : Int}   (ht : zIn t) (N1 : 0 ≤ f 417 ∧ f 417 ≤ 400) : CM l E MX4_aimHere 0 [.ref (E.1 447), vI t] f g j (PV (fun f' g' j' => (True) ∧ eqx [] f f' ∧ eqx [424] g g' ∧ j' = j)) := by
  refine CM.intro [some (.ref (E.1 447)), some (vI t)] (by decide) (Nat.le_of_ble_eq_true rfl) rfl (fun d hd h0 h hH hA => ?_)
  have hfE : eqx [] f f := eqx.rf
  have hgE : eqx [424] g g := eqx.rf
  refine z_ild_1 (TX4_aimHere.at 0 rfl) ?_
  refine z_if_lt (tgt := 37) (TX4_aimHere.at 1 rfl) rfl (by omega) (fun c1 => ?_) (fun c1 => ?_)
  · skip
    refine zc_vret (TX4_aimHere.at 21 rfl) rfl hH hA ?_
    exact ⟨trivial, hfE, hgE, rfl⟩
  · skip
    refine z_ild_1 (TX4_aimHere.at 2 rfl) ?_
    refine z_ald_0 (TX4_aimHere.at 3 rfl) ?_
    refine zc_getI (m := 13) (s := 1) (k := 417) (hH.lv (by decide)) (TX4_aimHere.at 4 rfl) fl4_15 hH rfl rfl (by decide) (by decide) (fun r6 => ?_)
    refine z_icmp_ge (tgt := 37) (TX4_aimHere.at 5 rfl) rfl (by omega) (by omega) (fun c2 => ?_) (fun c2 => ?_)
    · skip
      refine zc_vret (TX4_aimHere.at 21 rfl) rfl hH hA ?_
      exact ⟨trivial, hfE, hgE, rfl⟩
    · skip
      refine z_ald_0 (TX4_aimHere.at 6 rfl) ?_
      refine zc_getA (m := 13) (s := 8) (k := 424) (hH.lv (by decide)) (TX4_aimHere.at 7 rfl) fl4_44 hH rfl rfl (by decide) (by decide) ?_
      refine z_ild_1 (TX4_aimHere.at 8 rfl) ?_
      refine z_ald_0 (TX4_aimHere.at 9 rfl) ?_
      refine zc_getA (m := 13) (s := 8) (k := 424) (hH.lv (by decide)) (TX4_aimHere.at 10 rfl) fl4_44 hH rfl rfl (by decide) (by decide) ?_
      refine z_ild_1 (TX4_aimHere.at 11 rfl) ?_
      refine zcf_iald (k := 424) (N := 400) (hH.lv (by decide)) (by decide) rfl rfl (TX4_aimHere.at 12 rfl) hH (by decide) (by omega) (show _ < ((400 : Nat) : Int) by omega) (fun r22 => ?_)
      refine z_sipush (by decide) (TX4_aimHere.at 13 rfl) ?_
      refine z_iand (TX4_aimHere.at 14 rfl) ?_
      refine z_ald_0 (TX4_aimHere.at 15 rfl) ?_
      refine zc_getI (m := 13) (s := 1) (k := 417) (hH.lv (by decide)) (TX4_aimHere.at 16 rfl) fl4_15 hH rfl rfl (by decide) (by decide) (fun r28 => ?_)
      refine z_sipush (by decide) (TX4_aimHere.at 17 rfl) ?_
      refine z_iand (TX4_aimHere.at 18 rfl) ?_
      refine z_ior (TX4_aimHere.at 19 rfl) ?_
      refine zcf_iast (k := 424) (N := 400) (hH.lv (by decide)) (by decide) rfl (TX4_aimHere.at 20 rfl) hH hA (by decide) (by omega) (show _ < ((400 : Nat) : Int) by omega) (by exact zor_in _ _) (fun h g36 e1 e2 hH hA => ?_)
      have hgE := hgE.put e1 (by decide)
      refine zc_vret (TX4_aimHere.at 21 rfl) rfl hH hA ?_
      exact ⟨trivial, hfE, hgE, rfl⟩

set_option maxHeartbeats 4000000 in
set_option maxRecDepth 100000 in
theorem d_word {l : Launch} {E : cE} {f : mF} {g j : mA} {tk fl ag : Int}   (hS : DdS tk fl ag f) : CM l E MX3_wordPart 3 [.ref (E.1 319)] f g j (PV (fun f' g' j' => (DdS tk fl ag f') ∧ eqx [289, 294, 295, 417, 418] f f' ∧ eqx [424] g g' ∧ j' = j)) := by
  refine CM.intro [some (.ref (E.1 319)), none] (by decide) (Nat.le_of_ble_eq_true rfl) rfl (fun d hd h0 h hH hA => ?_)
  have hfE : eqx [289, 294, 295, 417, 418] f f := eqx.rf
  have hgE : eqx [424] g g := eqx.rf
  have s1 := hS.1
  have s2 := hS.2.1
  have s3 := hS.2.2.1
  have s4 := hS.2.2.2.1
  have s5 := hS.2.2.2.2.1
  have s8 := hS.2.2.2.2.2.2.2.1
  have s9 := hS.2.2.2.2.2.2.2.2
  refine z_ald_0 (TX3_wordPart_0.at 0 rfl) ?_
  refine zc_getA (m := 9) (s := 2) (k := 290) (hH.lv (by decide)) (TX3_wordPart_0.at 1 rfl) fl3_24 hH rfl rfl (by decide) (by decide) ?_
  refine z_ald_0 (TX3_wordPart_0.at 2 rfl) ?_
  refine zc_getI (m := 9) (s := 6) (k := 294) (hH.lv (by decide)) (TX3_wordPart_0.at 3 rfl) fl3_37 hH rfl rfl (by decide) (by decide) (fun r5 => ?_)
  refine zcf_iald (k := 290) (N := 401) (hH.lv (by decide)) (by decide) rfl rfl (TX3_wordPart_0.at 4 rfl) hH (by decide) (by omega) (show _ < ((401 : Nat) : Int) by omega) (fun r8 => ?_)
  refine z_iconst (TX3_wordPart_0.at 5 rfl) ?_
  refine z_icmp_ne (tgt := 25) (TX3_wordPart_0.at 6 rfl) rfl (by omega) (by omega) (fun c1 => ?_) (fun c1 => ?_)
  · skip
    refine z_iconst (TX3_wordPart_0.at 13 rfl) ?_
    refine z_ist_1 (TX3_wordPart_0.at 14 rfl) (Nat.le_of_ble_eq_true rfl) rfl ?_
    refine z_ald_0 (TX3_wordPart_0.at 15 rfl) ?_
    refine zc_getI (m := 9) (s := 8) (k := 296) (hH.lv (by decide)) (TX3_wordPart_0.at 16 rfl) fl3_43 hH rfl rfl (by decide) (by decide) (fun r28 => ?_)
    refine z_if_eq (tgt := 49) (TX3_wordPart_0.at 17 rfl) rfl (by omega) (fun c2 => ?_) (fun c2 => ?_)
    · skip
      refine z_ild_1 (TX3_wordPart_0.at 25 rfl) ?_
      refine z_bipush (by decide) (TX3_wordPart_0.at 26 rfl) ?_
      refine z_icmp_lt (tgt := 61) (TX3_wordPart_0.at 27 rfl) rfl (by omega) (by omega) (fun c3 => ?_) (fun c3 => ?_)
      · skip
        refine z_ald_0 (TX3_wordPart_0.at 31 rfl) ?_
        refine zc_callV0 (m := 9) (c_fail rfl rfl rfl (by omega) (by omega)) (hH.lv (by decide)) (TX3_wordPart_0.at 32 rfl) c3_54 rfl rfl hH hA (by omega) (Nat.le_of_ble_eq_true rfl) (fun f62 g62 j62 h q62 hH hA => ?_)
        obtain ⟨q62, xf, xg, xj⟩ := q62
        rw [xj] at hH
        have hfE := hfE.trans xf (by decide)
        have hgE := hgE.trans xg (by decide)
        have qL := q62
        have hS := hS.a xf qL
        have s1 := hS.1
        have s2 := hS.2.1
        have s3 := hS.2.2.1
        have s4 := hS.2.2.2.1
        have s5 := hS.2.2.2.2.1
        have s8 := hS.2.2.2.2.2.2.2.1
        have s9 := hS.2.2.2.2.2.2.2.2
        refine zc_vret (TX3_wordPart_0.at 33 rfl) rfl hH hA ?_
        exact ⟨by first | exact hS | exact hS.g e1 e2, hfE, hgE, rfl⟩
      · skip
        refine z_ild_1 (TX3_wordPart_0.at 28 rfl) ?_
        refine z_bipush (by decide) (TX3_wordPart_0.at 29 rfl) ?_
        refine z_icmp_le (tgt := 66) (TX3_wordPart_0.at 30 rfl) rfl (by omega) (by omega) (fun c4 => ?_) (fun c4 => ?_)
        · skip
          refine z_ald_0 (TX3_wordPart_0.at 34 rfl) ?_
          refine zc_callV0 (m := 9) (c_goOn rfl rfl (by omega) (by omega) (by omega) (by omega) ) (hH.lv (by decide)) (TX3_wordPart_0.at 35 rfl) c3_179 rfl rfl hH hA (by omega) (Nat.le_of_ble_eq_true rfl) (fun f67 g67 j67 h q67 hH hA => ?_)
          obtain ⟨q67, xf, xg, xj⟩ := q67
          rw [xj] at hH
          have hfE := hfE.trans xf (by decide)
          have hgE := hgE.trans xg (by decide)
          have qL := q67
          have hS := hS.b xf qL
          have s1 := hS.1
          have s2 := hS.2.1
          have s3 := hS.2.2.1
          have s4 := hS.2.2.2.1
          have s5 := hS.2.2.2.2.1
          have s8 := hS.2.2.2.2.2.2.2.1
          have s9 := hS.2.2.2.2.2.2.2.2
          refine z_ald_0 (TX3_wordPart_0.at 36 rfl) ?_
          refine zc_getI (m := 9) (s := 8) (k := 296) (hH.lv (by decide)) (TX3_wordPart_0.at 37 rfl) fl3_43 hH rfl rfl (by decide) (by decide) (fun r71 => ?_)
          refine z_if_ne (tgt := 104) (TX3_wordPart_0.at 38 rfl) rfl (by omega) (fun c5 => ?_) (fun c5 => ?_)
          · skip
            refine z_ald_0 (TX3_wordPart_1.at 13 rfl) ?_
            refine zc_getI (m := 9) (s := 8) (k := 296) (hH.lv (by decide)) (TX3_wordPart_1.at 14 rfl) fl3_43 hH rfl rfl (by decide) (by decide) (fun r105 => ?_)
            refine z_if_ne (tgt := 138) (TX3_wordPart_1.at 15 rfl) rfl (by omega) (fun c6 => ?_) (fun c6 => ?_)
            · skip
              refine z_ald_0 (TX3_wordPart_1.at 30 rfl) ?_
              refine zc_getO (m := 9) (s := 0) (k := 447) (hH.lv (by decide)) (TX3_wordPart_1.at 31 rfl) fl3_14 hH rfl rfl (by decide) (by decide) ?_
              refine z_iconst (TX3_wordPart_1.at 32 rfl) ?_
              refine z_ild_1 (TX3_wordPart_1.at 33 rfl) ?_
              refine z_bipush (by decide) (TX3_wordPart_1.at 34 rfl) ?_
              refine z_isub (TX3_wordPart_1.at 35 rfl) ?_
              refine zc_callV2 (m := 13) (c_put rfl rfl (by omega) (by omega) (by omega) (by omega) (by omega) (by omega) (by omega) ) (hH.lv (by decide)) (TX3_wordPart_1.at 36 rfl) c3_214 rfl rfl hH hA (by omega) (Nat.le_of_ble_eq_true rfl) (fun f147 g147 j147 h q147 hH hA => ?_)
              obtain ⟨q147, xf, xg, xj⟩ := q147
              rw [xj] at hH
              have hfE := hfE.trans xf (by decide)
              have hgE := hgE.trans xg (by decide)
              have qL := q147
              have hS := hS.p xf qL.1
              have s1 := hS.1
              have s2 := hS.2.1
              have s3 := hS.2.2.1
              have s4 := hS.2.2.2.1
              have s5 := hS.2.2.2.2.1
              have s8 := hS.2.2.2.2.2.2.2.1
              have s9 := hS.2.2.2.2.2.2.2.2
              refine z_ild_1 (TX3_wordPart_1.at 37 rfl) ?_
              refine z_bipush (by decide) (TX3_wordPart_1.at 38 rfl) ?_
              refine z_icmp_eq (tgt := 162) (TX3_wordPart_1.at 39 rfl) rfl (by omega) (by omega) (fun c7 => ?_) (fun c7 => ?_)
              · skip
                refine z_ald_0 (TX3_wordPart_2.at 3 rfl) ?_
                refine zc_getO (m := 9) (s := 0) (k := 447) (hH.lv (by decide)) (TX3_wordPart_2.at 4 rfl) fl3_14 hH rfl rfl (by decide) (by decide) ?_
                refine z_iconst (TX3_wordPart_2.at 5 rfl) ?_
                refine zc_putZ (m := 13) (s := 2) (k := 418) (hH.lv (by decide)) (TX3_wordPart_2.at 6 rfl) fp3_241 hH hA rfl rfl (by decide) (by decide) (by first | omega | exact b2i_01 _) (fun h f167 e1 e2 hH hA => ?_)
                have hfE := hfE.put e1 (by decide)
                refine zc_vret (TX3_wordPart_2.at 7 rfl) rfl hH hA ?_
                exact ⟨by first | exact hS | exact hS.g e1 e2, hfE, hgE, rfl⟩
              · skip
                refine z_ild_1 (TX3_wordPart_2.at 0 rfl) ?_
                refine z_bipush (by decide) (TX3_wordPart_2.at 1 rfl) ?_
                refine z_icmp_ne (tgt := 170) (TX3_wordPart_2.at 2 rfl) rfl (by omega) (by omega) (fun c8 => ?_) (fun c8 => ?_)
                · skip
                  refine zc_vret (TX3_wordPart_2.at 7 rfl) rfl hH hA ?_
                  exact ⟨by first | exact hS | exact hS.g e1 e2, hfE, hgE, rfl⟩
                · skip
                  refine z_ald_0 (TX3_wordPart_2.at 3 rfl) ?_
                  refine zc_getO (m := 9) (s := 0) (k := 447) (hH.lv (by decide)) (TX3_wordPart_2.at 4 rfl) fl3_14 hH rfl rfl (by decide) (by decide) ?_
                  refine z_iconst (TX3_wordPart_2.at 5 rfl) ?_
                  refine zc_putZ (m := 13) (s := 2) (k := 418) (hH.lv (by decide)) (TX3_wordPart_2.at 6 rfl) fp3_241 hH hA rfl rfl (by decide) (by decide) (by first | omega | exact b2i_01 _) (fun h f167 e1 e2 hH hA => ?_)
                  have hfE := hfE.put e1 (by decide)
                  refine zc_vret (TX3_wordPart_2.at 7 rfl) rfl hH hA ?_
                  exact ⟨by first | exact hS | exact hS.g e1 e2, hfE, hgE, rfl⟩
            · skip
              refine z_ild_1 (TX3_wordPart_1.at 16 rfl) ?_
              refine z_bipush (by decide) (TX3_wordPart_1.at 17 rfl) ?_
              refine z_icmp_ne (tgt := 138) (TX3_wordPart_1.at 18 rfl) rfl (by omega) (by omega) (fun c9 => ?_) (fun c9 => ?_)
              · skip
                refine z_ald_0 (TX3_wordPart_1.at 30 rfl) ?_
                refine zc_getO (m := 9) (s := 0) (k := 447) (hH.lv (by decide)) (TX3_wordPart_1.at 31 rfl) fl3_14 hH rfl rfl (by decide) (by decide) ?_
                refine z_iconst (TX3_wordPart_1.at 32 rfl) ?_
                refine z_ild_1 (TX3_wordPart_1.at 33 rfl) ?_
                refine z_bipush (by decide) (TX3_wordPart_1.at 34 rfl) ?_
                refine z_isub (TX3_wordPart_1.at 35 rfl) ?_
                refine zc_callV2 (m := 13) (c_put rfl rfl (by omega) (by omega) (by omega) (by omega) (by omega) (by omega) (by omega) ) (hH.lv (by decide)) (TX3_wordPart_1.at 36 rfl) c3_214 rfl rfl hH hA (by omega) (Nat.le_of_ble_eq_true rfl) (fun f147 g147 j147 h q147 hH hA => ?_)
                obtain ⟨q147, xf, xg, xj⟩ := q147
                rw [xj] at hH
                have hfE := hfE.trans xf (by decide)
                have hgE := hgE.trans xg (by decide)
                have qL := q147
                have hS := hS.p xf qL.1
                have s1 := hS.1
                have s2 := hS.2.1
                have s3 := hS.2.2.1
                have s4 := hS.2.2.2.1
                have s5 := hS.2.2.2.2.1
                have s8 := hS.2.2.2.2.2.2.2.1
                have s9 := hS.2.2.2.2.2.2.2.2
                refine z_ild_1 (TX3_wordPart_1.at 37 rfl) ?_
                refine z_bipush (by decide) (TX3_wordPart_1.at 38 rfl) ?_
                refine z_icmp_eq (tgt := 162) (TX3_wordPart_1.at 39 rfl) rfl (by omega) (by omega) (fun c10 => ?_) (fun c10 => ?_)
                · skip
                  refine z_ald_0 (TX3_wordPart_2.at 3 rfl) ?_
                  refine zc_getO (m := 9) (s := 0) (k := 447) (hH.lv (by decide)) (TX3_wordPart_2.at 4 rfl) fl3_14 hH rfl rfl (by decide) (by decide) ?_
                  refine z_iconst (TX3_wordPart_2.at 5 rfl) ?_
                  refine zc_putZ (m := 13) (s := 2) (k := 418) (hH.lv (by decide)) (TX3_wordPart_2.at 6 rfl) fp3_241 hH hA rfl rfl (by decide) (by decide) (by first | omega | exact b2i_01 _) (fun h f167 e1 e2 hH hA => ?_)
                  have hfE := hfE.put e1 (by decide)
                  refine zc_vret (TX3_wordPart_2.at 7 rfl) rfl hH hA ?_
                  exact ⟨by first | exact hS | exact hS.g e1 e2, hfE, hgE, rfl⟩
                · skip
                  refine z_ild_1 (TX3_wordPart_2.at 0 rfl) ?_
                  refine z_bipush (by decide) (TX3_wordPart_2.at 1 rfl) ?_
                  refine z_icmp_ne (tgt := 170) (TX3_wordPart_2.at 2 rfl) rfl (by omega) (by omega) (fun c11 => ?_) (fun c11 => ?_)
                  · skip
                    refine zc_vret (TX3_wordPart_2.at 7 rfl) rfl hH hA ?_
                    exact ⟨by first | exact hS | exact hS.g e1 e2, hfE, hgE, rfl⟩
                  · skip
                    refine z_ald_0 (TX3_wordPart_2.at 3 rfl) ?_
                    refine zc_getO (m := 9) (s := 0) (k := 447) (hH.lv (by decide)) (TX3_wordPart_2.at 4 rfl) fl3_14 hH rfl rfl (by decide) (by decide) ?_
                    refine z_iconst (TX3_wordPart_2.at 5 rfl) ?_
                    refine zc_putZ (m := 13) (s := 2) (k := 418) (hH.lv (by decide)) (TX3_wordPart_2.at 6 rfl) fp3_241 hH hA rfl rfl (by decide) (by decide) (by first | omega | exact b2i_01 _) (fun h f167 e1 e2 hH hA => ?_)
                    have hfE := hfE.put e1 (by decide)
                    refine zc_vret (TX3_wordPart_2.at 7 rfl) rfl hH hA ?_
                    exact ⟨by first | exact hS | exact hS.g e1 e2, hfE, hgE, rfl⟩
              · skip
                refine z_ald_0 (TX3_wordPart_1.at 19 rfl) ?_
                refine zc_getO (m := 9) (s := 0) (k := 447) (hH.lv (by decide)) (TX3_wordPart_1.at 20 rfl) fl3_14 hH rfl rfl (by decide) (by decide) ?_
                refine z_iconst (TX3_wordPart_1.at 21 rfl) ?_
                refine z_bipush (by decide) (TX3_wordPart_1.at 22 rfl) ?_
                refine z_ald_0 (TX3_wordPart_1.at 23 rfl) ?_
                refine z_iconst (TX3_wordPart_1.at 24 rfl) ?_
                refine z_bipush (by decide) (TX3_wordPart_1.at 25 rfl) ?_
                refine zc_callI2 (m := 9) (c_small rfl rfl rfl rfl rfl rfl (by omega) (by omega) (by omega) (by omega) (by omega) (by omega) ) (hH.lv (by decide)) (TX3_wordPart_1.at 26 rfl) c3_203 rfl rfl hH hA (by omega) (Nat.le_of_ble_eq_true rfl) (fun x128 f128 g128 j128 h r128 q128 hH hA => ?_)
                obtain ⟨q128, xf, xg, xj⟩ := q128
                rw [xj] at hH
                have hfE := hfE.trans xf (by decide)
                have hgE := hgE.trans xg (by decide)
                have qL := q128
                have hS := hS.c xf qL.2.1 qL.2.2
                have hr128 := small_in qL.1 (by decide)
                have s1 := hS.1
                have s2 := hS.2.1
                have s3 := hS.2.2.1
                have s4 := hS.2.2.2.1
                have s5 := hS.2.2.2.2.1
                have s8 := hS.2.2.2.2.2.2.2.1
                have s9 := hS.2.2.2.2.2.2.2.2
                refine z_iadd (TX3_wordPart_1.at 27 rfl) ?_
                refine zc_callV2 (m := 13) (c_put rfl rfl (by omega) (by omega) (by omega) (by omega) (by omega) (by omega) (by omega) ) (hH.lv (by decide)) (TX3_wordPart_1.at 28 rfl) c3_214 rfl rfl hH hA (by omega) (Nat.le_of_ble_eq_true rfl) (fun f132 g132 j132 h q132 hH hA => ?_)
                obtain ⟨q132, xf, xg, xj⟩ := q132
                rw [xj] at hH
                have hfE := hfE.trans xf (by decide)
                have hgE := hgE.trans xg (by decide)
                have qL := q132
                have hS := hS.p xf qL.1
                have s1 := hS.1
                have s2 := hS.2.1
                have s3 := hS.2.2.1
                have s4 := hS.2.2.2.1
                have s5 := hS.2.2.2.2.1
                have s8 := hS.2.2.2.2.2.2.2.1
                have s9 := hS.2.2.2.2.2.2.2.2
                refine z_goto (tgt := 150) (TX3_wordPart_1.at 29 rfl) rfl ?_
                refine z_ild_1 (TX3_wordPart_1.at 37 rfl) ?_
                refine z_bipush (by decide) (TX3_wordPart_1.at 38 rfl) ?_
                refine z_icmp_eq (tgt := 162) (TX3_wordPart_1.at 39 rfl) rfl (by omega) (by omega) (fun c12 => ?_) (fun c12 => ?_)
                · skip
                  refine z_ald_0 (TX3_wordPart_2.at 3 rfl) ?_
                  refine zc_getO (m := 9) (s := 0) (k := 447) (hH.lv (by decide)) (TX3_wordPart_2.at 4 rfl) fl3_14 hH rfl rfl (by decide) (by decide) ?_
                  refine z_iconst (TX3_wordPart_2.at 5 rfl) ?_
                  refine zc_putZ (m := 13) (s := 2) (k := 418) (hH.lv (by decide)) (TX3_wordPart_2.at 6 rfl) fp3_241 hH hA rfl rfl (by decide) (by decide) (by first | omega | exact b2i_01 _) (fun h f167 e1 e2 hH hA => ?_)
                  have hfE := hfE.put e1 (by decide)
                  refine zc_vret (TX3_wordPart_2.at 7 rfl) rfl hH hA ?_
                  exact ⟨by first | exact hS | exact hS.g e1 e2, hfE, hgE, rfl⟩
                · skip
                  refine z_ild_1 (TX3_wordPart_2.at 0 rfl) ?_
                  refine z_bipush (by decide) (TX3_wordPart_2.at 1 rfl) ?_
                  refine z_icmp_ne (tgt := 170) (TX3_wordPart_2.at 2 rfl) rfl (by omega) (by omega) (fun c13 => ?_) (fun c13 => ?_)
                  · skip
                    refine zc_vret (TX3_wordPart_2.at 7 rfl) rfl hH hA ?_
                    exact ⟨by first | exact hS | exact hS.g e1 e2, hfE, hgE, rfl⟩
                  · skip
                    refine z_ald_0 (TX3_wordPart_2.at 3 rfl) ?_
                    refine zc_getO (m := 9) (s := 0) (k := 447) (hH.lv (by decide)) (TX3_wordPart_2.at 4 rfl) fl3_14 hH rfl rfl (by decide) (by decide) ?_
                    refine z_iconst (TX3_wordPart_2.at 5 rfl) ?_
                    refine zc_putZ (m := 13) (s := 2) (k := 418) (hH.lv (by decide)) (TX3_wordPart_2.at 6 rfl) fp3_241 hH hA rfl rfl (by decide) (by decide) (by first | omega | exact b2i_01 _) (fun h f167 e1 e2 hH hA => ?_)
                    have hfE := hfE.put e1 (by decide)
                    refine zc_vret (TX3_wordPart_2.at 7 rfl) rfl hH hA ?_
                    exact ⟨by first | exact hS | exact hS.g e1 e2, hfE, hgE, rfl⟩
          · skip
            refine z_ild_1 (TX3_wordPart_0.at 39 rfl) ?_
            refine z_bipush (by decide) (TX3_wordPart_1.at 0 rfl) ?_
            refine z_icmp_ne (tgt := 104) (TX3_wordPart_1.at 1 rfl) rfl (by omega) (by omega) (fun c14 => ?_) (fun c14 => ?_)
            · skip
              refine z_ald_0 (TX3_wordPart_1.at 13 rfl) ?_
              refine zc_getI (m := 9) (s := 8) (k := 296) (hH.lv (by decide)) (TX3_wordPart_1.at 14 rfl) fl3_43 hH rfl rfl (by decide) (by decide) (fun r105 => ?_)
              refine z_if_ne (tgt := 138) (TX3_wordPart_1.at 15 rfl) rfl (by omega) (fun c15 => ?_) (fun c15 => ?_)
              · skip
                refine z_ald_0 (TX3_wordPart_1.at 30 rfl) ?_
                refine zc_getO (m := 9) (s := 0) (k := 447) (hH.lv (by decide)) (TX3_wordPart_1.at 31 rfl) fl3_14 hH rfl rfl (by decide) (by decide) ?_
                refine z_iconst (TX3_wordPart_1.at 32 rfl) ?_
                refine z_ild_1 (TX3_wordPart_1.at 33 rfl) ?_
                refine z_bipush (by decide) (TX3_wordPart_1.at 34 rfl) ?_
                refine z_isub (TX3_wordPart_1.at 35 rfl) ?_
                refine zc_callV2 (m := 13) (c_put rfl rfl (by omega) (by omega) (by omega) (by omega) (by omega) (by omega) (by omega) ) (hH.lv (by decide)) (TX3_wordPart_1.at 36 rfl) c3_214 rfl rfl hH hA (by omega) (Nat.le_of_ble_eq_true rfl) (fun f147 g147 j147 h q147 hH hA => ?_)
                obtain ⟨q147, xf, xg, xj⟩ := q147
                rw [xj] at hH
                have hfE := hfE.trans xf (by decide)
                have hgE := hgE.trans xg (by decide)
                have qL := q147
                have hS := hS.p xf qL.1
                have s1 := hS.1
                have s2 := hS.2.1
                have s3 := hS.2.2.1
                have s4 := hS.2.2.2.1
                have s5 := hS.2.2.2.2.1
                have s8 := hS.2.2.2.2.2.2.2.1
                have s9 := hS.2.2.2.2.2.2.2.2
                refine z_ild_1 (TX3_wordPart_1.at 37 rfl) ?_
                refine z_bipush (by decide) (TX3_wordPart_1.at 38 rfl) ?_
                refine z_icmp_eq (tgt := 162) (TX3_wordPart_1.at 39 rfl) rfl (by omega) (by omega) (fun c16 => ?_) (fun c16 => ?_)
                · skip
                  refine z_ald_0 (TX3_wordPart_2.at 3 rfl) ?_
                  refine zc_getO (m := 9) (s := 0) (k := 447) (hH.lv (by decide)) (TX3_wordPart_2.at 4 rfl) fl3_14 hH rfl rfl (by decide) (by decide) ?_
                  refine z_iconst (TX3_wordPart_2.at 5 rfl) ?_
                  refine zc_putZ (m := 13) (s := 2) (k := 418) (hH.lv (by decide)) (TX3_wordPart_2.at 6 rfl) fp3_241 hH hA rfl rfl (by decide) (by decide) (by first | omega | exact b2i_01 _) (fun h f167 e1 e2 hH hA => ?_)
                  have hfE := hfE.put e1 (by decide)
                  refine zc_vret (TX3_wordPart_2.at 7 rfl) rfl hH hA ?_
                  exact ⟨by first | exact hS | exact hS.g e1 e2, hfE, hgE, rfl⟩
                · skip
                  refine z_ild_1 (TX3_wordPart_2.at 0 rfl) ?_
                  refine z_bipush (by decide) (TX3_wordPart_2.at 1 rfl) ?_
                  refine z_icmp_ne (tgt := 170) (TX3_wordPart_2.at 2 rfl) rfl (by omega) (by omega) (fun c17 => ?_) (fun c17 => ?_)
                  · skip
                    refine zc_vret (TX3_wordPart_2.at 7 rfl) rfl hH hA ?_
                    exact ⟨by first | exact hS | exact hS.g e1 e2, hfE, hgE, rfl⟩
                  · skip
                    refine z_ald_0 (TX3_wordPart_2.at 3 rfl) ?_
                    refine zc_getO (m := 9) (s := 0) (k := 447) (hH.lv (by decide)) (TX3_wordPart_2.at 4 rfl) fl3_14 hH rfl rfl (by decide) (by decide) ?_
                    refine z_iconst (TX3_wordPart_2.at 5 rfl) ?_
                    refine zc_putZ (m := 13) (s := 2) (k := 418) (hH.lv (by decide)) (TX3_wordPart_2.at 6 rfl) fp3_241 hH hA rfl rfl (by decide) (by decide) (by first | omega | exact b2i_01 _) (fun h f167 e1 e2 hH hA => ?_)
                    have hfE := hfE.put e1 (by decide)
                    refine zc_vret (TX3_wordPart_2.at 7 rfl) rfl hH hA ?_
                    exact ⟨by first | exact hS | exact hS.g e1 e2, hfE, hgE, rfl⟩
              · skip
                refine z_ild_1 (TX3_wordPart_1.at 16 rfl) ?_
                refine z_bipush (by decide) (TX3_wordPart_1.at 17 rfl) ?_
                refine z_icmp_ne (tgt := 138) (TX3_wordPart_1.at 18 rfl) rfl (by omega) (by omega) (fun c18 => ?_) (fun c18 => ?_)
                · skip
                  refine z_ald_0 (TX3_wordPart_1.at 30 rfl) ?_
                  refine zc_getO (m := 9) (s := 0) (k := 447) (hH.lv (by decide)) (TX3_wordPart_1.at 31 rfl) fl3_14 hH rfl rfl (by decide) (by decide) ?_
                  refine z_iconst (TX3_wordPart_1.at 32 rfl) ?_
                  refine z_ild_1 (TX3_wordPart_1.at 33 rfl) ?_
                  refine z_bipush (by decide) (TX3_wordPart_1.at 34 rfl) ?_
                  refine z_isub (TX3_wordPart_1.at 35 rfl) ?_
                  refine zc_callV2 (m := 13) (c_put rfl rfl (by omega) (by omega) (by omega) (by omega) (by omega) (by omega) (by omega) ) (hH.lv (by decide)) (TX3_wordPart_1.at 36 rfl) c3_214 rfl rfl hH hA (by omega) (Nat.le_of_ble_eq_true rfl) (fun f147 g147 j147 h q147 hH hA => ?_)
                  obtain ⟨q147, xf, xg, xj⟩ := q147
                  rw [xj] at hH
                  have hfE := hfE.trans xf (by decide)
                  have hgE := hgE.trans xg (by decide)
                  have qL := q147
                  have hS := hS.p xf qL.1
                  have s1 := hS.1
                  have s2 := hS.2.1
                  have s3 := hS.2.2.1
                  have s4 := hS.2.2.2.1
                  have s5 := hS.2.2.2.2.1
                  have s8 := hS.2.2.2.2.2.2.2.1
                  have s9 := hS.2.2.2.2.2.2.2.2
                  refine z_ild_1 (TX3_wordPart_1.at 37 rfl) ?_
                  refine z_bipush (by decide) (TX3_wordPart_1.at 38 rfl) ?_
                  refine z_icmp_eq (tgt := 162) (TX3_wordPart_1.at 39 rfl) rfl (by omega) (by omega) (fun c19 => ?_) (fun c19 => ?_)
                  · skip
                    refine z_ald_0 (TX3_wordPart_2.at 3 rfl) ?_
                    refine zc_getO (m := 9) (s := 0) (k := 447) (hH.lv (by decide)) (TX3_wordPart_2.at 4 rfl) fl3_14 hH rfl rfl (by decide) (by decide) ?_
                    refine z_iconst (TX3_wordPart_2.at 5 rfl) ?_
                    refine zc_putZ (m := 13) (s := 2) (k := 418) (hH.lv (by decide)) (TX3_wordPart_2.at 6 rfl) fp3_241 hH hA rfl rfl (by decide) (by decide) (by first | omega | exact b2i_01 _) (fun h f167 e1 e2 hH hA => ?_)
                    have hfE := hfE.put e1 (by decide)
                    refine zc_vret (TX3_wordPart_2.at 7 rfl) rfl hH hA ?_
                    exact ⟨by first | exact hS | exact hS.g e1 e2, hfE, hgE, rfl⟩
                  · skip
                    refine z_ild_1 (TX3_wordPart_2.at 0 rfl) ?_
                    refine z_bipush (by decide) (TX3_wordPart_2.at 1 rfl) ?_
                    refine z_icmp_ne (tgt := 170) (TX3_wordPart_2.at 2 rfl) rfl (by omega) (by omega) (fun c20 => ?_) (fun c20 => ?_)
                    · skip
                      refine zc_vret (TX3_wordPart_2.at 7 rfl) rfl hH hA ?_
                      exact ⟨by first | exact hS | exact hS.g e1 e2, hfE, hgE, rfl⟩
                    · skip
                      refine z_ald_0 (TX3_wordPart_2.at 3 rfl) ?_
                      refine zc_getO (m := 9) (s := 0) (k := 447) (hH.lv (by decide)) (TX3_wordPart_2.at 4 rfl) fl3_14 hH rfl rfl (by decide) (by decide) ?_
                      refine z_iconst (TX3_wordPart_2.at 5 rfl) ?_
                      refine zc_putZ (m := 13) (s := 2) (k := 418) (hH.lv (by decide)) (TX3_wordPart_2.at 6 rfl) fp3_241 hH hA rfl rfl (by decide) (by decide) (by first | omega | exact b2i_01 _) (fun h f167 e1 e2 hH hA => ?_)
                      have hfE := hfE.put e1 (by decide)
                      refine zc_vret (TX3_wordPart_2.at 7 rfl) rfl hH hA ?_
                      exact ⟨by first | exact hS | exact hS.g e1 e2, hfE, hgE, rfl⟩
                · skip
                  refine z_ald_0 (TX3_wordPart_1.at 19 rfl) ?_
                  refine zc_getO (m := 9) (s := 0) (k := 447) (hH.lv (by decide)) (TX3_wordPart_1.at 20 rfl) fl3_14 hH rfl rfl (by decide) (by decide) ?_
                  refine z_iconst (TX3_wordPart_1.at 21 rfl) ?_
                  refine z_bipush (by decide) (TX3_wordPart_1.at 22 rfl) ?_
                  refine z_ald_0 (TX3_wordPart_1.at 23 rfl) ?_
                  refine z_iconst (TX3_wordPart_1.at 24 rfl) ?_
                  refine z_bipush (by decide) (TX3_wordPart_1.at 25 rfl) ?_
                  refine zc_callI2 (m := 9) (c_small rfl rfl rfl rfl rfl rfl (by omega) (by omega) (by omega) (by omega) (by omega) (by omega) ) (hH.lv (by decide)) (TX3_wordPart_1.at 26 rfl) c3_203 rfl rfl hH hA (by omega) (Nat.le_of_ble_eq_true rfl) (fun x128 f128 g128 j128 h r128 q128 hH hA => ?_)
                  obtain ⟨q128, xf, xg, xj⟩ := q128
                  rw [xj] at hH
                  have hfE := hfE.trans xf (by decide)
                  have hgE := hgE.trans xg (by decide)
                  have qL := q128
                  have hS := hS.c xf qL.2.1 qL.2.2
                  have hr128 := small_in qL.1 (by decide)
                  have s1 := hS.1
                  have s2 := hS.2.1
                  have s3 := hS.2.2.1
                  have s4 := hS.2.2.2.1
                  have s5 := hS.2.2.2.2.1
                  have s8 := hS.2.2.2.2.2.2.2.1
                  have s9 := hS.2.2.2.2.2.2.2.2
                  refine z_iadd (TX3_wordPart_1.at 27 rfl) ?_
                  refine zc_callV2 (m := 13) (c_put rfl rfl (by omega) (by omega) (by omega) (by omega) (by omega) (by omega) (by omega) ) (hH.lv (by decide)) (TX3_wordPart_1.at 28 rfl) c3_214 rfl rfl hH hA (by omega) (Nat.le_of_ble_eq_true rfl) (fun f132 g132 j132 h q132 hH hA => ?_)
                  obtain ⟨q132, xf, xg, xj⟩ := q132
                  rw [xj] at hH
                  have hfE := hfE.trans xf (by decide)
                  have hgE := hgE.trans xg (by decide)
                  have qL := q132
                  have hS := hS.p xf qL.1
                  have s1 := hS.1
                  have s2 := hS.2.1
                  have s3 := hS.2.2.1
                  have s4 := hS.2.2.2.1
                  have s5 := hS.2.2.2.2.1
                  have s8 := hS.2.2.2.2.2.2.2.1
                  have s9 := hS.2.2.2.2.2.2.2.2
                  refine z_goto (tgt := 150) (TX3_wordPart_1.at 29 rfl) rfl ?_
                  refine z_ild_1 (TX3_wordPart_1.at 37 rfl) ?_
                  refine z_bipush (by decide) (TX3_wordPart_1.at 38 rfl) ?_
                  refine z_icmp_eq (tgt := 162) (TX3_wordPart_1.at 39 rfl) rfl (by omega) (by omega) (fun c21 => ?_) (fun c21 => ?_)
                  · skip
                    refine z_ald_0 (TX3_wordPart_2.at 3 rfl) ?_
                    refine zc_getO (m := 9) (s := 0) (k := 447) (hH.lv (by decide)) (TX3_wordPart_2.at 4 rfl) fl3_14 hH rfl rfl (by decide) (by decide) ?_
                    refine z_iconst (TX3_wordPart_2.at 5 rfl) ?_
                    refine zc_putZ (m := 13) (s := 2) (k := 418) (hH.lv (by decide)) (TX3_wordPart_2.at 6 rfl) fp3_241 hH hA rfl rfl (by decide) (by decide) (by first | omega | exact b2i_01 _) (fun h f167 e1 e2 hH hA => ?_)
                    have hfE := hfE.put e1 (by decide)
                    refine zc_vret (TX3_wordPart_2.at 7 rfl) rfl hH hA ?_
                    exact ⟨by first | exact hS | exact hS.g e1 e2, hfE, hgE, rfl⟩
                  · skip
                    refine z_ild_1 (TX3_wordPart_2.at 0 rfl) ?_
                    refine z_bipush (by decide) (TX3_wordPart_2.at 1 rfl) ?_
                    refine z_icmp_ne (tgt := 170) (TX3_wordPart_2.at 2 rfl) rfl (by omega) (by omega) (fun c22 => ?_) (fun c22 => ?_)
                    · skip
                      refine zc_vret (TX3_wordPart_2.at 7 rfl) rfl hH hA ?_
                      exact ⟨by first | exact hS | exact hS.g e1 e2, hfE, hgE, rfl⟩
                    · skip
                      refine z_ald_0 (TX3_wordPart_2.at 3 rfl) ?_
                      refine zc_getO (m := 9) (s := 0) (k := 447) (hH.lv (by decide)) (TX3_wordPart_2.at 4 rfl) fl3_14 hH rfl rfl (by decide) (by decide) ?_
                      refine z_iconst (TX3_wordPart_2.at 5 rfl) ?_
                      refine zc_putZ (m := 13) (s := 2) (k := 418) (hH.lv (by decide)) (TX3_wordPart_2.at 6 rfl) fp3_241 hH hA rfl rfl (by decide) (by decide) (by first | omega | exact b2i_01 _) (fun h f167 e1 e2 hH hA => ?_)
                      have hfE := hfE.put e1 (by decide)
                      refine zc_vret (TX3_wordPart_2.at 7 rfl) rfl hH hA ?_
                      exact ⟨by first | exact hS | exact hS.g e1 e2, hfE, hgE, rfl⟩
            · skip
              refine z_ald_0 (TX3_wordPart_1.at 2 rfl) ?_
              refine zc_getO (m := 9) (s := 0) (k := 447) (hH.lv (by decide)) (TX3_wordPart_1.at 3 rfl) fl3_14 hH rfl rfl (by decide) (by decide) ?_
              refine z_iconst (TX3_wordPart_1.at 4 rfl) ?_
              refine z_bipush (by decide) (TX3_wordPart_1.at 5 rfl) ?_
              refine z_ald_0 (TX3_wordPart_1.at 6 rfl) ?_
              refine z_iconst (TX3_wordPart_1.at 7 rfl) ?_
              refine z_bipush (by decide) (TX3_wordPart_1.at 8 rfl) ?_
              refine zc_callI2 (m := 9) (c_small rfl rfl rfl rfl rfl rfl (by omega) (by omega) (by omega) (by omega) (by omega) (by omega) ) (hH.lv (by decide)) (TX3_wordPart_1.at 9 rfl) c3_203 rfl rfl hH hA (by omega) (Nat.le_of_ble_eq_true rfl) (fun x94 f94 g94 j94 h r94 q94 hH hA => ?_)
              obtain ⟨q94, xf, xg, xj⟩ := q94
              rw [xj] at hH
              have hfE := hfE.trans xf (by decide)
              have hgE := hgE.trans xg (by decide)
              have qL := q94
              have hS := hS.c xf qL.2.1 qL.2.2
              have hr94 := small_in qL.1 (by decide)
              have s1 := hS.1
              have s2 := hS.2.1
              have s3 := hS.2.2.1
              have s4 := hS.2.2.2.1
              have s5 := hS.2.2.2.2.1
              have s8 := hS.2.2.2.2.2.2.2.1
              have s9 := hS.2.2.2.2.2.2.2.2
              refine z_iadd (TX3_wordPart_1.at 10 rfl) ?_
              refine zc_callV2 (m := 13) (c_put rfl rfl (by omega) (by omega) (by omega) (by omega) (by omega) (by omega) (by omega) ) (hH.lv (by decide)) (TX3_wordPart_1.at 11 rfl) c3_214 rfl rfl hH hA (by omega) (Nat.le_of_ble_eq_true rfl) (fun f98 g98 j98 h q98 hH hA => ?_)
              obtain ⟨q98, xf, xg, xj⟩ := q98
              rw [xj] at hH
              have hfE := hfE.trans xf (by decide)
              have hgE := hgE.trans xg (by decide)
              have qL := q98
              have hS := hS.p xf qL.1
              have s1 := hS.1
              have s2 := hS.2.1
              have s3 := hS.2.2.1
              have s4 := hS.2.2.2.1
              have s5 := hS.2.2.2.2.1
              have s8 := hS.2.2.2.2.2.2.2.1
              have s9 := hS.2.2.2.2.2.2.2.2
              refine z_goto (tgt := 150) (TX3_wordPart_1.at 12 rfl) rfl ?_
              refine z_ild_1 (TX3_wordPart_1.at 37 rfl) ?_
              refine z_bipush (by decide) (TX3_wordPart_1.at 38 rfl) ?_
              refine z_icmp_eq (tgt := 162) (TX3_wordPart_1.at 39 rfl) rfl (by omega) (by omega) (fun c23 => ?_) (fun c23 => ?_)
              · skip
                refine z_ald_0 (TX3_wordPart_2.at 3 rfl) ?_
                refine zc_getO (m := 9) (s := 0) (k := 447) (hH.lv (by decide)) (TX3_wordPart_2.at 4 rfl) fl3_14 hH rfl rfl (by decide) (by decide) ?_
                refine z_iconst (TX3_wordPart_2.at 5 rfl) ?_
                refine zc_putZ (m := 13) (s := 2) (k := 418) (hH.lv (by decide)) (TX3_wordPart_2.at 6 rfl) fp3_241 hH hA rfl rfl (by decide) (by decide) (by first | omega | exact b2i_01 _) (fun h f167 e1 e2 hH hA => ?_)
                have hfE := hfE.put e1 (by decide)
                refine zc_vret (TX3_wordPart_2.at 7 rfl) rfl hH hA ?_
                exact ⟨by first | exact hS | exact hS.g e1 e2, hfE, hgE, rfl⟩
              · skip
                refine z_ild_1 (TX3_wordPart_2.at 0 rfl) ?_
                refine z_bipush (by decide) (TX3_wordPart_2.at 1 rfl) ?_
                refine z_icmp_ne (tgt := 170) (TX3_wordPart_2.at 2 rfl) rfl (by omega) (by omega) (fun c24 => ?_) (fun c24 => ?_)
                · skip
                  refine zc_vret (TX3_wordPart_2.at 7 rfl) rfl hH hA ?_
                  exact ⟨by first | exact hS | exact hS.g e1 e2, hfE, hgE, rfl⟩
                · skip
                  refine z_ald_0 (TX3_wordPart_2.at 3 rfl) ?_
                  refine zc_getO (m := 9) (s := 0) (k := 447) (hH.lv (by decide)) (TX3_wordPart_2.at 4 rfl) fl3_14 hH rfl rfl (by decide) (by decide) ?_
                  refine z_iconst (TX3_wordPart_2.at 5 rfl) ?_
                  refine zc_putZ (m := 13) (s := 2) (k := 418) (hH.lv (by decide)) (TX3_wordPart_2.at 6 rfl) fp3_241 hH hA rfl rfl (by decide) (by decide) (by first | omega | exact b2i_01 _) (fun h f167 e1 e2 hH hA => ?_)
                  have hfE := hfE.put e1 (by decide)
                  refine zc_vret (TX3_wordPart_2.at 7 rfl) rfl hH hA ?_
                  exact ⟨by first | exact hS | exact hS.g e1 e2, hfE, hgE, rfl⟩
        · skip
          refine z_ald_0 (TX3_wordPart_0.at 31 rfl) ?_
          refine zc_callV0 (m := 9) (c_fail rfl rfl rfl (by omega) (by omega)) (hH.lv (by decide)) (TX3_wordPart_0.at 32 rfl) c3_54 rfl rfl hH hA (by omega) (Nat.le_of_ble_eq_true rfl) (fun f62 g62 j62 h q62 hH hA => ?_)
          obtain ⟨q62, xf, xg, xj⟩ := q62
          rw [xj] at hH
          have hfE := hfE.trans xf (by decide)
          have hgE := hgE.trans xg (by decide)
          have qL := q62
          have hS := hS.a xf qL
          have s1 := hS.1
          have s2 := hS.2.1
          have s3 := hS.2.2.1
          have s4 := hS.2.2.2.1
          have s5 := hS.2.2.2.2.1
          have s8 := hS.2.2.2.2.2.2.2.1
          have s9 := hS.2.2.2.2.2.2.2.2
          refine zc_vret (TX3_wordPart_0.at 33 rfl) rfl hH hA ?_
          exact ⟨by first | exact hS | exact hS.g e1 e2, hfE, hgE, rfl⟩
    · skip
      refine z_ild_1 (TX3_wordPart_0.at 18 rfl) ?_
      refine z_bipush (by decide) (TX3_wordPart_0.at 19 rfl) ?_
      refine z_icmp_lt (tgt := 61) (TX3_wordPart_0.at 20 rfl) rfl (by omega) (by omega) (fun c25 => ?_) (fun c25 => ?_)
      · skip
        refine z_ald_0 (TX3_wordPart_0.at 31 rfl) ?_
        refine zc_callV0 (m := 9) (c_fail rfl rfl rfl (by omega) (by omega)) (hH.lv (by decide)) (TX3_wordPart_0.at 32 rfl) c3_54 rfl rfl hH hA (by omega) (Nat.le_of_ble_eq_true rfl) (fun f62 g62 j62 h q62 hH hA => ?_)
        obtain ⟨q62, xf, xg, xj⟩ := q62
        rw [xj] at hH
        have hfE := hfE.trans xf (by decide)
        have hgE := hgE.trans xg (by decide)
        have qL := q62
        have hS := hS.a xf qL
        have s1 := hS.1
        have s2 := hS.2.1
        have s3 := hS.2.2.1
        have s4 := hS.2.2.2.1
        have s5 := hS.2.2.2.2.1
        have s8 := hS.2.2.2.2.2.2.2.1
        have s9 := hS.2.2.2.2.2.2.2.2
        refine zc_vret (TX3_wordPart_0.at 33 rfl) rfl hH hA ?_
        exact ⟨by first | exact hS | exact hS.g e1 e2, hfE, hgE, rfl⟩
      · skip
        refine z_ild_1 (TX3_wordPart_0.at 21 rfl) ?_
        refine z_bipush (by decide) (TX3_wordPart_0.at 22 rfl) ?_
        refine z_icmp_le (tgt := 66) (TX3_wordPart_0.at 23 rfl) rfl (by omega) (by omega) (fun c26 => ?_) (fun c26 => ?_)
        · skip
          refine z_ald_0 (TX3_wordPart_0.at 34 rfl) ?_
          refine zc_callV0 (m := 9) (c_goOn rfl rfl (by omega) (by omega) (by omega) (by omega) ) (hH.lv (by decide)) (TX3_wordPart_0.at 35 rfl) c3_179 rfl rfl hH hA (by omega) (Nat.le_of_ble_eq_true rfl) (fun f67 g67 j67 h q67 hH hA => ?_)
          obtain ⟨q67, xf, xg, xj⟩ := q67
          rw [xj] at hH
          have hfE := hfE.trans xf (by decide)
          have hgE := hgE.trans xg (by decide)
          have qL := q67
          have hS := hS.b xf qL
          have s1 := hS.1
          have s2 := hS.2.1
          have s3 := hS.2.2.1
          have s4 := hS.2.2.2.1
          have s5 := hS.2.2.2.2.1
          have s8 := hS.2.2.2.2.2.2.2.1
          have s9 := hS.2.2.2.2.2.2.2.2
          refine z_ald_0 (TX3_wordPart_0.at 36 rfl) ?_
          refine zc_getI (m := 9) (s := 8) (k := 296) (hH.lv (by decide)) (TX3_wordPart_0.at 37 rfl) fl3_43 hH rfl rfl (by decide) (by decide) (fun r71 => ?_)
          refine z_if_ne (tgt := 104) (TX3_wordPart_0.at 38 rfl) rfl (by omega) (fun c27 => ?_) (fun c27 => ?_)
          · skip
            refine z_ald_0 (TX3_wordPart_1.at 13 rfl) ?_
            refine zc_getI (m := 9) (s := 8) (k := 296) (hH.lv (by decide)) (TX3_wordPart_1.at 14 rfl) fl3_43 hH rfl rfl (by decide) (by decide) (fun r105 => ?_)
            refine z_if_ne (tgt := 138) (TX3_wordPart_1.at 15 rfl) rfl (by omega) (fun c28 => ?_) (fun c28 => ?_)
            · skip
              refine z_ald_0 (TX3_wordPart_1.at 30 rfl) ?_
              refine zc_getO (m := 9) (s := 0) (k := 447) (hH.lv (by decide)) (TX3_wordPart_1.at 31 rfl) fl3_14 hH rfl rfl (by decide) (by decide) ?_
              refine z_iconst (TX3_wordPart_1.at 32 rfl) ?_
              refine z_ild_1 (TX3_wordPart_1.at 33 rfl) ?_
              refine z_bipush (by decide) (TX3_wordPart_1.at 34 rfl) ?_
              refine z_isub (TX3_wordPart_1.at 35 rfl) ?_
              refine zc_callV2 (m := 13) (c_put rfl rfl (by omega) (by omega) (by omega) (by omega) (by omega) (by omega) (by omega) ) (hH.lv (by decide)) (TX3_wordPart_1.at 36 rfl) c3_214 rfl rfl hH hA (by omega) (Nat.le_of_ble_eq_true rfl) (fun f147 g147 j147 h q147 hH hA => ?_)
              obtain ⟨q147, xf, xg, xj⟩ := q147
              rw [xj] at hH
              have hfE := hfE.trans xf (by decide)
              have hgE := hgE.trans xg (by decide)
              have qL := q147
              have hS := hS.p xf qL.1
              have s1 := hS.1
              have s2 := hS.2.1
              have s3 := hS.2.2.1
              have s4 := hS.2.2.2.1
              have s5 := hS.2.2.2.2.1
              have s8 := hS.2.2.2.2.2.2.2.1
              have s9 := hS.2.2.2.2.2.2.2.2
              refine z_ild_1 (TX3_wordPart_1.at 37 rfl) ?_
              refine z_bipush (by decide) (TX3_wordPart_1.at 38 rfl) ?_
              refine z_icmp_eq (tgt := 162) (TX3_wordPart_1.at 39 rfl) rfl (by omega) (by omega) (fun c29 => ?_) (fun c29 => ?_)
              · skip
                refine z_ald_0 (TX3_wordPart_2.at 3 rfl) ?_
                refine zc_getO (m := 9) (s := 0) (k := 447) (hH.lv (by decide)) (TX3_wordPart_2.at 4 rfl) fl3_14 hH rfl rfl (by decide) (by decide) ?_
                refine z_iconst (TX3_wordPart_2.at 5 rfl) ?_
                refine zc_putZ (m := 13) (s := 2) (k := 418) (hH.lv (by decide)) (TX3_wordPart_2.at 6 rfl) fp3_241 hH hA rfl rfl (by decide) (by decide) (by first | omega | exact b2i_01 _) (fun h f167 e1 e2 hH hA => ?_)
                have hfE := hfE.put e1 (by decide)
                refine zc_vret (TX3_wordPart_2.at 7 rfl) rfl hH hA ?_
                exact ⟨by first | exact hS | exact hS.g e1 e2, hfE, hgE, rfl⟩
              · skip
                refine z_ild_1 (TX3_wordPart_2.at 0 rfl) ?_
                refine z_bipush (by decide) (TX3_wordPart_2.at 1 rfl) ?_
                refine z_icmp_ne (tgt := 170) (TX3_wordPart_2.at 2 rfl) rfl (by omega) (by omega) (fun c30 => ?_) (fun c30 => ?_)
                · skip
                  refine zc_vret (TX3_wordPart_2.at 7 rfl) rfl hH hA ?_
                  exact ⟨by first | exact hS | exact hS.g e1 e2, hfE, hgE, rfl⟩
                · skip
                  refine z_ald_0 (TX3_wordPart_2.at 3 rfl) ?_
                  refine zc_getO (m := 9) (s := 0) (k := 447) (hH.lv (by decide)) (TX3_wordPart_2.at 4 rfl) fl3_14 hH rfl rfl (by decide) (by decide) ?_
                  refine z_iconst (TX3_wordPart_2.at 5 rfl) ?_
                  refine zc_putZ (m := 13) (s := 2) (k := 418) (hH.lv (by decide)) (TX3_wordPart_2.at 6 rfl) fp3_241 hH hA rfl rfl (by decide) (by decide) (by first | omega | exact b2i_01 _) (fun h f167 e1 e2 hH hA => ?_)
                  have hfE := hfE.put e1 (by decide)
                  refine zc_vret (TX3_wordPart_2.at 7 rfl) rfl hH hA ?_
                  exact ⟨by first | exact hS | exact hS.g e1 e2, hfE, hgE, rfl⟩
            · skip
              refine z_ild_1 (TX3_wordPart_1.at 16 rfl) ?_
              refine z_bipush (by decide) (TX3_wordPart_1.at 17 rfl) ?_
              refine z_icmp_ne (tgt := 138) (TX3_wordPart_1.at 18 rfl) rfl (by omega) (by omega) (fun c31 => ?_) (fun c31 => ?_)
              · skip
                refine z_ald_0 (TX3_wordPart_1.at 30 rfl) ?_
                refine zc_getO (m := 9) (s := 0) (k := 447) (hH.lv (by decide)) (TX3_wordPart_1.at 31 rfl) fl3_14 hH rfl rfl (by decide) (by decide) ?_
                refine z_iconst (TX3_wordPart_1.at 32 rfl) ?_
                refine z_ild_1 (TX3_wordPart_1.at 33 rfl) ?_
                refine z_bipush (by decide) (TX3_wordPart_1.at 34 rfl) ?_
                refine z_isub (TX3_wordPart_1.at 35 rfl) ?_
                refine zc_callV2 (m := 13) (c_put rfl rfl (by omega) (by omega) (by omega) (by omega) (by omega) (by omega) (by omega) ) (hH.lv (by decide)) (TX3_wordPart_1.at 36 rfl) c3_214 rfl rfl hH hA (by omega) (Nat.le_of_ble_eq_true rfl) (fun f147 g147 j147 h q147 hH hA => ?_)
                obtain ⟨q147, xf, xg, xj⟩ := q147
                rw [xj] at hH
                have hfE := hfE.trans xf (by decide)
                have hgE := hgE.trans xg (by decide)
                have qL := q147
                have hS := hS.p xf qL.1
                have s1 := hS.1
                have s2 := hS.2.1
                have s3 := hS.2.2.1
                have s4 := hS.2.2.2.1
                have s5 := hS.2.2.2.2.1
                have s8 := hS.2.2.2.2.2.2.2.1
                have s9 := hS.2.2.2.2.2.2.2.2
                refine z_ild_1 (TX3_wordPart_1.at 37 rfl) ?_
                refine z_bipush (by decide) (TX3_wordPart_1.at 38 rfl) ?_
                refine z_icmp_eq (tgt := 162) (TX3_wordPart_1.at 39 rfl) rfl (by omega) (by omega) (fun c32 => ?_) (fun c32 => ?_)
                · skip
                  refine z_ald_0 (TX3_wordPart_2.at 3 rfl) ?_
                  refine zc_getO (m := 9) (s := 0) (k := 447) (hH.lv (by decide)) (TX3_wordPart_2.at 4 rfl) fl3_14 hH rfl rfl (by decide) (by decide) ?_
                  refine z_iconst (TX3_wordPart_2.at 5 rfl) ?_
                  refine zc_putZ (m := 13) (s := 2) (k := 418) (hH.lv (by decide)) (TX3_wordPart_2.at 6 rfl) fp3_241 hH hA rfl rfl (by decide) (by decide) (by first | omega | exact b2i_01 _) (fun h f167 e1 e2 hH hA => ?_)
                  have hfE := hfE.put e1 (by decide)
                  refine zc_vret (TX3_wordPart_2.at 7 rfl) rfl hH hA ?_
                  exact ⟨by first | exact hS | exact hS.g e1 e2, hfE, hgE, rfl⟩
                · skip
                  refine z_ild_1 (TX3_wordPart_2.at 0 rfl) ?_
                  refine z_bipush (by decide) (TX3_wordPart_2.at 1 rfl) ?_
                  refine z_icmp_ne (tgt := 170) (TX3_wordPart_2.at 2 rfl) rfl (by omega) (by omega) (fun c33 => ?_) (fun c33 => ?_)
                  · skip
                    refine zc_vret (TX3_wordPart_2.at 7 rfl) rfl hH hA ?_
                    exact ⟨by first | exact hS | exact hS.g e1 e2, hfE, hgE, rfl⟩
                  · skip
                    refine z_ald_0 (TX3_wordPart_2.at 3 rfl) ?_
                    refine zc_getO (m := 9) (s := 0) (k := 447) (hH.lv (by decide)) (TX3_wordPart_2.at 4 rfl) fl3_14 hH rfl rfl (by decide) (by decide) ?_
                    refine z_iconst (TX3_wordPart_2.at 5 rfl) ?_
                    refine zc_putZ (m := 13) (s := 2) (k := 418) (hH.lv (by decide)) (TX3_wordPart_2.at 6 rfl) fp3_241 hH hA rfl rfl (by decide) (by decide) (by first | omega | exact b2i_01 _) (fun h f167 e1 e2 hH hA => ?_)
                    have hfE := hfE.put e1 (by decide)
                    refine zc_vret (TX3_wordPart_2.at 7 rfl) rfl hH hA ?_
                    exact ⟨by first | exact hS | exact hS.g e1 e2, hfE, hgE, rfl⟩
              · skip
                refine z_ald_0 (TX3_wordPart_1.at 19 rfl) ?_
                refine zc_getO (m := 9) (s := 0) (k := 447) (hH.lv (by decide)) (TX3_wordPart_1.at 20 rfl) fl3_14 hH rfl rfl (by decide) (by decide) ?_
                refine z_iconst (TX3_wordPart_1.at 21 rfl) ?_
                refine z_bipush (by decide) (TX3_wordPart_1.at 22 rfl) ?_
                refine z_ald_0 (TX3_wordPart_1.at 23 rfl) ?_
                refine z_iconst (TX3_wordPart_1.at 24 rfl) ?_
                refine z_bipush (by decide) (TX3_wordPart_1.at 25 rfl) ?_
                refine zc_callI2 (m := 9) (c_small rfl rfl rfl rfl rfl rfl (by omega) (by omega) (by omega) (by omega) (by omega) (by omega) ) (hH.lv (by decide)) (TX3_wordPart_1.at 26 rfl) c3_203 rfl rfl hH hA (by omega) (Nat.le_of_ble_eq_true rfl) (fun x128 f128 g128 j128 h r128 q128 hH hA => ?_)
                obtain ⟨q128, xf, xg, xj⟩ := q128
                rw [xj] at hH
                have hfE := hfE.trans xf (by decide)
                have hgE := hgE.trans xg (by decide)
                have qL := q128
                have hS := hS.c xf qL.2.1 qL.2.2
                have hr128 := small_in qL.1 (by decide)
                have s1 := hS.1
                have s2 := hS.2.1
                have s3 := hS.2.2.1
                have s4 := hS.2.2.2.1
                have s5 := hS.2.2.2.2.1
                have s8 := hS.2.2.2.2.2.2.2.1
                have s9 := hS.2.2.2.2.2.2.2.2
                refine z_iadd (TX3_wordPart_1.at 27 rfl) ?_
                refine zc_callV2 (m := 13) (c_put rfl rfl (by omega) (by omega) (by omega) (by omega) (by omega) (by omega) (by omega) ) (hH.lv (by decide)) (TX3_wordPart_1.at 28 rfl) c3_214 rfl rfl hH hA (by omega) (Nat.le_of_ble_eq_true rfl) (fun f132 g132 j132 h q132 hH hA => ?_)
                obtain ⟨q132, xf, xg, xj⟩ := q132
                rw [xj] at hH
                have hfE := hfE.trans xf (by decide)
                have hgE := hgE.trans xg (by decide)
                have qL := q132
                have hS := hS.p xf qL.1
                have s1 := hS.1
                have s2 := hS.2.1
                have s3 := hS.2.2.1
                have s4 := hS.2.2.2.1
                have s5 := hS.2.2.2.2.1
                have s8 := hS.2.2.2.2.2.2.2.1
                have s9 := hS.2.2.2.2.2.2.2.2
                refine z_goto (tgt := 150) (TX3_wordPart_1.at 29 rfl) rfl ?_
                refine z_ild_1 (TX3_wordPart_1.at 37 rfl) ?_
                refine z_bipush (by decide) (TX3_wordPart_1.at 38 rfl) ?_
                refine z_icmp_eq (tgt := 162) (TX3_wordPart_1.at 39 rfl) rfl (by omega) (by omega) (fun c34 => ?_) (fun c34 => ?_)
                · skip
                  refine z_ald_0 (TX3_wordPart_2.at 3 rfl) ?_
                  refine zc_getO (m := 9) (s := 0) (k := 447) (hH.lv (by decide)) (TX3_wordPart_2.at 4 rfl) fl3_14 hH rfl rfl (by decide) (by decide) ?_
                  refine z_iconst (TX3_wordPart_2.at 5 rfl) ?_
                  refine zc_putZ (m := 13) (s := 2) (k := 418) (hH.lv (by decide)) (TX3_wordPart_2.at 6 rfl) fp3_241 hH hA rfl rfl (by decide) (by decide) (by first | omega | exact b2i_01 _) (fun h f167 e1 e2 hH hA => ?_)
                  have hfE := hfE.put e1 (by decide)
                  refine zc_vret (TX3_wordPart_2.at 7 rfl) rfl hH hA ?_
                  exact ⟨by first | exact hS | exact hS.g e1 e2, hfE, hgE, rfl⟩
                · skip
                  refine z_ild_1 (TX3_wordPart_2.at 0 rfl) ?_
                  refine z_bipush (by decide) (TX3_wordPart_2.at 1 rfl) ?_
                  refine z_icmp_ne (tgt := 170) (TX3_wordPart_2.at 2 rfl) rfl (by omega) (by omega) (fun c35 => ?_) (fun c35 => ?_)
                  · skip
                    refine zc_vret (TX3_wordPart_2.at 7 rfl) rfl hH hA ?_
                    exact ⟨by first | exact hS | exact hS.g e1 e2, hfE, hgE, rfl⟩
                  · skip
                    refine z_ald_0 (TX3_wordPart_2.at 3 rfl) ?_
                    refine zc_getO (m := 9) (s := 0) (k := 447) (hH.lv (by decide)) (TX3_wordPart_2.at 4 rfl) fl3_14 hH rfl rfl (by decide) (by decide) ?_
                    refine z_iconst (TX3_wordPart_2.at 5 rfl) ?_
                    refine zc_putZ (m := 13) (s := 2) (k := 418) (hH.lv (by decide)) (TX3_wordPart_2.at 6 rfl) fp3_241 hH hA rfl rfl (by decide) (by decide) (by first | omega | exact b2i_01 _) (fun h f167 e1 e2 hH hA => ?_)
                    have hfE := hfE.put e1 (by decide)
                    refine zc_vret (TX3_wordPart_2.at 7 rfl) rfl hH hA ?_
                    exact ⟨by first | exact hS | exact hS.g e1 e2, hfE, hgE, rfl⟩
          · skip
            refine z_ild_1 (TX3_wordPart_0.at 39 rfl) ?_
            refine z_bipush (by decide) (TX3_wordPart_1.at 0 rfl) ?_
            refine z_icmp_ne (tgt := 104) (TX3_wordPart_1.at 1 rfl) rfl (by omega) (by omega) (fun c36 => ?_) (fun c36 => ?_)
            · skip
              refine z_ald_0 (TX3_wordPart_1.at 13 rfl) ?_
              refine zc_getI (m := 9) (s := 8) (k := 296) (hH.lv (by decide)) (TX3_wordPart_1.at 14 rfl) fl3_43 hH rfl rfl (by decide) (by decide) (fun r105 => ?_)
              refine z_if_ne (tgt := 138) (TX3_wordPart_1.at 15 rfl) rfl (by omega) (fun c37 => ?_) (fun c37 => ?_)
              · skip
                refine z_ald_0 (TX3_wordPart_1.at 30 rfl) ?_
                refine zc_getO (m := 9) (s := 0) (k := 447) (hH.lv (by decide)) (TX3_wordPart_1.at 31 rfl) fl3_14 hH rfl rfl (by decide) (by decide) ?_
                refine z_iconst (TX3_wordPart_1.at 32 rfl) ?_
                refine z_ild_1 (TX3_wordPart_1.at 33 rfl) ?_
                refine z_bipush (by decide) (TX3_wordPart_1.at 34 rfl) ?_
                refine z_isub (TX3_wordPart_1.at 35 rfl) ?_
                refine zc_callV2 (m := 13) (c_put rfl rfl (by omega) (by omega) (by omega) (by omega) (by omega) (by omega) (by omega) ) (hH.lv (by decide)) (TX3_wordPart_1.at 36 rfl) c3_214 rfl rfl hH hA (by omega) (Nat.le_of_ble_eq_true rfl) (fun f147 g147 j147 h q147 hH hA => ?_)
                obtain ⟨q147, xf, xg, xj⟩ := q147
                rw [xj] at hH
                have hfE := hfE.trans xf (by decide)
                have hgE := hgE.trans xg (by decide)
                have qL := q147
                have hS := hS.p xf qL.1
                have s1 := hS.1
                have s2 := hS.2.1
                have s3 := hS.2.2.1
                have s4 := hS.2.2.2.1
                have s5 := hS.2.2.2.2.1
                have s8 := hS.2.2.2.2.2.2.2.1
                have s9 := hS.2.2.2.2.2.2.2.2
                refine z_ild_1 (TX3_wordPart_1.at 37 rfl) ?_
                refine z_bipush (by decide) (TX3_wordPart_1.at 38 rfl) ?_
                refine z_icmp_eq (tgt := 162) (TX3_wordPart_1.at 39 rfl) rfl (by omega) (by omega) (fun c38 => ?_) (fun c38 => ?_)
                · skip
                  refine z_ald_0 (TX3_wordPart_2.at 3 rfl) ?_
                  refine zc_getO (m := 9) (s := 0) (k := 447) (hH.lv (by decide)) (TX3_wordPart_2.at 4 rfl) fl3_14 hH rfl rfl (by decide) (by decide) ?_
                  refine z_iconst (TX3_wordPart_2.at 5 rfl) ?_
                  refine zc_putZ (m := 13) (s := 2) (k := 418) (hH.lv (by decide)) (TX3_wordPart_2.at 6 rfl) fp3_241 hH hA rfl rfl (by decide) (by decide) (by first | omega | exact b2i_01 _) (fun h f167 e1 e2 hH hA => ?_)
                  have hfE := hfE.put e1 (by decide)
                  refine zc_vret (TX3_wordPart_2.at 7 rfl) rfl hH hA ?_
                  exact ⟨by first | exact hS | exact hS.g e1 e2, hfE, hgE, rfl⟩
                · skip
                  refine z_ild_1 (TX3_wordPart_2.at 0 rfl) ?_
                  refine z_bipush (by decide) (TX3_wordPart_2.at 1 rfl) ?_
                  refine z_icmp_ne (tgt := 170) (TX3_wordPart_2.at 2 rfl) rfl (by omega) (by omega) (fun c39 => ?_) (fun c39 => ?_)
                  · skip
                    refine zc_vret (TX3_wordPart_2.at 7 rfl) rfl hH hA ?_
                    exact ⟨by first | exact hS | exact hS.g e1 e2, hfE, hgE, rfl⟩
                  · skip
                    refine z_ald_0 (TX3_wordPart_2.at 3 rfl) ?_
                    refine zc_getO (m := 9) (s := 0) (k := 447) (hH.lv (by decide)) (TX3_wordPart_2.at 4 rfl) fl3_14 hH rfl rfl (by decide) (by decide) ?_
                    refine z_iconst (TX3_wordPart_2.at 5 rfl) ?_
                    refine zc_putZ (m := 13) (s := 2) (k := 418) (hH.lv (by decide)) (TX3_wordPart_2.at 6 rfl) fp3_241 hH hA rfl rfl (by decide) (by decide) (by first | omega | exact b2i_01 _) (fun h f167 e1 e2 hH hA => ?_)
                    have hfE := hfE.put e1 (by decide)
                    refine zc_vret (TX3_wordPart_2.at 7 rfl) rfl hH hA ?_
                    exact ⟨by first | exact hS | exact hS.g e1 e2, hfE, hgE, rfl⟩
              · skip
                refine z_ild_1 (TX3_wordPart_1.at 16 rfl) ?_
                refine z_bipush (by decide) (TX3_wordPart_1.at 17 rfl) ?_
                refine z_icmp_ne (tgt := 138) (TX3_wordPart_1.at 18 rfl) rfl (by omega) (by omega) (fun c40 => ?_) (fun c40 => ?_)
                · skip
                  refine z_ald_0 (TX3_wordPart_1.at 30 rfl) ?_
                  refine zc_getO (m := 9) (s := 0) (k := 447) (hH.lv (by decide)) (TX3_wordPart_1.at 31 rfl) fl3_14 hH rfl rfl (by decide) (by decide) ?_
                  refine z_iconst (TX3_wordPart_1.at 32 rfl) ?_
                  refine z_ild_1 (TX3_wordPart_1.at 33 rfl) ?_
                  refine z_bipush (by decide) (TX3_wordPart_1.at 34 rfl) ?_
                  refine z_isub (TX3_wordPart_1.at 35 rfl) ?_
                  refine zc_callV2 (m := 13) (c_put rfl rfl (by omega) (by omega) (by omega) (by omega) (by omega) (by omega) (by omega) ) (hH.lv (by decide)) (TX3_wordPart_1.at 36 rfl) c3_214 rfl rfl hH hA (by omega) (Nat.le_of_ble_eq_true rfl) (fun f147 g147 j147 h q147 hH hA => ?_)
                  obtain ⟨q147, xf, xg, xj⟩ := q147
                  rw [xj] at hH
                  have hfE := hfE.trans xf (by decide)
                  have hgE := hgE.trans xg (by decide)
                  have qL := q147
                  have hS := hS.p xf qL.1
                  have s1 := hS.1
                  have s2 := hS.2.1
                  have s3 := hS.2.2.1
                  have s4 := hS.2.2.2.1
                  have s5 := hS.2.2.2.2.1
                  have s8 := hS.2.2.2.2.2.2.2.1
                  have s9 := hS.2.2.2.2.2.2.2.2
                  refine z_ild_1 (TX3_wordPart_1.at 37 rfl) ?_
                  refine z_bipush (by decide) (TX3_wordPart_1.at 38 rfl) ?_
                  refine z_icmp_eq (tgt := 162) (TX3_wordPart_1.at 39 rfl) rfl (by omega) (by omega) (fun c41 => ?_) (fun c41 => ?_)
                  · skip
                    refine z_ald_0 (TX3_wordPart_2.at 3 rfl) ?_
                    refine zc_getO (m := 9) (s := 0) (k := 447) (hH.lv (by decide)) (TX3_wordPart_2.at 4 rfl) fl3_14 hH rfl rfl (by decide) (by decide) ?_
                    refine z_iconst (TX3_wordPart_2.at 5 rfl) ?_
                    refine zc_putZ (m := 13) (s := 2) (k := 418) (hH.lv (by decide)) (TX3_wordPart_2.at 6 rfl) fp3_241 hH hA rfl rfl (by decide) (by decide) (by first | omega | exact b2i_01 _) (fun h f167 e1 e2 hH hA => ?_)
                    have hfE := hfE.put e1 (by decide)
                    refine zc_vret (TX3_wordPart_2.at 7 rfl) rfl hH hA ?_
                    exact ⟨by first | exact hS | exact hS.g e1 e2, hfE, hgE, rfl⟩
                  · skip
                    refine z_ild_1 (TX3_wordPart_2.at 0 rfl) ?_
                    refine z_bipush (by decide) (TX3_wordPart_2.at 1 rfl) ?_
                    refine z_icmp_ne (tgt := 170) (TX3_wordPart_2.at 2 rfl) rfl (by omega) (by omega) (fun c42 => ?_) (fun c42 => ?_)
                    · skip
                      refine zc_vret (TX3_wordPart_2.at 7 rfl) rfl hH hA ?_
                      exact ⟨by first | exact hS | exact hS.g e1 e2, hfE, hgE, rfl⟩
                    · skip
                      refine z_ald_0 (TX3_wordPart_2.at 3 rfl) ?_
                      refine zc_getO (m := 9) (s := 0) (k := 447) (hH.lv (by decide)) (TX3_wordPart_2.at 4 rfl) fl3_14 hH rfl rfl (by decide) (by decide) ?_
                      refine z_iconst (TX3_wordPart_2.at 5 rfl) ?_
                      refine zc_putZ (m := 13) (s := 2) (k := 418) (hH.lv (by decide)) (TX3_wordPart_2.at 6 rfl) fp3_241 hH hA rfl rfl (by decide) (by decide) (by first | omega | exact b2i_01 _) (fun h f167 e1 e2 hH hA => ?_)
                      have hfE := hfE.put e1 (by decide)
                      refine zc_vret (TX3_wordPart_2.at 7 rfl) rfl hH hA ?_
                      exact ⟨by first | exact hS | exact hS.g e1 e2, hfE, hgE, rfl⟩
                · skip
                  refine z_ald_0 (TX3_wordPart_1.at 19 rfl) ?_
                  refine zc_getO (m := 9) (s := 0) (k := 447) (hH.lv (by decide)) (TX3_wordPart_1.at 20 rfl) fl3_14 hH rfl rfl (by decide) (by decide) ?_
                  refine z_iconst (TX3_wordPart_1.at 21 rfl) ?_
                  refine z_bipush (by decide) (TX3_wordPart_1.at 22 rfl) ?_
                  refine z_ald_0 (TX3_wordPart_1.at 23 rfl) ?_
                  refine z_iconst (TX3_wordPart_1.at 24 rfl) ?_
                  refine z_bipush (by decide) (TX3_wordPart_1.at 25 rfl) ?_
                  refine zc_callI2 (m := 9) (c_small rfl rfl rfl rfl rfl rfl (by omega) (by omega) (by omega) (by omega) (by omega) (by omega) ) (hH.lv (by decide)) (TX3_wordPart_1.at 26 rfl) c3_203 rfl rfl hH hA (by omega) (Nat.le_of_ble_eq_true rfl) (fun x128 f128 g128 j128 h r128 q128 hH hA => ?_)
                  obtain ⟨q128, xf, xg, xj⟩ := q128
                  rw [xj] at hH
                  have hfE := hfE.trans xf (by decide)
                  have hgE := hgE.trans xg (by decide)
                  have qL := q128
                  have hS := hS.c xf qL.2.1 qL.2.2
                  have hr128 := small_in qL.1 (by decide)
                  have s1 := hS.1
                  have s2 := hS.2.1
                  have s3 := hS.2.2.1
                  have s4 := hS.2.2.2.1
                  have s5 := hS.2.2.2.2.1
                  have s8 := hS.2.2.2.2.2.2.2.1
                  have s9 := hS.2.2.2.2.2.2.2.2
                  refine z_iadd (TX3_wordPart_1.at 27 rfl) ?_
                  refine zc_callV2 (m := 13) (c_put rfl rfl (by omega) (by omega) (by omega) (by omega) (by omega) (by omega) (by omega) ) (hH.lv (by decide)) (TX3_wordPart_1.at 28 rfl) c3_214 rfl rfl hH hA (by omega) (Nat.le_of_ble_eq_true rfl) (fun f132 g132 j132 h q132 hH hA => ?_)
                  obtain ⟨q132, xf, xg, xj⟩ := q132
                  rw [xj] at hH
                  have hfE := hfE.trans xf (by decide)
                  have hgE := hgE.trans xg (by decide)
                  have qL := q132
                  have hS := hS.p xf qL.1
                  have s1 := hS.1
                  have s2 := hS.2.1
                  have s3 := hS.2.2.1
                  have s4 := hS.2.2.2.1
                  have s5 := hS.2.2.2.2.1
                  have s8 := hS.2.2.2.2.2.2.2.1
                  have s9 := hS.2.2.2.2.2.2.2.2
                  refine z_goto (tgt := 150) (TX3_wordPart_1.at 29 rfl) rfl ?_
                  refine z_ild_1 (TX3_wordPart_1.at 37 rfl) ?_
                  refine z_bipush (by decide) (TX3_wordPart_1.at 38 rfl) ?_
                  refine z_icmp_eq (tgt := 162) (TX3_wordPart_1.at 39 rfl) rfl (by omega) (by omega) (fun c43 => ?_) (fun c43 => ?_)
                  · skip
                    refine z_ald_0 (TX3_wordPart_2.at 3 rfl) ?_
                    refine zc_getO (m := 9) (s := 0) (k := 447) (hH.lv (by decide)) (TX3_wordPart_2.at 4 rfl) fl3_14 hH rfl rfl (by decide) (by decide) ?_
                    refine z_iconst (TX3_wordPart_2.at 5 rfl) ?_
                    refine zc_putZ (m := 13) (s := 2) (k := 418) (hH.lv (by decide)) (TX3_wordPart_2.at 6 rfl) fp3_241 hH hA rfl rfl (by decide) (by decide) (by first | omega | exact b2i_01 _) (fun h f167 e1 e2 hH hA => ?_)
                    have hfE := hfE.put e1 (by decide)
                    refine zc_vret (TX3_wordPart_2.at 7 rfl) rfl hH hA ?_
                    exact ⟨by first | exact hS | exact hS.g e1 e2, hfE, hgE, rfl⟩
                  · skip
                    refine z_ild_1 (TX3_wordPart_2.at 0 rfl) ?_
                    refine z_bipush (by decide) (TX3_wordPart_2.at 1 rfl) ?_
                    refine z_icmp_ne (tgt := 170) (TX3_wordPart_2.at 2 rfl) rfl (by omega) (by omega) (fun c44 => ?_) (fun c44 => ?_)
                    · skip
                      refine zc_vret (TX3_wordPart_2.at 7 rfl) rfl hH hA ?_
                      exact ⟨by first | exact hS | exact hS.g e1 e2, hfE, hgE, rfl⟩
                    · skip
                      refine z_ald_0 (TX3_wordPart_2.at 3 rfl) ?_
                      refine zc_getO (m := 9) (s := 0) (k := 447) (hH.lv (by decide)) (TX3_wordPart_2.at 4 rfl) fl3_14 hH rfl rfl (by decide) (by decide) ?_
                      refine z_iconst (TX3_wordPart_2.at 5 rfl) ?_
                      refine zc_putZ (m := 13) (s := 2) (k := 418) (hH.lv (by decide)) (TX3_wordPart_2.at 6 rfl) fp3_241 hH hA rfl rfl (by decide) (by decide) (by first | omega | exact b2i_01 _) (fun h f167 e1 e2 hH hA => ?_)
                      have hfE := hfE.put e1 (by decide)
                      refine zc_vret (TX3_wordPart_2.at 7 rfl) rfl hH hA ?_
                      exact ⟨by first | exact hS | exact hS.g e1 e2, hfE, hgE, rfl⟩
            · skip
              refine z_ald_0 (TX3_wordPart_1.at 2 rfl) ?_
              refine zc_getO (m := 9) (s := 0) (k := 447) (hH.lv (by decide)) (TX3_wordPart_1.at 3 rfl) fl3_14 hH rfl rfl (by decide) (by decide) ?_
              refine z_iconst (TX3_wordPart_1.at 4 rfl) ?_
              refine z_bipush (by decide) (TX3_wordPart_1.at 5 rfl) ?_
              refine z_ald_0 (TX3_wordPart_1.at 6 rfl) ?_
              refine z_iconst (TX3_wordPart_1.at 7 rfl) ?_
              refine z_bipush (by decide) (TX3_wordPart_1.at 8 rfl) ?_
              refine zc_callI2 (m := 9) (c_small rfl rfl rfl rfl rfl rfl (by omega) (by omega) (by omega) (by omega) (by omega) (by omega) ) (hH.lv (by decide)) (TX3_wordPart_1.at 9 rfl) c3_203 rfl rfl hH hA (by omega) (Nat.le_of_ble_eq_true rfl) (fun x94 f94 g94 j94 h r94 q94 hH hA => ?_)
              obtain ⟨q94, xf, xg, xj⟩ := q94
              rw [xj] at hH
              have hfE := hfE.trans xf (by decide)
              have hgE := hgE.trans xg (by decide)
              have qL := q94
              have hS := hS.c xf qL.2.1 qL.2.2
              have hr94 := small_in qL.1 (by decide)
              have s1 := hS.1
              have s2 := hS.2.1
              have s3 := hS.2.2.1
              have s4 := hS.2.2.2.1
              have s5 := hS.2.2.2.2.1
              have s8 := hS.2.2.2.2.2.2.2.1
              have s9 := hS.2.2.2.2.2.2.2.2
              refine z_iadd (TX3_wordPart_1.at 10 rfl) ?_
              refine zc_callV2 (m := 13) (c_put rfl rfl (by omega) (by omega) (by omega) (by omega) (by omega) (by omega) (by omega) ) (hH.lv (by decide)) (TX3_wordPart_1.at 11 rfl) c3_214 rfl rfl hH hA (by omega) (Nat.le_of_ble_eq_true rfl) (fun f98 g98 j98 h q98 hH hA => ?_)
              obtain ⟨q98, xf, xg, xj⟩ := q98
              rw [xj] at hH
              have hfE := hfE.trans xf (by decide)
              have hgE := hgE.trans xg (by decide)
              have qL := q98
              have hS := hS.p xf qL.1
              have s1 := hS.1
              have s2 := hS.2.1
              have s3 := hS.2.2.1
              have s4 := hS.2.2.2.1
              have s5 := hS.2.2.2.2.1
              have s8 := hS.2.2.2.2.2.2.2.1
              have s9 := hS.2.2.2.2.2.2.2.2
              refine z_goto (tgt := 150) (TX3_wordPart_1.at 12 rfl) rfl ?_
              refine z_ild_1 (TX3_wordPart_1.at 37 rfl) ?_
              refine z_bipush (by decide) (TX3_wordPart_1.at 38 rfl) ?_
              refine z_icmp_eq (tgt := 162) (TX3_wordPart_1.at 39 rfl) rfl (by omega) (by omega) (fun c45 => ?_) (fun c45 => ?_)
              · skip
                refine z_ald_0 (TX3_wordPart_2.at 3 rfl) ?_
                refine zc_getO (m := 9) (s := 0) (k := 447) (hH.lv (by decide)) (TX3_wordPart_2.at 4 rfl) fl3_14 hH rfl rfl (by decide) (by decide) ?_
                refine z_iconst (TX3_wordPart_2.at 5 rfl) ?_
                refine zc_putZ (m := 13) (s := 2) (k := 418) (hH.lv (by decide)) (TX3_wordPart_2.at 6 rfl) fp3_241 hH hA rfl rfl (by decide) (by decide) (by first | omega | exact b2i_01 _) (fun h f167 e1 e2 hH hA => ?_)
                have hfE := hfE.put e1 (by decide)
                refine zc_vret (TX3_wordPart_2.at 7 rfl) rfl hH hA ?_
                exact ⟨by first | exact hS | exact hS.g e1 e2, hfE, hgE, rfl⟩
              · skip
                refine z_ild_1 (TX3_wordPart_2.at 0 rfl) ?_
                refine z_bipush (by decide) (TX3_wordPart_2.at 1 rfl) ?_
                refine z_icmp_ne (tgt := 170) (TX3_wordPart_2.at 2 rfl) rfl (by omega) (by omega) (fun c46 => ?_) (fun c46 => ?_)
                · skip
                  refine zc_vret (TX3_wordPart_2.at 7 rfl) rfl hH hA ?_
                  exact ⟨by first | exact hS | exact hS.g e1 e2, hfE, hgE, rfl⟩
                · skip
                  refine z_ald_0 (TX3_wordPart_2.at 3 rfl) ?_
                  refine zc_getO (m := 9) (s := 0) (k := 447) (hH.lv (by decide)) (TX3_wordPart_2.at 4 rfl) fl3_14 hH rfl rfl (by decide) (by decide) ?_
                  refine z_iconst (TX3_wordPart_2.at 5 rfl) ?_
                  refine zc_putZ (m := 13) (s := 2) (k := 418) (hH.lv (by decide)) (TX3_wordPart_2.at 6 rfl) fp3_241 hH hA rfl rfl (by decide) (by decide) (by first | omega | exact b2i_01 _) (fun h f167 e1 e2 hH hA => ?_)
                  have hfE := hfE.put e1 (by decide)
                  refine zc_vret (TX3_wordPart_2.at 7 rfl) rfl hH hA ?_
                  exact ⟨by first | exact hS | exact hS.g e1 e2, hfE, hgE, rfl⟩
        · skip
          refine z_goto (tgt := 61) (TX3_wordPart_0.at 24 rfl) rfl ?_
          refine z_ald_0 (TX3_wordPart_0.at 31 rfl) ?_
          refine zc_callV0 (m := 9) (c_fail rfl rfl rfl (by omega) (by omega)) (hH.lv (by decide)) (TX3_wordPart_0.at 32 rfl) c3_54 rfl rfl hH hA (by omega) (Nat.le_of_ble_eq_true rfl) (fun f62 g62 j62 h q62 hH hA => ?_)
          obtain ⟨q62, xf, xg, xj⟩ := q62
          rw [xj] at hH
          have hfE := hfE.trans xf (by decide)
          have hgE := hgE.trans xg (by decide)
          have qL := q62
          have hS := hS.a xf qL
          have s1 := hS.1
          have s2 := hS.2.1
          have s3 := hS.2.2.1
          have s4 := hS.2.2.2.1
          have s5 := hS.2.2.2.2.1
          have s8 := hS.2.2.2.2.2.2.2.1
          have s9 := hS.2.2.2.2.2.2.2.2
          refine zc_vret (TX3_wordPart_0.at 33 rfl) rfl hH hA ?_
          exact ⟨by first | exact hS | exact hS.g e1 e2, hfE, hgE, rfl⟩
  · skip
    refine z_ald_0 (TX3_wordPart_0.at 7 rfl) ?_
    refine zc_getA (m := 9) (s := 3) (k := 291) (hH.lv (by decide)) (TX3_wordPart_0.at 8 rfl) fl3_28 hH rfl rfl (by decide) (by decide) ?_
    refine z_ald_0 (TX3_wordPart_0.at 9 rfl) ?_
    refine zc_getI (m := 9) (s := 6) (k := 294) (hH.lv (by decide)) (TX3_wordPart_0.at 10 rfl) fl3_37 hH rfl rfl (by decide) (by decide) (fun r18 => ?_)
    refine zcf_iald (k := 291) (N := 401) (hH.lv (by decide)) (by decide) rfl rfl (TX3_wordPart_0.at 11 rfl) hH (by decide) (by omega) (show _ < ((401 : Nat) : Int) by omega) (fun r21 => ?_)
    refine z_goto (tgt := 26) (TX3_wordPart_0.at 12 rfl) rfl ?_
    refine z_ist_1 (TX3_wordPart_0.at 14 rfl) (Nat.le_of_ble_eq_true rfl) rfl ?_
    refine z_ald_0 (TX3_wordPart_0.at 15 rfl) ?_
    refine zc_getI (m := 9) (s := 8) (k := 296) (hH.lv (by decide)) (TX3_wordPart_0.at 16 rfl) fl3_43 hH rfl rfl (by decide) (by decide) (fun r28 => ?_)
    refine z_if_eq (tgt := 49) (TX3_wordPart_0.at 17 rfl) rfl (by omega) (fun c47 => ?_) (fun c47 => ?_)
    · skip
      refine z_ild_1 (TX3_wordPart_0.at 25 rfl) ?_
      refine z_bipush (by decide) (TX3_wordPart_0.at 26 rfl) ?_
      refine z_icmp_lt (tgt := 61) (TX3_wordPart_0.at 27 rfl) rfl (by omega) (by omega) (fun c48 => ?_) (fun c48 => ?_)
      · skip
        refine z_ald_0 (TX3_wordPart_0.at 31 rfl) ?_
        refine zc_callV0 (m := 9) (c_fail rfl rfl rfl (by omega) (by omega)) (hH.lv (by decide)) (TX3_wordPart_0.at 32 rfl) c3_54 rfl rfl hH hA (by omega) (Nat.le_of_ble_eq_true rfl) (fun f62 g62 j62 h q62 hH hA => ?_)
        obtain ⟨q62, xf, xg, xj⟩ := q62
        rw [xj] at hH
        have hfE := hfE.trans xf (by decide)
        have hgE := hgE.trans xg (by decide)
        have qL := q62
        have hS := hS.a xf qL
        have s1 := hS.1
        have s2 := hS.2.1
        have s3 := hS.2.2.1
        have s4 := hS.2.2.2.1
        have s5 := hS.2.2.2.2.1
        have s8 := hS.2.2.2.2.2.2.2.1
        have s9 := hS.2.2.2.2.2.2.2.2
        refine zc_vret (TX3_wordPart_0.at 33 rfl) rfl hH hA ?_
        exact ⟨by first | exact hS | exact hS.g e1 e2, hfE, hgE, rfl⟩
      · skip
        refine z_ild_1 (TX3_wordPart_0.at 28 rfl) ?_
        refine z_bipush (by decide) (TX3_wordPart_0.at 29 rfl) ?_
        refine z_icmp_le (tgt := 66) (TX3_wordPart_0.at 30 rfl) rfl (by omega) (by omega) (fun c49 => ?_) (fun c49 => ?_)
        · skip
          refine z_ald_0 (TX3_wordPart_0.at 34 rfl) ?_
          refine zc_callV0 (m := 9) (c_goOn rfl rfl (by omega) (by omega) (by omega) (by omega) ) (hH.lv (by decide)) (TX3_wordPart_0.at 35 rfl) c3_179 rfl rfl hH hA (by omega) (Nat.le_of_ble_eq_true rfl) (fun f67 g67 j67 h q67 hH hA => ?_)
          obtain ⟨q67, xf, xg, xj⟩ := q67
          rw [xj] at hH
          have hfE := hfE.trans xf (by decide)
          have hgE := hgE.trans xg (by decide)
          have qL := q67
          have hS := hS.b xf qL
          have s1 := hS.1
          have s2 := hS.2.1
          have s3 := hS.2.2.1
          have s4 := hS.2.2.2.1
          have s5 := hS.2.2.2.2.1
          have s8 := hS.2.2.2.2.2.2.2.1
          have s9 := hS.2.2.2.2.2.2.2.2
          refine z_ald_0 (TX3_wordPart_0.at 36 rfl) ?_
          refine zc_getI (m := 9) (s := 8) (k := 296) (hH.lv (by decide)) (TX3_wordPart_0.at 37 rfl) fl3_43 hH rfl rfl (by decide) (by decide) (fun r71 => ?_)
          refine z_if_ne (tgt := 104) (TX3_wordPart_0.at 38 rfl) rfl (by omega) (fun c50 => ?_) (fun c50 => ?_)
          · skip
            refine z_ald_0 (TX3_wordPart_1.at 13 rfl) ?_
            refine zc_getI (m := 9) (s := 8) (k := 296) (hH.lv (by decide)) (TX3_wordPart_1.at 14 rfl) fl3_43 hH rfl rfl (by decide) (by decide) (fun r105 => ?_)
            refine z_if_ne (tgt := 138) (TX3_wordPart_1.at 15 rfl) rfl (by omega) (fun c51 => ?_) (fun c51 => ?_)
            · skip
              refine z_ald_0 (TX3_wordPart_1.at 30 rfl) ?_
              refine zc_getO (m := 9) (s := 0) (k := 447) (hH.lv (by decide)) (TX3_wordPart_1.at 31 rfl) fl3_14 hH rfl rfl (by decide) (by decide) ?_
              refine z_iconst (TX3_wordPart_1.at 32 rfl) ?_
              refine z_ild_1 (TX3_wordPart_1.at 33 rfl) ?_
              refine z_bipush (by decide) (TX3_wordPart_1.at 34 rfl) ?_
              refine z_isub (TX3_wordPart_1.at 35 rfl) ?_
              refine zc_callV2 (m := 13) (c_put rfl rfl (by omega) (by omega) (by omega) (by omega) (by omega) (by omega) (by omega) ) (hH.lv (by decide)) (TX3_wordPart_1.at 36 rfl) c3_214 rfl rfl hH hA (by omega) (Nat.le_of_ble_eq_true rfl) (fun f147 g147 j147 h q147 hH hA => ?_)
              obtain ⟨q147, xf, xg, xj⟩ := q147
              rw [xj] at hH
              have hfE := hfE.trans xf (by decide)
              have hgE := hgE.trans xg (by decide)
              have qL := q147
              have hS := hS.p xf qL.1
              have s1 := hS.1
              have s2 := hS.2.1
              have s3 := hS.2.2.1
              have s4 := hS.2.2.2.1
              have s5 := hS.2.2.2.2.1
              have s8 := hS.2.2.2.2.2.2.2.1
              have s9 := hS.2.2.2.2.2.2.2.2
              refine z_ild_1 (TX3_wordPart_1.at 37 rfl) ?_
              refine z_bipush (by decide) (TX3_wordPart_1.at 38 rfl) ?_
              refine z_icmp_eq (tgt := 162) (TX3_wordPart_1.at 39 rfl) rfl (by omega) (by omega) (fun c52 => ?_) (fun c52 => ?_)
              · skip
                refine z_ald_0 (TX3_wordPart_2.at 3 rfl) ?_
                refine zc_getO (m := 9) (s := 0) (k := 447) (hH.lv (by decide)) (TX3_wordPart_2.at 4 rfl) fl3_14 hH rfl rfl (by decide) (by decide) ?_
                refine z_iconst (TX3_wordPart_2.at 5 rfl) ?_
                refine zc_putZ (m := 13) (s := 2) (k := 418) (hH.lv (by decide)) (TX3_wordPart_2.at 6 rfl) fp3_241 hH hA rfl rfl (by decide) (by decide) (by first | omega | exact b2i_01 _) (fun h f167 e1 e2 hH hA => ?_)
                have hfE := hfE.put e1 (by decide)
                refine zc_vret (TX3_wordPart_2.at 7 rfl) rfl hH hA ?_
                exact ⟨by first | exact hS | exact hS.g e1 e2, hfE, hgE, rfl⟩
              · skip
                refine z_ild_1 (TX3_wordPart_2.at 0 rfl) ?_
                refine z_bipush (by decide) (TX3_wordPart_2.at 1 rfl) ?_
                refine z_icmp_ne (tgt := 170) (TX3_wordPart_2.at 2 rfl) rfl (by omega) (by omega) (fun c53 => ?_) (fun c53 => ?_)
                · skip
                  refine zc_vret (TX3_wordPart_2.at 7 rfl) rfl hH hA ?_
                  exact ⟨by first | exact hS | exact hS.g e1 e2, hfE, hgE, rfl⟩
                · skip
                  refine z_ald_0 (TX3_wordPart_2.at 3 rfl) ?_
                  refine zc_getO (m := 9) (s := 0) (k := 447) (hH.lv (by decide)) (TX3_wordPart_2.at 4 rfl) fl3_14 hH rfl rfl (by decide) (by decide) ?_
                  refine z_iconst (TX3_wordPart_2.at 5 rfl) ?_
                  refine zc_putZ (m := 13) (s := 2) (k := 418) (hH.lv (by decide)) (TX3_wordPart_2.at 6 rfl) fp3_241 hH hA rfl rfl (by decide) (by decide) (by first | omega | exact b2i_01 _) (fun h f167 e1 e2 hH hA => ?_)
                  have hfE := hfE.put e1 (by decide)
                  refine zc_vret (TX3_wordPart_2.at 7 rfl) rfl hH hA ?_
                  exact ⟨by first | exact hS | exact hS.g e1 e2, hfE, hgE, rfl⟩
            · skip
              refine z_ild_1 (TX3_wordPart_1.at 16 rfl) ?_
              refine z_bipush (by decide) (TX3_wordPart_1.at 17 rfl) ?_
              refine z_icmp_ne (tgt := 138) (TX3_wordPart_1.at 18 rfl) rfl (by omega) (by omega) (fun c54 => ?_) (fun c54 => ?_)
              · skip
                refine z_ald_0 (TX3_wordPart_1.at 30 rfl) ?_
                refine zc_getO (m := 9) (s := 0) (k := 447) (hH.lv (by decide)) (TX3_wordPart_1.at 31 rfl) fl3_14 hH rfl rfl (by decide) (by decide) ?_
                refine z_iconst (TX3_wordPart_1.at 32 rfl) ?_
                refine z_ild_1 (TX3_wordPart_1.at 33 rfl) ?_
                refine z_bipush (by decide) (TX3_wordPart_1.at 34 rfl) ?_
                refine z_isub (TX3_wordPart_1.at 35 rfl) ?_
                refine zc_callV2 (m := 13) (c_put rfl rfl (by omega) (by omega) (by omega) (by omega) (by omega) (by omega) (by omega) ) (hH.lv (by decide)) (TX3_wordPart_1.at 36 rfl) c3_214 rfl rfl hH hA (by omega) (Nat.le_of_ble_eq_true rfl) (fun f147 g147 j147 h q147 hH hA => ?_)
                obtain ⟨q147, xf, xg, xj⟩ := q147
                rw [xj] at hH
                have hfE := hfE.trans xf (by decide)
                have hgE := hgE.trans xg (by decide)
                have qL := q147
                have hS := hS.p xf qL.1
                have s1 := hS.1
                have s2 := hS.2.1
                have s3 := hS.2.2.1
                have s4 := hS.2.2.2.1
                have s5 := hS.2.2.2.2.1
                have s8 := hS.2.2.2.2.2.2.2.1
                have s9 := hS.2.2.2.2.2.2.2.2
                refine z_ild_1 (TX3_wordPart_1.at 37 rfl) ?_
                refine z_bipush (by decide) (TX3_wordPart_1.at 38 rfl) ?_
                refine z_icmp_eq (tgt := 162) (TX3_wordPart_1.at 39 rfl) rfl (by omega) (by omega) (fun c55 => ?_) (fun c55 => ?_)
                · skip
                  refine z_ald_0 (TX3_wordPart_2.at 3 rfl) ?_
                  refine zc_getO (m := 9) (s := 0) (k := 447) (hH.lv (by decide)) (TX3_wordPart_2.at 4 rfl) fl3_14 hH rfl rfl (by decide) (by decide) ?_
                  refine z_iconst (TX3_wordPart_2.at 5 rfl) ?_
                  refine zc_putZ (m := 13) (s := 2) (k := 418) (hH.lv (by decide)) (TX3_wordPart_2.at 6 rfl) fp3_241 hH hA rfl rfl (by decide) (by decide) (by first | omega | exact b2i_01 _) (fun h f167 e1 e2 hH hA => ?_)
                  have hfE := hfE.put e1 (by decide)
                  refine zc_vret (TX3_wordPart_2.at 7 rfl) rfl hH hA ?_
                  exact ⟨by first | exact hS | exact hS.g e1 e2, hfE, hgE, rfl⟩
                · skip
                  refine z_ild_1 (TX3_wordPart_2.at 0 rfl) ?_
                  refine z_bipush (by decide) (TX3_wordPart_2.at 1 rfl) ?_
                  refine z_icmp_ne (tgt := 170) (TX3_wordPart_2.at 2 rfl) rfl (by omega) (by omega) (fun c56 => ?_) (fun c56 => ?_)
                  · skip
                    refine zc_vret (TX3_wordPart_2.at 7 rfl) rfl hH hA ?_
                    exact ⟨by first | exact hS | exact hS.g e1 e2, hfE, hgE, rfl⟩
                  · skip
                    refine z_ald_0 (TX3_wordPart_2.at 3 rfl) ?_
                    refine zc_getO (m := 9) (s := 0) (k := 447) (hH.lv (by decide)) (TX3_wordPart_2.at 4 rfl) fl3_14 hH rfl rfl (by decide) (by decide) ?_
                    refine z_iconst (TX3_wordPart_2.at 5 rfl) ?_
                    refine zc_putZ (m := 13) (s := 2) (k := 418) (hH.lv (by decide)) (TX3_wordPart_2.at 6 rfl) fp3_241 hH hA rfl rfl (by decide) (by decide) (by first | omega | exact b2i_01 _) (fun h f167 e1 e2 hH hA => ?_)
                    have hfE := hfE.put e1 (by decide)
                    refine zc_vret (TX3_wordPart_2.at 7 rfl) rfl hH hA ?_
                    exact ⟨by first | exact hS | exact hS.g e1 e2, hfE, hgE, rfl⟩
              · skip
                refine z_ald_0 (TX3_wordPart_1.at 19 rfl) ?_
                refine zc_getO (m := 9) (s := 0) (k := 447) (hH.lv (by decide)) (TX3_wordPart_1.at 20 rfl) fl3_14 hH rfl rfl (by decide) (by decide) ?_
                refine z_iconst (TX3_wordPart_1.at 21 rfl) ?_
                refine z_bipush (by decide) (TX3_wordPart_1.at 22 rfl) ?_
                refine z_ald_0 (TX3_wordPart_1.at 23 rfl) ?_
                refine z_iconst (TX3_wordPart_1.at 24 rfl) ?_
                refine z_bipush (by decide) (TX3_wordPart_1.at 25 rfl) ?_
                refine zc_callI2 (m := 9) (c_small rfl rfl rfl rfl rfl rfl (by omega) (by omega) (by omega) (by omega) (by omega) (by omega) ) (hH.lv (by decide)) (TX3_wordPart_1.at 26 rfl) c3_203 rfl rfl hH hA (by omega) (Nat.le_of_ble_eq_true rfl) (fun x128 f128 g128 j128 h r128 q128 hH hA => ?_)
                obtain ⟨q128, xf, xg, xj⟩ := q128
                rw [xj] at hH
                have hfE := hfE.trans xf (by decide)
                have hgE := hgE.trans xg (by decide)
                have qL := q128
                have hS := hS.c xf qL.2.1 qL.2.2
                have hr128 := small_in qL.1 (by decide)
                have s1 := hS.1
                have s2 := hS.2.1
                have s3 := hS.2.2.1
                have s4 := hS.2.2.2.1
                have s5 := hS.2.2.2.2.1
                have s8 := hS.2.2.2.2.2.2.2.1
                have s9 := hS.2.2.2.2.2.2.2.2
                refine z_iadd (TX3_wordPart_1.at 27 rfl) ?_
                refine zc_callV2 (m := 13) (c_put rfl rfl (by omega) (by omega) (by omega) (by omega) (by omega) (by omega) (by omega) ) (hH.lv (by decide)) (TX3_wordPart_1.at 28 rfl) c3_214 rfl rfl hH hA (by omega) (Nat.le_of_ble_eq_true rfl) (fun f132 g132 j132 h q132 hH hA => ?_)
                obtain ⟨q132, xf, xg, xj⟩ := q132
                rw [xj] at hH
                have hfE := hfE.trans xf (by decide)
                have hgE := hgE.trans xg (by decide)
                have qL := q132
                have hS := hS.p xf qL.1
                have s1 := hS.1
                have s2 := hS.2.1
                have s3 := hS.2.2.1
                have s4 := hS.2.2.2.1
                have s5 := hS.2.2.2.2.1
                have s8 := hS.2.2.2.2.2.2.2.1
                have s9 := hS.2.2.2.2.2.2.2.2
                refine z_goto (tgt := 150) (TX3_wordPart_1.at 29 rfl) rfl ?_
                refine z_ild_1 (TX3_wordPart_1.at 37 rfl) ?_
                refine z_bipush (by decide) (TX3_wordPart_1.at 38 rfl) ?_
                refine z_icmp_eq (tgt := 162) (TX3_wordPart_1.at 39 rfl) rfl (by omega) (by omega) (fun c57 => ?_) (fun c57 => ?_)
                · skip
                  refine z_ald_0 (TX3_wordPart_2.at 3 rfl) ?_
                  refine zc_getO (m := 9) (s := 0) (k := 447) (hH.lv (by decide)) (TX3_wordPart_2.at 4 rfl) fl3_14 hH rfl rfl (by decide) (by decide) ?_
                  refine z_iconst (TX3_wordPart_2.at 5 rfl) ?_
                  refine zc_putZ (m := 13) (s := 2) (k := 418) (hH.lv (by decide)) (TX3_wordPart_2.at 6 rfl) fp3_241 hH hA rfl rfl (by decide) (by decide) (by first | omega | exact b2i_01 _) (fun h f167 e1 e2 hH hA => ?_)
                  have hfE := hfE.put e1 (by decide)
                  refine zc_vret (TX3_wordPart_2.at 7 rfl) rfl hH hA ?_
                  exact ⟨by first | exact hS | exact hS.g e1 e2, hfE, hgE, rfl⟩
                · skip
                  refine z_ild_1 (TX3_wordPart_2.at 0 rfl) ?_
                  refine z_bipush (by decide) (TX3_wordPart_2.at 1 rfl) ?_
                  refine z_icmp_ne (tgt := 170) (TX3_wordPart_2.at 2 rfl) rfl (by omega) (by omega) (fun c58 => ?_) (fun c58 => ?_)
                  · skip
                    refine zc_vret (TX3_wordPart_2.at 7 rfl) rfl hH hA ?_
                    exact ⟨by first | exact hS | exact hS.g e1 e2, hfE, hgE, rfl⟩
                  · skip
                    refine z_ald_0 (TX3_wordPart_2.at 3 rfl) ?_
                    refine zc_getO (m := 9) (s := 0) (k := 447) (hH.lv (by decide)) (TX3_wordPart_2.at 4 rfl) fl3_14 hH rfl rfl (by decide) (by decide) ?_
                    refine z_iconst (TX3_wordPart_2.at 5 rfl) ?_
                    refine zc_putZ (m := 13) (s := 2) (k := 418) (hH.lv (by decide)) (TX3_wordPart_2.at 6 rfl) fp3_241 hH hA rfl rfl (by decide) (by decide) (by first | omega | exact b2i_01 _) (fun h f167 e1 e2 hH hA => ?_)
                    have hfE := hfE.put e1 (by decide)
                    refine zc_vret (TX3_wordPart_2.at 7 rfl) rfl hH hA ?_
                    exact ⟨by first | exact hS | exact hS.g e1 e2, hfE, hgE, rfl⟩
          · skip
            refine z_ild_1 (TX3_wordPart_0.at 39 rfl) ?_
            refine z_bipush (by decide) (TX3_wordPart_1.at 0 rfl) ?_
            refine z_icmp_ne (tgt := 104) (TX3_wordPart_1.at 1 rfl) rfl (by omega) (by omega) (fun c59 => ?_) (fun c59 => ?_)
            · skip
              refine z_ald_0 (TX3_wordPart_1.at 13 rfl) ?_
              refine zc_getI (m := 9) (s := 8) (k := 296) (hH.lv (by decide)) (TX3_wordPart_1.at 14 rfl) fl3_43 hH rfl rfl (by decide) (by decide) (fun r105 => ?_)
              refine z_if_ne (tgt := 138) (TX3_wordPart_1.at 15 rfl) rfl (by omega) (fun c60 => ?_) (fun c60 => ?_)
              · skip
                refine z_ald_0 (TX3_wordPart_1.at 30 rfl) ?_
                refine zc_getO (m := 9) (s := 0) (k := 447) (hH.lv (by decide)) (TX3_wordPart_1.at 31 rfl) fl3_14 hH rfl rfl (by decide) (by decide) ?_
                refine z_iconst (TX3_wordPart_1.at 32 rfl) ?_
                refine z_ild_1 (TX3_wordPart_1.at 33 rfl) ?_
                refine z_bipush (by decide) (TX3_wordPart_1.at 34 rfl) ?_
                refine z_isub (TX3_wordPart_1.at 35 rfl) ?_
                refine zc_callV2 (m := 13) (c_put rfl rfl (by omega) (by omega) (by omega) (by omega) (by omega) (by omega) (by omega) ) (hH.lv (by decide)) (TX3_wordPart_1.at 36 rfl) c3_214 rfl rfl hH hA (by omega) (Nat.le_of_ble_eq_true rfl) (fun f147 g147 j147 h q147 hH hA => ?_)
                obtain ⟨q147, xf, xg, xj⟩ := q147
                rw [xj] at hH
                have hfE := hfE.trans xf (by decide)
                have hgE := hgE.trans xg (by decide)
                have qL := q147
                have hS := hS.p xf qL.1
                have s1 := hS.1
                have s2 := hS.2.1
                have s3 := hS.2.2.1
                have s4 := hS.2.2.2.1
                have s5 := hS.2.2.2.2.1
                have s8 := hS.2.2.2.2.2.2.2.1
                have s9 := hS.2.2.2.2.2.2.2.2
                refine z_ild_1 (TX3_wordPart_1.at 37 rfl) ?_
                refine z_bipush (by decide) (TX3_wordPart_1.at 38 rfl) ?_
                refine z_icmp_eq (tgt := 162) (TX3_wordPart_1.at 39 rfl) rfl (by omega) (by omega) (fun c61 => ?_) (fun c61 => ?_)
                · skip
                  refine z_ald_0 (TX3_wordPart_2.at 3 rfl) ?_
                  refine zc_getO (m := 9) (s := 0) (k := 447) (hH.lv (by decide)) (TX3_wordPart_2.at 4 rfl) fl3_14 hH rfl rfl (by decide) (by decide) ?_
                  refine z_iconst (TX3_wordPart_2.at 5 rfl) ?_
                  refine zc_putZ (m := 13) (s := 2) (k := 418) (hH.lv (by decide)) (TX3_wordPart_2.at 6 rfl) fp3_241 hH hA rfl rfl (by decide) (by decide) (by first | omega | exact b2i_01 _) (fun h f167 e1 e2 hH hA => ?_)
                  have hfE := hfE.put e1 (by decide)
                  refine zc_vret (TX3_wordPart_2.at 7 rfl) rfl hH hA ?_
                  exact ⟨by first | exact hS | exact hS.g e1 e2, hfE, hgE, rfl⟩
                · skip
                  refine z_ild_1 (TX3_wordPart_2.at 0 rfl) ?_
                  refine z_bipush (by decide) (TX3_wordPart_2.at 1 rfl) ?_
                  refine z_icmp_ne (tgt := 170) (TX3_wordPart_2.at 2 rfl) rfl (by omega) (by omega) (fun c62 => ?_) (fun c62 => ?_)
                  · skip
                    refine zc_vret (TX3_wordPart_2.at 7 rfl) rfl hH hA ?_
                    exact ⟨by first | exact hS | exact hS.g e1 e2, hfE, hgE, rfl⟩
                  · skip
                    refine z_ald_0 (TX3_wordPart_2.at 3 rfl) ?_
                    refine zc_getO (m := 9) (s := 0) (k := 447) (hH.lv (by decide)) (TX3_wordPart_2.at 4 rfl) fl3_14 hH rfl rfl (by decide) (by decide) ?_
                    refine z_iconst (TX3_wordPart_2.at 5 rfl) ?_
                    refine zc_putZ (m := 13) (s := 2) (k := 418) (hH.lv (by decide)) (TX3_wordPart_2.at 6 rfl) fp3_241 hH hA rfl rfl (by decide) (by decide) (by first | omega | exact b2i_01 _) (fun h f167 e1 e2 hH hA => ?_)
                    have hfE := hfE.put e1 (by decide)
                    refine zc_vret (TX3_wordPart_2.at 7 rfl) rfl hH hA ?_
                    exact ⟨by first | exact hS | exact hS.g e1 e2, hfE, hgE, rfl⟩
              · skip
                refine z_ild_1 (TX3_wordPart_1.at 16 rfl) ?_
                refine z_bipush (by decide) (TX3_wordPart_1.at 17 rfl) ?_
                refine z_icmp_ne (tgt := 138) (TX3_wordPart_1.at 18 rfl) rfl (by omega) (by omega) (fun c63 => ?_) (fun c63 => ?_)
                · skip
                  refine z_ald_0 (TX3_wordPart_1.at 30 rfl) ?_
                  refine zc_getO (m := 9) (s := 0) (k := 447) (hH.lv (by decide)) (TX3_wordPart_1.at 31 rfl) fl3_14 hH rfl rfl (by decide) (by decide) ?_
                  refine z_iconst (TX3_wordPart_1.at 32 rfl) ?_
                  refine z_ild_1 (TX3_wordPart_1.at 33 rfl) ?_
                  refine z_bipush (by decide) (TX3_wordPart_1.at 34 rfl) ?_
                  refine z_isub (TX3_wordPart_1.at 35 rfl) ?_
                  refine zc_callV2 (m := 13) (c_put rfl rfl (by omega) (by omega) (by omega) (by omega) (by omega) (by omega) (by omega) ) (hH.lv (by decide)) (TX3_wordPart_1.at 36 rfl) c3_214 rfl rfl hH hA (by omega) (Nat.le_of_ble_eq_true rfl) (fun f147 g147 j147 h q147 hH hA => ?_)
                  obtain ⟨q147, xf, xg, xj⟩ := q147
                  rw [xj] at hH
                  have hfE := hfE.trans xf (by decide)
                  have hgE := hgE.trans xg (by decide)
                  have qL := q147
                  have hS := hS.p xf qL.1
                  have s1 := hS.1
                  have s2 := hS.2.1
                  have s3 := hS.2.2.1
                  have s4 := hS.2.2.2.1
                  have s5 := hS.2.2.2.2.1
                  have s8 := hS.2.2.2.2.2.2.2.1
                  have s9 := hS.2.2.2.2.2.2.2.2
                  refine z_ild_1 (TX3_wordPart_1.at 37 rfl) ?_
                  refine z_bipush (by decide) (TX3_wordPart_1.at 38 rfl) ?_
                  refine z_icmp_eq (tgt := 162) (TX3_wordPart_1.at 39 rfl) rfl (by omega) (by omega) (fun c64 => ?_) (fun c64 => ?_)
                  · skip
                    refine z_ald_0 (TX3_wordPart_2.at 3 rfl) ?_
                    refine zc_getO (m := 9) (s := 0) (k := 447) (hH.lv (by decide)) (TX3_wordPart_2.at 4 rfl) fl3_14 hH rfl rfl (by decide) (by decide) ?_
                    refine z_iconst (TX3_wordPart_2.at 5 rfl) ?_
                    refine zc_putZ (m := 13) (s := 2) (k := 418) (hH.lv (by decide)) (TX3_wordPart_2.at 6 rfl) fp3_241 hH hA rfl rfl (by decide) (by decide) (by first | omega | exact b2i_01 _) (fun h f167 e1 e2 hH hA => ?_)
                    have hfE := hfE.put e1 (by decide)
                    refine zc_vret (TX3_wordPart_2.at 7 rfl) rfl hH hA ?_
                    exact ⟨by first | exact hS | exact hS.g e1 e2, hfE, hgE, rfl⟩
                  · skip
                    refine z_ild_1 (TX3_wordPart_2.at 0 rfl) ?_
                    refine z_bipush (by decide) (TX3_wordPart_2.at 1 rfl) ?_
                    refine z_icmp_ne (tgt := 170) (TX3_wordPart_2.at 2 rfl) rfl (by omega) (by omega) (fun c65 => ?_) (fun c65 => ?_)
                    · skip
                      refine zc_vret (TX3_wordPart_2.at 7 rfl) rfl hH hA ?_
                      exact ⟨by first | exact hS | exact hS.g e1 e2, hfE, hgE, rfl⟩
                    · skip
                      refine z_ald_0 (TX3_wordPart_2.at 3 rfl) ?_
                      refine zc_getO (m := 9) (s := 0) (k := 447) (hH.lv (by decide)) (TX3_wordPart_2.at 4 rfl) fl3_14 hH rfl rfl (by decide) (by decide) ?_
                      refine z_iconst (TX3_wordPart_2.at 5 rfl) ?_
                      refine zc_putZ (m := 13) (s := 2) (k := 418) (hH.lv (by decide)) (TX3_wordPart_2.at 6 rfl) fp3_241 hH hA rfl rfl (by decide) (by decide) (by first | omega | exact b2i_01 _) (fun h f167 e1 e2 hH hA => ?_)
                      have hfE := hfE.put e1 (by decide)
                      refine zc_vret (TX3_wordPart_2.at 7 rfl) rfl hH hA ?_
                      exact ⟨by first | exact hS | exact hS.g e1 e2, hfE, hgE, rfl⟩
                · skip
                  refine z_ald_0 (TX3_wordPart_1.at 19 rfl) ?_
                  refine zc_getO (m := 9) (s := 0) (k := 447) (hH.lv (by decide)) (TX3_wordPart_1.at 20 rfl) fl3_14 hH rfl rfl (by decide) (by decide) ?_
                  refine z_iconst (TX3_wordPart_1.at 21 rfl) ?_
                  refine z_bipush (by decide) (TX3_wordPart_1.at 22 rfl) ?_
                  refine z_ald_0 (TX3_wordPart_1.at 23 rfl) ?_
                  refine z_iconst (TX3_wordPart_1.at 24 rfl) ?_
                  refine z_bipush (by decide) (TX3_wordPart_1.at 25 rfl) ?_
                  refine zc_callI2 (m := 9) (c_small rfl rfl rfl rfl rfl rfl (by omega) (by omega) (by omega) (by omega) (by omega) (by omega) ) (hH.lv (by decide)) (TX3_wordPart_1.at 26 rfl) c3_203 rfl rfl hH hA (by omega) (Nat.le_of_ble_eq_true rfl) (fun x128 f128 g128 j128 h r128 q128 hH hA => ?_)
                  obtain ⟨q128, xf, xg, xj⟩ := q128
                  rw [xj] at hH
                  have hfE := hfE.trans xf (by decide)
                  have hgE := hgE.trans xg (by decide)
                  have qL := q128
                  have hS := hS.c xf qL.2.1 qL.2.2
                  have hr128 := small_in qL.1 (by decide)
                  have s1 := hS.1
                  have s2 := hS.2.1
                  have s3 := hS.2.2.1
                  have s4 := hS.2.2.2.1
                  have s5 := hS.2.2.2.2.1
                  have s8 := hS.2.2.2.2.2.2.2.1
                  have s9 := hS.2.2.2.2.2.2.2.2
                  refine z_iadd (TX3_wordPart_1.at 27 rfl) ?_
                  refine zc_callV2 (m := 13) (c_put rfl rfl (by omega) (by omega) (by omega) (by omega) (by omega) (by omega) (by omega) ) (hH.lv (by decide)) (TX3_wordPart_1.at 28 rfl) c3_214 rfl rfl hH hA (by omega) (Nat.le_of_ble_eq_true rfl) (fun f132 g132 j132 h q132 hH hA => ?_)
                  obtain ⟨q132, xf, xg, xj⟩ := q132
                  rw [xj] at hH
                  have hfE := hfE.trans xf (by decide)
                  have hgE := hgE.trans xg (by decide)
                  have qL := q132
                  have hS := hS.p xf qL.1
                  have s1 := hS.1
                  have s2 := hS.2.1
                  have s3 := hS.2.2.1
                  have s4 := hS.2.2.2.1
                  have s5 := hS.2.2.2.2.1
                  have s8 := hS.2.2.2.2.2.2.2.1
                  have s9 := hS.2.2.2.2.2.2.2.2
                  refine z_goto (tgt := 150) (TX3_wordPart_1.at 29 rfl) rfl ?_
                  refine z_ild_1 (TX3_wordPart_1.at 37 rfl) ?_
                  refine z_bipush (by decide) (TX3_wordPart_1.at 38 rfl) ?_
                  refine z_icmp_eq (tgt := 162) (TX3_wordPart_1.at 39 rfl) rfl (by omega) (by omega) (fun c66 => ?_) (fun c66 => ?_)
                  · skip
                    refine z_ald_0 (TX3_wordPart_2.at 3 rfl) ?_
                    refine zc_getO (m := 9) (s := 0) (k := 447) (hH.lv (by decide)) (TX3_wordPart_2.at 4 rfl) fl3_14 hH rfl rfl (by decide) (by decide) ?_
                    refine z_iconst (TX3_wordPart_2.at 5 rfl) ?_
                    refine zc_putZ (m := 13) (s := 2) (k := 418) (hH.lv (by decide)) (TX3_wordPart_2.at 6 rfl) fp3_241 hH hA rfl rfl (by decide) (by decide) (by first | omega | exact b2i_01 _) (fun h f167 e1 e2 hH hA => ?_)
                    have hfE := hfE.put e1 (by decide)
                    refine zc_vret (TX3_wordPart_2.at 7 rfl) rfl hH hA ?_
                    exact ⟨by first | exact hS | exact hS.g e1 e2, hfE, hgE, rfl⟩
                  · skip
                    refine z_ild_1 (TX3_wordPart_2.at 0 rfl) ?_
                    refine z_bipush (by decide) (TX3_wordPart_2.at 1 rfl) ?_
                    refine z_icmp_ne (tgt := 170) (TX3_wordPart_2.at 2 rfl) rfl (by omega) (by omega) (fun c67 => ?_) (fun c67 => ?_)
                    · skip
                      refine zc_vret (TX3_wordPart_2.at 7 rfl) rfl hH hA ?_
                      exact ⟨by first | exact hS | exact hS.g e1 e2, hfE, hgE, rfl⟩
                    · skip
                      refine z_ald_0 (TX3_wordPart_2.at 3 rfl) ?_
                      refine zc_getO (m := 9) (s := 0) (k := 447) (hH.lv (by decide)) (TX3_wordPart_2.at 4 rfl) fl3_14 hH rfl rfl (by decide) (by decide) ?_
                      refine z_iconst (TX3_wordPart_2.at 5 rfl) ?_
                      refine zc_putZ (m := 13) (s := 2) (k := 418) (hH.lv (by decide)) (TX3_wordPart_2.at 6 rfl) fp3_241 hH hA rfl rfl (by decide) (by decide) (by first | omega | exact b2i_01 _) (fun h f167 e1 e2 hH hA => ?_)
                      have hfE := hfE.put e1 (by decide)
                      refine zc_vret (TX3_wordPart_2.at 7 rfl) rfl hH hA ?_
                      exact ⟨by first | exact hS | exact hS.g e1 e2, hfE, hgE, rfl⟩
            · skip
              refine z_ald_0 (TX3_wordPart_1.at 2 rfl) ?_
              refine zc_getO (m := 9) (s := 0) (k := 447) (hH.lv (by decide)) (TX3_wordPart_1.at 3 rfl) fl3_14 hH rfl rfl (by decide) (by decide) ?_
              refine z_iconst (TX3_wordPart_1.at 4 rfl) ?_
              refine z_bipush (by decide) (TX3_wordPart_1.at 5 rfl) ?_
              refine z_ald_0 (TX3_wordPart_1.at 6 rfl) ?_
              refine z_iconst (TX3_wordPart_1.at 7 rfl) ?_
              refine z_bipush (by decide) (TX3_wordPart_1.at 8 rfl) ?_
              refine zc_callI2 (m := 9) (c_small rfl rfl rfl rfl rfl rfl (by omega) (by omega) (by omega) (by omega) (by omega) (by omega) ) (hH.lv (by decide)) (TX3_wordPart_1.at 9 rfl) c3_203 rfl rfl hH hA (by omega) (Nat.le_of_ble_eq_true rfl) (fun x94 f94 g94 j94 h r94 q94 hH hA => ?_)
              obtain ⟨q94, xf, xg, xj⟩ := q94
              rw [xj] at hH
              have hfE := hfE.trans xf (by decide)
              have hgE := hgE.trans xg (by decide)
              have qL := q94
              have hS := hS.c xf qL.2.1 qL.2.2
              have hr94 := small_in qL.1 (by decide)
              have s1 := hS.1
              have s2 := hS.2.1
              have s3 := hS.2.2.1
              have s4 := hS.2.2.2.1
              have s5 := hS.2.2.2.2.1
              have s8 := hS.2.2.2.2.2.2.2.1
              have s9 := hS.2.2.2.2.2.2.2.2
              refine z_iadd (TX3_wordPart_1.at 10 rfl) ?_
              refine zc_callV2 (m := 13) (c_put rfl rfl (by omega) (by omega) (by omega) (by omega) (by omega) (by omega) (by omega) ) (hH.lv (by decide)) (TX3_wordPart_1.at 11 rfl) c3_214 rfl rfl hH hA (by omega) (Nat.le_of_ble_eq_true rfl) (fun f98 g98 j98 h q98 hH hA => ?_)
              obtain ⟨q98, xf, xg, xj⟩ := q98
              rw [xj] at hH
              have hfE := hfE.trans xf (by decide)
              have hgE := hgE.trans xg (by decide)
              have qL := q98
              have hS := hS.p xf qL.1
              have s1 := hS.1
              have s2 := hS.2.1
              have s3 := hS.2.2.1
              have s4 := hS.2.2.2.1
              have s5 := hS.2.2.2.2.1
              have s8 := hS.2.2.2.2.2.2.2.1
              have s9 := hS.2.2.2.2.2.2.2.2
              refine z_goto (tgt := 150) (TX3_wordPart_1.at 12 rfl) rfl ?_
              refine z_ild_1 (TX3_wordPart_1.at 37 rfl) ?_
              refine z_bipush (by decide) (TX3_wordPart_1.at 38 rfl) ?_
              refine z_icmp_eq (tgt := 162) (TX3_wordPart_1.at 39 rfl) rfl (by omega) (by omega) (fun c68 => ?_) (fun c68 => ?_)
              · skip
                refine z_ald_0 (TX3_wordPart_2.at 3 rfl) ?_
                refine zc_getO (m := 9) (s := 0) (k := 447) (hH.lv (by decide)) (TX3_wordPart_2.at 4 rfl) fl3_14 hH rfl rfl (by decide) (by decide) ?_
                refine z_iconst (TX3_wordPart_2.at 5 rfl) ?_
                refine zc_putZ (m := 13) (s := 2) (k := 418) (hH.lv (by decide)) (TX3_wordPart_2.at 6 rfl) fp3_241 hH hA rfl rfl (by decide) (by decide) (by first | omega | exact b2i_01 _) (fun h f167 e1 e2 hH hA => ?_)
                have hfE := hfE.put e1 (by decide)
                refine zc_vret (TX3_wordPart_2.at 7 rfl) rfl hH hA ?_
                exact ⟨by first | exact hS | exact hS.g e1 e2, hfE, hgE, rfl⟩
              · skip
                refine z_ild_1 (TX3_wordPart_2.at 0 rfl) ?_
                refine z_bipush (by decide) (TX3_wordPart_2.at 1 rfl) ?_
                refine z_icmp_ne (tgt := 170) (TX3_wordPart_2.at 2 rfl) rfl (by omega) (by omega) (fun c69 => ?_) (fun c69 => ?_)
                · skip
                  refine zc_vret (TX3_wordPart_2.at 7 rfl) rfl hH hA ?_
                  exact ⟨by first | exact hS | exact hS.g e1 e2, hfE, hgE, rfl⟩
                · skip
                  refine z_ald_0 (TX3_wordPart_2.at 3 rfl) ?_
                  refine zc_getO (m := 9) (s := 0) (k := 447) (hH.lv (by decide)) (TX3_wordPart_2.at 4 rfl) fl3_14 hH rfl rfl (by decide) (by decide) ?_
                  refine z_iconst (TX3_wordPart_2.at 5 rfl) ?_
                  refine zc_putZ (m := 13) (s := 2) (k := 418) (hH.lv (by decide)) (TX3_wordPart_2.at 6 rfl) fp3_241 hH hA rfl rfl (by decide) (by decide) (by first | omega | exact b2i_01 _) (fun h f167 e1 e2 hH hA => ?_)
                  have hfE := hfE.put e1 (by decide)
                  refine zc_vret (TX3_wordPart_2.at 7 rfl) rfl hH hA ?_
                  exact ⟨by first | exact hS | exact hS.g e1 e2, hfE, hgE, rfl⟩
        · skip
          refine z_ald_0 (TX3_wordPart_0.at 31 rfl) ?_
          refine zc_callV0 (m := 9) (c_fail rfl rfl rfl (by omega) (by omega)) (hH.lv (by decide)) (TX3_wordPart_0.at 32 rfl) c3_54 rfl rfl hH hA (by omega) (Nat.le_of_ble_eq_true rfl) (fun f62 g62 j62 h q62 hH hA => ?_)
          obtain ⟨q62, xf, xg, xj⟩ := q62
          rw [xj] at hH
          have hfE := hfE.trans xf (by decide)
          have hgE := hgE.trans xg (by decide)
          have qL := q62
          have hS := hS.a xf qL
          have s1 := hS.1
          have s2 := hS.2.1
          have s3 := hS.2.2.1
          have s4 := hS.2.2.2.1
          have s5 := hS.2.2.2.2.1
          have s8 := hS.2.2.2.2.2.2.2.1
          have s9 := hS.2.2.2.2.2.2.2.2
          refine zc_vret (TX3_wordPart_0.at 33 rfl) rfl hH hA ?_
          exact ⟨by first | exact hS | exact hS.g e1 e2, hfE, hgE, rfl⟩
    · skip
      refine z_ild_1 (TX3_wordPart_0.at 18 rfl) ?_
      refine z_bipush (by decide) (TX3_wordPart_0.at 19 rfl) ?_
      refine z_icmp_lt (tgt := 61) (TX3_wordPart_0.at 20 rfl) rfl (by omega) (by omega) (fun c70 => ?_) (fun c70 => ?_)
      · skip
        refine z_ald_0 (TX3_wordPart_0.at 31 rfl) ?_
        refine zc_callV0 (m := 9) (c_fail rfl rfl rfl (by omega) (by omega)) (hH.lv (by decide)) (TX3_wordPart_0.at 32 rfl) c3_54 rfl rfl hH hA (by omega) (Nat.le_of_ble_eq_true rfl) (fun f62 g62 j62 h q62 hH hA => ?_)
        obtain ⟨q62, xf, xg, xj⟩ := q62
        rw [xj] at hH
        have hfE := hfE.trans xf (by decide)
        have hgE := hgE.trans xg (by decide)
        have qL := q62
        have hS := hS.a xf qL
        have s1 := hS.1
        have s2 := hS.2.1
        have s3 := hS.2.2.1
        have s4 := hS.2.2.2.1
        have s5 := hS.2.2.2.2.1
        have s8 := hS.2.2.2.2.2.2.2.1
        have s9 := hS.2.2.2.2.2.2.2.2
        refine zc_vret (TX3_wordPart_0.at 33 rfl) rfl hH hA ?_
        exact ⟨by first | exact hS | exact hS.g e1 e2, hfE, hgE, rfl⟩
      · skip
        refine z_ild_1 (TX3_wordPart_0.at 21 rfl) ?_
        refine z_bipush (by decide) (TX3_wordPart_0.at 22 rfl) ?_
        refine z_icmp_le (tgt := 66) (TX3_wordPart_0.at 23 rfl) rfl (by omega) (by omega) (fun c71 => ?_) (fun c71 => ?_)
        · skip
          refine z_ald_0 (TX3_wordPart_0.at 34 rfl) ?_
          refine zc_callV0 (m := 9) (c_goOn rfl rfl (by omega) (by omega) (by omega) (by omega) ) (hH.lv (by decide)) (TX3_wordPart_0.at 35 rfl) c3_179 rfl rfl hH hA (by omega) (Nat.le_of_ble_eq_true rfl) (fun f67 g67 j67 h q67 hH hA => ?_)
          obtain ⟨q67, xf, xg, xj⟩ := q67
          rw [xj] at hH
          have hfE := hfE.trans xf (by decide)
          have hgE := hgE.trans xg (by decide)
          have qL := q67
          have hS := hS.b xf qL
          have s1 := hS.1
          have s2 := hS.2.1
          have s3 := hS.2.2.1
          have s4 := hS.2.2.2.1
          have s5 := hS.2.2.2.2.1
          have s8 := hS.2.2.2.2.2.2.2.1
          have s9 := hS.2.2.2.2.2.2.2.2
          refine z_ald_0 (TX3_wordPart_0.at 36 rfl) ?_
          refine zc_getI (m := 9) (s := 8) (k := 296) (hH.lv (by decide)) (TX3_wordPart_0.at 37 rfl) fl3_43 hH rfl rfl (by decide) (by decide) (fun r71 => ?_)
          refine z_if_ne (tgt := 104) (TX3_wordPart_0.at 38 rfl) rfl (by omega) (fun c72 => ?_) (fun c72 => ?_)
          · skip
            refine z_ald_0 (TX3_wordPart_1.at 13 rfl) ?_
            refine zc_getI (m := 9) (s := 8) (k := 296) (hH.lv (by decide)) (TX3_wordPart_1.at 14 rfl) fl3_43 hH rfl rfl (by decide) (by decide) (fun r105 => ?_)
            refine z_if_ne (tgt := 138) (TX3_wordPart_1.at 15 rfl) rfl (by omega) (fun c73 => ?_) (fun c73 => ?_)
            · skip
              refine z_ald_0 (TX3_wordPart_1.at 30 rfl) ?_
              refine zc_getO (m := 9) (s := 0) (k := 447) (hH.lv (by decide)) (TX3_wordPart_1.at 31 rfl) fl3_14 hH rfl rfl (by decide) (by decide) ?_
              refine z_iconst (TX3_wordPart_1.at 32 rfl) ?_
              refine z_ild_1 (TX3_wordPart_1.at 33 rfl) ?_
              refine z_bipush (by decide) (TX3_wordPart_1.at 34 rfl) ?_
              refine z_isub (TX3_wordPart_1.at 35 rfl) ?_
              refine zc_callV2 (m := 13) (c_put rfl rfl (by omega) (by omega) (by omega) (by omega) (by omega) (by omega) (by omega) ) (hH.lv (by decide)) (TX3_wordPart_1.at 36 rfl) c3_214 rfl rfl hH hA (by omega) (Nat.le_of_ble_eq_true rfl) (fun f147 g147 j147 h q147 hH hA => ?_)
              obtain ⟨q147, xf, xg, xj⟩ := q147
              rw [xj] at hH
              have hfE := hfE.trans xf (by decide)
              have hgE := hgE.trans xg (by decide)
              have qL := q147
              have hS := hS.p xf qL.1
              have s1 := hS.1
              have s2 := hS.2.1
              have s3 := hS.2.2.1
              have s4 := hS.2.2.2.1
              have s5 := hS.2.2.2.2.1
              have s8 := hS.2.2.2.2.2.2.2.1
              have s9 := hS.2.2.2.2.2.2.2.2
              refine z_ild_1 (TX3_wordPart_1.at 37 rfl) ?_
              refine z_bipush (by decide) (TX3_wordPart_1.at 38 rfl) ?_
              refine z_icmp_eq (tgt := 162) (TX3_wordPart_1.at 39 rfl) rfl (by omega) (by omega) (fun c74 => ?_) (fun c74 => ?_)
              · skip
                refine z_ald_0 (TX3_wordPart_2.at 3 rfl) ?_
                refine zc_getO (m := 9) (s := 0) (k := 447) (hH.lv (by decide)) (TX3_wordPart_2.at 4 rfl) fl3_14 hH rfl rfl (by decide) (by decide) ?_
                refine z_iconst (TX3_wordPart_2.at 5 rfl) ?_
                refine zc_putZ (m := 13) (s := 2) (k := 418) (hH.lv (by decide)) (TX3_wordPart_2.at 6 rfl) fp3_241 hH hA rfl rfl (by decide) (by decide) (by first | omega | exact b2i_01 _) (fun h f167 e1 e2 hH hA => ?_)
                have hfE := hfE.put e1 (by decide)
                refine zc_vret (TX3_wordPart_2.at 7 rfl) rfl hH hA ?_
                exact ⟨by first | exact hS | exact hS.g e1 e2, hfE, hgE, rfl⟩
              · skip
                refine z_ild_1 (TX3_wordPart_2.at 0 rfl) ?_
                refine z_bipush (by decide) (TX3_wordPart_2.at 1 rfl) ?_
                refine z_icmp_ne (tgt := 170) (TX3_wordPart_2.at 2 rfl) rfl (by omega) (by omega) (fun c75 => ?_) (fun c75 => ?_)
                · skip
                  refine zc_vret (TX3_wordPart_2.at 7 rfl) rfl hH hA ?_
                  exact ⟨by first | exact hS | exact hS.g e1 e2, hfE, hgE, rfl⟩
                · skip
                  refine z_ald_0 (TX3_wordPart_2.at 3 rfl) ?_
                  refine zc_getO (m := 9) (s := 0) (k := 447) (hH.lv (by decide)) (TX3_wordPart_2.at 4 rfl) fl3_14 hH rfl rfl (by decide) (by decide) ?_
                  refine z_iconst (TX3_wordPart_2.at 5 rfl) ?_
                  refine zc_putZ (m := 13) (s := 2) (k := 418) (hH.lv (by decide)) (TX3_wordPart_2.at 6 rfl) fp3_241 hH hA rfl rfl (by decide) (by decide) (by first | omega | exact b2i_01 _) (fun h f167 e1 e2 hH hA => ?_)
                  have hfE := hfE.put e1 (by decide)
                  refine zc_vret (TX3_wordPart_2.at 7 rfl) rfl hH hA ?_
                  exact ⟨by first | exact hS | exact hS.g e1 e2, hfE, hgE, rfl⟩
            · skip
              refine z_ild_1 (TX3_wordPart_1.at 16 rfl) ?_
              refine z_bipush (by decide) (TX3_wordPart_1.at 17 rfl) ?_
              refine z_icmp_ne (tgt := 138) (TX3_wordPart_1.at 18 rfl) rfl (by omega) (by omega) (fun c76 => ?_) (fun c76 => ?_)
              · skip
                refine z_ald_0 (TX3_wordPart_1.at 30 rfl) ?_
                refine zc_getO (m := 9) (s := 0) (k := 447) (hH.lv (by decide)) (TX3_wordPart_1.at 31 rfl) fl3_14 hH rfl rfl (by decide) (by decide) ?_
                refine z_iconst (TX3_wordPart_1.at 32 rfl) ?_
                refine z_ild_1 (TX3_wordPart_1.at 33 rfl) ?_
                refine z_bipush (by decide) (TX3_wordPart_1.at 34 rfl) ?_
                refine z_isub (TX3_wordPart_1.at 35 rfl) ?_
                refine zc_callV2 (m := 13) (c_put rfl rfl (by omega) (by omega) (by omega) (by omega) (by omega) (by omega) (by omega) ) (hH.lv (by decide)) (TX3_wordPart_1.at 36 rfl) c3_214 rfl rfl hH hA (by omega) (Nat.le_of_ble_eq_true rfl) (fun f147 g147 j147 h q147 hH hA => ?_)
                obtain ⟨q147, xf, xg, xj⟩ := q147
                rw [xj] at hH
                have hfE := hfE.trans xf (by decide)
                have hgE := hgE.trans xg (by decide)
                have qL := q147
                have hS := hS.p xf qL.1
                have s1 := hS.1
                have s2 := hS.2.1
                have s3 := hS.2.2.1
                have s4 := hS.2.2.2.1
                have s5 := hS.2.2.2.2.1
                have s8 := hS.2.2.2.2.2.2.2.1
                have s9 := hS.2.2.2.2.2.2.2.2
                refine z_ild_1 (TX3_wordPart_1.at 37 rfl) ?_
                refine z_bipush (by decide) (TX3_wordPart_1.at 38 rfl) ?_
                refine z_icmp_eq (tgt := 162) (TX3_wordPart_1.at 39 rfl) rfl (by omega) (by omega) (fun c77 => ?_) (fun c77 => ?_)
                · skip
                  refine z_ald_0 (TX3_wordPart_2.at 3 rfl) ?_
                  refine zc_getO (m := 9) (s := 0) (k := 447) (hH.lv (by decide)) (TX3_wordPart_2.at 4 rfl) fl3_14 hH rfl rfl (by decide) (by decide) ?_
                  refine z_iconst (TX3_wordPart_2.at 5 rfl) ?_
                  refine zc_putZ (m := 13) (s := 2) (k := 418) (hH.lv (by decide)) (TX3_wordPart_2.at 6 rfl) fp3_241 hH hA rfl rfl (by decide) (by decide) (by first | omega | exact b2i_01 _) (fun h f167 e1 e2 hH hA => ?_)
                  have hfE := hfE.put e1 (by decide)
                  refine zc_vret (TX3_wordPart_2.at 7 rfl) rfl hH hA ?_
                  exact ⟨by first | exact hS | exact hS.g e1 e2, hfE, hgE, rfl⟩
                · skip
                  refine z_ild_1 (TX3_wordPart_2.at 0 rfl) ?_
                  refine z_bipush (by decide) (TX3_wordPart_2.at 1 rfl) ?_
                  refine z_icmp_ne (tgt := 170) (TX3_wordPart_2.at 2 rfl) rfl (by omega) (by omega) (fun c78 => ?_) (fun c78 => ?_)
                  · skip
                    refine zc_vret (TX3_wordPart_2.at 7 rfl) rfl hH hA ?_
                    exact ⟨by first | exact hS | exact hS.g e1 e2, hfE, hgE, rfl⟩
                  · skip
                    refine z_ald_0 (TX3_wordPart_2.at 3 rfl) ?_
                    refine zc_getO (m := 9) (s := 0) (k := 447) (hH.lv (by decide)) (TX3_wordPart_2.at 4 rfl) fl3_14 hH rfl rfl (by decide) (by decide) ?_
                    refine z_iconst (TX3_wordPart_2.at 5 rfl) ?_
                    refine zc_putZ (m := 13) (s := 2) (k := 418) (hH.lv (by decide)) (TX3_wordPart_2.at 6 rfl) fp3_241 hH hA rfl rfl (by decide) (by decide) (by first | omega | exact b2i_01 _) (fun h f167 e1 e2 hH hA => ?_)
                    have hfE := hfE.put e1 (by decide)
                    refine zc_vret (TX3_wordPart_2.at 7 rfl) rfl hH hA ?_
                    exact ⟨by first | exact hS | exact hS.g e1 e2, hfE, hgE, rfl⟩
              · skip
                refine z_ald_0 (TX3_wordPart_1.at 19 rfl) ?_
                refine zc_getO (m := 9) (s := 0) (k := 447) (hH.lv (by decide)) (TX3_wordPart_1.at 20 rfl) fl3_14 hH rfl rfl (by decide) (by decide) ?_
                refine z_iconst (TX3_wordPart_1.at 21 rfl) ?_
                refine z_bipush (by decide) (TX3_wordPart_1.at 22 rfl) ?_
                refine z_ald_0 (TX3_wordPart_1.at 23 rfl) ?_
                refine z_iconst (TX3_wordPart_1.at 24 rfl) ?_
                refine z_bipush (by decide) (TX3_wordPart_1.at 25 rfl) ?_
                refine zc_callI2 (m := 9) (c_small rfl rfl rfl rfl rfl rfl (by omega) (by omega) (by omega) (by omega) (by omega) (by omega) ) (hH.lv (by decide)) (TX3_wordPart_1.at 26 rfl) c3_203 rfl rfl hH hA (by omega) (Nat.le_of_ble_eq_true rfl) (fun x128 f128 g128 j128 h r128 q128 hH hA => ?_)
                obtain ⟨q128, xf, xg, xj⟩ := q128
                rw [xj] at hH
                have hfE := hfE.trans xf (by decide)
                have hgE := hgE.trans xg (by decide)
                have qL := q128
                have hS := hS.c xf qL.2.1 qL.2.2
                have hr128 := small_in qL.1 (by decide)
                have s1 := hS.1
                have s2 := hS.2.1
                have s3 := hS.2.2.1
                have s4 := hS.2.2.2.1
                have s5 := hS.2.2.2.2.1
                have s8 := hS.2.2.2.2.2.2.2.1
                have s9 := hS.2.2.2.2.2.2.2.2
                refine z_iadd (TX3_wordPart_1.at 27 rfl) ?_
                refine zc_callV2 (m := 13) (c_put rfl rfl (by omega) (by omega) (by omega) (by omega) (by omega) (by omega) (by omega) ) (hH.lv (by decide)) (TX3_wordPart_1.at 28 rfl) c3_214 rfl rfl hH hA (by omega) (Nat.le_of_ble_eq_true rfl) (fun f132 g132 j132 h q132 hH hA => ?_)
                obtain ⟨q132, xf, xg, xj⟩ := q132
                rw [xj] at hH
                have hfE := hfE.trans xf (by decide)
                have hgE := hgE.trans xg (by decide)
                have qL := q132
                have hS := hS.p xf qL.1
                have s1 := hS.1
                have s2 := hS.2.1
                have s3 := hS.2.2.1
                have s4 := hS.2.2.2.1
                have s5 := hS.2.2.2.2.1
                have s8 := hS.2.2.2.2.2.2.2.1
                have s9 := hS.2.2.2.2.2.2.2.2
                refine z_goto (tgt := 150) (TX3_wordPart_1.at 29 rfl) rfl ?_
                refine z_ild_1 (TX3_wordPart_1.at 37 rfl) ?_
                refine z_bipush (by decide) (TX3_wordPart_1.at 38 rfl) ?_
                refine z_icmp_eq (tgt := 162) (TX3_wordPart_1.at 39 rfl) rfl (by omega) (by omega) (fun c79 => ?_) (fun c79 => ?_)
                · skip
                  refine z_ald_0 (TX3_wordPart_2.at 3 rfl) ?_
                  refine zc_getO (m := 9) (s := 0) (k := 447) (hH.lv (by decide)) (TX3_wordPart_2.at 4 rfl) fl3_14 hH rfl rfl (by decide) (by decide) ?_
                  refine z_iconst (TX3_wordPart_2.at 5 rfl) ?_
                  refine zc_putZ (m := 13) (s := 2) (k := 418) (hH.lv (by decide)) (TX3_wordPart_2.at 6 rfl) fp3_241 hH hA rfl rfl (by decide) (by decide) (by first | omega | exact b2i_01 _) (fun h f167 e1 e2 hH hA => ?_)
                  have hfE := hfE.put e1 (by decide)
                  refine zc_vret (TX3_wordPart_2.at 7 rfl) rfl hH hA ?_
                  exact ⟨by first | exact hS | exact hS.g e1 e2, hfE, hgE, rfl⟩
                · skip
                  refine z_ild_1 (TX3_wordPart_2.at 0 rfl) ?_
                  refine z_bipush (by decide) (TX3_wordPart_2.at 1 rfl) ?_
                  refine z_icmp_ne (tgt := 170) (TX3_wordPart_2.at 2 rfl) rfl (by omega) (by omega) (fun c80 => ?_) (fun c80 => ?_)
                  · skip
                    refine zc_vret (TX3_wordPart_2.at 7 rfl) rfl hH hA ?_
                    exact ⟨by first | exact hS | exact hS.g e1 e2, hfE, hgE, rfl⟩
                  · skip
                    refine z_ald_0 (TX3_wordPart_2.at 3 rfl) ?_
                    refine zc_getO (m := 9) (s := 0) (k := 447) (hH.lv (by decide)) (TX3_wordPart_2.at 4 rfl) fl3_14 hH rfl rfl (by decide) (by decide) ?_
                    refine z_iconst (TX3_wordPart_2.at 5 rfl) ?_
                    refine zc_putZ (m := 13) (s := 2) (k := 418) (hH.lv (by decide)) (TX3_wordPart_2.at 6 rfl) fp3_241 hH hA rfl rfl (by decide) (by decide) (by first | omega | exact b2i_01 _) (fun h f167 e1 e2 hH hA => ?_)
                    have hfE := hfE.put e1 (by decide)
                    refine zc_vret (TX3_wordPart_2.at 7 rfl) rfl hH hA ?_
                    exact ⟨by first | exact hS | exact hS.g e1 e2, hfE, hgE, rfl⟩
          · skip
            refine z_ild_1 (TX3_wordPart_0.at 39 rfl) ?_
            refine z_bipush (by decide) (TX3_wordPart_1.at 0 rfl) ?_
            refine z_icmp_ne (tgt := 104) (TX3_wordPart_1.at 1 rfl) rfl (by omega) (by omega) (fun c81 => ?_) (fun c81 => ?_)
            · skip
              refine z_ald_0 (TX3_wordPart_1.at 13 rfl) ?_
              refine zc_getI (m := 9) (s := 8) (k := 296) (hH.lv (by decide)) (TX3_wordPart_1.at 14 rfl) fl3_43 hH rfl rfl (by decide) (by decide) (fun r105 => ?_)
              refine z_if_ne (tgt := 138) (TX3_wordPart_1.at 15 rfl) rfl (by omega) (fun c82 => ?_) (fun c82 => ?_)
              · skip
                refine z_ald_0 (TX3_wordPart_1.at 30 rfl) ?_
                refine zc_getO (m := 9) (s := 0) (k := 447) (hH.lv (by decide)) (TX3_wordPart_1.at 31 rfl) fl3_14 hH rfl rfl (by decide) (by decide) ?_
                refine z_iconst (TX3_wordPart_1.at 32 rfl) ?_
                refine z_ild_1 (TX3_wordPart_1.at 33 rfl) ?_
                refine z_bipush (by decide) (TX3_wordPart_1.at 34 rfl) ?_
                refine z_isub (TX3_wordPart_1.at 35 rfl) ?_
                refine zc_callV2 (m := 13) (c_put rfl rfl (by omega) (by omega) (by omega) (by omega) (by omega) (by omega) (by omega) ) (hH.lv (by decide)) (TX3_wordPart_1.at 36 rfl) c3_214 rfl rfl hH hA (by omega) (Nat.le_of_ble_eq_true rfl) (fun f147 g147 j147 h q147 hH hA => ?_)
                obtain ⟨q147, xf, xg, xj⟩ := q147
                rw [xj] at hH
                have hfE := hfE.trans xf (by decide)
                have hgE := hgE.trans xg (by decide)
                have qL := q147
                have hS := hS.p xf qL.1
                have s1 := hS.1
                have s2 := hS.2.1
                have s3 := hS.2.2.1
                have s4 := hS.2.2.2.1
                have s5 := hS.2.2.2.2.1
                have s8 := hS.2.2.2.2.2.2.2.1
                have s9 := hS.2.2.2.2.2.2.2.2
                refine z_ild_1 (TX3_wordPart_1.at 37 rfl) ?_
                refine z_bipush (by decide) (TX3_wordPart_1.at 38 rfl) ?_
                refine z_icmp_eq (tgt := 162) (TX3_wordPart_1.at 39 rfl) rfl (by omega) (by omega) (fun c83 => ?_) (fun c83 => ?_)
                · skip
                  refine z_ald_0 (TX3_wordPart_2.at 3 rfl) ?_
                  refine zc_getO (m := 9) (s := 0) (k := 447) (hH.lv (by decide)) (TX3_wordPart_2.at 4 rfl) fl3_14 hH rfl rfl (by decide) (by decide) ?_
                  refine z_iconst (TX3_wordPart_2.at 5 rfl) ?_
                  refine zc_putZ (m := 13) (s := 2) (k := 418) (hH.lv (by decide)) (TX3_wordPart_2.at 6 rfl) fp3_241 hH hA rfl rfl (by decide) (by decide) (by first | omega | exact b2i_01 _) (fun h f167 e1 e2 hH hA => ?_)
                  have hfE := hfE.put e1 (by decide)
                  refine zc_vret (TX3_wordPart_2.at 7 rfl) rfl hH hA ?_
                  exact ⟨by first | exact hS | exact hS.g e1 e2, hfE, hgE, rfl⟩
                · skip
                  refine z_ild_1 (TX3_wordPart_2.at 0 rfl) ?_
                  refine z_bipush (by decide) (TX3_wordPart_2.at 1 rfl) ?_
                  refine z_icmp_ne (tgt := 170) (TX3_wordPart_2.at 2 rfl) rfl (by omega) (by omega) (fun c84 => ?_) (fun c84 => ?_)
                  · skip
                    refine zc_vret (TX3_wordPart_2.at 7 rfl) rfl hH hA ?_
                    exact ⟨by first | exact hS | exact hS.g e1 e2, hfE, hgE, rfl⟩
                  · skip
                    refine z_ald_0 (TX3_wordPart_2.at 3 rfl) ?_
                    refine zc_getO (m := 9) (s := 0) (k := 447) (hH.lv (by decide)) (TX3_wordPart_2.at 4 rfl) fl3_14 hH rfl rfl (by decide) (by decide) ?_
                    refine z_iconst (TX3_wordPart_2.at 5 rfl) ?_
                    refine zc_putZ (m := 13) (s := 2) (k := 418) (hH.lv (by decide)) (TX3_wordPart_2.at 6 rfl) fp3_241 hH hA rfl rfl (by decide) (by decide) (by first | omega | exact b2i_01 _) (fun h f167 e1 e2 hH hA => ?_)
                    have hfE := hfE.put e1 (by decide)
                    refine zc_vret (TX3_wordPart_2.at 7 rfl) rfl hH hA ?_
                    exact ⟨by first | exact hS | exact hS.g e1 e2, hfE, hgE, rfl⟩
              · skip
                refine z_ild_1 (TX3_wordPart_1.at 16 rfl) ?_
                refine z_bipush (by decide) (TX3_wordPart_1.at 17 rfl) ?_
                refine z_icmp_ne (tgt := 138) (TX3_wordPart_1.at 18 rfl) rfl (by omega) (by omega) (fun c85 => ?_) (fun c85 => ?_)
                · skip
                  refine z_ald_0 (TX3_wordPart_1.at 30 rfl) ?_
                  refine zc_getO (m := 9) (s := 0) (k := 447) (hH.lv (by decide)) (TX3_wordPart_1.at 31 rfl) fl3_14 hH rfl rfl (by decide) (by decide) ?_
                  refine z_iconst (TX3_wordPart_1.at 32 rfl) ?_
                  refine z_ild_1 (TX3_wordPart_1.at 33 rfl) ?_
                  refine z_bipush (by decide) (TX3_wordPart_1.at 34 rfl) ?_
                  refine z_isub (TX3_wordPart_1.at 35 rfl) ?_
                  refine zc_callV2 (m := 13) (c_put rfl rfl (by omega) (by omega) (by omega) (by omega) (by omega) (by omega) (by omega) ) (hH.lv (by decide)) (TX3_wordPart_1.at 36 rfl) c3_214 rfl rfl hH hA (by omega) (Nat.le_of_ble_eq_true rfl) (fun f147 g147 j147 h q147 hH hA => ?_)
                  obtain ⟨q147, xf, xg, xj⟩ := q147
                  rw [xj] at hH
                  have hfE := hfE.trans xf (by decide)
                  have hgE := hgE.trans xg (by decide)
                  have qL := q147
                  have hS := hS.p xf qL.1
                  have s1 := hS.1
                  have s2 := hS.2.1
                  have s3 := hS.2.2.1
                  have s4 := hS.2.2.2.1
                  have s5 := hS.2.2.2.2.1
                  have s8 := hS.2.2.2.2.2.2.2.1
                  have s9 := hS.2.2.2.2.2.2.2.2
                  refine z_ild_1 (TX3_wordPart_1.at 37 rfl) ?_
                  refine z_bipush (by decide) (TX3_wordPart_1.at 38 rfl) ?_
                  refine z_icmp_eq (tgt := 162) (TX3_wordPart_1.at 39 rfl) rfl (by omega) (by omega) (fun c86 => ?_) (fun c86 => ?_)
                  · skip
                    refine z_ald_0 (TX3_wordPart_2.at 3 rfl) ?_
                    refine zc_getO (m := 9) (s := 0) (k := 447) (hH.lv (by decide)) (TX3_wordPart_2.at 4 rfl) fl3_14 hH rfl rfl (by decide) (by decide) ?_
                    refine z_iconst (TX3_wordPart_2.at 5 rfl) ?_
                    refine zc_putZ (m := 13) (s := 2) (k := 418) (hH.lv (by decide)) (TX3_wordPart_2.at 6 rfl) fp3_241 hH hA rfl rfl (by decide) (by decide) (by first | omega | exact b2i_01 _) (fun h f167 e1 e2 hH hA => ?_)
                    have hfE := hfE.put e1 (by decide)
                    refine zc_vret (TX3_wordPart_2.at 7 rfl) rfl hH hA ?_
                    exact ⟨by first | exact hS | exact hS.g e1 e2, hfE, hgE, rfl⟩
                  · skip
                    refine z_ild_1 (TX3_wordPart_2.at 0 rfl) ?_
                    refine z_bipush (by decide) (TX3_wordPart_2.at 1 rfl) ?_
                    refine z_icmp_ne (tgt := 170) (TX3_wordPart_2.at 2 rfl) rfl (by omega) (by omega) (fun c87 => ?_) (fun c87 => ?_)
                    · skip
                      refine zc_vret (TX3_wordPart_2.at 7 rfl) rfl hH hA ?_
                      exact ⟨by first | exact hS | exact hS.g e1 e2, hfE, hgE, rfl⟩
                    · skip
                      refine z_ald_0 (TX3_wordPart_2.at 3 rfl) ?_
                      refine zc_getO (m := 9) (s := 0) (k := 447) (hH.lv (by decide)) (TX3_wordPart_2.at 4 rfl) fl3_14 hH rfl rfl (by decide) (by decide) ?_
                      refine z_iconst (TX3_wordPart_2.at 5 rfl) ?_
                      refine zc_putZ (m := 13) (s := 2) (k := 418) (hH.lv (by decide)) (TX3_wordPart_2.at 6 rfl) fp3_241 hH hA rfl rfl (by decide) (by decide) (by first | omega | exact b2i_01 _) (fun h f167 e1 e2 hH hA => ?_)
                      have hfE := hfE.put e1 (by decide)
                      refine zc_vret (TX3_wordPart_2.at 7 rfl) rfl hH hA ?_
                      exact ⟨by first | exact hS | exact hS.g e1 e2, hfE, hgE, rfl⟩
                · skip
                  refine z_ald_0 (TX3_wordPart_1.at 19 rfl) ?_
                  refine zc_getO (m := 9) (s := 0) (k := 447) (hH.lv (by decide)) (TX3_wordPart_1.at 20 rfl) fl3_14 hH rfl rfl (by decide) (by decide) ?_
                  refine z_iconst (TX3_wordPart_1.at 21 rfl) ?_
                  refine z_bipush (by decide) (TX3_wordPart_1.at 22 rfl) ?_
                  refine z_ald_0 (TX3_wordPart_1.at 23 rfl) ?_
                  refine z_iconst (TX3_wordPart_1.at 24 rfl) ?_
                  refine z_bipush (by decide) (TX3_wordPart_1.at 25 rfl) ?_
                  refine zc_callI2 (m := 9) (c_small rfl rfl rfl rfl rfl rfl (by omega) (by omega) (by omega) (by omega) (by omega) (by omega) ) (hH.lv (by decide)) (TX3_wordPart_1.at 26 rfl) c3_203 rfl rfl hH hA (by omega) (Nat.le_of_ble_eq_true rfl) (fun x128 f128 g128 j128 h r128 q128 hH hA => ?_)
                  obtain ⟨q128, xf, xg, xj⟩ := q128
                  rw [xj] at hH
                  have hfE := hfE.trans xf (by decide)
                  have hgE := hgE.trans xg (by decide)
                  have qL := q128
                  have hS := hS.c xf qL.2.1 qL.2.2
                  have hr128 := small_in qL.1 (by decide)
                  have s1 := hS.1
                  have s2 := hS.2.1
                  have s3 := hS.2.2.1
                  have s4 := hS.2.2.2.1
                  have s5 := hS.2.2.2.2.1
                  have s8 := hS.2.2.2.2.2.2.2.1
                  have s9 := hS.2.2.2.2.2.2.2.2
                  refine z_iadd (TX3_wordPart_1.at 27 rfl) ?_
                  refine zc_callV2 (m := 13) (c_put rfl rfl (by omega) (by omega) (by omega) (by omega) (by omega) (by omega) (by omega) ) (hH.lv (by decide)) (TX3_wordPart_1.at 28 rfl) c3_214 rfl rfl hH hA (by omega) (Nat.le_of_ble_eq_true rfl) (fun f132 g132 j132 h q132 hH hA => ?_)
                  obtain ⟨q132, xf, xg, xj⟩ := q132
                  rw [xj] at hH
                  have hfE := hfE.trans xf (by decide)
                  have hgE := hgE.trans xg (by decide)
                  have qL := q132
                  have hS := hS.p xf qL.1
                  have s1 := hS.1
                  have s2 := hS.2.1
                  have s3 := hS.2.2.1
                  have s4 := hS.2.2.2.1
                  have s5 := hS.2.2.2.2.1
                  have s8 := hS.2.2.2.2.2.2.2.1
                  have s9 := hS.2.2.2.2.2.2.2.2
                  refine z_goto (tgt := 150) (TX3_wordPart_1.at 29 rfl) rfl ?_
                  refine z_ild_1 (TX3_wordPart_1.at 37 rfl) ?_
                  refine z_bipush (by decide) (TX3_wordPart_1.at 38 rfl) ?_
                  refine z_icmp_eq (tgt := 162) (TX3_wordPart_1.at 39 rfl) rfl (by omega) (by omega) (fun c88 => ?_) (fun c88 => ?_)
                  · skip
                    refine z_ald_0 (TX3_wordPart_2.at 3 rfl) ?_
                    refine zc_getO (m := 9) (s := 0) (k := 447) (hH.lv (by decide)) (TX3_wordPart_2.at 4 rfl) fl3_14 hH rfl rfl (by decide) (by decide) ?_
                    refine z_iconst (TX3_wordPart_2.at 5 rfl) ?_
                    refine zc_putZ (m := 13) (s := 2) (k := 418) (hH.lv (by decide)) (TX3_wordPart_2.at 6 rfl) fp3_241 hH hA rfl rfl (by decide) (by decide) (by first | omega | exact b2i_01 _) (fun h f167 e1 e2 hH hA => ?_)
                    have hfE := hfE.put e1 (by decide)
                    refine zc_vret (TX3_wordPart_2.at 7 rfl) rfl hH hA ?_
                    exact ⟨by first | exact hS | exact hS.g e1 e2, hfE, hgE, rfl⟩
                  · skip
                    refine z_ild_1 (TX3_wordPart_2.at 0 rfl) ?_
                    refine z_bipush (by decide) (TX3_wordPart_2.at 1 rfl) ?_
                    refine z_icmp_ne (tgt := 170) (TX3_wordPart_2.at 2 rfl) rfl (by omega) (by omega) (fun c89 => ?_) (fun c89 => ?_)
                    · skip
                      refine zc_vret (TX3_wordPart_2.at 7 rfl) rfl hH hA ?_
                      exact ⟨by first | exact hS | exact hS.g e1 e2, hfE, hgE, rfl⟩
                    · skip
                      refine z_ald_0 (TX3_wordPart_2.at 3 rfl) ?_
                      refine zc_getO (m := 9) (s := 0) (k := 447) (hH.lv (by decide)) (TX3_wordPart_2.at 4 rfl) fl3_14 hH rfl rfl (by decide) (by decide) ?_
                      refine z_iconst (TX3_wordPart_2.at 5 rfl) ?_
                      refine zc_putZ (m := 13) (s := 2) (k := 418) (hH.lv (by decide)) (TX3_wordPart_2.at 6 rfl) fp3_241 hH hA rfl rfl (by decide) (by decide) (by first | omega | exact b2i_01 _) (fun h f167 e1 e2 hH hA => ?_)
                      have hfE := hfE.put e1 (by decide)
                      refine zc_vret (TX3_wordPart_2.at 7 rfl) rfl hH hA ?_
                      exact ⟨by first | exact hS | exact hS.g e1 e2, hfE, hgE, rfl⟩
            · skip
              refine z_ald_0 (TX3_wordPart_1.at 2 rfl) ?_
              refine zc_getO (m := 9) (s := 0) (k := 447) (hH.lv (by decide)) (TX3_wordPart_1.at 3 rfl) fl3_14 hH rfl rfl (by decide) (by decide) ?_
              refine z_iconst (TX3_wordPart_1.at 4 rfl) ?_
              refine z_bipush (by decide) (TX3_wordPart_1.at 5 rfl) ?_
              refine z_ald_0 (TX3_wordPart_1.at 6 rfl) ?_
              refine z_iconst (TX3_wordPart_1.at 7 rfl) ?_
              refine z_bipush (by decide) (TX3_wordPart_1.at 8 rfl) ?_
              refine zc_callI2 (m := 9) (c_small rfl rfl rfl rfl rfl rfl (by omega) (by omega) (by omega) (by omega) (by omega) (by omega) ) (hH.lv (by decide)) (TX3_wordPart_1.at 9 rfl) c3_203 rfl rfl hH hA (by omega) (Nat.le_of_ble_eq_true rfl) (fun x94 f94 g94 j94 h r94 q94 hH hA => ?_)
              obtain ⟨q94, xf, xg, xj⟩ := q94
              rw [xj] at hH
              have hfE := hfE.trans xf (by decide)
              have hgE := hgE.trans xg (by decide)
              have qL := q94
              have hS := hS.c xf qL.2.1 qL.2.2
              have hr94 := small_in qL.1 (by decide)
              have s1 := hS.1
              have s2 := hS.2.1
              have s3 := hS.2.2.1
              have s4 := hS.2.2.2.1
              have s5 := hS.2.2.2.2.1
              have s8 := hS.2.2.2.2.2.2.2.1
              have s9 := hS.2.2.2.2.2.2.2.2
              refine z_iadd (TX3_wordPart_1.at 10 rfl) ?_
              refine zc_callV2 (m := 13) (c_put rfl rfl (by omega) (by omega) (by omega) (by omega) (by omega) (by omega) (by omega) ) (hH.lv (by decide)) (TX3_wordPart_1.at 11 rfl) c3_214 rfl rfl hH hA (by omega) (Nat.le_of_ble_eq_true rfl) (fun f98 g98 j98 h q98 hH hA => ?_)
              obtain ⟨q98, xf, xg, xj⟩ := q98
              rw [xj] at hH
              have hfE := hfE.trans xf (by decide)
              have hgE := hgE.trans xg (by decide)
              have qL := q98
              have hS := hS.p xf qL.1
              have s1 := hS.1
              have s2 := hS.2.1
              have s3 := hS.2.2.1
              have s4 := hS.2.2.2.1
              have s5 := hS.2.2.2.2.1
              have s8 := hS.2.2.2.2.2.2.2.1
              have s9 := hS.2.2.2.2.2.2.2.2
              refine z_goto (tgt := 150) (TX3_wordPart_1.at 12 rfl) rfl ?_
              refine z_ild_1 (TX3_wordPart_1.at 37 rfl) ?_
              refine z_bipush (by decide) (TX3_wordPart_1.at 38 rfl) ?_
              refine z_icmp_eq (tgt := 162) (TX3_wordPart_1.at 39 rfl) rfl (by omega) (by omega) (fun c90 => ?_) (fun c90 => ?_)
              · skip
                refine z_ald_0 (TX3_wordPart_2.at 3 rfl) ?_
                refine zc_getO (m := 9) (s := 0) (k := 447) (hH.lv (by decide)) (TX3_wordPart_2.at 4 rfl) fl3_14 hH rfl rfl (by decide) (by decide) ?_
                refine z_iconst (TX3_wordPart_2.at 5 rfl) ?_
                refine zc_putZ (m := 13) (s := 2) (k := 418) (hH.lv (by decide)) (TX3_wordPart_2.at 6 rfl) fp3_241 hH hA rfl rfl (by decide) (by decide) (by first | omega | exact b2i_01 _) (fun h f167 e1 e2 hH hA => ?_)
                have hfE := hfE.put e1 (by decide)
                refine zc_vret (TX3_wordPart_2.at 7 rfl) rfl hH hA ?_
                exact ⟨by first | exact hS | exact hS.g e1 e2, hfE, hgE, rfl⟩
              · skip
                refine z_ild_1 (TX3_wordPart_2.at 0 rfl) ?_
                refine z_bipush (by decide) (TX3_wordPart_2.at 1 rfl) ?_
                refine z_icmp_ne (tgt := 170) (TX3_wordPart_2.at 2 rfl) rfl (by omega) (by omega) (fun c91 => ?_) (fun c91 => ?_)
                · skip
                  refine zc_vret (TX3_wordPart_2.at 7 rfl) rfl hH hA ?_
                  exact ⟨by first | exact hS | exact hS.g e1 e2, hfE, hgE, rfl⟩
                · skip
                  refine z_ald_0 (TX3_wordPart_2.at 3 rfl) ?_
                  refine zc_getO (m := 9) (s := 0) (k := 447) (hH.lv (by decide)) (TX3_wordPart_2.at 4 rfl) fl3_14 hH rfl rfl (by decide) (by decide) ?_
                  refine z_iconst (TX3_wordPart_2.at 5 rfl) ?_
                  refine zc_putZ (m := 13) (s := 2) (k := 418) (hH.lv (by decide)) (TX3_wordPart_2.at 6 rfl) fp3_241 hH hA rfl rfl (by decide) (by decide) (by first | omega | exact b2i_01 _) (fun h f167 e1 e2 hH hA => ?_)
                  have hfE := hfE.put e1 (by decide)
                  refine zc_vret (TX3_wordPart_2.at 7 rfl) rfl hH hA ?_
                  exact ⟨by first | exact hS | exact hS.g e1 e2, hfE, hgE, rfl⟩
        · skip
          refine z_goto (tgt := 61) (TX3_wordPart_0.at 24 rfl) rfl ?_
          refine z_ald_0 (TX3_wordPart_0.at 31 rfl) ?_
          refine zc_callV0 (m := 9) (c_fail rfl rfl rfl (by omega) (by omega)) (hH.lv (by decide)) (TX3_wordPart_0.at 32 rfl) c3_54 rfl rfl hH hA (by omega) (Nat.le_of_ble_eq_true rfl) (fun f62 g62 j62 h q62 hH hA => ?_)
          obtain ⟨q62, xf, xg, xj⟩ := q62
          rw [xj] at hH
          have hfE := hfE.trans xf (by decide)
          have hgE := hgE.trans xg (by decide)
          have qL := q62
          have hS := hS.a xf qL
          have s1 := hS.1
          have s2 := hS.2.1
          have s3 := hS.2.2.1
          have s4 := hS.2.2.2.1
          have s5 := hS.2.2.2.2.1
          have s8 := hS.2.2.2.2.2.2.2.1
          have s9 := hS.2.2.2.2.2.2.2.2
          refine zc_vret (TX3_wordPart_0.at 33 rfl) rfl hH hA ?_
          exact ⟨by first | exact hS | exact hS.g e1 e2, hfE, hgE, rfl⟩

set_option maxHeartbeats 4000000 in
set_option maxRecDepth 100000 in
theorem d_part {l : Launch} {E : cE} {f : mF} {g j : mA} {dp : Int} {tk fl ag : Int} {e : Nat}  (hdp : zIn dp) (hS : DdS tk fl ag f) (he : dp = 8 - (e : Int)) (e8 : e ≤ 8) (hsum : ∀ e2 : Nat, e = e2 + 1 → DdM l E MX3_sum (3 * e2 + 6) [vI (8 - (e2 : Int))] tk) : CM l E MX3_part (3 * e + 4) [.ref (E.1 319), vI dp] f g j (PV (fun f' g' j' => (DdS tk fl ag f') ∧ eqx [289, 294, 295, 417, 418] f f' ∧ eqx [424] g g' ∧ j' = j)) := by
  refine CM.intro [some (.ref (E.1 319)), some (vI dp)] (by decide) (Nat.le_of_ble_eq_true rfl) rfl (fun d hd h0 h hH hA => ?_)
  have hfE : eqx [289, 294, 295, 417, 418] f f := eqx.rf
  have hgE : eqx [424] g g := eqx.rf
  have s1 := hS.1
  have s2 := hS.2.1
  have s3 := hS.2.2.1
  have s4 := hS.2.2.2.1
  have s5 := hS.2.2.2.2.1
  have s8 := hS.2.2.2.2.2.2.2.1
  have s9 := hS.2.2.2.2.2.2.2.2
  refine z_ald_0 (TX3_part.at 0 rfl) ?_
  refine z_bipush (by decide) (TX3_part.at 1 rfl) ?_
  refine zc_callI1 (m := 9) (c_isSign rfl rfl rfl (by omega) (by omega) (by omega) ) (hH.lv (by decide)) (TX3_part.at 2 rfl) c3_175 rfl rfl hH hA (by omega) (Nat.le_of_ble_eq_true rfl) (fun x3 f3 g3 j3 h r3 q3 hH hA => ?_)
  obtain ⟨q3, xf, xg, xj⟩ := q3
  rw [xj] at hH
  have hfE := hfE.trans xf (by decide)
  have hgE := hgE.trans xg (by decide)
  have qL := q3
  have hS := hS.n xf
  have s1 := hS.1
  have s2 := hS.2.1
  have s3 := hS.2.2.1
  have s4 := hS.2.2.2.1
  have s5 := hS.2.2.2.2.1
  have s8 := hS.2.2.2.2.2.2.2.1
  have s9 := hS.2.2.2.2.2.2.2.2
  refine z_if_eq (tgt := 33) (TX3_part.at 3 rfl) rfl (by omega) (fun c1 => ?_) (fun c1 => ?_)
  · skip
    refine z_ald_0 (TX3_part.at 17 rfl) ?_
    refine zc_getI (m := 9) (s := 7) (k := 295) (hH.lv (by decide)) (TX3_part.at 18 rfl) fl3_40 hH rfl rfl (by decide) (by decide) (fun r34 => ?_)
    refine z_bipush (by decide) (TX3_part.at 19 rfl) ?_
    refine z_icmp_lt (tgt := 49) (TX3_part.at 20 rfl) rfl (by omega) (by omega) (fun c2 => ?_) (fun c2 => ?_)
    · skip
      refine z_ald_0 (TX3_part.at 24 rfl) ?_
      refine zc_getA (m := 9) (s := 2) (k := 290) (hH.lv (by decide)) (TX3_part.at 25 rfl) fl3_24 hH rfl rfl (by decide) (by decide) ?_
      refine z_ald_0 (TX3_part.at 26 rfl) ?_
      refine zc_getI (m := 9) (s := 6) (k := 294) (hH.lv (by decide)) (TX3_part.at 27 rfl) fl3_37 hH rfl rfl (by decide) (by decide) (fun r54 => ?_)
      refine zcf_iald (k := 290) (N := 401) (hH.lv (by decide)) (by decide) rfl rfl (TX3_part.at 28 rfl) hH (by decide) (by omega) (show _ < ((401 : Nat) : Int) by omega) (fun r57 => ?_)
      refine z_iconst (TX3_part.at 29 rfl) ?_
      refine z_icmp_ne (tgt := 91) (TX3_part.at 30 rfl) rfl (by omega) (by omega) (fun c3 => ?_) (fun c3 => ?_)
      · skip
        refine z_ald_0 (TX3_part.at 46 rfl) ?_
        refine z_dup rfl (TX3_part.at 47 rfl) ?_
        refine zc_getI (m := 9) (s := 7) (k := 295) (hH.lv (by decide)) (TX3_part.at 48 rfl) fl3_40 hH rfl rfl (by decide) (by decide) (fun r93 => ?_)
        refine z_iconst (TX3_part.at 49 rfl) ?_
        refine z_iadd (TX3_part.at 50 rfl) ?_
        refine zc_putI (m := 9) (s := 7) (k := 295) (hH.lv (by decide)) (TX3_part.at 51 rfl) fp3_40 hH hA rfl rfl (by decide) (by decide) (by first | omega | exact b2i_01 _) (fun h f98 e1 e2 hH hA => ?_)
        have hfE := hfE.put e1 (by decide)
        have hS := hS.q e1 e2 (by omega)
        have s1 := hS.1
        have s2 := hS.2.1
        have s3 := hS.2.2.1
        have s4 := hS.2.2.2.1
        have s5 := hS.2.2.2.2.1
        have s8 := hS.2.2.2.2.2.2.2.1
        have s9 := hS.2.2.2.2.2.2.2.2
        refine z_ald_0 (TX3_part.at 52 rfl) ?_
        refine zc_callV0 (m := 9) (d_word hS) (hH.lv (by decide)) (TX3_part.at 53 rfl) c3_238 rfl rfl hH hA (by omega) (Nat.le_of_ble_eq_true rfl) (fun f102 g102 j102 h q102 hH hA => ?_)
        obtain ⟨q102, xf, xg, xj⟩ := q102
        rw [xj] at hH
        have hfE := hfE.trans xf (by decide)
        have hgE := hgE.trans xg (by decide)
        have qL := q102
        have hS := qL
        have s1 := hS.1
        have s2 := hS.2.1
        have s3 := hS.2.2.1
        have s4 := hS.2.2.2.1
        have s5 := hS.2.2.2.2.1
        have s8 := hS.2.2.2.2.2.2.2.1
        have s9 := hS.2.2.2.2.2.2.2.2
        refine zc_vret (TX3_part.at 54 rfl) rfl hH hA ?_
        exact ⟨hS, hfE, hgE, rfl⟩
      · skip
        refine z_ald_0 (TX3_part.at 31 rfl) ?_
        refine z_dup rfl (TX3_part.at 32 rfl) ?_
        refine zc_getI (m := 9) (s := 7) (k := 295) (hH.lv (by decide)) (TX3_part.at 33 rfl) fl3_40 hH rfl rfl (by decide) (by decide) (fun r64 => ?_)
        refine z_iconst (TX3_part.at 34 rfl) ?_
        refine z_iadd (TX3_part.at 35 rfl) ?_
        refine zc_putI (m := 9) (s := 7) (k := 295) (hH.lv (by decide)) (TX3_part.at 36 rfl) fp3_40 hH hA rfl rfl (by decide) (by decide) (by first | omega | exact b2i_01 _) (fun h f69 e1 e2 hH hA => ?_)
        have hfE := hfE.put e1 (by decide)
        have hS := hS.q e1 e2 (by omega)
        have s1 := hS.1
        have s2 := hS.2.1
        have s3 := hS.2.2.1
        have s4 := hS.2.2.2.1
        have s5 := hS.2.2.2.2.1
        have s8 := hS.2.2.2.2.2.2.2.1
        have s9 := hS.2.2.2.2.2.2.2.2
        refine z_ald_0 (TX3_part.at 37 rfl) ?_
        refine zc_getO (m := 9) (s := 0) (k := 447) (hH.lv (by decide)) (TX3_part.at 38 rfl) fl3_14 hH rfl rfl (by decide) (by decide) ?_
        refine z_iconst (TX3_part.at 39 rfl) ?_
        refine z_ald_0 (TX3_part.at 40 rfl) ?_
        refine z_iconst (TX3_part.at 41 rfl) ?_
        refine z_sipush (by decide) (TX3_part.at 42 rfl) ?_
        refine zc_callI2 (m := 9) (c_small rfl rfl rfl rfl rfl rfl (by omega) (by omega) (by omega) (by omega) (by omega) (by omega) ) (hH.lv (by decide)) (TX3_part.at 43 rfl) c3_203 rfl rfl hH hA (by omega) (Nat.le_of_ble_eq_true rfl) (fun x82 f82 g82 j82 h r82 q82 hH hA => ?_)
        obtain ⟨q82, xf, xg, xj⟩ := q82
        rw [xj] at hH
        have hfE := hfE.trans xf (by decide)
        have hgE := hgE.trans xg (by decide)
        have qL := q82
        have hS := hS.c xf qL.2.1 qL.2.2
        have hr82 := small_in qL.1 (by decide)
        have s1 := hS.1
        have s2 := hS.2.1
        have s3 := hS.2.2.1
        have s4 := hS.2.2.2.1
        have s5 := hS.2.2.2.2.1
        have s8 := hS.2.2.2.2.2.2.2.1
        have s9 := hS.2.2.2.2.2.2.2.2
        refine zc_callV2 (m := 13) (c_put rfl rfl (by omega) (by omega) (by omega) (by omega) (by omega) (by omega) (by omega) ) (hH.lv (by decide)) (TX3_part.at 44 rfl) c3_214 rfl rfl hH hA (by omega) (Nat.le_of_ble_eq_true rfl) (fun f85 g85 j85 h q85 hH hA => ?_)
        obtain ⟨q85, xf, xg, xj⟩ := q85
        rw [xj] at hH
        have hfE := hfE.trans xf (by decide)
        have hgE := hgE.trans xg (by decide)
        have qL := q85
        have hS := hS.p xf qL.1
        have s1 := hS.1
        have s2 := hS.2.1
        have s3 := hS.2.2.1
        have s4 := hS.2.2.2.1
        have s5 := hS.2.2.2.2.1
        have s8 := hS.2.2.2.2.2.2.2.1
        have s9 := hS.2.2.2.2.2.2.2.2
        refine z_goto (tgt := 105) (TX3_part.at 45 rfl) rfl ?_
        refine zc_vret (TX3_part.at 54 rfl) rfl hH hA ?_
        exact ⟨hS, hfE, hgE, rfl⟩
    · skip
      refine z_ald_0 (TX3_part.at 21 rfl) ?_
      refine zc_callV0 (m := 9) (c_fail rfl rfl rfl (by omega) (by omega)) (hH.lv (by decide)) (TX3_part.at 22 rfl) c3_54 rfl rfl hH hA (by omega) (Nat.le_of_ble_eq_true rfl) (fun f43 g43 j43 h q43 hH hA => ?_)
      obtain ⟨q43, xf, xg, xj⟩ := q43
      rw [xj] at hH
      have hfE := hfE.trans xf (by decide)
      have hgE := hgE.trans xg (by decide)
      have qL := q43
      have hS := hS.a xf qL
      have s1 := hS.1
      have s2 := hS.2.1
      have s3 := hS.2.2.1
      have s4 := hS.2.2.2.1
      have s5 := hS.2.2.2.2.1
      have s8 := hS.2.2.2.2.2.2.2.1
      have s9 := hS.2.2.2.2.2.2.2.2
      refine z_goto (tgt := 105) (TX3_part.at 23 rfl) rfl ?_
      refine zc_vret (TX3_part.at 54 rfl) rfl hH hA ?_
      exact ⟨hS, hfE, hgE, rfl⟩
  · skip
    refine z_ald_0 (TX3_part.at 4 rfl) ?_
    refine z_ild_1 (TX3_part.at 5 rfl) ?_
    refine zc_callI1 (m := 9) (c_opened rfl rfl rfl rfl (by omega) (by omega) (by omega) (by omega) (by omega) ) (hH.lv (by decide)) (TX3_part.at 6 rfl) c3_229 rfl rfl hH hA (by omega) (Nat.le_of_ble_eq_true rfl) (fun x11 f11 g11 j11 h r11 q11 hH hA => ?_)
    obtain ⟨q11, xf, xg, xj⟩ := q11
    rw [xj] at hH
    have hfE := hfE.trans xf (by decide)
    have hgE := hgE.trans xg (by decide)
    have qL := q11
    have hS := hS.c xf qL.2.1 qL.2.2
    have qe := qL.1
    subst qe
    have s1 := hS.1
    have s2 := hS.2.1
    have s3 := hS.2.2.1
    have s4 := hS.2.2.2.1
    have s5 := hS.2.2.2.2.1
    have s8 := hS.2.2.2.2.2.2.2.1
    have s9 := hS.2.2.2.2.2.2.2.2
    refine z_if_eqB (tgt := 105) (TX3_part.at 7 rfl) rfl (fun c4 => ?_) (fun c4 => ?_)
    · skip
      refine zc_vret (TX3_part.at 54 rfl) rfl hH hA ?_
      exact ⟨hS, hfE, hgE, rfl⟩
    · skip
      refine z_ald_0 (TX3_part.at 8 rfl) ?_
      refine z_ild_1 (TX3_part.at 9 rfl) ?_
      refine z_iconst (TX3_part.at 10 rfl) ?_
      refine z_iadd (TX3_part.at 11 rfl) ?_
      obtain ⟨e2, rfl⟩ : ∃ e2, e = e2 + 1 := ⟨e - 1, by omega⟩
      rw [show dp + 1 = 8 - (e2 : Int) by omega]
      refine zc_callV1 (m := 9) (hsum e2 rfl _ _ _ _ _ hS) (hH.lv (by decide)) (TX3_part.at 12 rfl) c3_217 rfl rfl hH hA (by omega) (Nat.le_of_ble_eq_true rfl) (fun f21 g21 j21 h q21 hH hA => ?_)
      obtain ⟨q21, xf, xg, xj⟩ := q21
      rw [xj] at hH
      have hfE := hfE.trans xf (by decide)
      have hgE := hgE.trans xg (by decide)
      have qL := q21
      have hS := qL
      have s1 := hS.1
      have s2 := hS.2.1
      have s3 := hS.2.2.1
      have s4 := hS.2.2.2.1
      have s5 := hS.2.2.2.2.1
      have s8 := hS.2.2.2.2.2.2.2.1
      have s9 := hS.2.2.2.2.2.2.2.2
      refine z_ald_0 (TX3_part.at 13 rfl) ?_
      refine z_bipush (by decide) (TX3_part.at 14 rfl) ?_
      refine zc_callV1 (m := 9) (c_take rfl rfl rfl rfl rfl rfl (by omega) (by omega) (by omega) (by omega) (by omega) ) (hH.lv (by decide)) (TX3_part.at 15 rfl) c3_60 rfl rfl hH hA (by omega) (Nat.le_of_ble_eq_true rfl) (fun f27 g27 j27 h q27 hH hA => ?_)
      obtain ⟨q27, xf, xg, xj⟩ := q27
      rw [xj] at hH
      have hfE := hfE.trans xf (by decide)
      have hgE := hgE.trans xg (by decide)
      have qL := q27
      have hS := hS.c xf qL.1 qL.2
      have s1 := hS.1
      have s2 := hS.2.1
      have s3 := hS.2.2.1
      have s4 := hS.2.2.2.1
      have s5 := hS.2.2.2.2.1
      have s8 := hS.2.2.2.2.2.2.2.1
      have s9 := hS.2.2.2.2.2.2.2.2
      refine z_goto (tgt := 105) (TX3_part.at 16 rfl) rfl ?_
      refine zc_vret (TX3_part.at 54 rfl) rfl hH hA ?_
      exact ⟨hS, hfE, hgE, rfl⟩

set_option maxHeartbeats 4000000 in
set_option maxRecDepth 100000 in
theorem d_term {l : Launch} {E : cE} {f : mF} {g j : mA} {dp : Int} {tk fl ag : Int} {e : Nat}  (hdp : zIn dp) (hS : DdS tk fl ag f) (hcal : DdM l E MX3_part (3 * e + 4) [vI dp] tk) : CM l E MX3_term (3 * e + 5) [.ref (E.1 319), vI dp] f g j (PV (fun f' g' j' => (DdS tk fl ag f') ∧ eqx [289, 294, 295, 417, 418] f f' ∧ eqx [424] g g' ∧ j' = j)) := by
  refine CM.intro [some (.ref (E.1 319)), some (vI dp), none, none] (by decide) (Nat.le_of_ble_eq_true rfl) rfl (fun d hd h0 h hH hA => ?_)
  have hfE : eqx [289, 294, 295, 417, 418] f f := eqx.rf
  have hgE : eqx [424] g g := eqx.rf
  have s1 := hS.1
  have s2 := hS.2.1
  have s3 := hS.2.2.1
  have s4 := hS.2.2.2.1
  have s5 := hS.2.2.2.2.1
  have s8 := hS.2.2.2.2.2.2.2.1
  have s9 := hS.2.2.2.2.2.2.2.2
  refine z_ald_0 (TX3_term.at 0 rfl) ?_
  refine z_ild_1 (TX3_term.at 1 rfl) ?_
  refine zc_callV1 (m := 9) (hcal _ _ _ _ _ hS) (hH.lv (by decide)) (TX3_term.at 2 rfl) c3_235 rfl rfl hH hA (by omega) (Nat.le_of_ble_eq_true rfl) (fun f2 g2 j2 h q2 hH hA => ?_)
  obtain ⟨q2, xf, xg, xj⟩ := q2
  rw [xj] at hH
  have hfE := hfE.trans xf (by decide)
  have hgE := hgE.trans xg (by decide)
  have qL := q2
  have hS := qL
  have s1 := hS.1
  have s2 := hS.2.1
  have s3 := hS.2.2.1
  have s4 := hS.2.2.2.1
  have s5 := hS.2.2.2.2.1
  have s8 := hS.2.2.2.2.2.2.2.1
  have s9 := hS.2.2.2.2.2.2.2.2
  refine z_iconst (TX3_term.at 3 rfl) ?_
  refine z_ist_2 (TX3_term.at 4 rfl) (Nat.le_of_ble_eq_true rfl) rfl ?_
  refine z_ild_2 (TX3_term.at 5 rfl) ?_
  refine z_sipush (by decide) (TX3_term.at 6 rfl) ?_
  refine z_icmp_ge (tgt := 103) (TX3_term.at 7 rfl) rfl (by omega) (by omega) (fun c1 => absurd c1 (by decide)) (fun c1 => ?_)
  refine z_ald_0 (TX3_term.at 8 rfl) ?_
  refine zc_getI (m := 9) (s := 1) (k := 289) (hH.lv (by decide)) (TX3_term.at 9 rfl) fl3_20 hH rfl rfl (by decide) (by decide) (fun r15 => ?_)
  refine z_iconst (TX3_term.at 10 rfl) ?_
  refine z_icmp_ne (tgt := 103) (TX3_term.at 11 rfl) rfl (by omega) (by omega) (fun c2 => ?_) (fun c2 => absurd c2 (by omega))
  refine zc_vret (TX3_term.at 50 rfl) rfl hH hA ?_
  exact ⟨hS, hfE, hgE, rfl⟩

set_option maxHeartbeats 4000000 in
set_option maxRecDepth 100000 in
theorem d_sum {l : Launch} {E : cE} {f : mF} {g j : mA} {dp : Int} {tk fl ag : Int} {e : Nat}  (hdp : zIn dp) (hS : DdS tk fl ag f) (hcal : DdM l E MX3_term (3 * e + 5) [vI dp] tk) : CM l E MX3_sum (3 * e + 6) [.ref (E.1 319), vI dp] f g j (PV (fun f' g' j' => (DdS tk fl ag f') ∧ eqx [289, 294, 295, 417, 418] f f' ∧ eqx [424] g g' ∧ j' = j)) := by
  refine CM.intro [some (.ref (E.1 319)), some (vI dp), none, none] (by decide) (Nat.le_of_ble_eq_true rfl) rfl (fun d hd h0 h hH hA => ?_)
  have hfE : eqx [289, 294, 295, 417, 418] f f := eqx.rf
  have hgE : eqx [424] g g := eqx.rf
  have s1 := hS.1
  have s2 := hS.2.1
  have s3 := hS.2.2.1
  have s4 := hS.2.2.2.1
  have s5 := hS.2.2.2.2.1
  have s8 := hS.2.2.2.2.2.2.2.1
  have s9 := hS.2.2.2.2.2.2.2.2
  refine z_ald_0 (TX3_sum.at 0 rfl) ?_
  refine z_ild_1 (TX3_sum.at 1 rfl) ?_
  refine zc_callV1 (m := 9) (hcal _ _ _ _ _ hS) (hH.lv (by decide)) (TX3_sum.at 2 rfl) c3_232 rfl rfl hH hA (by omega) (Nat.le_of_ble_eq_true rfl) (fun f2 g2 j2 h q2 hH hA => ?_)
  obtain ⟨q2, xf, xg, xj⟩ := q2
  rw [xj] at hH
  have hfE := hfE.trans xf (by decide)
  have hgE := hgE.trans xg (by decide)
  have qL := q2
  have hS := qL
  have s1 := hS.1
  have s2 := hS.2.1
  have s3 := hS.2.2.1
  have s4 := hS.2.2.2.1
  have s5 := hS.2.2.2.2.1
  have s8 := hS.2.2.2.2.2.2.2.1
  have s9 := hS.2.2.2.2.2.2.2.2
  refine z_iconst (TX3_sum.at 3 rfl) ?_
  refine z_ist_2 (TX3_sum.at 4 rfl) (Nat.le_of_ble_eq_true rfl) rfl ?_
  refine z_ild_2 (TX3_sum.at 5 rfl) ?_
  refine z_sipush (by decide) (TX3_sum.at 6 rfl) ?_
  refine z_icmp_ge (tgt := 79) (TX3_sum.at 7 rfl) rfl (by omega) (by omega) (fun c1 => absurd c1 (by decide)) (fun c1 => ?_)
  refine z_ald_0 (TX3_sum.at 8 rfl) ?_
  refine zc_getI (m := 9) (s := 1) (k := 289) (hH.lv (by decide)) (TX3_sum.at 9 rfl) fl3_20 hH rfl rfl (by decide) (by decide) (fun r15 => ?_)
  refine z_iconst (TX3_sum.at 10 rfl) ?_
  refine z_icmp_ne (tgt := 79) (TX3_sum.at 11 rfl) rfl (by omega) (by omega) (fun c2 => ?_) (fun c2 => absurd c2 (by omega))
  refine zc_vret (TX3_sum.at 40 rfl) rfl hH hA ?_
  exact ⟨hS, hfE, hgE, rfl⟩

theorem dd_sum {l : Launch} {E : cE} {tk : Int} : ∀ e : Nat, e ≤ 8 → DdM l E MX3_sum (3 * e + 6) [vI (8 - (e : Int))] tk := by
  intro e
  induction e with
  | zero =>
    intro _
    exact fun fl ag f g j hS => d_sum (e := 0) (by omega) hS (fun fl ag f g j hS => d_term (e := 0) (by omega) hS (fun fl ag f g j hS => d_part (e := 0) (by omega) hS rfl (by omega) (fun e2 h => absurd h (by omega))))
  | succ e ih =>
    intro he
    exact fun fl ag f g j hS => d_sum (e := e + 1) (by omega) hS (fun fl ag f g j hS => d_term (e := e + 1) (by omega) hS (fun fl ag f g j hS => d_part (e := e + 1) (by omega) hS rfl he (fun e2 h => (show e = e2 by omega) ▸ ih (by omega))))
set_option maxHeartbeats 4000000 in
set_option maxRecDepth 100000 in
theorem dl_not {l : Launch} {E : cE} {d : Nat} {Pz : Option Value → zH → Prop} {h0 : zH} {f0 : mF} {g0 : mA} {j : mA} (hd : 1 ≤ d) {dp tk fl ag : Int} (kx : ∀ (b i : Int) (f : mF) (g : mA) (h : zH), (b = 0 ∨ b = 1) → DdS tk fl ag f → eqx [289, 294, 295, 417, 418] f0 f → eqx [424] g0 g → HC E f g j h → cAg E h0 h → Z l MX3_plain d 0 0 Pz 40 [some (.ref (E.1 319)), some (vI dp), some (vI b), some (vI i)] [] h 0 0)  : ∀ (n : Nat) (i : Int) (b : Int) (f : mF) (g : mA) (h : zH) (i0 : 0 ≤ i) (i1 : i ≤ 400) (i2 : 400 < i + n) (b01 : b = 0 ∨ b = 1) (hS : DdS tk fl ag f)  (hfE : eqx [289, 294, 295, 417, 418] f0 f) (hgE : eqx [424] g0 g) (hH : HC E f g j h) (hA : cAg E h0 h), Z l MX3_plain d 0 0 Pz 4 [some (.ref (E.1 319)), some (vI dp), some (vI b), some (vI i)] [] h 0 0 := by
  intro n
  induction n with
  | zero => intro i b f g h i0 i1 i2 b01 hS hfE hgE hH hA; exfalso; omega
  | succ n ih =>
    intro i b f g h i0 i1 i2 b01 hS hfE hgE hH hA
    have s1 := hS.1
    have s2 := hS.2.1
    have s3 := hS.2.2.1
    have s4 := hS.2.2.2.1
    have s5 := hS.2.2.2.2.1
    have s8 := hS.2.2.2.2.2.2.2.1
    have s9 := hS.2.2.2.2.2.2.2.2
    refine z_ild_3 (TX3_plain_0.at 4 rfl) ?_
    refine z_sipush (by decide) (TX3_plain_0.at 5 rfl) ?_
    refine z_icmp_ge (tgt := 40) (TX3_plain_0.at 6 rfl) rfl (by omega) (by omega) (fun c1 => ?_) (fun c1 => ?_)
    · skip
      exact kx _ _ _ _ _ b01 hS hfE hgE hH hA
    · skip
      refine z_ald_0 (TX3_plain_0.at 7 rfl) ?_
      refine z_bipush (by decide) (TX3_plain_0.at 8 rfl) ?_
      refine zc_callI1 (m := 9) (c_isWord rfl rfl rfl (by omega) (by omega) (by omega) ) (hH.lv (by decide)) (TX3_plain_0.at 9 rfl) c3_195 rfl rfl hH hA (by omega) (Nat.le_of_ble_eq_true rfl) (fun x14 f14 g14 j14 h r14 q14 hH hA => ?_)
      obtain ⟨q14, xf, xg, xj⟩ := q14
      rw [xj] at hH
      have hfE := hfE.trans xf (by decide)
      have hgE := hgE.trans xg (by decide)
      have qL := q14
      have hS := hS.n xf
      have s1 := hS.1
      have s2 := hS.2.1
      have s3 := hS.2.2.1
      have s4 := hS.2.2.2.1
      have s5 := hS.2.2.2.2.1
      have s8 := hS.2.2.2.2.2.2.2.1
      have s9 := hS.2.2.2.2.2.2.2.2
      refine z_if_eq (tgt := 40) (TX3_plain_0.at 10 rfl) rfl (by omega) (fun c2 => ?_) (fun c2 => ?_)
      · skip
        exact kx _ _ _ _ _ b01 hS hfE hgE hH hA
      · skip
        refine z_ild_2 (TX3_plain_0.at 11 rfl) ?_
        refine z_if_ne (tgt := 28) (TX3_plain_0.at 12 rfl) rfl (by omega) (fun c3 => ?_) (fun c3 => ?_)
        · skip
          refine z_iconst (TX3_plain_0.at 15 rfl) ?_
          refine z_ist_2 (TX3_plain_0.at 16 rfl) (Nat.le_of_ble_eq_true rfl) rfl ?_
          refine z_ald_0 (TX3_plain_0.at 17 rfl) ?_
          refine zc_callV0 (m := 9) (c_goOn rfl rfl (by omega) (by omega) (by omega) (by omega) ) (hH.lv (by decide)) (TX3_plain_0.at 18 rfl) c3_179 rfl rfl hH hA (by omega) (Nat.le_of_ble_eq_true rfl) (fun f31 g31 j31 h q31 hH hA => ?_)
          obtain ⟨q31, xf, xg, xj⟩ := q31
          rw [xj] at hH
          have hfE := hfE.trans xf (by decide)
          have hgE := hgE.trans xg (by decide)
          have qL := q31
          have hS := hS.b xf qL
          have s1 := hS.1
          have s2 := hS.2.1
          have s3 := hS.2.2.1
          have s4 := hS.2.2.2.1
          have s5 := hS.2.2.2.2.1
          have s8 := hS.2.2.2.2.2.2.2.1
          have s9 := hS.2.2.2.2.2.2.2.2
          refine z_iinc_3 (TX3_plain_0.at 19 rfl) (Nat.le_of_ble_eq_true rfl) rfl ?_
          refine z_goto (tgt := 4) (TX3_plain_0.at 20 rfl) rfl ?_
          exact ih (i + 1) _ _ _ _ (by omega) (by omega) (by omega) (by omega) hS  hfE hgE hH hA
        · skip
          refine z_iconst (TX3_plain_0.at 13 rfl) ?_
          refine z_goto (tgt := 29) (TX3_plain_0.at 14 rfl) rfl ?_
          refine z_ist_2 (TX3_plain_0.at 16 rfl) (Nat.le_of_ble_eq_true rfl) rfl ?_
          refine z_ald_0 (TX3_plain_0.at 17 rfl) ?_
          refine zc_callV0 (m := 9) (c_goOn rfl rfl (by omega) (by omega) (by omega) (by omega) ) (hH.lv (by decide)) (TX3_plain_0.at 18 rfl) c3_179 rfl rfl hH hA (by omega) (Nat.le_of_ble_eq_true rfl) (fun f31 g31 j31 h q31 hH hA => ?_)
          obtain ⟨q31, xf, xg, xj⟩ := q31
          rw [xj] at hH
          have hfE := hfE.trans xf (by decide)
          have hgE := hgE.trans xg (by decide)
          have qL := q31
          have hS := hS.b xf qL
          have s1 := hS.1
          have s2 := hS.2.1
          have s3 := hS.2.2.1
          have s4 := hS.2.2.2.1
          have s5 := hS.2.2.2.2.1
          have s8 := hS.2.2.2.2.2.2.2.1
          have s9 := hS.2.2.2.2.2.2.2.2
          refine z_iinc_3 (TX3_plain_0.at 19 rfl) (Nat.le_of_ble_eq_true rfl) rfl ?_
          refine z_goto (tgt := 4) (TX3_plain_0.at 20 rfl) rfl ?_
          exact ih (i + 1) _ _ _ _ (by omega) (by omega) (by omega) (by omega) hS  hfE hgE hH hA

set_option maxHeartbeats 4000000 in
set_option maxRecDepth 100000 in
theorem d_plain {l : Launch} {E : cE} {f : mF} {g j : mA} {dp : Int} {tk fl ag : Int} {e : Nat}  (hdp : zIn dp) (hS : DdS tk fl ag f) (he : dp = 8 - (e : Int)) (e8 : e ≤ 8) (hsum : DdM l E MX3_sum (3 * e + 6) [vI dp] tk) (htest : ∀ e2 : Nat, e = e2 + 1 → DdM l E MX3_test (3 * e2 + 9) [vI (8 - (e2 : Int))] tk) : CM l E MX3_plain (3 * e + 7) [.ref (E.1 319), vI dp] f g j (PV (fun f' g' j' => (DdS tk fl ag f') ∧ eqx [289, 294, 295, 417, 418] f f' ∧ eqx [424] g g' ∧ j' = j)) := by
  refine CM.intro [some (.ref (E.1 319)), some (vI dp), none, none] (by decide) (Nat.le_of_ble_eq_true rfl) rfl (fun d hd h0 h hH hA => ?_)
  have hfE : eqx [289, 294, 295, 417, 418] f f := eqx.rf
  have hgE : eqx [424] g g := eqx.rf
  have s1 := hS.1
  have s2 := hS.2.1
  have s3 := hS.2.2.1
  have s4 := hS.2.2.2.1
  have s5 := hS.2.2.2.2.1
  have s8 := hS.2.2.2.2.2.2.2.1
  have s9 := hS.2.2.2.2.2.2.2.2
  refine z_iconst (TX3_plain_0.at 0 rfl) ?_
  refine z_ist_2 (TX3_plain_0.at 1 rfl) (Nat.le_of_ble_eq_true rfl) rfl ?_
  refine z_iconst (TX3_plain_0.at 2 rfl) ?_
  refine z_ist_3 (TX3_plain_0.at 3 rfl) (Nat.le_of_ble_eq_true rfl) rfl ?_
  refine dl_not (dp := dp) (by omega) (fun b i f4 g4 h b01 hS xf xg hH hA => ?_) 401 0 0 _ _ _ (by omega) (by omega) (by omega) (Or.inl rfl) hS  eqx.rf eqx.rf hH hA
  have hfE := hfE.trans xf (by decide)
  have hgE := hgE.trans xg (by decide)
  have s1 := hS.1
  have s2 := hS.2.1
  have s3 := hS.2.2.1
  have s4 := hS.2.2.2.1
  have s5 := hS.2.2.2.2.1
  have s8 := hS.2.2.2.2.2.2.2.1
  have s9 := hS.2.2.2.2.2.2.2.2
  refine z_ald_0 (TX3_plain_0.at 21 rfl) ?_
  refine z_bipush (by decide) (TX3_plain_0.at 22 rfl) ?_
  refine zc_callI1 (m := 9) (c_isSign rfl rfl rfl (by omega) (by omega) (by omega) ) (hH.lv (by decide)) (TX3_plain_0.at 23 rfl) c3_175 rfl rfl hH hA (by omega) (Nat.le_of_ble_eq_true rfl) (fun x43 f43 g43 j43 h r43 q43 hH hA => ?_)
  obtain ⟨q43, xf, xg, xj⟩ := q43
  rw [xj] at hH
  have hfE := hfE.trans xf (by decide)
  have hgE := hgE.trans xg (by decide)
  have qL := q43
  have hS := hS.n xf
  have s1 := hS.1
  have s2 := hS.2.1
  have s3 := hS.2.2.1
  have s4 := hS.2.2.2.1
  have s5 := hS.2.2.2.2.1
  have s8 := hS.2.2.2.2.2.2.2.1
  have s9 := hS.2.2.2.2.2.2.2.2
  refine z_if_eq (tgt := 73) (TX3_plain_0.at 24 rfl) rfl (by omega) (fun c1 => ?_) (fun c1 => ?_)
  · skip
    refine z_ald_0 (TX3_plain_0.at 38 rfl) ?_
    refine z_ild_1 (TX3_plain_0.at 39 rfl) ?_
    refine zc_callV1 (m := 9) (hsum _ _ _ _ _ hS) (hH.lv (by decide)) (TX3_plain_1.at 0 rfl) c3_217 rfl rfl hH hA (by omega) (Nat.le_of_ble_eq_true rfl) (fun f75 g75 j75 h q75 hH hA => ?_)
    obtain ⟨q75, xf, xg, xj⟩ := q75
    rw [xj] at hH
    have hfE := hfE.trans xf (by decide)
    have hgE := hgE.trans xg (by decide)
    have qL := q75
    have hS := qL
    have s1 := hS.1
    have s2 := hS.2.1
    have s3 := hS.2.2.1
    have s4 := hS.2.2.2.1
    have s5 := hS.2.2.2.2.1
    have s8 := hS.2.2.2.2.2.2.2.1
    have s9 := hS.2.2.2.2.2.2.2.2
    refine z_ald_0 (TX3_plain_1.at 1 rfl) ?_
    refine z_bipush (by decide) (TX3_plain_1.at 2 rfl) ?_
    refine zc_callI1 (m := 9) (c_isSign rfl rfl rfl (by omega) (by omega) (by omega) ) (hH.lv (by decide)) (TX3_plain_1.at 3 rfl) c3_175 rfl rfl hH hA (by omega) (Nat.le_of_ble_eq_true rfl) (fun x81 f81 g81 j81 h r81 q81 hH hA => ?_)
    obtain ⟨q81, xf, xg, xj⟩ := q81
    rw [xj] at hH
    have hfE := hfE.trans xf (by decide)
    have hgE := hgE.trans xg (by decide)
    have qL := q81
    have hS := hS.n xf
    have s1 := hS.1
    have s2 := hS.2.1
    have s3 := hS.2.2.1
    have s4 := hS.2.2.2.1
    have s5 := hS.2.2.2.2.1
    have s8 := hS.2.2.2.2.2.2.2.1
    have s9 := hS.2.2.2.2.2.2.2.2
    refine z_if_eq (tgt := 92) (TX3_plain_1.at 4 rfl) rfl (by omega) (fun c2 => ?_) (fun c2 => ?_)
    · skip
      refine z_ald_0 (TX3_plain_1.at 7 rfl) ?_
      refine z_bipush (by decide) (TX3_plain_1.at 8 rfl) ?_
      refine zc_callI1 (m := 9) (c_isSign rfl rfl rfl (by omega) (by omega) (by omega) ) (hH.lv (by decide)) (TX3_plain_1.at 9 rfl) c3_175 rfl rfl hH hA (by omega) (Nat.le_of_ble_eq_true rfl) (fun x95 f95 g95 j95 h r95 q95 hH hA => ?_)
      obtain ⟨q95, xf, xg, xj⟩ := q95
      rw [xj] at hH
      have hfE := hfE.trans xf (by decide)
      have hgE := hgE.trans xg (by decide)
      have qL := q95
      have hS := hS.n xf
      have s1 := hS.1
      have s2 := hS.2.1
      have s3 := hS.2.2.1
      have s4 := hS.2.2.2.1
      have s5 := hS.2.2.2.2.1
      have s8 := hS.2.2.2.2.2.2.2.1
      have s9 := hS.2.2.2.2.2.2.2.2
      refine z_if_eq (tgt := 106) (TX3_plain_1.at 10 rfl) rfl (by omega) (fun c3 => ?_) (fun c3 => ?_)
      · skip
        refine z_bipush (by decide) (TX3_plain_1.at 13 rfl) ?_
        refine z_ist_3 (TX3_plain_1.at 14 rfl) (Nat.le_of_ble_eq_true rfl) rfl ?_
        refine z_ild_3 (TX3_plain_1.at 15 rfl) ?_
        refine z_bipush (by decide) (TX3_plain_1.at 16 rfl) ?_
        refine z_icmp_ne (tgt := 124) (TX3_plain_1.at 17 rfl) rfl (by omega) (by omega) (fun c4 => ?_) (fun c4 => ?_)
        · skip
          refine z_ald_0 (TX3_plain_1.at 22 rfl) ?_
          refine zc_callV0 (m := 9) (c_goOn rfl rfl (by omega) (by omega) (by omega) (by omega) ) (hH.lv (by decide)) (TX3_plain_1.at 23 rfl) c3_179 rfl rfl hH hA (by omega) (Nat.le_of_ble_eq_true rfl) (fun f125 g125 j125 h q125 hH hA => ?_)
          obtain ⟨q125, xf, xg, xj⟩ := q125
          rw [xj] at hH
          have hfE := hfE.trans xf (by decide)
          have hgE := hgE.trans xg (by decide)
          have qL := q125
          have hS := hS.b xf qL
          have s1 := hS.1
          have s2 := hS.2.1
          have s3 := hS.2.2.1
          have s4 := hS.2.2.2.1
          have s5 := hS.2.2.2.2.1
          have s8 := hS.2.2.2.2.2.2.2.1
          have s9 := hS.2.2.2.2.2.2.2.2
          refine z_ald_0 (TX3_plain_1.at 24 rfl) ?_
          refine zc_getI (m := 9) (s := 1) (k := 289) (hH.lv (by decide)) (TX3_plain_1.at 25 rfl) fl3_20 hH rfl rfl (by decide) (by decide) (fun r129 => ?_)
          refine z_iconst (TX3_plain_1.at 26 rfl) ?_
          refine z_icmp_ne (tgt := 150) (TX3_plain_1.at 27 rfl) rfl (by omega) (by omega) (fun c5 => ?_) (fun c5 => absurd c5 (by omega))
          refine z_ild_2 (TX3_plain_1.at 36 rfl) ?_
          refine z_if_eq (tgt := 164) (TX3_plain_1.at 37 rfl) rfl (by omega) (fun c6 => ?_) (fun c6 => ?_)
          · skip
            refine zc_vret (TX3_plain_2.at 3 rfl) rfl hH hA ?_
            exact ⟨hS, hfE, hgE, rfl⟩
          · skip
            refine z_ald_0 (TX3_plain_1.at 38 rfl) ?_
            refine zc_getO (m := 9) (s := 0) (k := 447) (hH.lv (by decide)) (TX3_plain_1.at 39 rfl) fl3_14 hH rfl rfl (by decide) (by decide) ?_
            refine z_bipush (by decide) (TX3_plain_2.at 0 rfl) ?_
            refine z_iconst (TX3_plain_2.at 1 rfl) ?_
            refine zc_callV2 (m := 13) (c_put rfl rfl (by omega) (by omega) (by omega) (by omega) (by omega) (by omega) (by omega) ) (hH.lv (by decide)) (TX3_plain_2.at 2 rfl) c3_214 rfl rfl hH hA (by omega) (Nat.le_of_ble_eq_true rfl) (fun f161 g161 j161 h q161 hH hA => ?_)
            obtain ⟨q161, xf, xg, xj⟩ := q161
            rw [xj] at hH
            have hfE := hfE.trans xf (by decide)
            have hgE := hgE.trans xg (by decide)
            have qL := q161
            have hS := hS.p xf qL.1
            have s1 := hS.1
            have s2 := hS.2.1
            have s3 := hS.2.2.1
            have s4 := hS.2.2.2.1
            have s5 := hS.2.2.2.2.1
            have s8 := hS.2.2.2.2.2.2.2.1
            have s9 := hS.2.2.2.2.2.2.2.2
            refine zc_vret (TX3_plain_2.at 3 rfl) rfl hH hA ?_
            exact ⟨hS, hfE, hgE, rfl⟩
        · skip
          refine z_ald_0 (TX3_plain_1.at 18 rfl) ?_
          refine z_bipush (by decide) (TX3_plain_1.at 19 rfl) ?_
          refine zc_callV1 (m := 9) (c_take rfl rfl rfl rfl rfl rfl (by omega) (by omega) (by omega) (by omega) (by omega) ) (hH.lv (by decide)) (TX3_plain_1.at 20 rfl) c3_60 rfl rfl hH hA (by omega) (Nat.le_of_ble_eq_true rfl) (fun f118 g118 j118 h q118 hH hA => ?_)
          obtain ⟨q118, xf, xg, xj⟩ := q118
          rw [xj] at hH
          have hfE := hfE.trans xf (by decide)
          have hgE := hgE.trans xg (by decide)
          have qL := q118
          have hS := hS.c xf qL.1 qL.2
          have s1 := hS.1
          have s2 := hS.2.1
          have s3 := hS.2.2.1
          have s4 := hS.2.2.2.1
          have s5 := hS.2.2.2.2.1
          have s8 := hS.2.2.2.2.2.2.2.1
          have s9 := hS.2.2.2.2.2.2.2.2
          refine z_goto (tgt := 128) (TX3_plain_1.at 21 rfl) rfl ?_
          refine z_ald_0 (TX3_plain_1.at 24 rfl) ?_
          refine zc_getI (m := 9) (s := 1) (k := 289) (hH.lv (by decide)) (TX3_plain_1.at 25 rfl) fl3_20 hH rfl rfl (by decide) (by decide) (fun r129 => ?_)
          refine z_iconst (TX3_plain_1.at 26 rfl) ?_
          refine z_icmp_ne (tgt := 150) (TX3_plain_1.at 27 rfl) rfl (by omega) (by omega) (fun c7 => ?_) (fun c7 => absurd c7 (by omega))
          refine z_ild_2 (TX3_plain_1.at 36 rfl) ?_
          refine z_if_eq (tgt := 164) (TX3_plain_1.at 37 rfl) rfl (by omega) (fun c8 => ?_) (fun c8 => ?_)
          · skip
            refine zc_vret (TX3_plain_2.at 3 rfl) rfl hH hA ?_
            exact ⟨hS, hfE, hgE, rfl⟩
          · skip
            refine z_ald_0 (TX3_plain_1.at 38 rfl) ?_
            refine zc_getO (m := 9) (s := 0) (k := 447) (hH.lv (by decide)) (TX3_plain_1.at 39 rfl) fl3_14 hH rfl rfl (by decide) (by decide) ?_
            refine z_bipush (by decide) (TX3_plain_2.at 0 rfl) ?_
            refine z_iconst (TX3_plain_2.at 1 rfl) ?_
            refine zc_callV2 (m := 13) (c_put rfl rfl (by omega) (by omega) (by omega) (by omega) (by omega) (by omega) (by omega) ) (hH.lv (by decide)) (TX3_plain_2.at 2 rfl) c3_214 rfl rfl hH hA (by omega) (Nat.le_of_ble_eq_true rfl) (fun f161 g161 j161 h q161 hH hA => ?_)
            obtain ⟨q161, xf, xg, xj⟩ := q161
            rw [xj] at hH
            have hfE := hfE.trans xf (by decide)
            have hgE := hgE.trans xg (by decide)
            have qL := q161
            have hS := hS.p xf qL.1
            have s1 := hS.1
            have s2 := hS.2.1
            have s3 := hS.2.2.1
            have s4 := hS.2.2.2.1
            have s5 := hS.2.2.2.2.1
            have s8 := hS.2.2.2.2.2.2.2.1
            have s9 := hS.2.2.2.2.2.2.2.2
            refine zc_vret (TX3_plain_2.at 3 rfl) rfl hH hA ?_
            exact ⟨hS, hfE, hgE, rfl⟩
      · skip
        refine z_bipush (by decide) (TX3_plain_1.at 11 rfl) ?_
        refine z_goto (tgt := 108) (TX3_plain_1.at 12 rfl) rfl ?_
        refine z_ist_3 (TX3_plain_1.at 14 rfl) (Nat.le_of_ble_eq_true rfl) rfl ?_
        refine z_ild_3 (TX3_plain_1.at 15 rfl) ?_
        refine z_bipush (by decide) (TX3_plain_1.at 16 rfl) ?_
        refine z_icmp_ne (tgt := 124) (TX3_plain_1.at 17 rfl) rfl (by omega) (by omega) (fun c9 => ?_) (fun c9 => ?_)
        · skip
          refine z_ald_0 (TX3_plain_1.at 22 rfl) ?_
          refine zc_callV0 (m := 9) (c_goOn rfl rfl (by omega) (by omega) (by omega) (by omega) ) (hH.lv (by decide)) (TX3_plain_1.at 23 rfl) c3_179 rfl rfl hH hA (by omega) (Nat.le_of_ble_eq_true rfl) (fun f125 g125 j125 h q125 hH hA => ?_)
          obtain ⟨q125, xf, xg, xj⟩ := q125
          rw [xj] at hH
          have hfE := hfE.trans xf (by decide)
          have hgE := hgE.trans xg (by decide)
          have qL := q125
          have hS := hS.b xf qL
          have s1 := hS.1
          have s2 := hS.2.1
          have s3 := hS.2.2.1
          have s4 := hS.2.2.2.1
          have s5 := hS.2.2.2.2.1
          have s8 := hS.2.2.2.2.2.2.2.1
          have s9 := hS.2.2.2.2.2.2.2.2
          refine z_ald_0 (TX3_plain_1.at 24 rfl) ?_
          refine zc_getI (m := 9) (s := 1) (k := 289) (hH.lv (by decide)) (TX3_plain_1.at 25 rfl) fl3_20 hH rfl rfl (by decide) (by decide) (fun r129 => ?_)
          refine z_iconst (TX3_plain_1.at 26 rfl) ?_
          refine z_icmp_ne (tgt := 150) (TX3_plain_1.at 27 rfl) rfl (by omega) (by omega) (fun c10 => ?_) (fun c10 => absurd c10 (by omega))
          refine z_ild_2 (TX3_plain_1.at 36 rfl) ?_
          refine z_if_eq (tgt := 164) (TX3_plain_1.at 37 rfl) rfl (by omega) (fun c11 => ?_) (fun c11 => ?_)
          · skip
            refine zc_vret (TX3_plain_2.at 3 rfl) rfl hH hA ?_
            exact ⟨hS, hfE, hgE, rfl⟩
          · skip
            refine z_ald_0 (TX3_plain_1.at 38 rfl) ?_
            refine zc_getO (m := 9) (s := 0) (k := 447) (hH.lv (by decide)) (TX3_plain_1.at 39 rfl) fl3_14 hH rfl rfl (by decide) (by decide) ?_
            refine z_bipush (by decide) (TX3_plain_2.at 0 rfl) ?_
            refine z_iconst (TX3_plain_2.at 1 rfl) ?_
            refine zc_callV2 (m := 13) (c_put rfl rfl (by omega) (by omega) (by omega) (by omega) (by omega) (by omega) (by omega) ) (hH.lv (by decide)) (TX3_plain_2.at 2 rfl) c3_214 rfl rfl hH hA (by omega) (Nat.le_of_ble_eq_true rfl) (fun f161 g161 j161 h q161 hH hA => ?_)
            obtain ⟨q161, xf, xg, xj⟩ := q161
            rw [xj] at hH
            have hfE := hfE.trans xf (by decide)
            have hgE := hgE.trans xg (by decide)
            have qL := q161
            have hS := hS.p xf qL.1
            have s1 := hS.1
            have s2 := hS.2.1
            have s3 := hS.2.2.1
            have s4 := hS.2.2.2.1
            have s5 := hS.2.2.2.2.1
            have s8 := hS.2.2.2.2.2.2.2.1
            have s9 := hS.2.2.2.2.2.2.2.2
            refine zc_vret (TX3_plain_2.at 3 rfl) rfl hH hA ?_
            exact ⟨hS, hfE, hgE, rfl⟩
        · skip
          refine z_ald_0 (TX3_plain_1.at 18 rfl) ?_
          refine z_bipush (by decide) (TX3_plain_1.at 19 rfl) ?_
          refine zc_callV1 (m := 9) (c_take rfl rfl rfl rfl rfl rfl (by omega) (by omega) (by omega) (by omega) (by omega) ) (hH.lv (by decide)) (TX3_plain_1.at 20 rfl) c3_60 rfl rfl hH hA (by omega) (Nat.le_of_ble_eq_true rfl) (fun f118 g118 j118 h q118 hH hA => ?_)
          obtain ⟨q118, xf, xg, xj⟩ := q118
          rw [xj] at hH
          have hfE := hfE.trans xf (by decide)
          have hgE := hgE.trans xg (by decide)
          have qL := q118
          have hS := hS.c xf qL.1 qL.2
          have s1 := hS.1
          have s2 := hS.2.1
          have s3 := hS.2.2.1
          have s4 := hS.2.2.2.1
          have s5 := hS.2.2.2.2.1
          have s8 := hS.2.2.2.2.2.2.2.1
          have s9 := hS.2.2.2.2.2.2.2.2
          refine z_goto (tgt := 128) (TX3_plain_1.at 21 rfl) rfl ?_
          refine z_ald_0 (TX3_plain_1.at 24 rfl) ?_
          refine zc_getI (m := 9) (s := 1) (k := 289) (hH.lv (by decide)) (TX3_plain_1.at 25 rfl) fl3_20 hH rfl rfl (by decide) (by decide) (fun r129 => ?_)
          refine z_iconst (TX3_plain_1.at 26 rfl) ?_
          refine z_icmp_ne (tgt := 150) (TX3_plain_1.at 27 rfl) rfl (by omega) (by omega) (fun c12 => ?_) (fun c12 => absurd c12 (by omega))
          refine z_ild_2 (TX3_plain_1.at 36 rfl) ?_
          refine z_if_eq (tgt := 164) (TX3_plain_1.at 37 rfl) rfl (by omega) (fun c13 => ?_) (fun c13 => ?_)
          · skip
            refine zc_vret (TX3_plain_2.at 3 rfl) rfl hH hA ?_
            exact ⟨hS, hfE, hgE, rfl⟩
          · skip
            refine z_ald_0 (TX3_plain_1.at 38 rfl) ?_
            refine zc_getO (m := 9) (s := 0) (k := 447) (hH.lv (by decide)) (TX3_plain_1.at 39 rfl) fl3_14 hH rfl rfl (by decide) (by decide) ?_
            refine z_bipush (by decide) (TX3_plain_2.at 0 rfl) ?_
            refine z_iconst (TX3_plain_2.at 1 rfl) ?_
            refine zc_callV2 (m := 13) (c_put rfl rfl (by omega) (by omega) (by omega) (by omega) (by omega) (by omega) (by omega) ) (hH.lv (by decide)) (TX3_plain_2.at 2 rfl) c3_214 rfl rfl hH hA (by omega) (Nat.le_of_ble_eq_true rfl) (fun f161 g161 j161 h q161 hH hA => ?_)
            obtain ⟨q161, xf, xg, xj⟩ := q161
            rw [xj] at hH
            have hfE := hfE.trans xf (by decide)
            have hgE := hgE.trans xg (by decide)
            have qL := q161
            have hS := hS.p xf qL.1
            have s1 := hS.1
            have s2 := hS.2.1
            have s3 := hS.2.2.1
            have s4 := hS.2.2.2.1
            have s5 := hS.2.2.2.2.1
            have s8 := hS.2.2.2.2.2.2.2.1
            have s9 := hS.2.2.2.2.2.2.2.2
            refine zc_vret (TX3_plain_2.at 3 rfl) rfl hH hA ?_
            exact ⟨hS, hfE, hgE, rfl⟩
    · skip
      refine z_bipush (by decide) (TX3_plain_1.at 5 rfl) ?_
      refine z_goto (tgt := 108) (TX3_plain_1.at 6 rfl) rfl ?_
      refine z_ist_3 (TX3_plain_1.at 14 rfl) (Nat.le_of_ble_eq_true rfl) rfl ?_
      refine z_ild_3 (TX3_plain_1.at 15 rfl) ?_
      refine z_bipush (by decide) (TX3_plain_1.at 16 rfl) ?_
      refine z_icmp_ne (tgt := 124) (TX3_plain_1.at 17 rfl) rfl (by omega) (by omega) (fun c14 => ?_) (fun c14 => ?_)
      · skip
        refine z_ald_0 (TX3_plain_1.at 22 rfl) ?_
        refine zc_callV0 (m := 9) (c_goOn rfl rfl (by omega) (by omega) (by omega) (by omega) ) (hH.lv (by decide)) (TX3_plain_1.at 23 rfl) c3_179 rfl rfl hH hA (by omega) (Nat.le_of_ble_eq_true rfl) (fun f125 g125 j125 h q125 hH hA => ?_)
        obtain ⟨q125, xf, xg, xj⟩ := q125
        rw [xj] at hH
        have hfE := hfE.trans xf (by decide)
        have hgE := hgE.trans xg (by decide)
        have qL := q125
        have hS := hS.b xf qL
        have s1 := hS.1
        have s2 := hS.2.1
        have s3 := hS.2.2.1
        have s4 := hS.2.2.2.1
        have s5 := hS.2.2.2.2.1
        have s8 := hS.2.2.2.2.2.2.2.1
        have s9 := hS.2.2.2.2.2.2.2.2
        refine z_ald_0 (TX3_plain_1.at 24 rfl) ?_
        refine zc_getI (m := 9) (s := 1) (k := 289) (hH.lv (by decide)) (TX3_plain_1.at 25 rfl) fl3_20 hH rfl rfl (by decide) (by decide) (fun r129 => ?_)
        refine z_iconst (TX3_plain_1.at 26 rfl) ?_
        refine z_icmp_ne (tgt := 150) (TX3_plain_1.at 27 rfl) rfl (by omega) (by omega) (fun c15 => ?_) (fun c15 => absurd c15 (by omega))
        refine z_ild_2 (TX3_plain_1.at 36 rfl) ?_
        refine z_if_eq (tgt := 164) (TX3_plain_1.at 37 rfl) rfl (by omega) (fun c16 => ?_) (fun c16 => ?_)
        · skip
          refine zc_vret (TX3_plain_2.at 3 rfl) rfl hH hA ?_
          exact ⟨hS, hfE, hgE, rfl⟩
        · skip
          refine z_ald_0 (TX3_plain_1.at 38 rfl) ?_
          refine zc_getO (m := 9) (s := 0) (k := 447) (hH.lv (by decide)) (TX3_plain_1.at 39 rfl) fl3_14 hH rfl rfl (by decide) (by decide) ?_
          refine z_bipush (by decide) (TX3_plain_2.at 0 rfl) ?_
          refine z_iconst (TX3_plain_2.at 1 rfl) ?_
          refine zc_callV2 (m := 13) (c_put rfl rfl (by omega) (by omega) (by omega) (by omega) (by omega) (by omega) (by omega) ) (hH.lv (by decide)) (TX3_plain_2.at 2 rfl) c3_214 rfl rfl hH hA (by omega) (Nat.le_of_ble_eq_true rfl) (fun f161 g161 j161 h q161 hH hA => ?_)
          obtain ⟨q161, xf, xg, xj⟩ := q161
          rw [xj] at hH
          have hfE := hfE.trans xf (by decide)
          have hgE := hgE.trans xg (by decide)
          have qL := q161
          have hS := hS.p xf qL.1
          have s1 := hS.1
          have s2 := hS.2.1
          have s3 := hS.2.2.1
          have s4 := hS.2.2.2.1
          have s5 := hS.2.2.2.2.1
          have s8 := hS.2.2.2.2.2.2.2.1
          have s9 := hS.2.2.2.2.2.2.2.2
          refine zc_vret (TX3_plain_2.at 3 rfl) rfl hH hA ?_
          exact ⟨hS, hfE, hgE, rfl⟩
      · skip
        refine z_ald_0 (TX3_plain_1.at 18 rfl) ?_
        refine z_bipush (by decide) (TX3_plain_1.at 19 rfl) ?_
        refine zc_callV1 (m := 9) (c_take rfl rfl rfl rfl rfl rfl (by omega) (by omega) (by omega) (by omega) (by omega) ) (hH.lv (by decide)) (TX3_plain_1.at 20 rfl) c3_60 rfl rfl hH hA (by omega) (Nat.le_of_ble_eq_true rfl) (fun f118 g118 j118 h q118 hH hA => ?_)
        obtain ⟨q118, xf, xg, xj⟩ := q118
        rw [xj] at hH
        have hfE := hfE.trans xf (by decide)
        have hgE := hgE.trans xg (by decide)
        have qL := q118
        have hS := hS.c xf qL.1 qL.2
        have s1 := hS.1
        have s2 := hS.2.1
        have s3 := hS.2.2.1
        have s4 := hS.2.2.2.1
        have s5 := hS.2.2.2.2.1
        have s8 := hS.2.2.2.2.2.2.2.1
        have s9 := hS.2.2.2.2.2.2.2.2
        refine z_goto (tgt := 128) (TX3_plain_1.at 21 rfl) rfl ?_
        refine z_ald_0 (TX3_plain_1.at 24 rfl) ?_
        refine zc_getI (m := 9) (s := 1) (k := 289) (hH.lv (by decide)) (TX3_plain_1.at 25 rfl) fl3_20 hH rfl rfl (by decide) (by decide) (fun r129 => ?_)
        refine z_iconst (TX3_plain_1.at 26 rfl) ?_
        refine z_icmp_ne (tgt := 150) (TX3_plain_1.at 27 rfl) rfl (by omega) (by omega) (fun c17 => ?_) (fun c17 => absurd c17 (by omega))
        refine z_ild_2 (TX3_plain_1.at 36 rfl) ?_
        refine z_if_eq (tgt := 164) (TX3_plain_1.at 37 rfl) rfl (by omega) (fun c18 => ?_) (fun c18 => ?_)
        · skip
          refine zc_vret (TX3_plain_2.at 3 rfl) rfl hH hA ?_
          exact ⟨hS, hfE, hgE, rfl⟩
        · skip
          refine z_ald_0 (TX3_plain_1.at 38 rfl) ?_
          refine zc_getO (m := 9) (s := 0) (k := 447) (hH.lv (by decide)) (TX3_plain_1.at 39 rfl) fl3_14 hH rfl rfl (by decide) (by decide) ?_
          refine z_bipush (by decide) (TX3_plain_2.at 0 rfl) ?_
          refine z_iconst (TX3_plain_2.at 1 rfl) ?_
          refine zc_callV2 (m := 13) (c_put rfl rfl (by omega) (by omega) (by omega) (by omega) (by omega) (by omega) (by omega) ) (hH.lv (by decide)) (TX3_plain_2.at 2 rfl) c3_214 rfl rfl hH hA (by omega) (Nat.le_of_ble_eq_true rfl) (fun f161 g161 j161 h q161 hH hA => ?_)
          obtain ⟨q161, xf, xg, xj⟩ := q161
          rw [xj] at hH
          have hfE := hfE.trans xf (by decide)
          have hgE := hgE.trans xg (by decide)
          have qL := q161
          have hS := hS.p xf qL.1
          have s1 := hS.1
          have s2 := hS.2.1
          have s3 := hS.2.2.1
          have s4 := hS.2.2.2.1
          have s5 := hS.2.2.2.2.1
          have s8 := hS.2.2.2.2.2.2.2.1
          have s9 := hS.2.2.2.2.2.2.2.2
          refine zc_vret (TX3_plain_2.at 3 rfl) rfl hH hA ?_
          exact ⟨hS, hfE, hgE, rfl⟩
  · skip
    refine z_ald_0 (TX3_plain_0.at 25 rfl) ?_
    refine z_ild_1 (TX3_plain_0.at 26 rfl) ?_
    refine zc_callI1 (m := 9) (c_opened rfl rfl rfl rfl (by omega) (by omega) (by omega) (by omega) (by omega) ) (hH.lv (by decide)) (TX3_plain_0.at 27 rfl) c3_229 rfl rfl hH hA (by omega) (Nat.le_of_ble_eq_true rfl) (fun x51 f51 g51 j51 h r51 q51 hH hA => ?_)
    obtain ⟨q51, xf, xg, xj⟩ := q51
    rw [xj] at hH
    have hfE := hfE.trans xf (by decide)
    have hgE := hgE.trans xg (by decide)
    have qL := q51
    have hS := hS.c xf qL.2.1 qL.2.2
    have qe := qL.1
    subst qe
    have s1 := hS.1
    have s2 := hS.2.1
    have s3 := hS.2.2.1
    have s4 := hS.2.2.2.1
    have s5 := hS.2.2.2.2.1
    have s8 := hS.2.2.2.2.2.2.2.1
    have s9 := hS.2.2.2.2.2.2.2.2
    refine z_if_eqB (tgt := 150) (TX3_plain_0.at 28 rfl) rfl (fun c19 => ?_) (fun c19 => ?_)
    · skip
      refine z_ild_2 (TX3_plain_1.at 36 rfl) ?_
      refine z_if_eq (tgt := 164) (TX3_plain_1.at 37 rfl) rfl (by omega) (fun c20 => ?_) (fun c20 => ?_)
      · skip
        refine zc_vret (TX3_plain_2.at 3 rfl) rfl hH hA ?_
        exact ⟨hS, hfE, hgE, rfl⟩
      · skip
        refine z_ald_0 (TX3_plain_1.at 38 rfl) ?_
        refine zc_getO (m := 9) (s := 0) (k := 447) (hH.lv (by decide)) (TX3_plain_1.at 39 rfl) fl3_14 hH rfl rfl (by decide) (by decide) ?_
        refine z_bipush (by decide) (TX3_plain_2.at 0 rfl) ?_
        refine z_iconst (TX3_plain_2.at 1 rfl) ?_
        refine zc_callV2 (m := 13) (c_put rfl rfl (by omega) (by omega) (by omega) (by omega) (by omega) (by omega) (by omega) ) (hH.lv (by decide)) (TX3_plain_2.at 2 rfl) c3_214 rfl rfl hH hA (by omega) (Nat.le_of_ble_eq_true rfl) (fun f161 g161 j161 h q161 hH hA => ?_)
        obtain ⟨q161, xf, xg, xj⟩ := q161
        rw [xj] at hH
        have hfE := hfE.trans xf (by decide)
        have hgE := hgE.trans xg (by decide)
        have qL := q161
        have hS := hS.p xf qL.1
        have s1 := hS.1
        have s2 := hS.2.1
        have s3 := hS.2.2.1
        have s4 := hS.2.2.2.1
        have s5 := hS.2.2.2.2.1
        have s8 := hS.2.2.2.2.2.2.2.1
        have s9 := hS.2.2.2.2.2.2.2.2
        refine zc_vret (TX3_plain_2.at 3 rfl) rfl hH hA ?_
        exact ⟨hS, hfE, hgE, rfl⟩
    · skip
      refine z_ald_0 (TX3_plain_0.at 29 rfl) ?_
      refine z_ild_1 (TX3_plain_0.at 30 rfl) ?_
      refine z_iconst (TX3_plain_0.at 31 rfl) ?_
      refine z_iadd (TX3_plain_0.at 32 rfl) ?_
      obtain ⟨e2, rfl⟩ : ∃ e2, e = e2 + 1 := ⟨e - 1, by omega⟩
      rw [show dp + 1 = 8 - (e2 : Int) by omega]
      refine zc_callV1 (m := 9) (htest e2 rfl _ _ _ _ _ hS) (hH.lv (by decide)) (TX3_plain_0.at 33 rfl) c3_212 rfl rfl hH hA (by omega) (Nat.le_of_ble_eq_true rfl) (fun f61 g61 j61 h q61 hH hA => ?_)
      obtain ⟨q61, xf, xg, xj⟩ := q61
      rw [xj] at hH
      have hfE := hfE.trans xf (by decide)
      have hgE := hgE.trans xg (by decide)
      have qL := q61
      have hS := qL
      have s1 := hS.1
      have s2 := hS.2.1
      have s3 := hS.2.2.1
      have s4 := hS.2.2.2.1
      have s5 := hS.2.2.2.2.1
      have s8 := hS.2.2.2.2.2.2.2.1
      have s9 := hS.2.2.2.2.2.2.2.2
      refine z_ald_0 (TX3_plain_0.at 34 rfl) ?_
      refine z_bipush (by decide) (TX3_plain_0.at 35 rfl) ?_
      refine zc_callV1 (m := 9) (c_take rfl rfl rfl rfl rfl rfl (by omega) (by omega) (by omega) (by omega) (by omega) ) (hH.lv (by decide)) (TX3_plain_0.at 36 rfl) c3_60 rfl rfl hH hA (by omega) (Nat.le_of_ble_eq_true rfl) (fun f67 g67 j67 h q67 hH hA => ?_)
      obtain ⟨q67, xf, xg, xj⟩ := q67
      rw [xj] at hH
      have hfE := hfE.trans xf (by decide)
      have hgE := hgE.trans xg (by decide)
      have qL := q67
      have hS := hS.c xf qL.1 qL.2
      have s1 := hS.1
      have s2 := hS.2.1
      have s3 := hS.2.2.1
      have s4 := hS.2.2.2.1
      have s5 := hS.2.2.2.2.1
      have s8 := hS.2.2.2.2.2.2.2.1
      have s9 := hS.2.2.2.2.2.2.2.2
      refine z_goto (tgt := 150) (TX3_plain_0.at 37 rfl) rfl ?_
      refine z_ild_2 (TX3_plain_1.at 36 rfl) ?_
      refine z_if_eq (tgt := 164) (TX3_plain_1.at 37 rfl) rfl (by omega) (fun c21 => ?_) (fun c21 => ?_)
      · skip
        refine zc_vret (TX3_plain_2.at 3 rfl) rfl hH hA ?_
        exact ⟨hS, hfE, hgE, rfl⟩
      · skip
        refine z_ald_0 (TX3_plain_1.at 38 rfl) ?_
        refine zc_getO (m := 9) (s := 0) (k := 447) (hH.lv (by decide)) (TX3_plain_1.at 39 rfl) fl3_14 hH rfl rfl (by decide) (by decide) ?_
        refine z_bipush (by decide) (TX3_plain_2.at 0 rfl) ?_
        refine z_iconst (TX3_plain_2.at 1 rfl) ?_
        refine zc_callV2 (m := 13) (c_put rfl rfl (by omega) (by omega) (by omega) (by omega) (by omega) (by omega) (by omega) ) (hH.lv (by decide)) (TX3_plain_2.at 2 rfl) c3_214 rfl rfl hH hA (by omega) (Nat.le_of_ble_eq_true rfl) (fun f161 g161 j161 h q161 hH hA => ?_)
        obtain ⟨q161, xf, xg, xj⟩ := q161
        rw [xj] at hH
        have hfE := hfE.trans xf (by decide)
        have hgE := hgE.trans xg (by decide)
        have qL := q161
        have hS := hS.p xf qL.1
        have s1 := hS.1
        have s2 := hS.2.1
        have s3 := hS.2.2.1
        have s4 := hS.2.2.2.1
        have s5 := hS.2.2.2.2.1
        have s8 := hS.2.2.2.2.2.2.2.1
        have s9 := hS.2.2.2.2.2.2.2.2
        refine zc_vret (TX3_plain_2.at 3 rfl) rfl hH hA ?_
        exact ⟨hS, hfE, hgE, rfl⟩

set_option maxHeartbeats 4000000 in
set_option maxRecDepth 100000 in
theorem d_both {l : Launch} {E : cE} {f : mF} {g j : mA} {dp : Int} {tk fl ag : Int} {e : Nat}  (hdp : zIn dp) (hS : DdS tk fl ag f) (hcal : DdM l E MX3_plain (3 * e + 7) [vI dp] tk) : CM l E MX3_both (3 * e + 8) [.ref (E.1 319), vI dp] f g j (PV (fun f' g' j' => (DdS tk fl ag f') ∧ eqx [289, 294, 295, 417, 418] f f' ∧ eqx [424] g g' ∧ j' = j)) := by
  refine CM.intro [some (.ref (E.1 319)), some (vI dp), none, none] (by decide) (Nat.le_of_ble_eq_true rfl) rfl (fun d hd h0 h hH hA => ?_)
  have hfE : eqx [289, 294, 295, 417, 418] f f := eqx.rf
  have hgE : eqx [424] g g := eqx.rf
  have s1 := hS.1
  have s2 := hS.2.1
  have s3 := hS.2.2.1
  have s4 := hS.2.2.2.1
  have s5 := hS.2.2.2.2.1
  have s8 := hS.2.2.2.2.2.2.2.1
  have s9 := hS.2.2.2.2.2.2.2.2
  refine z_ald_0 (TX3_both.at 0 rfl) ?_
  refine z_ild_1 (TX3_both.at 1 rfl) ?_
  refine zc_callV1 (m := 9) (hcal _ _ _ _ _ hS) (hH.lv (by decide)) (TX3_both.at 2 rfl) c3_226 rfl rfl hH hA (by omega) (Nat.le_of_ble_eq_true rfl) (fun f2 g2 j2 h q2 hH hA => ?_)
  obtain ⟨q2, xf, xg, xj⟩ := q2
  rw [xj] at hH
  have hfE := hfE.trans xf (by decide)
  have hgE := hgE.trans xg (by decide)
  have qL := q2
  have hS := qL
  have s1 := hS.1
  have s2 := hS.2.1
  have s3 := hS.2.2.1
  have s4 := hS.2.2.2.1
  have s5 := hS.2.2.2.2.1
  have s8 := hS.2.2.2.2.2.2.2.1
  have s9 := hS.2.2.2.2.2.2.2.2
  refine z_iconst (TX3_both.at 3 rfl) ?_
  refine z_ist_2 (TX3_both.at 4 rfl) (Nat.le_of_ble_eq_true rfl) rfl ?_
  refine z_ild_2 (TX3_both.at 5 rfl) ?_
  refine z_sipush (by decide) (TX3_both.at 6 rfl) ?_
  refine z_icmp_ge (tgt := 72) (TX3_both.at 7 rfl) rfl (by omega) (by omega) (fun c1 => absurd c1 (by decide)) (fun c1 => ?_)
  refine z_ald_0 (TX3_both.at 8 rfl) ?_
  refine zc_getI (m := 9) (s := 1) (k := 289) (hH.lv (by decide)) (TX3_both.at 9 rfl) fl3_20 hH rfl rfl (by decide) (by decide) (fun r15 => ?_)
  refine z_iconst (TX3_both.at 10 rfl) ?_
  refine z_icmp_ne (tgt := 72) (TX3_both.at 11 rfl) rfl (by omega) (by omega) (fun c2 => ?_) (fun c2 => absurd c2 (by omega))
  refine zc_vret (TX3_both.at 36 rfl) rfl hH hA ?_
  exact ⟨hS, hfE, hgE, rfl⟩

set_option maxHeartbeats 4000000 in
set_option maxRecDepth 100000 in
theorem d_test {l : Launch} {E : cE} {f : mF} {g j : mA} {dp : Int} {tk fl ag : Int} {e : Nat}  (hdp : zIn dp) (hS : DdS tk fl ag f) (hcal : DdM l E MX3_both (3 * e + 8) [vI dp] tk) : CM l E MX3_test (3 * e + 9) [.ref (E.1 319), vI dp] f g j (PV (fun f' g' j' => (DdS tk fl ag f') ∧ eqx [289, 294, 295, 417, 418] f f' ∧ eqx [424] g g' ∧ j' = j)) := by
  refine CM.intro [some (.ref (E.1 319)), some (vI dp), none, none] (by decide) (Nat.le_of_ble_eq_true rfl) rfl (fun d hd h0 h hH hA => ?_)
  have hfE : eqx [289, 294, 295, 417, 418] f f := eqx.rf
  have hgE : eqx [424] g g := eqx.rf
  have s1 := hS.1
  have s2 := hS.2.1
  have s3 := hS.2.2.1
  have s4 := hS.2.2.2.1
  have s5 := hS.2.2.2.2.1
  have s8 := hS.2.2.2.2.2.2.2.1
  have s9 := hS.2.2.2.2.2.2.2.2
  refine z_ald_0 (TX3_test.at 0 rfl) ?_
  refine z_ild_1 (TX3_test.at 1 rfl) ?_
  refine zc_callV1 (m := 9) (hcal _ _ _ _ _ hS) (hH.lv (by decide)) (TX3_test.at 2 rfl) c3_220 rfl rfl hH hA (by omega) (Nat.le_of_ble_eq_true rfl) (fun f2 g2 j2 h q2 hH hA => ?_)
  obtain ⟨q2, xf, xg, xj⟩ := q2
  rw [xj] at hH
  have hfE := hfE.trans xf (by decide)
  have hgE := hgE.trans xg (by decide)
  have qL := q2
  have hS := qL
  have s1 := hS.1
  have s2 := hS.2.1
  have s3 := hS.2.2.1
  have s4 := hS.2.2.2.1
  have s5 := hS.2.2.2.2.1
  have s8 := hS.2.2.2.2.2.2.2.1
  have s9 := hS.2.2.2.2.2.2.2.2
  refine z_iconst (TX3_test.at 3 rfl) ?_
  refine z_ist_2 (TX3_test.at 4 rfl) (Nat.le_of_ble_eq_true rfl) rfl ?_
  refine z_ild_2 (TX3_test.at 5 rfl) ?_
  refine z_sipush (by decide) (TX3_test.at 6 rfl) ?_
  refine z_icmp_ge (tgt := 72) (TX3_test.at 7 rfl) rfl (by omega) (by omega) (fun c1 => absurd c1 (by decide)) (fun c1 => ?_)
  refine z_ald_0 (TX3_test.at 8 rfl) ?_
  refine zc_getI (m := 9) (s := 1) (k := 289) (hH.lv (by decide)) (TX3_test.at 9 rfl) fl3_20 hH rfl rfl (by decide) (by decide) (fun r15 => ?_)
  refine z_iconst (TX3_test.at 10 rfl) ?_
  refine z_icmp_ne (tgt := 72) (TX3_test.at 11 rfl) rfl (by omega) (by omega) (fun c2 => ?_) (fun c2 => absurd c2 (by omega))
  refine zc_vret (TX3_test.at 36 rfl) rfl hH hA ?_
  exact ⟨hS, hfE, hgE, rfl⟩

theorem dd_test {l : Launch} {E : cE} {tk : Int} : ∀ e : Nat, e ≤ 8 → DdM l E MX3_test (3 * e + 9) [vI (8 - (e : Int))] tk := by
  intro e
  induction e with
  | zero =>
    intro _
    exact fun fl ag f g j hS => d_test (e := 0) (by omega) hS (fun fl ag f g j hS => d_both (e := 0) (by omega) hS (fun fl ag f g j hS => d_plain (e := 0) (by omega) hS rfl (by omega) (dd_sum 0 (by omega)) (fun e2 h => absurd h (by omega))))
  | succ e ih =>
    intro he
    exact fun fl ag f g j hS => d_test (e := e + 1) (by omega) hS (fun fl ag f g j hS => d_both (e := e + 1) (by omega) hS (fun fl ag f g j hS => d_plain (e := e + 1) (by omega) hS rfl he (dd_sum (e + 1) he) (fun e2 h => (show e = e2 by omega) ▸ ih (by omega))))
