/-! ===== the class: an image is taken back ===== -/
/-- the frame d is as the frame s was -/
def BcQ (s d : Nat) (f : mF) (g : mA) (f' : mF) (g' : mA) : Prop := f' (32 * d + 0) = f (32 * s + 0) ∧ f' (32 * d + 5) = f (32 * s + 5) ∧ f' (32 * d + 7) = f (32 * s + 7) ∧ f' (32 * d + 9) = f (32 * s + 9) ∧ f' (32 * d + 13) = f (32 * s + 13) ∧ f' (32 * d + 15) = f (32 * s + 15) ∧ g' (32 * d + 1) = cpy (g (32 * d + 1)) (g (32 * s + 1)) 0 0 10 ∧ g' (32 * d + 2) = cpy (g (32 * d + 2)) (g (32 * s + 2)) 0 0 10 ∧ g' (32 * d + 3) = cpy (g (32 * d + 3)) (g (32 * s + 3)) 0 0 10 ∧ g' (32 * d + 4) = cpy (g (32 * d + 4)) (g (32 * s + 4)) 0 0 10 ∧ g' (32 * d + 6) = cpy (g (32 * d + 6)) (g (32 * s + 6)) 0 0 8 ∧ g' (32 * d + 8) = cpy (g (32 * d + 8)) (g (32 * s + 8)) 0 0 3 ∧ g' (32 * d + 10) = cpy (g (32 * d + 10)) (g (32 * s + 10)) 0 0 6 ∧ g' (32 * d + 11) = cpy (g (32 * d + 11)) (g (32 * s + 11)) 0 0 6 ∧ g' (32 * d + 12) = cpy (g (32 * d + 12)) (g (32 * s + 12)) 0 0 3 ∧ g' (32 * d + 14) = cpy (g (32 * d + 14)) (g (32 * s + 14)) 0 0 6
set_option maxHeartbeats 4000000 in
set_option maxRecDepth 100000 in
theorem sg_backN {l : Launch} {E : cE} {d : Nat} {Pz : Option Value → zH → Prop} {h0 h : zH} {f0 f : mF} {g0 g j : mA} {k st : Int} {Rf : Int → Int} (hd : 2 ≤ d) (hb : ∀ i, Rf i ≤ 100000) (kr : ∀ (r : Int) (f' : mF) (g' : mA) (h' : zH), zIn r → r = -2 ∧ f' 16 = r ∧ g' 11 = bumC Rf r → eqx [16] f0 f' → eqx [11] g0 g' → HC E f' g' j h' → cAg E h0 h' → Pz (some (vI r)) h') (eg11 : g 11 = Rf) (ef16 : f 16 = st) (hfE : eqx [16] f0 f) (hgE : eqx [11] g0 g) (hH : HC E f g j h) (hA : cAg E h0 h) : Z l MX7_back d 0 0 Pz 21 [some (.ref (E.1 31)), some (vI k), none] [.null] h 0 0 := by
  refine z_nst_2 (TX7_back.at 13 rfl) (Nat.le_of_ble_eq_true rfl) rfl ?_
  refine z_nld_2 (TX7_back.at 14 rfl) ?_
  refine z_ifnnN (TX7_back.at 15 rfl) ?_
  refine z_ald_0 (TX7_back.at 16 rfl) ?_
  refine z_bipush (by decide) (TX7_back.at 17 rfl) ?_
  refine zc_callI1 (m := 0) (c_refused eg11 ef16 (by decide) (by decide) (by decide) hb) (hH.lv (by decide)) (TX7_back.at 18 rfl) c7_92 rfl rfl hH hA (by omega) (Nat.le_of_ble_eq_true rfl) (fun x29 f29 g29 j29 h r29 q29 hH hA => ?_)
  obtain ⟨q29, xf, xg, xj⟩ := q29
  rw [xj] at hH
  have hfE := hfE.trans xf (by decide)
  have hgE := hgE.trans xg (by decide)
  have qL := q29
  obtain ⟨r5, ef16, eg11⟩ := qL
  rw [← r5] at ef16 eg11
  exact z_iret (TX7_back.at 19 rfl) rfl (kr _ _ _ _ (by omega) ⟨r5, ef16, eg11⟩ hfE hgE hH hA)

set_option maxHeartbeats 4000000 in
set_option maxRecDepth 100000 in
theorem sg_back4 {l : Launch} {E : cE} {d : Nat} {Pz : Option Value → zH → Prop} {h0 h : zH} {f0 f : mF} {g0 g j : mA} {k st lc : Int} {Rf : Int → Int} (hd : 2 ≤ d) (hl4 : E.2.1 4 = true) (hOK : ∀ q : Int, 0 ≤ q → q < 6 → okR E 4 (g 142 q)) (kr : ∀ (r : Int) (f' : mF) (g' : mA) (h' : zH), zIn r → (r = 0 ∧ f' 16 = 0 ∧ f' 192 = 0 ∧ g' 11 = Rf ∧ BcQ 4 1 f g f' g') → eqx [16, 192, 32, 37, 39, 41, 45, 47] f0 f' → eqx [11, 33, 34, 35, 36, 38, 40, 42, 43, 44, 46] g0 g' → HC E f' g' j h' → cAg E h0 h' → Pz (some (vI r)) h') (eg11 : g 11 = Rf) (ef16 : f 16 = st) (ef192 : f 192 = lc) (hfE : eqx [16, 192, 32, 37, 39, 41, 45, 47] f0 f) (hgE : eqx [11, 33, 34, 35, 36, 38, 40, 42, 43, 44, 46] g0 g) (hH : HC E f g j h) (hA : cAg E h0 h) : Z l MX7_back d 0 0 Pz 21 [some (.ref (E.1 31)), some (vI k), none] [.ref (E.1 159)] h 0 0 := by
  refine z_ast_2 (TX7_back.at 13 rfl) (Nat.le_of_ble_eq_true rfl) rfl ?_
  refine z_ald_2 (TX7_back.at 14 rfl) ?_
  refine z_ifnn (tgt := 33) (TX7_back.at 15 rfl) rfl ?_
  refine z_ald_0 (TX7_back.at 20 rfl) ?_
  refine zc_getO (m := 0) (s := 0) (k := 63) (hH.lv (by decide)) (TX7_back.at 21 rfl) fl7_12 hH rfl rfl (by decide) (by decide) ?_
  refine z_ald_2 (TX7_back.at 22 rfl) ?_
  refine zc_callV1 (m := 1) (c_bec1_4 rfl rfl rfl rfl rfl rfl rfl rfl rfl rfl rfl rfl rfl rfl rfl rfl rfl rfl rfl rfl rfl rfl rfl rfl rfl rfl hl4 hOK) (hH.lv (by decide)) (TX7_back.at 23 rfl) c7_214 rfl rfl hH hA (by omega) (Nat.le_of_ble_eq_true rfl) (fun f38 g38 j38 h q38 hH hA => ?_)
  obtain ⟨q38, xf, xg, xj⟩ := q38
  rw [xj] at hH
  have ef16 := (xf 16 (by decide)).trans ef16
  have ef192 := (xf 192 (by decide)).trans ef192
  have hfE := hfE.trans xf (by decide)
  have eg11 := (xg 11 (by decide)).trans eg11
  have hgE := hgE.trans xg (by decide)
  have qL := q38
  have hbq := qL
  refine z_ald_0 (TX7_back.at 24 rfl) ?_
  refine zc_getO (m := 0) (s := 4) (k := 223) (hH.lv (by decide)) (TX7_back.at 25 rfl) fl7_29 hH rfl rfl (by decide) (by decide) ?_
  refine z_iconst (TX7_back.at 26 rfl) ?_
  refine zc_putI (m := 6) (s := 0) (k := 192) (hH.lv (by decide)) (TX7_back.at 27 rfl) fp7_99 hH hA rfl rfl (by decide) (by decide) (by first | omega | exact b2i_01 _) (fun h f46 e1 e2 hH hA => ?_)
  have ef16 := (e1 16 (by decide)).trans ef16
  have ef192 := e2
  have hfE := hfE.put e1 (by decide)
  refine z_ald_0 (TX7_back.at 28 rfl) ?_
  refine z_iconst (TX7_back.at 29 rfl) ?_
  refine zc_callI1 (m := 0) (c_answered ef16 (by omega)) (hH.lv (by decide)) (TX7_back.at 30 rfl) c7_106 rfl rfl hH hA (by omega) (Nat.le_of_ble_eq_true rfl) (fun x51 f51 g51 j51 h r51 q51 hH hA => ?_)
  obtain ⟨q51, xf, xg, xj⟩ := q51
  rw [xj] at hH
  have ef192 := (xf 192 (by decide)).trans ef192
  have hfE := hfE.trans xf (by decide)
  have eg11 := (xg 11 (by decide)).trans eg11
  have hgE := hgE.trans xg (by decide)
  have qL := q51
  obtain ⟨r5, ef16⟩ := qL
  have hgZ := eqx_nil xg
  have hfZ := xf
  exact z_iret (TX7_back.at 31 rfl) rfl (kr _ _ _ _ (by omega) ⟨r5, ef16, ef192, eg11, by
    obtain ⟨a0, a5, a7, a9, a13, a15, b1, b2, b3, b4, b6, b8, b10, b11, b12, b14⟩ := hbq
    exact ⟨(xf 32 (by decide)).trans ((e1 32 (by decide)).trans a0), (xf 37 (by decide)).trans ((e1 37 (by decide)).trans a5), (xf 39 (by decide)).trans ((e1 39 (by decide)).trans a7), (xf 41 (by decide)).trans ((e1 41 (by decide)).trans a9), (xf 45 (by decide)).trans ((e1 45 (by decide)).trans a13), (xf 47 (by decide)).trans ((e1 47 (by decide)).trans a15), (by rw [hgZ]; exact b1), (by rw [hgZ]; exact b2), (by rw [hgZ]; exact b3), (by rw [hgZ]; exact b4), (by rw [hgZ]; exact b6), (by rw [hgZ]; exact b8), (by rw [hgZ]; exact b10), (by rw [hgZ]; exact b11), (by rw [hgZ]; exact b12), (by rw [hgZ]; exact b14)⟩⟩ hfE hgE hH hA)

set_option maxHeartbeats 4000000 in
set_option maxRecDepth 100000 in
theorem sg_back5 {l : Launch} {E : cE} {d : Nat} {Pz : Option Value → zH → Prop} {h0 h : zH} {f0 f : mF} {g0 g j : mA} {k st lc : Int} {Rf : Int → Int} (hd : 2 ≤ d) (hl5 : E.2.1 5 = true) (hOK : ∀ q : Int, 0 ≤ q → q < 6 → okR E 4 (g 174 q)) (kr : ∀ (r : Int) (f' : mF) (g' : mA) (h' : zH), zIn r → (r = 0 ∧ f' 16 = 0 ∧ f' 192 = 0 ∧ g' 11 = Rf ∧ BcQ 5 1 f g f' g') → eqx [16, 192, 32, 37, 39, 41, 45, 47] f0 f' → eqx [11, 33, 34, 35, 36, 38, 40, 42, 43, 44, 46] g0 g' → HC E f' g' j h' → cAg E h0 h' → Pz (some (vI r)) h') (eg11 : g 11 = Rf) (ef16 : f 16 = st) (ef192 : f 192 = lc) (hfE : eqx [16, 192, 32, 37, 39, 41, 45, 47] f0 f) (hgE : eqx [11, 33, 34, 35, 36, 38, 40, 42, 43, 44, 46] g0 g) (hH : HC E f g j h) (hA : cAg E h0 h) : Z l MX7_back d 0 0 Pz 21 [some (.ref (E.1 31)), some (vI k), none] [.ref (E.1 191)] h 0 0 := by
  refine z_ast_2 (TX7_back.at 13 rfl) (Nat.le_of_ble_eq_true rfl) rfl ?_
  refine z_ald_2 (TX7_back.at 14 rfl) ?_
  refine z_ifnn (tgt := 33) (TX7_back.at 15 rfl) rfl ?_
  refine z_ald_0 (TX7_back.at 20 rfl) ?_
  refine zc_getO (m := 0) (s := 0) (k := 63) (hH.lv (by decide)) (TX7_back.at 21 rfl) fl7_12 hH rfl rfl (by decide) (by decide) ?_
  refine z_ald_2 (TX7_back.at 22 rfl) ?_
  refine zc_callV1 (m := 1) (c_bec1_5 rfl rfl rfl rfl rfl rfl rfl rfl rfl rfl rfl rfl rfl rfl rfl rfl rfl rfl rfl rfl rfl rfl rfl rfl rfl rfl hl5 hOK) (hH.lv (by decide)) (TX7_back.at 23 rfl) c7_214 rfl rfl hH hA (by omega) (Nat.le_of_ble_eq_true rfl) (fun f38 g38 j38 h q38 hH hA => ?_)
  obtain ⟨q38, xf, xg, xj⟩ := q38
  rw [xj] at hH
  have ef16 := (xf 16 (by decide)).trans ef16
  have ef192 := (xf 192 (by decide)).trans ef192
  have hfE := hfE.trans xf (by decide)
  have eg11 := (xg 11 (by decide)).trans eg11
  have hgE := hgE.trans xg (by decide)
  have qL := q38
  have hbq := qL
  refine z_ald_0 (TX7_back.at 24 rfl) ?_
  refine zc_getO (m := 0) (s := 4) (k := 223) (hH.lv (by decide)) (TX7_back.at 25 rfl) fl7_29 hH rfl rfl (by decide) (by decide) ?_
  refine z_iconst (TX7_back.at 26 rfl) ?_
  refine zc_putI (m := 6) (s := 0) (k := 192) (hH.lv (by decide)) (TX7_back.at 27 rfl) fp7_99 hH hA rfl rfl (by decide) (by decide) (by first | omega | exact b2i_01 _) (fun h f46 e1 e2 hH hA => ?_)
  have ef16 := (e1 16 (by decide)).trans ef16
  have ef192 := e2
  have hfE := hfE.put e1 (by decide)
  refine z_ald_0 (TX7_back.at 28 rfl) ?_
  refine z_iconst (TX7_back.at 29 rfl) ?_
  refine zc_callI1 (m := 0) (c_answered ef16 (by omega)) (hH.lv (by decide)) (TX7_back.at 30 rfl) c7_106 rfl rfl hH hA (by omega) (Nat.le_of_ble_eq_true rfl) (fun x51 f51 g51 j51 h r51 q51 hH hA => ?_)
  obtain ⟨q51, xf, xg, xj⟩ := q51
  rw [xj] at hH
  have ef192 := (xf 192 (by decide)).trans ef192
  have hfE := hfE.trans xf (by decide)
  have eg11 := (xg 11 (by decide)).trans eg11
  have hgE := hgE.trans xg (by decide)
  have qL := q51
  obtain ⟨r5, ef16⟩ := qL
  have hgZ := eqx_nil xg
  have hfZ := xf
  exact z_iret (TX7_back.at 31 rfl) rfl (kr _ _ _ _ (by omega) ⟨r5, ef16, ef192, eg11, by
    obtain ⟨a0, a5, a7, a9, a13, a15, b1, b2, b3, b4, b6, b8, b10, b11, b12, b14⟩ := hbq
    exact ⟨(xf 32 (by decide)).trans ((e1 32 (by decide)).trans a0), (xf 37 (by decide)).trans ((e1 37 (by decide)).trans a5), (xf 39 (by decide)).trans ((e1 39 (by decide)).trans a7), (xf 41 (by decide)).trans ((e1 41 (by decide)).trans a9), (xf 45 (by decide)).trans ((e1 45 (by decide)).trans a13), (xf 47 (by decide)).trans ((e1 47 (by decide)).trans a15), (by rw [hgZ]; exact b1), (by rw [hgZ]; exact b2), (by rw [hgZ]; exact b3), (by rw [hgZ]; exact b4), (by rw [hgZ]; exact b6), (by rw [hgZ]; exact b8), (by rw [hgZ]; exact b10), (by rw [hgZ]; exact b11), (by rw [hgZ]; exact b12), (by rw [hgZ]; exact b14)⟩⟩ hfE hgE hH hA)

set_option maxHeartbeats 4000000 in
set_option maxRecDepth 100000 in
theorem c_back {l : Launch} {E : cE} {f : mF} {g j : mA} {X3 : Int → Int} {Rf : Int → Int} {st : Int} {k : Int}  (eg3 : g 3 = X3) (eg11 : g 11 = Rf) (ef16 : f 16 = st) (hk : zIn k) (hb : ∀ i, Rf i ≤ 100000) (hX : ∀ k : Int, 0 ≤ k → k ≤ 1 → (X3 k = -1 ∧ True) ∨ (X3 k = 4 + k ∧ E.2.1 (4 + k.toNat) = true ∧ ∀ q : Int, 0 ≤ q → q < 6 → okR E 4 (g (32 * (4 + k.toNat) + 14) q))) : CM l E MX7_back 2 [.ref (E.1 31), vI k] f g j (PI (fun r f' g' j' => ((((¬ (0 ≤ k ∧ k ≤ 1) ∧ r = -1) ∨ ((0 ≤ k ∧ k ≤ 1) ∧ X3 k = -1 ∧ r = -2)) ∧ f' 16 = r ∧ g' 11 = bumC Rf r ∧ eqx [16] f f' ∧ eqx [11] g g') ∨ ((0 ≤ k ∧ k ≤ 1) ∧ X3 k = 4 + k ∧ r = 0 ∧ f' 16 = 0 ∧ f' 192 = 0 ∧ g' 11 = Rf ∧ BcQ (4 + k.toNat) 1 f g f' g')) ∧ eqx [16, 192, 32, 37, 39, 41, 45, 47] f f' ∧ eqx [11, 33, 34, 35, 36, 38, 40, 42, 43, 44, 46] g g' ∧ j' = j)) := by
  refine CM.intro [some (.ref (E.1 31)), some (vI k), none] (by decide) (Nat.le_of_ble_eq_true rfl) rfl (fun d hd h0 h hH hA => ?_)
  have hfE : eqx [16, 192, 32, 37, 39, 41, 45, 47] f f := eqx.rf
  have hgE : eqx [11, 33, 34, 35, 36, 38, 40, 42, 43, 44, 46] g g := eqx.rf
  refine z_ild_1 (TX7_back.at 0 rfl) ?_
  refine z_if_lt (tgt := 9) (TX7_back.at 1 rfl) rfl (by omega) (fun c1 => ?_) (fun c1 => ?_)
  · skip
    refine z_ald_0 (TX7_back.at 5 rfl) ?_
    refine z_iconst (TX7_back.at 6 rfl) ?_
    refine zc_callI1 (m := 0) (c_refused eg11 ef16 (by decide) (by decide) (by decide) hb) (hH.lv (by decide)) (TX7_back.at 7 rfl) c7_92 rfl rfl hH hA (by omega) (Nat.le_of_ble_eq_true rfl) (fun x11 f11 g11 j11 h r11 q11 hH hA => ?_)
    obtain ⟨q11, xf, xg, xj⟩ := q11
    rw [xj] at hH
    have hfE := hfE.trans xf (by decide)
    have eg3 := (xg 3 (by decide)).trans eg3
    have hgE := hgE.trans xg (by decide)
    have qL := q11
    obtain ⟨r5, ef16, eg11⟩ := qL
    rw [← r5] at ef16 eg11
    refine zc_iret (TX7_back.at 8 rfl) rfl hH hA (by omega) ?_
    exact ⟨Or.inl ⟨Or.inl ⟨by omega, r5⟩, ef16, eg11, xf, xg⟩, hfE, hgE, rfl⟩
  · skip
    refine z_ild_1 (TX7_back.at 2 rfl) ?_
    refine z_iconst (TX7_back.at 3 rfl) ?_
    refine z_icmp_lt (tgt := 15) (TX7_back.at 4 rfl) rfl (by omega) (by omega) (fun c2 => ?_) (fun c2 => ?_)
    · skip
      refine z_ald_0 (TX7_back.at 9 rfl) ?_
      refine zc_getA (m := 0) (s := 3) (k := 3) (hH.lv (by decide)) (TX7_back.at 10 rfl) fl7_22 hH rfl rfl (by decide) (by decide) ?_
      refine z_ild_1 (TX7_back.at 11 rfl) ?_
      rcases (show k = 0 ∨ k = 1 by omega) with ek | ek
      · rcases hX 0 (by omega) (by omega) with e | e
        · refine zcf_aald (k := 3) (N := 2) (hH.lv (by decide)) (by decide) rfl eg3 (TX7_back.at 12 rfl) hH (by decide) (by omega) (show _ < ((2 : Nat) : Int) by omega) ?_
          rw [ek, e.1]
          exact sg_backN (by omega) hb (fun r f' g' h' hr hq xf xg hH hA => ⟨f', g', j, hH, hA, r, rfl, hr, Or.inl ⟨Or.inr ⟨by omega, by first | rfl | (rw [ek]; exact e.1), hq.1⟩, hq.2.1, hq.2.2, xf, xg⟩, xf.wide (by decide), xg.wide (by decide), rfl⟩) eg11 ef16 eqx.rf eqx.rf hH hA
        · refine zcf_aald (k := 3) (N := 2) (hH.lv (by decide)) (by decide) rfl eg3 (TX7_back.at 12 rfl) hH (by decide) (by omega) (show _ < ((2 : Nat) : Int) by omega) ?_
          rw [ek, e.1]
          exact sg_back4 (by omega) e.2.1 e.2.2 (fun r f' g' h' hr hq xf xg hH hA => ⟨f', g', j, hH, hA, r, rfl, hr, Or.inr ⟨by omega, by first | rfl | (rw [ek]; exact e.1), hq.1, hq.2.1, hq.2.2.1, hq.2.2.2⟩, xf, xg, rfl⟩) eg11 ef16 rfl hfE hgE hH hA
      · rcases hX 1 (by omega) (by omega) with e | e
        · refine zcf_aald (k := 3) (N := 2) (hH.lv (by decide)) (by decide) rfl eg3 (TX7_back.at 12 rfl) hH (by decide) (by omega) (show _ < ((2 : Nat) : Int) by omega) ?_
          rw [ek, e.1]
          exact sg_backN (by omega) hb (fun r f' g' h' hr hq xf xg hH hA => ⟨f', g', j, hH, hA, r, rfl, hr, Or.inl ⟨Or.inr ⟨by omega, by first | rfl | (rw [ek]; exact e.1), hq.1⟩, hq.2.1, hq.2.2, xf, xg⟩, xf.wide (by decide), xg.wide (by decide), rfl⟩) eg11 ef16 eqx.rf eqx.rf hH hA
        · refine zcf_aald (k := 3) (N := 2) (hH.lv (by decide)) (by decide) rfl eg3 (TX7_back.at 12 rfl) hH (by decide) (by omega) (show _ < ((2 : Nat) : Int) by omega) ?_
          rw [ek, e.1]
          exact sg_back5 (by omega) e.2.1 e.2.2 (fun r f' g' h' hr hq xf xg hH hA => ⟨f', g', j, hH, hA, r, rfl, hr, Or.inr ⟨by omega, by first | rfl | (rw [ek]; exact e.1), hq.1, hq.2.1, hq.2.2.1, hq.2.2.2⟩, xf, xg, rfl⟩) eg11 ef16 rfl hfE hgE hH hA
    · skip
      refine z_ald_0 (TX7_back.at 5 rfl) ?_
      refine z_iconst (TX7_back.at 6 rfl) ?_
      refine zc_callI1 (m := 0) (c_refused eg11 ef16 (by decide) (by decide) (by decide) hb) (hH.lv (by decide)) (TX7_back.at 7 rfl) c7_92 rfl rfl hH hA (by omega) (Nat.le_of_ble_eq_true rfl) (fun x11 f11 g11 j11 h r11 q11 hH hA => ?_)
      obtain ⟨q11, xf, xg, xj⟩ := q11
      rw [xj] at hH
      have hfE := hfE.trans xf (by decide)
      have eg3 := (xg 3 (by decide)).trans eg3
      have hgE := hgE.trans xg (by decide)
      have qL := q11
      obtain ⟨r5, ef16, eg11⟩ := qL
      rw [← r5] at ef16 eg11
      refine zc_iret (TX7_back.at 8 rfl) rfl hH hA (by omega) ?_
      exact ⟨Or.inl ⟨Or.inl ⟨by omega, r5⟩, ef16, eg11, xf, xg⟩, hfE, hgE, rfl⟩

