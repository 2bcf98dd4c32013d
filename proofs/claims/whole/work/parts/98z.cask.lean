/-! ===== the class: orders, sums and deeds ===== -/
set_option maxHeartbeats 4000000 in
set_option maxRecDepth 100000 in
theorem c_asked {l : Launch} {E : cE} {f : mF} {g j : mA} {C : Int → Int} {φ : Int → Int} {N : Int} {t r0 : Int} (eg424 : g 424 = C) (eg10 : g 10 = φ) (ef417 : f 417 = N) (ht : zIn t) (N4 : N ≤ 400) (hQa : t ≠ -1 → (0 ≤ t ∧ t ≤ 400) ∧ Ask C N φ t [] r0) (hN : t = -1 → r0 = -2000000000) : CM l E MX7_asked 2 [.ref (E.1 31), .ref (E.1 447), vI t] f g j (PI (fun r f' g' j' => (r = r0) ∧ eqx [] f f' ∧ eqx [320] g g' ∧ j' = j)) := by
  refine CM.intro [some (.ref (E.1 31)), some (.ref (E.1 447)), some (vI t)] (by decide) (Nat.le_of_ble_eq_true rfl) rfl (fun d hd h0 h hH hA => ?_)
  have hfE : eqx [] f f := eqx.rf
  have hgE : eqx [320] g g := eqx.rf
  refine z_ild_2 (TX7_asked.at 0 rfl) ?_
  refine z_iconst (TX7_asked.at 1 rfl) ?_
  refine z_icmp_ne (tgt := 11) (TX7_asked.at 2 rfl) rfl (by omega) (by omega) (fun c1 => ?_) (fun c1 => ?_)
  · skip
    refine z_ald_0 (TX7_asked.at 5 rfl) ?_
    refine zc_getO (m := 0) (s := 8) (k := 351) (hH.lv (by decide)) (TX7_asked.at 6 rfl) fl7_53 hH rfl rfl (by decide) (by decide) ?_
    refine z_ald_1 (TX7_asked.at 7 rfl) ?_
    refine z_ild_2 (TX7_asked.at 8 rfl) ?_
    refine z_ald_0 (TX7_asked.at 9 rfl) ?_
    refine zc_getA (m := 0) (s := 10) (k := 10) (hH.lv (by decide)) (TX7_asked.at 10 rfl) fl7_64 hH rfl rfl (by decide) (by decide) ?_
    refine zc_callI3 (m := 10) (c_ask10 (m := 13) (hH.lv (by decide)) rfl (by decide) (by rw [hH.2.2.2.2.1 424 (by decide)]; exact N4) N4 eg424 eg10 ef417 (hQa (by omega)).1.1 (hQa (by omega)).1.2 (hQa (by omega)).2) (hH.lv (by decide)) (TX7_asked.at 11 rfl) c7_269 rfl rfl hH hA (by omega) (Nat.le_of_ble_eq_true rfl) (fun x21 f21 g21 j21 h r21 q21 hH hA => ?_)
    obtain ⟨q21, xf, xg, xj⟩ := q21
    rw [xj] at hH
    have ef417 := (xf 417 (by decide)).trans ef417
    have hfE := hfE.trans xf (by decide)
    have eg424 := (xg 424 (by decide)).trans eg424
    have eg10 := (xg 10 (by decide)).trans eg10
    have hgE := hgE.trans xg (by decide)
    have qL := q21
    have er := qL
    refine zc_iret (TX7_asked.at 12 rfl) rfl hH hA (by omega) ?_
    exact ⟨by first | exact er | exact (hN (by omega)).symm, hfE, hgE, rfl⟩
  · skip
    refine z_ldcw (v := -2000000000) (TX7_asked.at 3 rfl) k7_273 (by decide) ?_
    refine z_goto (tgt := 24) (TX7_asked.at 4 rfl) rfl ?_
    refine zc_iret (TX7_asked.at 12 rfl) rfl hH hA (by omega) ?_
    exact ⟨by first | exact er | exact (hN (by omega)).symm, hfE, hgE, rfl⟩

set_option maxHeartbeats 4000000 in
set_option maxRecDepth 100000 in
theorem c_isSo {l : Launch} {E : cE} {f : mF} {g j : mA} {C : Int → Int} {φ : Int → Int} {N : Int} {t r0 : Int} (eg424 : g 424 = C) (eg10 : g 10 = φ) (ef417 : f 417 = N) (ht : zIn t) (N4 : N ≤ 400) (hQa : t ≠ -1 → (0 ≤ t ∧ t ≤ 400) ∧ Ask C N φ t [] r0) : CM l E MX7_isSo 2 [.ref (E.1 31), .ref (E.1 447), vI t] f g j (PI (fun r f' g' j' => (r = b2i (t = -1 ∨ (r0 ≠ -2000000000 ∧ r0 ≠ 0))) ∧ eqx [] f f' ∧ eqx [320] g g' ∧ j' = j)) := by
  refine CM.intro [some (.ref (E.1 31)), some (.ref (E.1 447)), some (vI t), none] (by decide) (Nat.le_of_ble_eq_true rfl) rfl (fun d hd h0 h hH hA => ?_)
  have hfE : eqx [] f f := eqx.rf
  have hgE : eqx [320] g g := eqx.rf
  refine z_ild_2 (TX7_isSo.at 0 rfl) ?_
  refine z_iconst (TX7_isSo.at 1 rfl) ?_
  refine z_icmp_ne (tgt := 7) (TX7_isSo.at 2 rfl) rfl (by omega) (by omega) (fun c1 => ?_) (fun c1 => ?_)
  · skip
    refine z_ald_0 (TX7_isSo.at 5 rfl) ?_
    refine zc_getO (m := 0) (s := 8) (k := 351) (hH.lv (by decide)) (TX7_isSo.at 6 rfl) fl7_53 hH rfl rfl (by decide) (by decide) ?_
    refine z_ald_1 (TX7_isSo.at 7 rfl) ?_
    refine z_ild_2 (TX7_isSo.at 8 rfl) ?_
    refine z_ald_0 (TX7_isSo.at 9 rfl) ?_
    refine zc_getA (m := 0) (s := 10) (k := 10) (hH.lv (by decide)) (TX7_isSo.at 10 rfl) fl7_64 hH rfl rfl (by decide) (by decide) ?_
    refine zc_callI3 (m := 10) (c_ask10 (m := 13) (hH.lv (by decide)) rfl (by decide) (by rw [hH.2.2.2.2.1 424 (by decide)]; exact N4) N4 eg424 eg10 ef417 (hQa (by omega)).1.1 (hQa (by omega)).1.2 (hQa (by omega)).2) (hH.lv (by decide)) (TX7_isSo.at 11 rfl) c7_269 rfl rfl hH hA (by omega) (Nat.le_of_ble_eq_true rfl) (fun x17 f17 g17 j17 h r17 q17 hH hA => ?_)
    obtain ⟨q17, xf, xg, xj⟩ := q17
    rw [xj] at hH
    have ef417 := (xf 417 (by decide)).trans ef417
    have hfE := hfE.trans xf (by decide)
    have eg424 := (xg 424 (by decide)).trans eg424
    have eg10 := (xg 10 (by decide)).trans eg10
    have hgE := hgE.trans xg (by decide)
    have qL := q17
    have er := qL
    refine z_ist_3 (TX7_isSo.at 12 rfl) (Nat.le_of_ble_eq_true rfl) rfl ?_
    refine z_ild_3 (TX7_isSo.at 13 rfl) ?_
    refine z_ldcw (v := -2000000000) (TX7_isSo.at 14 rfl) k7_273 (by decide) ?_
    refine z_icmp_eq (tgt := 36) (TX7_isSo.at 15 rfl) rfl (by omega) (by omega) (fun c2 => ?_) (fun c2 => ?_)
    · skip
      refine z_iconst (TX7_isSo.at 20 rfl) ?_
      refine zc_zret (TX7_isSo.at 21 rfl) rfl hH hA (by first | omega | exact b2i_01 _) ?_
      exact ⟨by unfold b2i; split <;> omega, hfE, hgE, rfl⟩
    · skip
      refine z_ild_3 (TX7_isSo.at 16 rfl) ?_
      refine z_if_eq (tgt := 36) (TX7_isSo.at 17 rfl) rfl (by omega) (fun c3 => ?_) (fun c3 => ?_)
      · skip
        refine z_iconst (TX7_isSo.at 20 rfl) ?_
        refine zc_zret (TX7_isSo.at 21 rfl) rfl hH hA (by first | omega | exact b2i_01 _) ?_
        exact ⟨by unfold b2i; split <;> omega, hfE, hgE, rfl⟩
      · skip
        refine z_iconst (TX7_isSo.at 18 rfl) ?_
        refine z_goto (tgt := 37) (TX7_isSo.at 19 rfl) rfl ?_
        refine zc_zret (TX7_isSo.at 21 rfl) rfl hH hA (by first | omega | exact b2i_01 _) ?_
        exact ⟨by unfold b2i; split <;> omega, hfE, hgE, rfl⟩
  · skip
    refine z_iconst (TX7_isSo.at 3 rfl) ?_
    refine zc_zret (TX7_isSo.at 4 rfl) rfl hH hA (by first | omega | exact b2i_01 _) ?_
    exact ⟨by unfold b2i; split <;> omega, hfE, hgE, rfl⟩

