/-! ===== the class itself: answers, refusals, ties, letters ===== -/
def bumC (R : Int → Int) (k : Int) : Int → Int := iu R (-k - 1) (R (-k - 1) + 1)
def mT (w : Int) : Int := if w = 0 then 999 else if w = 1 then 10 else 9
set_option maxHeartbeats 4000000 in
set_option maxRecDepth 100000 in
theorem c_refused {l : Launch} {E : cE} {f : mF} {g j : mA} {Rf : Int → Int} {st : Int} {k : Int}  (eg11 : g 11 = Rf) (ef16 : f 16 = st) (hk : zIn k) (k0 : -6 ≤ k) (k1 : k ≤ -1) (hb : ∀ i, Rf i ≤ 100000) : CM l E MX7_refused 0 [.ref (E.1 31), vI k] f g j (PI (fun r f' g' j' => (r = k ∧ f' 16 = k ∧ g' 11 = bumC Rf k) ∧ eqx [16] f f' ∧ eqx [11] g g' ∧ j' = j)) := by
  refine CM.intro [some (.ref (E.1 31)), some (vI k)] (by decide) (Nat.le_of_ble_eq_true rfl) rfl (fun d hd h0 h hH hA => ?_)
  have hfE : eqx [16] f f := eqx.rf
  have hgE : eqx [11] g g := eqx.rf
  have hb0 := hb (-k - 1)
  refine z_ald_0 (TX7_refused.at 0 rfl) ?_
  refine z_ild_1 (TX7_refused.at 1 rfl) ?_
  refine zc_putI (m := 0) (s := 16) (k := 16) (hH.lv (by decide)) (TX7_refused.at 2 rfl) fp7_85 hH hA rfl rfl (by decide) (by decide) (by first | omega | exact b2i_01 _) (fun h f2 e1 e2 hH hA => ?_)
  have ef16 := e2
  have hfE := hfE.put e1 (by decide)
  refine z_ild_1 (TX7_refused.at 3 rfl) ?_
  refine z_if_ge (tgt := 28) (TX7_refused.at 4 rfl) rfl (by omega) (fun c1 => absurd c1 (by omega)) (fun c1 => ?_)
  refine z_ild_1 (TX7_refused.at 5 rfl) ?_
  refine z_bipush (by decide) (TX7_refused.at 6 rfl) ?_
  refine z_icmp_lt (tgt := 28) (TX7_refused.at 7 rfl) rfl (by omega) (by omega) (fun c2 => absurd c2 (by omega)) (fun c2 => ?_)
  refine z_ald_0 (TX7_refused.at 8 rfl) ?_
  refine zc_getA (m := 0) (s := 11) (k := 11) (hH.lv (by decide)) (TX7_refused.at 9 rfl) fl7_68 hH rfl rfl (by decide) (by decide) ?_
  refine z_ild_1 (TX7_refused.at 10 rfl) ?_
  refine z_ineg (TX7_refused.at 11 rfl) ?_
  refine z_iconst (TX7_refused.at 12 rfl) ?_
  refine z_isub (TX7_refused.at 13 rfl) ?_
  refine z_dup2 rfl rfl (TX7_refused.at 14 rfl) ?_
  refine zcf_iald (k := 11) (N := 6) (hH.lv (by decide)) (by decide) rfl eg11 (TX7_refused.at 15 rfl) hH (by decide) (by omega) (show _ < ((6 : Nat) : Int) by omega) (fun r24 => ?_)
  refine z_iconst (TX7_refused.at 16 rfl) ?_
  refine z_iadd (TX7_refused.at 17 rfl) ?_
  refine zcf_iast (k := 11) (N := 6) (hH.lv (by decide)) (by decide) rfl (TX7_refused.at 18 rfl) hH hA (by decide) (by omega) (show _ < ((6 : Nat) : Int) by omega) (by omega) (fun h g27 e1 e2 hH hA => ?_)
  rw [eg11] at e2; have eg11 := e2
  have hgE := hgE.put e1 (by decide)
  refine z_ild_1 (TX7_refused.at 19 rfl) ?_
  refine zc_iret (TX7_refused.at 20 rfl) rfl hH hA (by omega) ?_
  exact ⟨⟨rfl, ef16, eg11⟩, hfE, hgE, rfl⟩

set_option maxHeartbeats 4000000 in
set_option maxRecDepth 100000 in
theorem c_answered {l : Launch} {E : cE} {f : mF} {g j : mA} {st : Int} {k : Int}  (ef16 : f 16 = st) (hk : zIn k) : CM l E MX7_answered 0 [.ref (E.1 31), vI k] f g j (PI (fun r f' g' j' => (r = k ∧ f' 16 = 0) ∧ eqx [16] f f' ∧ eqx [] g g' ∧ j' = j)) := by
  refine CM.intro [some (.ref (E.1 31)), some (vI k)] (by decide) (Nat.le_of_ble_eq_true rfl) rfl (fun d hd h0 h hH hA => ?_)
  have hfE : eqx [16] f f := eqx.rf
  have hgE : eqx [] g g := eqx.rf
  refine z_ald_0 (TX7_answered.at 0 rfl) ?_
  refine z_iconst (TX7_answered.at 1 rfl) ?_
  refine zc_putI (m := 0) (s := 16) (k := 16) (hH.lv (by decide)) (TX7_answered.at 2 rfl) fp7_85 hH hA rfl rfl (by decide) (by decide) (by first | omega | exact b2i_01 _) (fun h f2 e1 e2 hH hA => ?_)
  have ef16 := e2
  have hfE := hfE.put e1 (by decide)
  refine z_ild_1 (TX7_answered.at 3 rfl) ?_
  refine zc_iret (TX7_answered.at 4 rfl) rfl hH hA (by omega) ?_
  exact ⟨⟨rfl, ef16⟩, hfE, hgE, rfl⟩

set_option maxHeartbeats 4000000 in
set_option maxRecDepth 100000 in
theorem c_aor {l : Launch} {E : cE} {f : mF} {g j : mA} {Rf : Int → Int} {st : Int} {k : Int}  (eg11 : g 11 = Rf) (ef16 : f 16 = st) (hk : zIn k) (k0 : -6 ≤ k) (hb : ∀ i, Rf i ≤ 100000) : CM l E MX7_answeredOrRefused 1 [.ref (E.1 31), vI k] f g j (PI (fun r f' g' j' => (r = k ∧ f' 16 = (if k < 0 then k else 0) ∧ g' 11 = (if k < 0 then bumC Rf k else Rf)) ∧ eqx [16] f f' ∧ eqx [11] g g' ∧ j' = j)) := by
  refine CM.intro [some (.ref (E.1 31)), some (vI k)] (by decide) (Nat.le_of_ble_eq_true rfl) rfl (fun d hd h0 h hH hA => ?_)
  have hfE : eqx [16] f f := eqx.rf
  have hgE : eqx [11] g g := eqx.rf
  refine z_ild_1 (TX7_answeredOrRefused.at 0 rfl) ?_
  refine z_if_ge (tgt := 12) (TX7_answeredOrRefused.at 1 rfl) rfl (by omega) (fun c1 => ?_) (fun c1 => ?_)
  · skip
    refine z_ald_0 (TX7_answeredOrRefused.at 6 rfl) ?_
    refine z_ild_1 (TX7_answeredOrRefused.at 7 rfl) ?_
    refine zc_callI1 (m := 0) (c_answered ef16 (by omega)) (hH.lv (by decide)) (TX7_answeredOrRefused.at 8 rfl) c7_106 rfl rfl hH hA (by omega) (Nat.le_of_ble_eq_true rfl) (fun x14 f14 g14 j14 h r14 q14 hH hA => ?_)
    obtain ⟨q14, xf, xg, xj⟩ := q14
    rw [xj] at hH
    have hfE := hfE.trans xf (by decide)
    have eg11 := (xg 11 (by decide)).trans eg11
    have hgE := hgE.trans xg (by decide)
    have qL := q14
    have ef16 := qL.2
    have qe := qL.1.symm
    subst qe
    refine zc_iret (TX7_answeredOrRefused.at 9 rfl) rfl hH hA (by omega) ?_
    exact ⟨by first | (have hw : k < 0 := (by omega); rw [if_pos hw, if_pos hw]; exact ⟨rfl, ef16, eg11⟩) | (have hw : ¬ k < 0 := (by omega); rw [if_neg hw, if_neg hw]; exact ⟨rfl, ef16, eg11⟩), hfE, hgE, rfl⟩
  · skip
    refine z_ald_0 (TX7_answeredOrRefused.at 2 rfl) ?_
    refine z_ild_1 (TX7_answeredOrRefused.at 3 rfl) ?_
    refine zc_callI1 (m := 0) (c_refused eg11 ef16 (by omega) (by omega) (by omega) hb) (hH.lv (by decide)) (TX7_answeredOrRefused.at 4 rfl) c7_92 rfl rfl hH hA (by omega) (Nat.le_of_ble_eq_true rfl) (fun x6 f6 g6 j6 h r6 q6 hH hA => ?_)
    obtain ⟨q6, xf, xg, xj⟩ := q6
    rw [xj] at hH
    have hfE := hfE.trans xf (by decide)
    have hgE := hgE.trans xg (by decide)
    have qL := q6
    have ef16 := qL.2.1
    have eg11 := qL.2.2
    have qe := qL.1.symm
    subst qe
    refine z_goto (tgt := 17) (TX7_answeredOrRefused.at 5 rfl) rfl ?_
    refine zc_iret (TX7_answeredOrRefused.at 9 rfl) rfl hH hA (by omega) ?_
    exact ⟨by first | (have hw : k < 0 := (by omega); rw [if_pos hw, if_pos hw]; exact ⟨rfl, ef16, eg11⟩) | (have hw : ¬ k < 0 := (by omega); rw [if_neg hw, if_neg hw]; exact ⟨rfl, ef16, eg11⟩), hfE, hgE, rfl⟩

set_option maxHeartbeats 4000000 in
set_option maxRecDepth 100000 in
theorem c_mostT {l : Launch} {w : Int} (w0 : 0 ≤ w) (w2 : w ≤ 2) : SI l MX7_mostOfTerm 0 [vI w] (mT w) := by
  refine SI.intro [some (vI w)] (by unfold mT; split; decide; split <;> decide) (by decide) (Nat.le_of_ble_eq_true rfl) rfl (fun d hd h => ?_)
  refine z_ild_0 (TX7_mostOfTerm.at 0 rfl) ?_
  rcases (show w = 0 ∨ w = 1 ∨ w = 2 by omega) with rfl | rfl | rfl
  · refine z_lksw (off := 27) (tgt := 28) (TX7_mostOfTerm.at 1 rfl) (by decide) rfl rfl rfl ?_
    refine z_sipush (by decide) (TX7_mostOfTerm.at 2 rfl) ?_
    exact zs_iret (TX7_mostOfTerm.at 3 rfl) rfl rfl
  · refine z_lksw (off := 31) (tgt := 32) (TX7_mostOfTerm.at 1 rfl) (by decide) rfl rfl rfl ?_
    refine z_bipush (by decide) (TX7_mostOfTerm.at 4 rfl) ?_
    exact zs_iret (TX7_mostOfTerm.at 5 rfl) rfl rfl
  · refine z_lksw (off := 34) (tgt := 35) (TX7_mostOfTerm.at 1 rfl) (by decide) rfl rfl rfl ?_
    refine z_bipush (by decide) (TX7_mostOfTerm.at 6 rfl) ?_
    exact zs_iret (TX7_mostOfTerm.at 7 rfl) rfl rfl

set_option maxHeartbeats 4000000 in
set_option maxRecDepth 100000 in
theorem c_letter {l : Launch} {E : cE} {f : mF} {g j : mA} {Rf : Int → Int} {Lt : Int → Int} {st : Int} {lt : Int} {s : Int}  (eg11 : g 11 = Rf) (eg40 : g 40 = Lt) (ef16 : f 16 = st) (ef39 : f 39 = lt) (hs : zIn s) (hb : ∀ i, Rf i ≤ 100000) (l0 : 0 ≤ lt) (l3 : lt ≤ 3) : CM l E MX7_letter 1 [.ref (E.1 31), vI s] f g j (PI (fun r f' g' j' => ((¬ (0 ≤ s ∧ s ≤ 1023) ∧ r = -1 ∧ f' 16 = -1 ∧ g' 11 = bumC Rf (-1) ∧ f' 39 = lt ∧ g' 40 = Lt) ∨ ((0 ≤ s ∧ s ≤ 1023) ∧ 3 ≤ lt ∧ r = -5 ∧ f' 16 = -5 ∧ g' 11 = bumC Rf (-5) ∧ f' 39 = lt ∧ g' 40 = Lt) ∨ ((0 ≤ s ∧ s ≤ 1023) ∧ lt < 3 ∧ r = lt ∧ f' 16 = 0 ∧ g' 11 = Rf ∧ f' 39 = lt + 1 ∧ g' 40 = iu Lt lt s)) ∧ eqx [16, 39] f f' ∧ eqx [11, 40] g g' ∧ j' = j)) := by
  refine CM.intro [some (.ref (E.1 31)), some (vI s)] (by decide) (Nat.le_of_ble_eq_true rfl) rfl (fun d hd h0 h hH hA => ?_)
  have hfE : eqx [16, 39] f f := eqx.rf
  have hgE : eqx [11, 40] g g := eqx.rf
  refine z_ild_1 (TX7_letter.at 0 rfl) ?_
  refine z_if_lt (tgt := 11) (TX7_letter.at 1 rfl) rfl (by omega) (fun c1 => ?_) (fun c1 => ?_)
  · skip
    refine z_ald_0 (TX7_letter.at 5 rfl) ?_
    refine z_iconst (TX7_letter.at 6 rfl) ?_
    refine zc_callI1 (m := 0) (c_refused eg11 ef16 (by omega) (by omega) (by omega) hb) (hH.lv (by decide)) (TX7_letter.at 7 rfl) c7_92 rfl rfl hH hA (by omega) (Nat.le_of_ble_eq_true rfl) (fun x13 f13 g13 j13 h r13 q13 hH hA => ?_)
    obtain ⟨q13, xf, xg, xj⟩ := q13
    rw [xj] at hH
    have ef39 := (xf 39 (by decide)).trans ef39
    have hfE := hfE.trans xf (by decide)
    have eg40 := (xg 40 (by decide)).trans eg40
    have hgE := hgE.trans xg (by decide)
    have qL := q13
    have ef16 := qL.2.1
    have eg11 := qL.2.2
    have qe := qL.1.symm
    subst qe
    refine zc_iret (TX7_letter.at 8 rfl) rfl hH hA (by omega) ?_
    exact ⟨Or.inl ⟨by omega, rfl, ef16, eg11, ef39, eg40⟩, hfE, hgE, rfl⟩
  · skip
    refine z_ild_1 (TX7_letter.at 2 rfl) ?_
    refine z_sipush (by decide) (TX7_letter.at 3 rfl) ?_
    refine z_icmp_le (tgt := 17) (TX7_letter.at 4 rfl) rfl (by omega) (by omega) (fun c2 => ?_) (fun c2 => ?_)
    · skip
      refine z_ald_0 (TX7_letter.at 9 rfl) ?_
      refine zc_getO (m := 0) (s := 0) (k := 63) (hH.lv (by decide)) (TX7_letter.at 10 rfl) fl7_12 hH rfl rfl (by decide) (by decide) ?_
      refine zc_getIE (m := 1) (s := 7) (k := 39) (hH.lv (by decide)) ef39 (TX7_letter.at 11 rfl) fl7_169 hH rfl rfl (by decide) (by decide) (fun r21 => ?_)
      refine z_iconst (TX7_letter.at 12 rfl) ?_
      refine z_icmp_lt (tgt := 35) (TX7_letter.at 13 rfl) rfl (by omega) (by omega) (fun c3 => ?_) (fun c3 => ?_)
      · skip
        refine z_ald_0 (TX7_letter.at 18 rfl) ?_
        refine zc_getO (m := 0) (s := 0) (k := 63) (hH.lv (by decide)) (TX7_letter.at 19 rfl) fl7_12 hH rfl rfl (by decide) (by decide) ?_
        refine zc_getA (m := 1) (s := 8) (k := 40) (hH.lv (by decide)) (TX7_letter.at 20 rfl) fl7_172 hH rfl rfl (by decide) (by decide) ?_
        refine z_ald_0 (TX7_letter.at 21 rfl) ?_
        refine zc_getO (m := 0) (s := 0) (k := 63) (hH.lv (by decide)) (TX7_letter.at 22 rfl) fl7_12 hH rfl rfl (by decide) (by decide) ?_
        refine zc_getIE (m := 1) (s := 7) (k := 39) (hH.lv (by decide)) ef39 (TX7_letter.at 23 rfl) fl7_169 hH rfl rfl (by decide) (by decide) (fun r46 => ?_)
        refine z_ild_1 (TX7_letter.at 24 rfl) ?_
        refine zcf_iast (k := 40) (N := 3) (hH.lv (by decide)) (by decide) rfl (TX7_letter.at 25 rfl) hH hA (by decide) (by omega) (show _ < ((3 : Nat) : Int) by omega) (by omega) (fun h g50 e1 e2 hH hA => ?_)
        have eg11 := (e1 11 (by decide)).trans eg11
        rw [eg40] at e2; have eg40 := e2
        have hgE := hgE.put e1 (by decide)
        refine z_ald_0 (TX7_letter.at 26 rfl) ?_
        refine zc_getO (m := 0) (s := 0) (k := 63) (hH.lv (by decide)) (TX7_letter.at 27 rfl) fl7_12 hH rfl rfl (by decide) (by decide) ?_
        refine z_dup rfl (TX7_letter.at 28 rfl) ?_
        refine zc_getIE (m := 1) (s := 7) (k := 39) (hH.lv (by decide)) ef39 (TX7_letter.at 29 rfl) fl7_169 hH rfl rfl (by decide) (by decide) (fun r56 => ?_)
        refine z_iconst (TX7_letter.at 30 rfl) ?_
        refine z_iadd (TX7_letter.at 31 rfl) ?_
        refine zc_putI (m := 1) (s := 7) (k := 39) (hH.lv (by decide)) (TX7_letter.at 32 rfl) fp7_169 hH hA rfl rfl (by decide) (by decide) (by first | omega | exact b2i_01 _) (fun h f61 e1 e2 hH hA => ?_)
        have ef16 := (e1 16 (by decide)).trans ef16
        have ef39 := e2
        have hfE := hfE.put e1 (by decide)
        refine z_ald_0 (TX7_letter.at 33 rfl) ?_
        refine z_ald_0 (TX7_letter.at 34 rfl) ?_
        refine zc_getO (m := 0) (s := 0) (k := 63) (hH.lv (by decide)) (TX7_letter.at 35 rfl) fl7_12 hH rfl rfl (by decide) (by decide) ?_
        refine zc_getIE (m := 1) (s := 7) (k := 39) (hH.lv (by decide)) ef39 (TX7_letter.at 36 rfl) fl7_169 hH rfl rfl (by decide) (by decide) (fun r69 => ?_)
        refine z_iconst (TX7_letter.at 37 rfl) ?_
        refine z_isub (TX7_letter.at 38 rfl) ?_
        refine zc_callI1 (m := 0) (c_answered ef16 (by omega)) (hH.lv (by decide)) (TX7_letter.at 39 rfl) c7_106 rfl rfl hH hA (by omega) (Nat.le_of_ble_eq_true rfl) (fun x74 f74 g74 j74 h r74 q74 hH hA => ?_)
        obtain ⟨q74, xf, xg, xj⟩ := q74
        rw [xj] at hH
        have ef39 := (xf 39 (by decide)).trans ef39
        have hfE := hfE.trans xf (by decide)
        have eg11 := (xg 11 (by decide)).trans eg11
        have eg40 := (xg 40 (by decide)).trans eg40
        have hgE := hgE.trans xg (by decide)
        have qL := q74
        have ef16 := qL.2
        have qe := qL.1.symm
        subst qe
        refine zc_iret (TX7_letter.at 40 rfl) rfl hH hA (by omega) ?_
        exact ⟨Or.inr (Or.inr ⟨by omega, by omega, by omega, ef16, eg11, ef39, eg40⟩), hfE, hgE, rfl⟩
      · skip
        refine z_ald_0 (TX7_letter.at 14 rfl) ?_
        refine z_bipush (by decide) (TX7_letter.at 15 rfl) ?_
        refine zc_callI1 (m := 0) (c_refused eg11 ef16 (by omega) (by omega) (by omega) hb) (hH.lv (by decide)) (TX7_letter.at 16 rfl) c7_92 rfl rfl hH hA (by omega) (Nat.le_of_ble_eq_true rfl) (fun x31 f31 g31 j31 h r31 q31 hH hA => ?_)
        obtain ⟨q31, xf, xg, xj⟩ := q31
        rw [xj] at hH
        have ef39 := (xf 39 (by decide)).trans ef39
        have hfE := hfE.trans xf (by decide)
        have eg40 := (xg 40 (by decide)).trans eg40
        have hgE := hgE.trans xg (by decide)
        have qL := q31
        have ef16 := qL.2.1
        have eg11 := qL.2.2
        have qe := qL.1.symm
        subst qe
        refine zc_iret (TX7_letter.at 17 rfl) rfl hH hA (by omega) ?_
        exact ⟨Or.inr (Or.inl ⟨by omega, by omega, rfl, ef16, eg11, ef39, eg40⟩), hfE, hgE, rfl⟩
    · skip
      refine z_ald_0 (TX7_letter.at 5 rfl) ?_
      refine z_iconst (TX7_letter.at 6 rfl) ?_
      refine zc_callI1 (m := 0) (c_refused eg11 ef16 (by omega) (by omega) (by omega) hb) (hH.lv (by decide)) (TX7_letter.at 7 rfl) c7_92 rfl rfl hH hA (by omega) (Nat.le_of_ble_eq_true rfl) (fun x13 f13 g13 j13 h r13 q13 hH hA => ?_)
      obtain ⟨q13, xf, xg, xj⟩ := q13
      rw [xj] at hH
      have ef39 := (xf 39 (by decide)).trans ef39
      have hfE := hfE.trans xf (by decide)
      have eg40 := (xg 40 (by decide)).trans eg40
      have hgE := hgE.trans xg (by decide)
      have qL := q13
      have ef16 := qL.2.1
      have eg11 := qL.2.2
      have qe := qL.1.symm
      subst qe
      refine zc_iret (TX7_letter.at 8 rfl) rfl hH hA (by omega) ?_
      exact ⟨Or.inl ⟨by omega, rfl, ef16, eg11, ef39, eg40⟩, hfE, hgE, rfl⟩

set_option maxHeartbeats 4000000 in
set_option maxRecDepth 100000 in
theorem c_terms {l : Launch} {E : cE} {f : mF} {g j : mA} {Rf : Int → Int} {Tm : Int → Int} {st : Int} {kp : Int} {w v : Int}  (eg11 : g 11 = Rf) (eg44 : g 44 = Tm) (ef16 : f 16 = st) (ef192 : f 192 = kp) (hw : zIn w) (hv : zIn v) (hb : ∀ i, Rf i ≤ 100000) : CM l E MX7_terms 1 [.ref (E.1 31), vI w, vI v] f g j (PI (fun r f' g' j' => ((¬ ((0 ≤ w ∧ w ≤ 2) ∧ 0 ≤ v ∧ v ≤ mT w) ∧ r = -1 ∧ f' 16 = -1 ∧ g' 11 = bumC Rf (-1) ∧ g' 44 = Tm ∧ f' 192 = kp) ∨ (((0 ≤ w ∧ w ≤ 2) ∧ 0 ≤ v ∧ v ≤ mT w) ∧ r = Tm w ∧ f' 16 = 0 ∧ g' 11 = Rf ∧ g' 44 = iu Tm w v ∧ f' 192 = 0)) ∧ eqx [16, 192] f f' ∧ eqx [11, 44] g g' ∧ j' = j)) := by
  refine CM.intro [some (.ref (E.1 31)), some (vI w), some (vI v), none] (by decide) (Nat.le_of_ble_eq_true rfl) rfl (fun d hd h0 h hH hA => ?_)
  have hfE : eqx [16, 192] f f := eqx.rf
  have hgE : eqx [11, 44] g g := eqx.rf
  refine z_ild_1 (TX7_terms.at 0 rfl) ?_
  refine z_if_lt (tgt := 21) (TX7_terms.at 1 rfl) rfl (by omega) (fun c1 => ?_) (fun c1 => ?_)
  · skip
    refine z_ald_0 (TX7_terms.at 11 rfl) ?_
    refine z_iconst (TX7_terms.at 12 rfl) ?_
    refine zc_callI1 (m := 0) (c_refused eg11 ef16 (by omega) (by omega) (by omega) hb) (hH.lv (by decide)) (TX7_terms.at 13 rfl) c7_92 rfl rfl hH hA (by omega) (Nat.le_of_ble_eq_true rfl) (fun x23 f23 g23 j23 h r23 q23 hH hA => ?_)
    obtain ⟨q23, xf, xg, xj⟩ := q23
    rw [xj] at hH
    have ef192 := (xf 192 (by decide)).trans ef192
    have hfE := hfE.trans xf (by decide)
    have eg44 := (xg 44 (by decide)).trans eg44
    have hgE := hgE.trans xg (by decide)
    have qL := q23
    have ef16 := qL.2.1
    have eg11 := qL.2.2
    have qe := qL.1.symm
    subst qe
    refine zc_iret (TX7_terms.at 14 rfl) rfl hH hA (by omega) ?_
    exact ⟨Or.inl ⟨by omega, rfl, ef16, eg11, eg44, ef192⟩, hfE, hgE, rfl⟩
  · skip
    refine z_ild_1 (TX7_terms.at 2 rfl) ?_
    refine z_iconst (TX7_terms.at 3 rfl) ?_
    refine z_icmp_ge (tgt := 21) (TX7_terms.at 4 rfl) rfl (by omega) (by omega) (fun c2 => ?_) (fun c2 => ?_)
    · skip
      refine z_ald_0 (TX7_terms.at 11 rfl) ?_
      refine z_iconst (TX7_terms.at 12 rfl) ?_
      refine zc_callI1 (m := 0) (c_refused eg11 ef16 (by omega) (by omega) (by omega) hb) (hH.lv (by decide)) (TX7_terms.at 13 rfl) c7_92 rfl rfl hH hA (by omega) (Nat.le_of_ble_eq_true rfl) (fun x23 f23 g23 j23 h r23 q23 hH hA => ?_)
      obtain ⟨q23, xf, xg, xj⟩ := q23
      rw [xj] at hH
      have ef192 := (xf 192 (by decide)).trans ef192
      have hfE := hfE.trans xf (by decide)
      have eg44 := (xg 44 (by decide)).trans eg44
      have hgE := hgE.trans xg (by decide)
      have qL := q23
      have ef16 := qL.2.1
      have eg11 := qL.2.2
      have qe := qL.1.symm
      subst qe
      refine zc_iret (TX7_terms.at 14 rfl) rfl hH hA (by omega) ?_
      exact ⟨Or.inl ⟨by omega, rfl, ef16, eg11, eg44, ef192⟩, hfE, hgE, rfl⟩
    · skip
      refine z_ild_2 (TX7_terms.at 5 rfl) ?_
      refine z_if_lt (tgt := 21) (TX7_terms.at 6 rfl) rfl (by omega) (fun c3 => ?_) (fun c3 => ?_)
      · skip
        refine z_ald_0 (TX7_terms.at 11 rfl) ?_
        refine z_iconst (TX7_terms.at 12 rfl) ?_
        refine zc_callI1 (m := 0) (c_refused eg11 ef16 (by omega) (by omega) (by omega) hb) (hH.lv (by decide)) (TX7_terms.at 13 rfl) c7_92 rfl rfl hH hA (by omega) (Nat.le_of_ble_eq_true rfl) (fun x23 f23 g23 j23 h r23 q23 hH hA => ?_)
        obtain ⟨q23, xf, xg, xj⟩ := q23
        rw [xj] at hH
        have ef192 := (xf 192 (by decide)).trans ef192
        have hfE := hfE.trans xf (by decide)
        have eg44 := (xg 44 (by decide)).trans eg44
        have hgE := hgE.trans xg (by decide)
        have qL := q23
        have ef16 := qL.2.1
        have eg11 := qL.2.2
        have qe := qL.1.symm
        subst qe
        refine zc_iret (TX7_terms.at 14 rfl) rfl hH hA (by omega) ?_
        exact ⟨Or.inl ⟨by omega, rfl, ef16, eg11, eg44, ef192⟩, hfE, hgE, rfl⟩
      · skip
        refine z_ild_2 (TX7_terms.at 7 rfl) ?_
        refine z_ild_1 (TX7_terms.at 8 rfl) ?_
        refine zs_call1 (c_mostT (by omega) (by omega)) (TX7_terms.at 9 rfl) c7_175 rfl (by omega) (Nat.le_of_ble_eq_true rfl) (fun r15 => ?_)
        refine z_icmp_le (tgt := 27) (TX7_terms.at 10 rfl) rfl (by omega) (by omega) (fun c4 => ?_) (fun c4 => ?_)
        · skip
          refine z_ald_0 (TX7_terms.at 15 rfl) ?_
          refine zc_getO (m := 0) (s := 0) (k := 63) (hH.lv (by decide)) (TX7_terms.at 16 rfl) fl7_12 hH rfl rfl (by decide) (by decide) ?_
          refine zc_getA (m := 1) (s := 12) (k := 44) (hH.lv (by decide)) (TX7_terms.at 17 rfl) fl7_178 hH rfl rfl (by decide) (by decide) ?_
          refine z_ild_1 (TX7_terms.at 18 rfl) ?_
          refine zcf_iald (k := 44) (N := 3) (hH.lv (by decide)) (by decide) rfl eg44 (TX7_terms.at 19 rfl) hH (by decide) (by omega) (show _ < ((3 : Nat) : Int) by omega) (fun r35 => ?_)
          refine z_ist_3 (TX7_terms.at 20 rfl) (Nat.le_of_ble_eq_true rfl) rfl ?_
          refine z_ald_0 (TX7_terms.at 21 rfl) ?_
          refine zc_getO (m := 0) (s := 0) (k := 63) (hH.lv (by decide)) (TX7_terms.at 22 rfl) fl7_12 hH rfl rfl (by decide) (by decide) ?_
          refine zc_getA (m := 1) (s := 12) (k := 44) (hH.lv (by decide)) (TX7_terms.at 23 rfl) fl7_178 hH rfl rfl (by decide) (by decide) ?_
          refine z_ild_1 (TX7_terms.at 24 rfl) ?_
          refine z_ild_2 (TX7_terms.at 25 rfl) ?_
          refine zcf_iast (k := 44) (N := 3) (hH.lv (by decide)) (by decide) rfl (TX7_terms.at 26 rfl) hH hA (by decide) (by omega) (show _ < ((3 : Nat) : Int) by omega) (by omega) (fun h g46 e1 e2 hH hA => ?_)
          have eg11 := (e1 11 (by decide)).trans eg11
          rw [eg44] at e2; have eg44 := e2
          have hgE := hgE.put e1 (by decide)
          refine z_ald_0 (TX7_terms.at 27 rfl) ?_
          refine zc_getO (m := 0) (s := 4) (k := 223) (hH.lv (by decide)) (TX7_terms.at 28 rfl) fl7_29 hH rfl rfl (by decide) (by decide) ?_
          refine z_iconst (TX7_terms.at 29 rfl) ?_
          refine zc_putI (m := 6) (s := 0) (k := 192) (hH.lv (by decide)) (TX7_terms.at 30 rfl) fp7_99 hH hA rfl rfl (by decide) (by decide) (by first | omega | exact b2i_01 _) (fun h f52 e1 e2 hH hA => ?_)
          have ef16 := (e1 16 (by decide)).trans ef16
          have ef192 := e2
          have hfE := hfE.put e1 (by decide)
          refine z_ald_0 (TX7_terms.at 31 rfl) ?_
          refine z_ild_3 (TX7_terms.at 32 rfl) ?_
          refine zc_callI1 (m := 0) (c_answered ef16 (by omega)) (hH.lv (by decide)) (TX7_terms.at 33 rfl) c7_106 rfl rfl hH hA (by omega) (Nat.le_of_ble_eq_true rfl) (fun x57 f57 g57 j57 h r57 q57 hH hA => ?_)
          obtain ⟨q57, xf, xg, xj⟩ := q57
          rw [xj] at hH
          have ef192 := (xf 192 (by decide)).trans ef192
          have hfE := hfE.trans xf (by decide)
          have eg11 := (xg 11 (by decide)).trans eg11
          have eg44 := (xg 44 (by decide)).trans eg44
          have hgE := hgE.trans xg (by decide)
          have qL := q57
          have ef16 := qL.2
          have qe := qL.1.symm
          subst qe
          refine zc_iret (TX7_terms.at 34 rfl) rfl hH hA (by omega) ?_
          exact ⟨Or.inr ⟨by omega, rfl, ef16, eg11, eg44, ef192⟩, hfE, hgE, rfl⟩
        · skip
          refine z_ald_0 (TX7_terms.at 11 rfl) ?_
          refine z_iconst (TX7_terms.at 12 rfl) ?_
          refine zc_callI1 (m := 0) (c_refused eg11 ef16 (by omega) (by omega) (by omega) hb) (hH.lv (by decide)) (TX7_terms.at 13 rfl) c7_92 rfl rfl hH hA (by omega) (Nat.le_of_ble_eq_true rfl) (fun x23 f23 g23 j23 h r23 q23 hH hA => ?_)
          obtain ⟨q23, xf, xg, xj⟩ := q23
          rw [xj] at hH
          have ef192 := (xf 192 (by decide)).trans ef192
          have hfE := hfE.trans xf (by decide)
          have eg44 := (xg 44 (by decide)).trans eg44
          have hgE := hgE.trans xg (by decide)
          have qL := q23
          have ef16 := qL.2.1
          have eg11 := qL.2.2
          have qe := qL.1.symm
          subst qe
          refine zc_iret (TX7_terms.at 14 rfl) rfl hH hA (by omega) ?_
          exact ⟨Or.inl ⟨by omega, rfl, ef16, eg11, eg44, ef192⟩, hfE, hgE, rfl⟩

