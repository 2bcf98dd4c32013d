/-! ===== the reference: runs, orders, law ===== -/
section Ord
variable {cl : List Cla} {k : Cla} {K X : Int → Int} {u dn lt : Int}
theorem ordO_no (h : ¬ tellF.isSoB k.2.2.2.2 (phiO K cl dn lt) = true) : ordO cl k (K, X, u, dn, lt) = some (K, X, u, dn, lt) := if_neg h
theorem ordO_f1 (h : tellF.isSoB k.2.2.2.2 (phiO K cl dn lt) = true) (h2 : ¬ sOK k.1 k.2.1 k.2.2.1 (phiO K cl dn lt)) : ordO cl k (K, X, u, dn, lt) = none := (if_pos h).trans (if_neg h2)
theorem ordO_f2 (h : tellF.isSoB k.2.2.2.2 (phiO K cl dn lt) = true) (h2 : sOK k.1 k.2.1 k.2.2.1 (phiO K cl dn lt)) (h3 : (deed cl k.1 ((k.2.1 (phiO K cl dn lt)).getD 0) ((k.2.2.1 (phiO K cl dn lt)).getD 0) K X u).1 < 0) : ordO cl k (K, X, u, dn, lt) = none := (if_pos h).trans ((if_pos h2).trans (if_pos h3))
theorem ordO_t {r u' : Int} {K' X' : Int → Int} (h : tellF.isSoB k.2.2.2.2 (phiO K cl dn lt) = true) (h2 : sOK k.1 k.2.1 k.2.2.1 (phiO K cl dn lt)) (h3 : (r, K', X', u') = deed cl k.1 ((k.2.1 (phiO K cl dn lt)).getD 0) ((k.2.2.1 (phiO K cl dn lt)).getD 0) K X u) (h4 : 0 ≤ r) : ordO cl k (K, X, u, dn, lt) = some (K', X', u', dn + 1, if k.1 = 26 then r else lt) := by
  refine (if_pos h).trans ((if_pos h2).trans ?_)
  show (if (deed cl k.1 ((k.2.1 (phiO K cl dn lt)).getD 0) ((k.2.2.1 (phiO K cl dn lt)).getD 0) K X u).1 < 0 then none else some _) = _
  rw [← h3, if_neg (by simp only; omega)]
theorem ordT_s {n : Nat} {w w' : OS} (h : ordO cl k w = some w') : ordT cl k (n + 1) w = ordT cl k n w' := by rw [ordT, h]
theorem deed_cg {s1 s2 s1' s2' vb : Int} (h1 : vb ≠ 26 → s1 = s1') (h2 : vb = 24 → s2 = s2') : deed cl vb s1 s2 K X u = deed cl vb s1' s2' K X u := by
  unfold deed
  by_cases a : vb = 23
  · rw [if_pos a, if_pos a, h1 (by omega)]
  · rw [if_neg a, if_neg a]
    by_cases b : vb = 24
    · rw [if_pos b, if_pos b, h1 (by omega), h2 b]
    · rw [if_neg b, if_neg b]
      by_cases c : vb = 26
      · rw [if_pos c, if_pos c]
      · rw [if_neg c, if_neg c, h1 c]
end Ord
theorem pCla_29 {K K0 : Int → Int} {nt : Int} {t p t2 p2 : Nat} {k : Cla} (e : ∀ i, 29 ≤ i → K i = K0 i) (h : pCla false (cK K0 2400 nt) (vK K0 2400) t p = .ok (t2, p2, k)) : pCla false (cK K 2400 nt) (vK K 2400) t p = .ok (t2, p2, k) := by
  rw [pCla_cg (c := cK K 2400 nt) (v := vK K 2400) (c' := cK K0 2400 nt) (v' := vK K0 2400) (fun i hi => by unfold cK; rw [e _ (by omega)]) (fun i hi => by unfold vK; rw [e _ (by omega)])]
  exact h
set_option maxHeartbeats 4000000 in
set_option maxRecDepth 100000 in
theorem lp_runs {l : Launch} {o : Nat} {ar : Nat → Nat} {d : Nat} {Pz : Option Value → zH → Prop} {h0 : zH} {f0 : mF} {g0 : mA} {j0 : mA} (hd : 56 ≤ d) {K0 : Int → Int} {cl : List Cla} {k : Cla} {nt be B : Int} {t p t2 p2 : Nat} {w0 : OS} (hB : 0 ≤ B ∧ B ≤ 1000) (hbe : zIn be) (htm : 1 ≤ k.2.2.2.1 ∧ k.2.2.2.1 ≤ 20) (hL0 : LawK K0 cl) (n4 : nt ≤ 400) (n00 : 0 ≤ nt) (tn : (t : Int) < nt) (hcl : pCla false (cK K0 2400 nt) (vK K0 2400) t p = .ok (t2, p2, k)) (kx1 : ∀ (o4 : Option Value) (K' : Int → Int) (f : mF) (g j : mA) (h : zH), ordT cl k k.2.2.2.1.toNat w0 = none → g 2 = K' → (∀ i, 29 ≤ i → K' i = K0 i) → eqx [22, 23, 24, 25, 27, 28, 29, 33, 36, 42, 43, 44, 45] f0 f → eqx [2, 26, 30, 31, 32, 34] g0 g → eqx [46] j0 j → HM o ar f g j h → zAg o ar h0 h → Z l MX8_runs d 0 0 Pz 55 [some (.ref o), some (vI (2400 + nt)), some (vI k.2.2.2.1), some (vI be), o4] [] h 0 0) (kx2 : ∀ (o4 : Option Value) (K X : Int → Int) (u dn lt : Int) (f : mF) (g j : mA) (h : zH), ordT cl k k.2.2.2.1.toNat w0 = some (K, X, u, dn, lt) → OSok K0 (B + 20) (K, X, u, dn, lt) → g 2 = K → g 34 = X → f 36 = u → f 27 = dn → f 28 = lt → eqx [22, 23, 24, 25, 27, 28, 29, 33, 36, 42, 43, 44, 45] f0 f → eqx [2, 26, 30, 31, 32, 34] g0 g → eqx [46] j0 j → HM o ar f g j h → zAg o ar h0 h → Z l MX8_runs d 0 0 Pz 73 [some (.ref o), some (vI (2400 + nt)), some (vI k.2.2.2.1), some (vI be), o4] [] h 0 0)  : ∀ (n : Nat) (i : Int) (K : Int → Int) (X : Int → Int) (u : Int) (dn : Int) (lt : Int) (S : Int → Int) (f : mF) (g : mA) (j : mA) (h : zH) (i0 : 0 ≤ i) (i1 : i ≤ k.2.2.2.1) (i2 : k.2.2.2.1 < i + n) (hw : OSok K0 (B + i) (K, X, u, dn, lt)) (hT : ordT cl k k.2.2.2.1.toNat w0 = ordT cl k (k.2.2.2.1 - i).toNat (K, X, u, dn, lt)) (eg2 : g 2 = K) (eg34 : g 34 = X) (ej46 : j 46 = S) (ef27 : f 27 = dn) (ef28 : f 28 = lt) (ef36 : f 36 = u) (ef41 : f 41 = 2400 + (t : Int)) (hfE : eqx [22, 23, 24, 25, 27, 28, 29, 33, 36, 42, 43, 44, 45] f0 f) (hgE : eqx [2, 26, 30, 31, 32, 34] g0 g) (hjE : eqx [46] j0 j) (hH : HM o ar f g j h) (hA : zAg o ar h0 h), Z l MX8_runs d 0 0 Pz 19 [some (.ref o), some (vI (2400 + nt)), some (vI k.2.2.2.1), some (vI be), some (vI i)] [] h 0 0 := by
  intro n
  induction n with
  | zero => intro i K X u dn lt S f g j h i0 i1 i2 hw hT eg2 eg34 ej46 ef27 ef28 ef36 ef41 hfE hgE hjE hH hA; exfalso; omega
  | succ n ih =>
    intro i K X u dn lt S f g j h i0 i1 i2 hw hT eg2 eg34 ej46 ef27 ef28 ef36 ef41 hfE hgE hjE hH hA
    have hL := LawK_29 hL0 hw.2.1
    have hwb := hw.2.2.2
    simp only at hwb
    refine z_ild_4 (TX8_runs.at 12 rfl) ?_
    refine z_ild_2 (TX8_runs.at 13 rfl) ?_
    refine z_icmp_ge (tgt := 73) (TX8_runs.at 14 rfl) rfl (by omega) (by omega) (fun c1 => ?_) (fun c1 => ?_)
    · skip
      obtain rfl : i = k.2.2.2.1 := by omega
      rw [show (k.2.2.2.1 - k.2.2.2.1).toNat = 0 by omega] at hT
      exact kx2 _ K X u dn lt _ _ _ _ hT ⟨hw.1, hw.2.1, hw.2.2.1, by simp only; omega, hw.2.2.2.2⟩ eg2 eg34 ef36 ef27 ef28 hfE hgE hjE hH hA
    · skip
      refine z_ald_0 (TX8_runs.at 15 rfl) ?_
      refine z_ild_1 (TX8_runs.at 16 rfl) ?_
      refine z_iconst (TX8_runs.at 17 rfl) ?_
      refine zm_callV2 (m_goes1 (cl := cl) (φ := phiO K cl dn lt) (k := k) eg2 ej46 ef27 ef28 ef41 hw.1 hL phiO_ok n4 n00 tn (pCla_29 hw.2.1 hcl)) (TX8_runs.at 18 rfl) c8_468 rfl rfl hH hA (by omega) (Nat.le_of_ble_eq_true rfl) (fun f28 g28 j28 h q28 hH hA => ?_)
      obtain ⟨q28, xf, xg, xj⟩ := q28
      have ef27 := (xf 27 (by decide)).trans ef27
      have ef28 := (xf 28 (by decide)).trans ef28
      have ef36 := (xf 36 (by decide)).trans ef36
      have ef41 := (xf 41 (by decide)).trans ef41
      have hfE := hfE.trans xf (by decide)
      have eg2 := (xg 2 (by decide)).trans eg2
      have eg34 := (xg 34 (by decide)).trans eg34
      have hgE := hgE.trans xg (by decide)
      have hjE := hjE.trans xj (by decide)
      have qL := q28
      obtain ⟨q43, q42, q22, q44, q45, qlv⟩ := qL
      have qlv := qlv rfl
      obtain ⟨S2, ej46⟩ : ∃ z, j28 46 = z := ⟨_, rfl⟩
      rw [ej46] at qlv
      have ef43 := q43
      obtain ⟨a44, ef44⟩ : ∃ z, f28 44 = z := ⟨_, rfl⟩
      obtain ⟨a45, ef45⟩ : ∃ z, f28 45 = z := ⟨_, rfl⟩
      rw [ef44] at q44 qlv
      rw [ef45] at q45 qlv
      unfold in01 at q44 q45
      refine z_ald_0 (TX8_runs.at 19 rfl) ?_
      refine zm_getIE ef45 (TX8_runs.at 20 rfl) fl8_459 hH rfl (by decide) (fun r32 => ?_)
      refine z_if_ne (tgt := 41) (TX8_runs.at 21 rfl) rfl (by omega) (fun c2 => ?_) (fun c2 => ?_)
      · skip
        refine z_ald_0 (TX8_runs.at 23 rfl) ?_
        refine zm_getIE ef44 (TX8_runs.at 24 rfl) fl8_453 hH rfl (by decide) (fun r42 => ?_)
        refine z_if_eq (tgt := 55) (TX8_runs.at 25 rfl) rfl (by omega) (fun c3 => ?_) (fun c3 => ?_)
        · skip
          have hso : tellF.isSoB k.2.2.2.2 (phiO K cl dn lt) = true := b2i_1.mp (qlv.2.1.symm.trans (by omega))
          have hst : ordO cl k (K, X, u, dn, lt) = none := ordO_f1 hso (fun q => by have q2 := qlv.1.mpr q; omega)
          have hT2 : ordT cl k (k.2.2.2.1 - i).toNat (K, X, u, dn, lt) = none := by
            rw [show (k.2.2.2.1 - i).toNat = (k.2.2.2.1 - (i + 1)).toNat + 1 by omega, ordT, hst]
          exact kx1 _ _ _ _ _ _ (hT.trans hT2) eg2 (fun i hi => hw.2.1 i hi) hfE hgE hjE hH hA
        · skip
          refine z_ald_0 (TX8_runs.at 26 rfl) ?_
          refine zm_callI0 (m_obeys (cl := cl) eg2 eg34 ej46 ef28 ef36 ef43 hw.2.2.1.1 hw.2.2.1.2 hw.1 hL) (TX8_runs.at 27 rfl) c8_472 rfl rfl hH hA (by omega) (Nat.le_of_ble_eq_true rfl) (fun x49 f49 g49 j49 h r49 q49 hH hA => ?_)
          obtain ⟨q49, xf, xg, xj⟩ := q49
          rw [xj] at hH
          have ef27 := (xf 27 (by decide)).trans ef27
          have ef41 := (xf 41 (by decide)).trans ef41
          have ef43 := (xf 43 (by decide)).trans ef43
          have ef44 := (xf 44 (by decide)).trans ef44
          have ef45 := (xf 45 (by decide)).trans ef45
          have hfE := hfE.trans xf (by decide)
          have hgE := hgE.trans xg (by decide)
          have qL := q49
          obtain ⟨K2, eg2⟩ : ∃ z, g49 2 = z := ⟨_, rfl⟩
          obtain ⟨X2, eg34⟩ : ∃ z, g49 34 = z := ⟨_, rfl⟩
          obtain ⟨u2, ef36⟩ : ∃ z, f49 36 = z := ⟨_, rfl⟩
          rw [eg2, eg34, ef36] at qL
          obtain ⟨qd, ef28⟩ := qL
          have qd2 := qd.trans (deed_cg (cl := cl) (K := K) (X := X) (u := u) qlv.2.2.1 qlv.2.2.2)
          refine z_if_ge (tgt := 57) (TX8_runs.at 28 rfl) rfl (by omega) (fun c4 => ?_) (fun c4 => ?_)
          · skip
            refine z_ald_0 (TX8_runs.at 31 rfl) ?_
            refine z_dup rfl (TX8_runs.at 32 rfl) ?_
            refine zm_getIE ef27 (TX8_runs.at 33 rfl) fl8_296 hH rfl (by decide) (fun r59 => ?_)
            refine z_iconst (TX8_runs.at 34 rfl) ?_
            refine z_iadd (TX8_runs.at 35 rfl) ?_
            refine zm_putIE (TX8_runs.at 36 rfl) fp8_296 hH hA rfl (by decide) (by first | omega | exact b2i_01 _) (fun h f64 e1 e2 hH hA => ?_)
            have ef27 := e2
            have ef28 := (e1 28 (by decide)).trans ef28
            have ef36 := (e1 36 (by decide)).trans ef36
            have ef41 := (e1 41 (by decide)).trans ef41
            have ef43 := (e1 43 (by decide)).trans ef43
            have ef44 := (e1 44 (by decide)).trans ef44
            have ef45 := (e1 45 (by decide)).trans ef45
            have hfE := hfE.put e1 (by decide)
            have hso : tellF.isSoB k.2.2.2.2 (phiO K cl dn lt) = true := b2i_1.mp (qlv.2.1.symm.trans (by omega))
            have hok : sOK k.1 k.2.1 k.2.2.1 (phiO K cl dn lt) := qlv.1.mp (by omega)
            have hst := ordO_t hso hok qd2 (by omega)
            have hlt : (if k.1 = 26 ∧ 0 ≤ x49 then x49 else lt) = (if k.1 = 26 then x49 else lt) := by
              by_cases z : k.1 = 26
              · rw [if_pos ⟨z, by omega⟩, if_pos z]
              · rw [if_neg (fun y => z y.1), if_neg z]
            rw [hlt] at ef28
            refine z_iinc_4 (TX8_runs.at 37 rfl) (Nat.le_of_ble_eq_true rfl) rfl ?_
            refine z_goto (tgt := 19) (TX8_runs.at 38 rfl) rfl ?_
            have hT2 := ordT_s (n := (k.2.2.2.1 - (i + 1)).toNat) hst
            rw [show (k.2.2.2.1 - (i + 1)).toNat + 1 = (k.2.2.2.1 - i).toNat by omega] at hT2
            have hw2 := ordO_ok hw hst
            rw [show B + i + 1 = B + (i + 1) by omega] at hw2
            exact ih (i + 1) _ _ _ _ _ _ _ _ _ _ (by omega) (by omega) (by omega) hw2 (hT.trans hT2) eg2 eg34 ej46 ef27 ef28 ef36 ef41 hfE hgE hjE hH hA
          · skip
            have hso : tellF.isSoB k.2.2.2.2 (phiO K cl dn lt) = true := b2i_1.mp (qlv.2.1.symm.trans (by omega))
            have hst : ordO cl k (K, X, u, dn, lt) = none := ordO_f2 hso (qlv.1.mp (by omega)) (by rw [← qd2]; simp only; omega)
            have hT2 : ordT cl k (k.2.2.2.1 - i).toNat (K, X, u, dn, lt) = none := by
              rw [show (k.2.2.2.1 - i).toNat = (k.2.2.2.1 - (i + 1)).toNat + 1 by omega, ordT, hst]
            exact kx1 _ _ _ _ _ _ (hT.trans hT2) eg2 (fun i hi => (by have q := (deed_ok (cl := cl) (vb := k.1) (s1 := (k.2.1 (phiO K cl dn lt)).getD 0) (s2 := (k.2.2.1 (phiO K cl dn lt)).getD 0) (X := X) hw.1 hw.2.2.1.1 hw.2.2.1.2).2.1 i hi; rw [← qd2] at q; exact q.trans (hw.2.1 i hi))) hfE hgE hjE hH hA
      · skip
        refine z_goto (tgt := 67) (TX8_runs.at 22 rfl) rfl ?_
        have hno : ¬ tellF.isSoB k.2.2.2.2 (phiO K cl dn lt) = true := b2i_0.mp (qlv.2.1.symm.trans (by omega))
        have hst := ordO_no (X := X) (u := u) hno
        refine z_iinc_4 (TX8_runs.at 37 rfl) (Nat.le_of_ble_eq_true rfl) rfl ?_
        refine z_goto (tgt := 19) (TX8_runs.at 38 rfl) rfl ?_
        have hT2 := ordT_s (n := (k.2.2.2.1 - (i + 1)).toNat) hst
        rw [show (k.2.2.2.1 - (i + 1)).toNat + 1 = (k.2.2.2.1 - i).toNat by omega] at hT2
        have hw2 := ordO_ok hw hst
        rw [show B + i + 1 = B + (i + 1) by omega] at hw2
        exact ih (i + 1) _ _ _ _ _ _ _ _ _ _ (by omega) (by omega) (by omega) hw2 (hT.trans hT2) eg2 eg34 ej46 ef27 ef28 ef36 ef41 hfE hgE hjE hH hA

def rnQ (K0 : Int → Int) (B : Int) (t2 : Nat) (res : Option OS) (r : Int) (f' : mF) (g' : mA) : Prop := match res with
  | none => r = 0 ∧ ∀ i, 29 ≤ i → g' 2 i = K0 i
  | some w => r = 1 ∧ OSok K0 (B + 20) w ∧ g' 2 = w.1 ∧ g' 34 = w.2.1 ∧ f' 36 = w.2.2.1 ∧ f' 27 = w.2.2.2.1 ∧ f' 28 = w.2.2.2.2 ∧ f' 41 = 2400 + (t2 : Int) + 1
theorem phi0_ok {K : Int → Int} {cl : List Cla} {dn lt : Int} : FO1 K dn lt 0 (fun a => if a = 11 then 0 else phiO K cl dn lt a) := by
  have h := phiO_ok (K := K) (cl := cl) (dn := dn) (lt := lt)
  refine ⟨rfl, rfl, rfl, rfl, rfl, fun q q0 q7 => ?_, fun q q0 q9 => ?_⟩
  · show (if 13 + q = 11 then 0 else phiO K cl dn lt (13 + q)) = _
    rw [if_neg (by omega)]; exact h.2.2.2.2.2.1 q q0 q7
  · show (if 21 + q = 11 then 0 else phiO K cl dn lt (21 + q)) = _
    rw [if_neg (by omega)]; exact h.2.2.2.2.2.2 q q0 q9
set_option maxHeartbeats 4000000 in
set_option maxRecDepth 100000 in
theorem m_runs {l : Launch} {o : Nat} {ar : Nat → Nat} {f : mF} {g j : mA} {K : Int → Int} {X34 : Int → Int} {S : Int → Int} {dn : Int} {lt : Int} {u : Int} {K0 : Int → Int} {cl : List Cla} {k : Cla} {nt B : Int} {t p t2 p2 : Nat} (eg2 : g 2 = K) (eg34 : g 34 = X34) (ej46 : j 46 = S) (ef27 : f 27 = dn) (ef28 : f 28 = lt) (ef36 : f 36 = u) (ef41 : f 41 = 2400 + (t : Int)) (hB : 0 ≤ B ∧ B ≤ 1000) (hw : OSok K0 B (K, X34, u, dn, lt)) (htm : 1 ≤ k.2.2.2.1 ∧ k.2.2.2.1 ≤ 20) (hL0 : LawK K0 cl) (n4 : nt ≤ 400) (n00 : 0 ≤ nt) (tn : (t : Int) < nt) (t2n : (t2 : Int) ≤ nt) (hcl : pCla false (cK K0 2400 nt) (vK K0 2400) t p = .ok (t2, p2, k)) : MM l o ar MX8_runs 57 [.ref o, vI (2400 + nt)] f g j (PI (fun r f' g' j' => (rnQ K0 B t2 (ordT cl k k.2.2.2.1.toNat (K, X34, u, dn, lt)) r f' g') ∧ eqx [22, 23, 24, 25, 27, 28, 29, 33, 36, 41, 42, 43, 44, 45] f f' ∧ eqx [2, 26, 30, 31, 32, 34] g g' ∧ eqx [46] j j')) := by
  refine MM.intro [some (.ref o), some (vI (2400 + nt)), none, none, none] (by decide) (Nat.le_of_ble_eq_true rfl) rfl (fun d hd h0 h hH hA => ?_)
  have hfE : eqx [22, 23, 24, 25, 27, 28, 29, 33, 36, 41, 42, 43, 44, 45] f f := eqx.rf
  have hgE : eqx [2, 26, 30, 31, 32, 34] g g := eqx.rf
  have hjE : eqx [46] j j := eqx.rf
  have hL := LawK_29 hL0 hw.2.1
  have hO0 : FO1 K dn lt 0 (fun a => if a = 11 then 0 else phiO K cl dn lt a) := phi0_ok
  refine z_ald_0 (TX8_runs.at 0 rfl) ?_
  refine z_ild_1 (TX8_runs.at 1 rfl) ?_
  refine z_iconst (TX8_runs.at 2 rfl) ?_
  refine zm_callV2 (m_goes0 (cl := cl) (φ := fun a => if a = 11 then 0 else phiO K cl dn lt a) (k := k) eg2 ej46 ef27 ef28 ef41 hw.1 hL hO0 n4 n00 tn (pCla_29 hw.2.1 hcl)) (TX8_runs.at 3 rfl) c8_468 rfl rfl hH hA (by omega) (Nat.le_of_ble_eq_true rfl) (fun f3 g3 j3 h q3 hH hA => ?_)
  obtain ⟨q3, xf, xg, xj⟩ := q3
  have ef27 := (xf 27 (by decide)).trans ef27
  have ef28 := (xf 28 (by decide)).trans ef28
  have ef36 := (xf 36 (by decide)).trans ef36
  have ef41 := (xf 41 (by decide)).trans ef41
  have hfE := hfE.trans xf (by decide)
  have eg2 := (xg 2 (by decide)).trans eg2
  have eg34 := (xg 34 (by decide)).trans eg34
  have hgE := hgE.trans xg (by decide)
  have hjE := hjE.trans xj (by decide)
  have qL := q3
  obtain ⟨q43, ef42, ef22, -, -, -⟩ := qL
  obtain ⟨S2, ej46⟩ : ∃ z, j3 46 = z := ⟨_, rfl⟩
  refine z_ald_0 (TX8_runs.at 4 rfl) ?_
  refine zm_getIE ef42 (TX8_runs.at 5 rfl) fl8_456 hH rfl (by decide) (fun r7 => ?_)
  refine z_ist_2 (TX8_runs.at 6 rfl) (Nat.le_of_ble_eq_true rfl) rfl ?_
  refine z_ald_0 (TX8_runs.at 7 rfl) ?_
  refine zm_getIE ef22 (TX8_runs.at 8 rfl) fl8_260 hH rfl (by decide) (fun r12 => ?_)
  refine z_ist_3 (TX8_runs.at 9 rfl) (Nat.le_of_ble_eq_true rfl) rfl ?_
  refine z_iconst (TX8_runs.at 10 rfl) ?_
  refine z_ist_4 (TX8_runs.at 11 rfl) (Nat.le_of_ble_eq_true rfl) rfl ?_
  refine lp_runs (K0 := K0) (k := k) (B := B) (w0 := (K, X34, u, dn, lt)) (be := 2400 + (t2 : Int) + 1) (by omega) hB (by omega) htm hL0 n4 n00 tn hcl (fun o4 K9 f3 g3 j3 h3 er hg2 hK9 xf xg xj hH hA => ?_) (fun o4 K9 X9 u9 dn9 lt9 f3 g3 j3 h3 er hw9 hg2 hg34 h36 h27 h28 xf xg xj hH hA => ?_) 21 0 K X34 u dn lt S2 _ _ _ _ (by omega) (by omega) (by omega) (by rw [Int.add_zero]; exact hw) (by rw [Int.sub_zero]) eg2 eg34 ej46 ef27 ef28 ef36 ef41 eqx.rf eqx.rf eqx.rf hH hA
  · refine z_iconst (TX8_runs.at 29 rfl) ?_
    refine zm_zret (TX8_runs.at 30 rfl) rfl hH hA (by decide) ?_
    exact ⟨by rw [er]; exact ⟨rfl, fun i hi => by rw [hg2]; exact hK9 i hi⟩, hfE.trans xf (by decide), hgE.trans xg (by decide), hjE.trans xj (by decide)⟩
  · refine z_ald_0 (TX8_runs.at 39 rfl) ?_
    refine z_ild_3 (TX8_runs.at 40 rfl) ?_
    refine zm_putIE (TX8_runs.at 41 rfl) fp8_441 hH hA rfl (by decide) (by omega) (fun h f75 e1 e2 hH hA => ?_)
    refine z_iconst (TX8_runs.at 42 rfl) ?_
    refine zm_zret (TX8_runs.at 43 rfl) rfl hH hA (by decide) ?_
    exact ⟨by rw [er]; exact ⟨rfl, hw9, hg2, hg34, (e1 36 (by decide)).trans h36, (e1 27 (by decide)).trans h27, (e1 28 (by decide)).trans h28, e2⟩, (hfE.trans xf (by decide)).put e1 (by decide), hgE.trans xg (by decide), hjE.trans xj (by decide)⟩

