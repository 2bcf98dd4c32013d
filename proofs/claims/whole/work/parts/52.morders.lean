/-! ===== the reference: orders ===== -/
theorem ordT_tm {c v : Int → Int} {t p t2 p2 : Nat} {k : Cla} (h : pCla false c v t p = .ok (t2, p2, k)) : 1 ≤ k.2.2.2.1 ∧ k.2.2.2.1 ≤ 20 := by
  have key : ∀ (vb : Int) (d1 d2 : Den) (a b : Nat), timC false c v vb d1 d2 a b = .ok (t2, p2, k) → 1 ≤ k.2.2.2.1 ∧ k.2.2.2.1 ≤ 20 := by
    intro vb d1 d2 a b h
    obtain ⟨q, tm, t3, rfl, -, hc⟩ := tim_step h
    rcases hc with ⟨-, -, hv, rfl, -⟩ | ⟨-, rfl, -⟩
    · exact hv
    · exact ⟨show (1 : Int) ≤ 1 by decide, show (1 : Int) ≤ 20 by decide⟩
  rcases pcla_ord h with ⟨-, t1, p1, k1, t3, p3, k2, -, -, -, htm⟩ | ⟨-, t1, p1, k1, -, htm⟩ | ⟨-, htm⟩
  · exact key _ _ _ _ _ htm
  · exact key _ _ _ _ _ htm
  · exact key _ _ _ _ _ htm
theorem cla_le {K : Int → Int} {b nt : Int} {t p t2 p2 : Nat} {k : Cla} (h : pCla false (cK K b nt) (vK K b) t p = .ok (t2, p2, k)) (ht : (t : Int) ≤ nt) : (t : Int) < nt ∧ (t2 : Int) ≤ nt := by
  have h1 : (t : Int) < nt := by
    have hne : cK K b nt t ≠ 0 := by
      rcases pcla_ord h with ⟨q, -⟩ | ⟨q, -⟩ | ⟨q, -⟩ <;> omega
    exact cK_nz t hne
  have q := ok_cla (lw := false) (c := cK K b nt) (v := vK K b) (pl := fun _ => 0) (N := nt) (t := t) (p := 0) cK_z ⟨ht, by omega⟩
  refine ⟨h1, ?_⟩
  -- parts don't matter for places: read once more from p itself
  have tim : ∀ (vb : Int) (d1 d2 : Den) (a c : Nat), (a : Int) ≤ nt → timC false (cK K b nt) (vK K b) vb d1 d2 a c = .ok (t2, p2, k) → (t2 : Int) ≤ nt := by
    intro vb d1 d2 a c ha hh
    obtain ⟨q, tm, t3, rfl, hif, hc⟩ := tim_step hh
    have h3 : (t3 : Int) ≤ nt := by
      rcases hc with ⟨e27, e50, -, -, rfl⟩ | ⟨-, -, rfl⟩
      · have z1 := cK_nz (K := K) (b := b) (nt := nt) a (by omega)
        have z2 := cK_nz (K := K) (b := b) (nt := nt) (a + 1) (by push_cast; omega)
        push_cast at z2 ⊢
        omega
      · exact ha
    rcases pif_step hif with ⟨h4, k4, hq, -⟩ | ⟨-, rfl, -, -⟩
    · have z := cK_nz (K := K) (b := b) (nt := nt) t3 (by omega)
      exact adv_leK (Adv_test false _ _ 8) hq (by push_cast; omega)
    · exact h3
  rcases pcla_ord h with ⟨-, t1, p1, k1, t3, p3, k2, hs, h25, hs2, htm⟩ | ⟨-, t1, p1, k1, hs, htm⟩ | ⟨-, htm⟩
  · have a1 := adv_leK (Adv_sum false _ _ 8) hs (show ((t + 1 : Nat) : Int) ≤ nt by omega)
    have z := cK_nz (K := K) (b := b) (nt := nt) t1 (by omega)
    have a2 := adv_leK (Adv_sum false _ _ 8) hs2 (show ((t1 + 1 : Nat) : Int) ≤ nt by omega)
    exact tim _ _ _ _ _ a2 htm
  · have a1 := adv_leK (Adv_sum false _ _ 8) hs (show ((t + 1 : Nat) : Int) ≤ nt by omega)
    exact tim _ _ _ _ _ a1 htm
  · exact tim _ _ _ _ _ (show ((t + 1 : Nat) : Int) ≤ nt by omega) htm
theorem OSok_w {K0 : Int → Int} {n m : Int} {w : OS} (h : OSok K0 n w) (hm : n ≤ m) : OSok K0 m w := ⟨h.1, h.2.1, h.2.2.1, ⟨h.2.2.2.1.1, by have := h.2.2.2.1.2; omega⟩, h.2.2.2.2⟩
theorem ordL_c {cl : List Cla} {k : Cla} {l : List Cla} {i : Nat} {w w' : OS} (h : ordT cl k k.2.2.2.1.toNat w = some w') : ordL cl (k :: l) i w = ordL cl l (i + 1) w' := by rw [ordL, h]
theorem ordL_e {cl : List Cla} {k : Cla} {l : List Cla} {i : Nat} {w : OS} (h : ordT cl k k.2.2.2.1.toNat w = none) : ordL cl (k :: l) i w = .error i := by rw [ordL, h]
set_option maxHeartbeats 4000000 in
set_option maxRecDepth 100000 in
theorem lp_orders {l : Launch} {o : Nat} {ar : Nat → Nat} {d : Nat} {Pz : Option Value → zH → Prop} {h0 : zH} {f0 : mF} {g0 j0 : mA} {K0 : Int → Int} {cl : List Cla} {nN : Nat} {ua : Int} {fin : Except Nat OS} (hd : 60 ≤ d) (n4 : (nN : Int) ≤ 400) (hL0 : LawK K0 cl) (kx1 : ∀ (o4 : Option Value) (i : Nat) (f : mF) (g j : mA) (h : zH), fin = .error i → i ≤ 20 → (∀ q, 29 ≤ q → g 2 q = K0 q) → eqx [22, 23, 24, 25, 27, 28, 29, 33, 36, 41, 42, 43, 44, 45] f0 f → eqx [2, 26, 30, 31, 32, 34] g0 g → eqx [46] j0 j → HM o ar f g j h → zAg o ar h0 h → Z l MX8_orders d 0 0 Pz 114 [some (.ref o), some (vI ua), some (vI (2400 + (nN : Int))), some (vI (i : Int)), o4] [] h 0 0) (kx2 : ∀ (o3 o4 : Option Value) (K X : Int → Int) (u dn lt : Int) (f : mF) (g j : mA) (h : zH), fin = .ok (K, X, u, dn, lt) → OSok K0 1000 (K, X, u, dn, lt) → g 2 = K → g 34 = X → f 36 = u → f 27 = dn → f 28 = lt → eqx [22, 23, 24, 25, 27, 28, 29, 33, 36, 41, 42, 43, 44, 45] f0 f → eqx [2, 26, 30, 31, 32, 34] g0 g → eqx [46] j0 j → HM o ar f g j h → zAg o ar h0 h → Z l MX8_orders d 0 0 Pz 173 [some (.ref o), some (vI ua), some (vI (2400 + (nN : Int))), o3, o4] [] h 0 0) :
    ∀ (l1 : List Cla) (m t p i : Nat) (B : Int) (K X : Int → Int) (u dn lt : Int) (S : Int → Int) (y41 : Int) (o4 : Option Value) (f : mF) (g j : mA) (h : zH) (hAB : (pText false (cK K0 2400 nN) (vK K0 2400) nN m t p = .ok l1 ∧ y41 = 2400 + (t : Int) ∧ (t : Int) ≤ nN) ∨ (l1 = [] ∧ 2400 + (nN : Int) ≤ y41)) (hi : i + l1.length ≤ 20) (hB : 0 ≤ B ∧ B + 20 * l1.length ≤ 1000) (hw : OSok K0 B (K, X, u, dn, lt)) (hfin : fin = ordL cl l1 i (K, X, u, dn, lt)) (eg2 : g 2 = K) (eg34 : g 34 = X) (ej46 : j 46 = S) (ef27 : f 27 = dn) (ef28 : f 28 = lt) (ef36 : f 36 = u) (ef41 : f 41 = y41) (hfE : eqx [22, 23, 24, 25, 27, 28, 29, 33, 36, 41, 42, 43, 44, 45] f0 f) (hgE : eqx [2, 26, 30, 31, 32, 34] g0 g) (hjE : eqx [46] j0 j) (hH : HM o ar f g j h) (hA : zAg o ar h0 h), Z l MX8_orders d 0 0 Pz 95 [some (.ref o), some (vI ua), some (vI (2400 + (nN : Int))), some (vI (i : Int)), o4] [] h 0 0 := by
  intro l1
  induction l1 with
  | nil =>
    intro m t p i B K X u dn lt S y41 o4 f g j h hAB hi hB hw hfin eg2 eg34 ej46 ef27 ef28 ef36 ef41 hfE hgE hjE hH hA
    have hy : 2400 + (nN : Int) ≤ y41 := by
      rcases hAB with ⟨hA1, -⟩ | ⟨-, hy⟩
      · obtain ⟨m', t', p', k', hm, hcl, hnx⟩ := ptext_step hA1
        exfalso
        rcases hnx with ⟨-, l', -, he⟩ | ⟨-, -, he⟩ <;> cases he
      · exact hy
    have hw := OSok_w hw (show B ≤ 1000 by have := hB.2; simp only [List.length_nil] at this; omega)
    refine z_ald_0 (TX8_orders_1.at 14 rfl) ?_
    refine zm_getIE ef41 (TX8_orders_1.at 15 rfl) fl8_441 hH rfl (by decide) (fun r96 => ?_)
    refine z_ild_2 (TX8_orders_1.at 16 rfl) ?_
    refine z_icmp_ge (tgt := 173) (TX8_orders_1.at 17 rfl) rfl (by omega) (by omega) (fun c1 => ?_) (fun c1 => absurd c1 (by omega))
    exact kx2 _ _ K X u dn lt _ _ _ _ hfin hw eg2 eg34 ef36 ef27 ef28 hfE hgE hjE hH hA
  | cons k l1 ih =>
    intro m t p i B K X u dn lt S y41 o4 f g j h hAB hi hB hw hfin eg2 eg34 ej46 ef27 ef28 ef36 ef41 hfE hgE hjE hH hA
    rcases hAB with ⟨hA1, hty⟩ | ⟨he, -⟩
    · obtain ⟨rfl, hty2⟩ := hty
      have hty : True ∧ (t : Int) ≤ nN := ⟨trivial, hty2⟩
      obtain ⟨m', t9, p9, k', hm, hcla, hnx⟩ := ptext_step hA1
      have hkk : k' = k := by
        rcases hnx with ⟨-, l', -, he⟩ | ⟨-, -, he⟩
        · exact (List.cons.inj he).1.symm
        · exact (List.cons.inj he).1.symm
      subst hkk
      have hcl9 := cla_le hcla hty.2
      have hB2 : 0 ≤ B ∧ B ≤ 1000 := by simp only [List.length_cons] at hB; omega
      simp only [List.length_cons] at hi
      refine z_ald_0 (TX8_orders_1.at 14 rfl) ?_
      refine zm_getIE ef41 (TX8_orders_1.at 15 rfl) fl8_441 hH rfl (by decide) (fun r96 => ?_)
      refine z_ild_2 (TX8_orders_1.at 16 rfl) ?_
      refine z_icmp_ge (tgt := 173) (TX8_orders_1.at 17 rfl) rfl (by omega) (by omega) (fun c1 => absurd c1 (by omega)) (fun c1 => ?_)
      refine z_ald_0 (TX8_orders_1.at 18 rfl) ?_
      refine z_ild_2 (TX8_orders_1.at 19 rfl) ?_
      refine zm_callI1 (m_runs (K0 := K0) (cl := cl) (k := k') (B := B) eg2 eg34 ej46 ef27 ef28 ef36 ef41 hB2 hw (ordT_tm hcla) hL0 n4 (by omega) (cla_le hcla hty.2).1 (cla_le hcla hty.2).2 hcla) (TX8_orders_1.at 20 rfl) c8_444 rfl rfl hH hA (by omega) (Nat.le_of_ble_eq_true rfl) (fun x105 f105 g105 j105 h r105 q105 hH hA => ?_)
      obtain ⟨q105, xf, xg, xj⟩ := q105
      have hfE := hfE.trans xf (by decide)
      have hgE := hgE.trans xg (by decide)
      have hjE := hjE.trans xj (by decide)
      have qL := q105
      obtain ⟨S2, ej46⟩ : ∃ z, j105 46 = z := ⟨_, rfl⟩
      refine z_if_eq (tgt := 114) (TX8_orders_1.at 21 rfl) rfl (by omega) (fun c2 => ?_) (fun c2 => ?_)
      · skip
        cases hres : ordT cl k' k'.2.2.2.1.toNat (K, X, u, dn, lt) with
        | none =>
          rw [hres] at qL
          exact kx1 _ i _ _ _ _ (hfin.trans (ordL_e hres)) (by omega) qL.2 hfE hgE hjE hH hA
        | some w9 =>
          rw [hres] at qL
          exact absurd qL.1 (by omega)
      · skip
        refine z_goto (tgt := 167) (TX8_orders_1.at 22 rfl) rfl ?_
        refine z_iinc_3 (TX8_orders_2.at 11 rfl) (Nat.le_of_ble_eq_true rfl) rfl ?_
        refine z_goto (tgt := 95) (TX8_orders_2.at 12 rfl) rfl ?_
        cases hres : ordT cl k' k'.2.2.2.1.toNat (K, X, u, dn, lt) with
        | none =>
          rw [hres] at qL
          exact absurd qL.1 (by omega)
        | some w9 =>
          rw [hres] at qL
          obtain ⟨K9, X9, u9, dn9, lt9⟩ := w9
          obtain ⟨-, hw9, hg2, hg34, h36, h27, h28, h41⟩ := qL
          have hfin2 := hfin.trans (ordL_c (l := l1) (i := i) hres)
          rcases hnx with ⟨h59, l', hpt, hl⟩ | ⟨h59, htn, hl⟩
          · cases hl
            have z := cK_nz (K := K0) (b := 2400) (nt := (nN : Int)) t9 (by omega)
            exact ih m' (t9 + 1) p9 (i + 1) (B + 20) K9 X9 u9 dn9 lt9 _ (2400 + (t9 : Int) + 1) _ _ _ _ _ (Or.inl ⟨hpt, by push_cast; omega, by push_cast; omega⟩) (by omega) (by simp only [List.length_cons] at hB; omega) hw9 hfin2 hg2 hg34 ej46 h27 h28 h36 h41 hfE hgE hjE hH hA
          · cases hl
            exact ih m' 0 0 (i + 1) (B + 20) K9 X9 u9 dn9 lt9 _ (2400 + (t9 : Int) + 1) _ _ _ _ _ (Or.inr ⟨rfl, by omega⟩) (by omega) (by simp only [List.length_cons] at hB; omega) hw9 hfin2 hg2 hg34 ej46 h27 h28 h36 h41 hfE hgE hjE hH hA
    · cases he
theorem ptext_len {lw : Bool} {c v : Int → Int} {n : Nat} : ∀ (m t p : Nat) (l : List Cla), pText lw c v n m t p = .ok l → l.length ≤ m := by
  intro m
  induction m with
  | zero => intro t p l h; cases h
  | succ m ih =>
    intro t p l h
    obtain ⟨m', t', p', k, hm, -, hnx⟩ := ptext_step h
    have e : m' = m := by omega
    subst e
    rcases hnx with ⟨-, l', h', rfl⟩ | ⟨-, -, rfl⟩
    · have := ih _ _ _ h'; simp only [List.length_cons]; omega
    · simp only [List.length_cons, List.length_nil]; omega
def layP (K K1 : Int → Int) : Prop := (∀ i, i < 81 → K1 i = K i) ∧ ∀ t c, 0 ≤ t → t < 6 → LawAt K t c → LawAt K1 t c
theorem KOK_81 {K K1 : Int → Int} (h : KOK K) (e : ∀ i, i < 81 → K1 i = K i) : KOK K1 := by
  obtain ⟨a1, a2, a3, a4, a5, a6, a7, a8, a9, a10, a11, a12⟩ := h
  refine ⟨by rw [e 76 (by decide)]; exact a1, fun i h0 h1 => ?_, fun k h0 h1 => ?_, by rw [e 28 (by decide)]; exact a4, by rw [e 77 (by decide)]; exact a5, fun i h0 h1 => ?_, by rw [e 78 (by decide)]; exact a7, fun i h0 h1 => ?_, by rw [e 74 (by decide)]; exact a9, by rw [e 75 (by decide)]; exact a10, by rw [e 79 (by decide)]; exact a11, by rw [e 79 (by decide), e 80 (by decide)]; exact a12⟩
  · rw [e 76 (by decide)] at h1
    rw [e i (by omega), e (10 + i) (by omega), e (29 + i) (by omega), e (39 + i) (by omega), e (49 + i) (by omega)]
    exact a2 i h0 h1
  · rw [e (20 + k) (by omega)]; exact a3 k h0 h1
  · rw [e 77 (by decide)] at h1
    rw [e (59 + i) (by omega)]; exact a6 i h0 h1
  · rw [e 78 (by decide)] at h1
    rw [e (62 + 2 * i) (by omega), e (62 + 2 * i + 1) (by omega)]; exact a8 i h0 h1
theorem LawK_lay {K K1 : Int → Int} {cl : List Cla} (hK : KOK K) (h : LawK K cl) (e : layP K K1) : LawK K1 cl := by
  have h12 := hK.2.2.2.2.2.2.2.2.2.2.2
  have h11 := hK.2.2.2.2.2.2.2.2.2.2.1
  rcases LawK_at.mp h with q | ⟨q0, q6, q⟩
  · exact LawK_at.mpr (Or.inl ⟨by rw [e.1 80 (by decide)]; exact q.1, q.2⟩)
  · exact LawK_at.mpr (Or.inr (by rw [e.1 80 (by decide)]; exact ⟨q0, q6, e.2 _ _ q0 (by omega) q⟩))
theorem layP_of {K : Int → Int} {N : Int} {X15 X16 : Int → Int} (N0 : 0 ≤ N) (N4 : N ≤ 400) : layP K (layN K 6 N X15 X16 N) :=
  ⟨fun i hi => layN_far (by omega) (by omega) (by omega), fun t c t0 t6 h => lay_keep h (by decide) (by decide) t0 (by omega) (by omega) N0 N4⟩
def ordQ (K X34 X1 U : Int → Int) (cl : List Cla) (z u r : Int) (f' : mF) (g' : mA) : Prop := f' 13 = 0 ∧ ((∃ e, txtS false U z = .error e ∧ mRef (-6) r f' g' X1 ∧ g' 2 = K ∧ g' 34 = X34 ∧ f' 36 = u ∧ f' 40 = -1 ∧ f' 14 = pT U z e) ∨ (∃ (l : List Cla) (K1 : Int → Int), txtS false U z = .ok l ∧ f' 14 = -1 ∧ layP K K1 ∧ ((∃ w, ordL cl l 0 (K1, X34, u, 0, -1) = .ok w ∧ OSok K1 1000 w ∧ mOk w.2.2.2.1 r f' g' X1 ∧ g' 2 = w.1 ∧ g' 34 = w.2.1 ∧ f' 36 = w.2.2.1 ∧ f' 40 = -1) ∨ (∃ i : Nat, ordL cl l 0 (K1, X34, u, 0, -1) = .error i ∧ mRef (-3) r f' g' X1 ∧ (∀ q, 0 ≤ q → g' 2 q = K1 q) ∧ (∀ q, 0 ≤ q → q < 480 → g' 34 q = X34 q) ∧ f' 36 = u ∧ f' 40 = (i : Int)))))
set_option maxHeartbeats 4000000 in
set_option maxRecDepth 100000 in
theorem lp_ord1 {l : Launch} {o : Nat} {ar : Nat → Nat} {d : Nat} {Pz : Option Value → zH → Prop} {h0 : zH} {f0 : mF} {g0 : mA} {j : mA}  {X35 X34 : Int → Int}  (kx : ∀ (f : mF) (g : mA) (h : zH), g 35 = cpy X35 X34 0 0 480 → g 34 = X34 → eqx [] f0 f → eqx [35] g0 g → HM o ar f g j h → zAg o ar h0 h → Z l MX8_orders d 0 0 Pz 52 [some (.ref o), some (vI 480), none, none, none] [] h 0 0)  : ∀ (n : Nat) (i : Int) (f : mF) (g : mA) (h : zH) (i0 : 0 ≤ i) (i1 : i ≤ 480) (i2 : 480 < i + n) (eg35 : g 35 = cpy X35 X34 0 0 i) (eg34 : g 34 = X34) (hfE : eqx [] f0 f) (hgE : eqx [35] g0 g) (hH : HM o ar f g j h) (hA : zAg o ar h0 h), Z l MX8_orders d 0 0 Pz 27 [some (.ref o), some (vI i), none, none, none] [] h 0 0 := by
  intro n
  induction n with
  | zero => intro i f g h i0 i1 i2 eg35 eg34 hfE hgE hH hA; exfalso; omega
  | succ n ih =>
    intro i f g h i0 i1 i2 eg35 eg34 hfE hgE hH hA
    refine z_ild_1 (TX8_orders_0.at 16 rfl) ?_
    refine z_sipush (by decide) (TX8_orders_0.at 17 rfl) ?_
    refine z_icmp_ge (tgt := 52) (TX8_orders_0.at 18 rfl) rfl (by omega) (by omega) (fun c1 => ?_) (fun c1 => ?_)
    · skip
      obtain rfl : i = 480 := by omega
      exact kx _ _ _ eg35 eg34  hfE hgE hH hA
    · skip
      refine z_ald_0 (TX8_orders_0.at 19 rfl) ?_
      refine zm_getA (TX8_orders_0.at 20 rfl) fl8_78 hH (by decide) (by decide) ?_
      refine z_ild_1 (TX8_orders_0.at 21 rfl) ?_
      refine z_ald_0 (TX8_orders_0.at 22 rfl) ?_
      refine zm_getA (TX8_orders_0.at 23 rfl) fl8_75 hH (by decide) (by decide) ?_
      refine z_ild_1 (TX8_orders_0.at 24 rfl) ?_
      refine zm_ialdE eg34 (TX8_orders_0.at 25 rfl) hH rfl (by omega) (show _ < ((480 : Nat) : Int) by omega) (fun r44 => ?_)
      refine zm_iastE (TX8_orders_0.at 26 rfl) hH hA rfl (by omega) (show _ < ((480 : Nat) : Int) by omega) (by omega) (fun h g45 e1 e2 hH hA => ?_)
      rw [eg35] at e2; have eg35 := e2
      have eg34 := (e1 34 (by decide)).trans eg34
      have hgE := hgE.put e1 (by decide)
      refine z_iinc_1 (TX8_orders_0.at 27 rfl) (Nat.le_of_ble_eq_true rfl) rfl ?_
      refine z_goto (tgt := 27) (TX8_orders_0.at 28 rfl) rfl ?_
      exact ih (i + 1) _ _ _ (by omega) (by omega) (by omega) (by rw [cpy_s (by omega) (by omega) (by omega)] at eg35; exact eg35) eg34 hfE hgE hH hA

set_option maxHeartbeats 4000000 in
set_option maxRecDepth 100000 in
theorem lp_ord2 {l : Launch} {o : Nat} {ar : Nat → Nat} {d : Nat} {Pz : Option Value → zH → Prop} {h0 : zH} {f0 : mF} {g0 : mA} {j : mA}  {X34 X35 : Int → Int} {ua ed ix : Int} (kx : ∀ (f : mF) (g : mA) (h : zH), g 34 = cpy X34 X35 0 0 480 → g 35 = X35 → eqx [] f0 f → eqx [34] g0 g → HM o ar f g j h → zAg o ar h0 h → Z l MX8_orders d 0 0 Pz 150 [some (.ref o), some (vI ua), some (vI ed), some (vI ix), some (vI 480)] [] h 0 0)  : ∀ (n : Nat) (i : Int) (f : mF) (g : mA) (h : zH) (i0 : 0 ≤ i) (i1 : i ≤ 480) (i2 : 480 < i + n) (eg34 : g 34 = cpy X34 X35 0 0 i) (eg35 : g 35 = X35) (hfE : eqx [] f0 f) (hgE : eqx [34] g0 g) (hH : HM o ar f g j h) (hA : zAg o ar h0 h), Z l MX8_orders d 0 0 Pz 122 [some (.ref o), some (vI ua), some (vI ed), some (vI ix), some (vI i)] [] h 0 0 := by
  intro n
  induction n with
  | zero => intro i f g h i0 i1 i2 eg34 eg35 hfE hgE hH hA; exfalso; omega
  | succ n ih =>
    intro i f g h i0 i1 i2 eg34 eg35 hfE hgE hH hA
    refine z_ild_4 (TX8_orders_1.at 28 rfl) ?_
    refine z_sipush (by decide) (TX8_orders_1.at 29 rfl) ?_
    refine z_icmp_ge (tgt := 150) (TX8_orders_1.at 30 rfl) rfl (by omega) (by omega) (fun c1 => ?_) (fun c1 => ?_)
    · skip
      obtain rfl : i = 480 := by omega
      exact kx _ _ _ eg34 eg35  hfE hgE hH hA
    · skip
      refine z_ald_0 (TX8_orders_1.at 31 rfl) ?_
      refine zm_getA (TX8_orders_1.at 32 rfl) fl8_75 hH (by decide) (by decide) ?_
      refine z_ild_4 (TX8_orders_1.at 33 rfl) ?_
      refine z_ald_0 (TX8_orders_1.at 34 rfl) ?_
      refine zm_getA (TX8_orders_1.at 35 rfl) fl8_78 hH (by decide) (by decide) ?_
      refine z_ild_4 (TX8_orders_1.at 36 rfl) ?_
      refine zm_ialdE eg35 (TX8_orders_1.at 37 rfl) hH rfl (by omega) (show _ < ((480 : Nat) : Int) by omega) (fun r142 => ?_)
      refine zm_iastE (TX8_orders_1.at 38 rfl) hH hA rfl (by omega) (show _ < ((480 : Nat) : Int) by omega) (by omega) (fun h g143 e1 e2 hH hA => ?_)
      rw [eg34] at e2; have eg34 := e2
      have eg35 := (e1 35 (by decide)).trans eg35
      have hgE := hgE.put e1 (by decide)
      refine z_iinc_4 (TX8_orders_1.at 39 rfl) (Nat.le_of_ble_eq_true rfl) rfl ?_
      refine z_goto (tgt := 122) (TX8_orders_2.at 0 rfl) rfl ?_
      exact ih (i + 1) _ _ _ (by omega) (by omega) (by omega) (by rw [cpy_s (by omega) (by omega) (by omega)] at eg34; exact eg34) eg35 hfE hgE hH hA

set_option maxHeartbeats 4000000 in
set_option maxRecDepth 100000 in
theorem m_orders {l : Launch} {o : Nat} {ar : Nat → Nat} {f : mF} {g j : mA} {X1 : Int → Int} {K : Int → Int} {X5 : Int → Int} {X7 : Int → Int} {X11 : Int → Int} {X34 : Int → Int} {X35 : Int → Int} {z : Int} {u : Int} {U : Int → Int} {cl : List Cla} (eg1 : g 1 = X1) (eg2 : g 2 = K) (eg5 : g 5 = X5) (eg7 : g 7 = X7) (eg11 : g 11 = X11) (eg34 : g 34 = X34) (eg35 : g 35 = X35) (ef13 : f 13 = z) (ef36 : f 36 = u) (hb : ∀ i, X1 i ≤ 100000) (u0 : 0 ≤ u) (u1 : u ≤ 16) (hK : KOK K) (hL : LawK K cl) (hW : WdH X7) (hU : TpU X11 U) (z0 : 0 ≤ z) (z4 : z ≤ 400) : MM l o ar MX8_orders 70 [.ref o] f g j (PI (fun r f' g' j' => (ordQ K X34 X1 U cl z u r f' g') ∧ eqx [0, 8, 9, 10, 13, 14, 18, 19, 20, 21, 22, 23, 24, 25, 27, 28, 29, 33, 36, 40, 41, 42, 43, 44, 45] f f' ∧ eqx [1, 2, 5, 15, 16, 17, 26, 30, 31, 32, 34, 35] g g' ∧ eqx [46] j j')) := by
  refine MM.intro [some (.ref o), none, none, none, none] (by decide) (Nat.le_of_ble_eq_true rfl) rfl (fun d hd h0 h hH hA => ?_)
  have hfE : eqx [0, 8, 9, 10, 13, 14, 18, 19, 20, 21, 22, 23, 24, 25, 27, 28, 29, 33, 36, 40, 41, 42, 43, 44, 45] f f := eqx.rf
  have hgE : eqx [1, 2, 5, 15, 16, 17, 26, 30, 31, 32, 34, 35] g g := eqx.rf
  have hjE : eqx [46] j j := eqx.rf
  refine z_ald_0 (TX8_orders_0.at 0 rfl) ?_
  refine z_iconst (TX8_orders_0.at 1 rfl) ?_
  refine zm_putIE (TX8_orders_0.at 2 rfl) fp8_91 hH hA rfl (by decide) (by first | omega | exact b2i_01 _) (fun h f2 e1 e2 hH hA => ?_)
  have ef13 := (e1 13 (by decide)).trans ef13
  have ef36 := (e1 36 (by decide)).trans ef36
  have hfE := hfE.put e1 (by decide)
  have ef40 := e2
  refine z_ald_0 (TX8_orders_0.at 3 rfl) ?_
  refine z_iconst (TX8_orders_0.at 4 rfl) ?_
  refine zm_callI1 (m_readsAs (U := U) (lw := false) eg7 eg11 ef13 (by decide) hW hU z0 z4 rfl) (TX8_orders_0.at 5 rfl) c8_247 rfl rfl hH hA (by omega) (Nat.le_of_ble_eq_true rfl) (fun x7 f7 g7 j7 h r7 q7 hH hA => ?_)
  obtain ⟨q7, xf, xg, xj⟩ := q7
  rw [xj] at hH
  have ef36 := (xf 36 (by decide)).trans ef36
  have hfE := hfE.trans xf (by decide)
  have ef40 := (xf 40 (by decide)).trans ef40
  have eg1 := (xg 1 (by decide)).trans eg1
  have eg2 := (xg 2 (by decide)).trans eg2
  have eg5 := (xg 5 (by decide)).trans eg5
  have eg7 := (xg 7 (by decide)).trans eg7
  have eg11 := (xg 11 (by decide)).trans eg11
  have eg34 := (xg 34 (by decide)).trans eg34
  have eg35 := (xg 35 (by decide)).trans eg35
  have hgE := hgE.trans xg (by decide)
  have qL := q7
  obtain ⟨X15, eg15⟩ : ∃ q, g7 15 = q := ⟨_, rfl⟩
  obtain ⟨X16, eg16⟩ : ∃ q, g7 16 = q := ⟨_, rfl⟩
  obtain ⟨X17, eg17⟩ : ∃ q, g7 17 = q := ⟨_, rfl⟩
  rw [eg15, eg16, eg17] at qL
  obtain ⟨hrd, ef13, ef18, hR⟩ := qL
  have hre := rdQ_e hrd
  have hNN := hR.1
  obtain ⟨y14, ef14⟩ : ∃ q, f7 14 = q := ⟨_, rfl⟩
  rw [ef14] at hre
  obtain ⟨y10r, hy10⟩ : ∃ q, q = x7 := ⟨_, rfl⟩
  rw [← hy10] at hre
  rw [← hy10] at r7 ⊢
  refine z_if_ne (tgt := 20) (TX8_orders_0.at 6 rfl) rfl (by omega) (fun c1 => ?_) (fun c1 => ?_)
  · skip
    refine z_ald_0 (TX8_orders_0.at 11 rfl) ?_
    refine z_iconst (TX8_orders_0.at 12 rfl) ?_
    refine zm_callV1 (m_laysAside eg2 eg5 (by omega) (by omega) (by omega)) (TX8_orders_0.at 13 rfl) c8_438 rfl rfl hH hA (by omega) (Nat.le_of_ble_eq_true rfl) (fun f22 g22 j22 h q22 hH hA => ?_)
    obtain ⟨q22, xf, xg, xj⟩ := q22
    rw [xj] at hH
    have ef13 := (xf 13 (by decide)).trans ef13
    have ef36 := (xf 36 (by decide)).trans ef36
    have ef14 := (xf 14 (by decide)).trans ef14
    have ef18 := (xf 18 (by decide)).trans ef18
    have hfE := hfE.trans xf (by decide)
    have ef40 := (xf 40 (by decide)).trans ef40
    have eg1 := (xg 1 (by decide)).trans eg1
    have eg2 := (xg 2 (by decide)).trans eg2
    have eg7 := (xg 7 (by decide)).trans eg7
    have eg11 := (xg 11 (by decide)).trans eg11
    have eg34 := (xg 34 (by decide)).trans eg34
    have eg35 := (xg 35 (by decide)).trans eg35
    have eg15 := (xg 15 (by decide)).trans eg15
    have eg16 := (xg 16 (by decide)).trans eg16
    have eg17 := (xg 17 (by decide)).trans eg17
    have hgE := hgE.trans xg (by decide)
    have qL := q22
    have eg5 := qL
    refine z_iconst (TX8_orders_0.at 14 rfl) ?_
    refine z_ist_1 (TX8_orders_0.at 15 rfl) (Nat.le_of_ble_eq_true rfl) rfl ?_
    refine lp_ord1 (fun f27 g27 h eg35 eg34 xf xg hH hA => ?_) 481 0 _ _ _ (by omega) (by omega) (by omega) (eg35.trans (cpy_0 _ _ _ _).symm) eg34 eqx.rf eqx.rf hH hA
    have ef13 := (xf 13 (by decide)).trans ef13
    have ef36 := (xf 36 (by decide)).trans ef36
    have ef14 := (xf 14 (by decide)).trans ef14
    have ef18 := (xf 18 (by decide)).trans ef18
    have hfE := hfE.trans xf (by decide)
    have ef40 := (xf 40 (by decide)).trans ef40
    have eg1 := (xg 1 (by decide)).trans eg1
    have eg2 := (xg 2 (by decide)).trans eg2
    have eg5 := (xg 5 (by decide)).trans eg5
    have eg7 := (xg 7 (by decide)).trans eg7
    have eg11 := (xg 11 (by decide)).trans eg11
    have eg15 := (xg 15 (by decide)).trans eg15
    have eg16 := (xg 16 (by decide)).trans eg16
    have eg17 := (xg 17 (by decide)).trans eg17
    have hgE := hgE.trans xg (by decide)
    refine z_ald_0 (TX8_orders_0.at 29 rfl) ?_
    refine zm_getIE ef36 (TX8_orders_0.at 30 rfl) fl8_11 hH rfl (by decide) (fun r53 => ?_)
    refine z_ist_1 (TX8_orders_0.at 31 rfl) (Nat.le_of_ble_eq_true rfl) rfl ?_
    refine z_ald_0 (TX8_orders_0.at 32 rfl) ?_
    refine z_bipush (by decide) (TX8_orders_0.at 33 rfl) ?_
    refine zm_callV1 (m_lays eg2 eg15 eg16 ef18 (by omega) (by omega) (by omega) hNN.1 hNN.2) (TX8_orders_0.at 34 rfl) c8_251 rfl rfl hH hA (by omega) (Nat.le_of_ble_eq_true rfl) (fun f60 g60 j60 h q60 hH hA => ?_)
    obtain ⟨q60, xf, xg, xj⟩ := q60
    rw [xj] at hH
    have ef13 := (xf 13 (by decide)).trans ef13
    have ef36 := (xf 36 (by decide)).trans ef36
    have ef14 := (xf 14 (by decide)).trans ef14
    have ef18 := (xf 18 (by decide)).trans ef18
    have hfE := hfE.trans xf (by decide)
    have ef40 := (xf 40 (by decide)).trans ef40
    have eg1 := (xg 1 (by decide)).trans eg1
    have eg5 := (xg 5 (by decide)).trans eg5
    have eg7 := (xg 7 (by decide)).trans eg7
    have eg11 := (xg 11 (by decide)).trans eg11
    have eg34 := (xg 34 (by decide)).trans eg34
    have eg35 := (xg 35 (by decide)).trans eg35
    have eg15 := (xg 15 (by decide)).trans eg15
    have eg16 := (xg 16 (by decide)).trans eg16
    have eg17 := (xg 17 (by decide)).trans eg17
    have hgE := hgE.trans xg (by decide)
    have qL := q60
    have eg2 := qL
    have hk87 : layN K 6 (tN U z) X15 X16 (tN U z) 87 = tN U z := layN_n (t := 6) (by decide) (by decide) hNN.1 hNN.2
    refine z_ald_0 (TX8_orders_0.at 35 rfl) ?_
    refine z_iconst (TX8_orders_0.at 36 rfl) ?_
    refine zm_putIE (TX8_orders_0.at 37 rfl) fp8_296 hH hA rfl (by decide) (by first | omega | exact b2i_01 _) (fun h f65 e1 e2 hH hA => ?_)
    have ef13 := (e1 13 (by decide)).trans ef13
    have ef36 := (e1 36 (by decide)).trans ef36
    have ef14 := (e1 14 (by decide)).trans ef14
    have ef18 := (e1 18 (by decide)).trans ef18
    have hfE := hfE.put e1 (by decide)
    have ef40 := (e1 40 (by decide)).trans ef40
    have ef27 := e2
    refine z_ald_0 (TX8_orders_0.at 38 rfl) ?_
    refine z_iconst (TX8_orders_0.at 39 rfl) ?_
    refine zm_putIE (TX8_orders_1.at 0 rfl) fp8_299 hH hA rfl (by decide) (by first | omega | exact b2i_01 _) (fun h f70 e1 e2 hH hA => ?_)
    have ef13 := (e1 13 (by decide)).trans ef13
    have ef36 := (e1 36 (by decide)).trans ef36
    have ef14 := (e1 14 (by decide)).trans ef14
    have ef18 := (e1 18 (by decide)).trans ef18
    have hfE := hfE.put e1 (by decide)
    have ef40 := (e1 40 (by decide)).trans ef40
    have ef27 := (e1 27 (by decide)).trans ef27
    have ef28 := e2
    refine z_ald_0 (TX8_orders_1.at 1 rfl) ?_
    refine z_sipush (by decide) (TX8_orders_1.at 2 rfl) ?_
    refine zm_putIE (TX8_orders_1.at 3 rfl) fp8_441 hH hA rfl (by decide) (by first | omega | exact b2i_01 _) (fun h f77 e1 e2 hH hA => ?_)
    have ef13 := (e1 13 (by decide)).trans ef13
    have ef36 := (e1 36 (by decide)).trans ef36
    have ef14 := (e1 14 (by decide)).trans ef14
    have ef18 := (e1 18 (by decide)).trans ef18
    have hfE := hfE.put e1 (by decide)
    have ef40 := (e1 40 (by decide)).trans ef40
    have ef27 := (e1 27 (by decide)).trans ef27
    have ef28 := (e1 28 (by decide)).trans ef28
    have ef41 := e2
    refine z_ald_0 (TX8_orders_1.at 4 rfl) ?_
    refine zm_getI (TX8_orders_1.at 5 rfl) fl8_441 hH rfl (by decide) (fun r81 => ?_)
    refine z_ald_0 (TX8_orders_1.at 6 rfl) ?_
    refine zm_getA (TX8_orders_1.at 7 rfl) fl8_28 hH (by decide) (by decide) ?_
    refine z_bipush (by decide) (TX8_orders_1.at 8 rfl) ?_
    refine zm_ialdE eg2 (TX8_orders_1.at 9 rfl) hH rfl (by omega) (show _ < ((5688 : Nat) : Int) by omega) (fun r90 => ?_)
    rw [hk87] at r90 ⊢
    refine z_iadd (TX8_orders_1.at 10 rfl) ?_
    refine z_ist_2 (TX8_orders_1.at 11 rfl) (Nat.le_of_ble_eq_true rfl) rfl ?_
    refine z_iconst (TX8_orders_1.at 12 rfl) ?_
    refine z_ist_3 (TX8_orders_1.at 13 rfl) (Nat.le_of_ble_eq_true rfl) rfl ?_
    obtain ⟨-, l0, h1, h2⟩ : y10r = 1 ∧ ∃ l2, txtS false U z = .ok l2 ∧ y14 = -1 := by
      rcases hre with ⟨q1, -⟩ | q2
      · exact absurd q1 (by assumption)
      · exact q2
    obtain ⟨nN, hnN⟩ : ∃ q : Nat, (q : Int) = tN U z := ⟨(tN U z).toNat, by omega⟩
    obtain ⟨K1, hK1⟩ : ∃ q, q = layN K 6 (tN U z) X15 X16 (tN U z) := ⟨_, rfl⟩
    have hlp : layP K K1 := by rw [hK1]; exact layP_of hNN.1 hNN.2
    have hKo := KOK_81 hK hlp.1
    have hL1 := LawK_lay hK hL hlp
    have htx : pText false (cK K1 2400 nN) (vK K1 2400) nN 12 0 0 = .ok l0 := by
      have q := lay_text (lw := false) (K := K) hR (t := 6) (by decide) (by decide)
      rw [← hK1, show (400 : Int) * 6 = 2400 by decide, ← hnN] at q
      rw [show ((nN : Int)).toNat = nN from Int.toNat_natCast nN] at q
      exact q.trans h1
    have hlen := ptext_len 12 0 0 l0 htx
    rw [← hK1] at eg2
    rw [← hnN, ef41]
    have hos : OSok K1 0 (K1, X34, u, 0, -1) := ⟨hKo, fun _ _ => rfl, ⟨u0, u1⟩, ⟨show (0 : Int) ≤ 0 by decide, show (0 : Int) ≤ 0 by decide⟩, ⟨show (-1 : Int) ≤ -1 by decide, show (-1 : Int) ≤ 10 by decide⟩⟩
    refine lp_orders (K0 := K1) (d := d) (cl := cl) (nN := nN) (ua := u) (fin := ordL cl l0 0 (K1, X34, u, 0, -1)) (by omega) (by omega) hL1 (fun o4 i f3 g3 j3 h3 er hi20 hq9 xf xg xj hH hA => ?_) (fun o3 o4 K9 X9 u9 dn9 lt9 f3 g3 j3 h3 er hw9 hg2 hg34 h36 h27 h28 xf xg xj hH hA => ?_) l0 12 0 0 0 0 K1 X34 u 0 (-1) _ 2400 _ _ _ _ _ (Or.inl ⟨htx, by omega, by omega⟩) (by omega) (by omega) hos rfl eg2 eg34 rfl ef27 ef28 ef36 ef41 eqx.rf eqx.rf eqx.rf hH hA
    · have hfE := hfE.trans xf (by decide)
      have hgE := hgE.trans xg (by decide)
      have hjE := hjE.trans xj (by decide)
      have eg1 := (xg 1 (by decide)).trans eg1
      have eg5 := (xg 5 (by decide)).trans eg5
      have eg35 := (xg 35 (by decide)).trans eg35
      have ef13 := (xf 13 (by decide)).trans ef13
      have ef14 := (xf 14 (by decide)).trans ef14
      refine z_ald_0 (TX8_orders_1.at 23 rfl) ?_
      refine z_iconst (TX8_orders_1.at 24 rfl) ?_
      refine zm_callV1 (m_takesBack rfl eg5 (by omega) (by omega) (by omega)) (TX8_orders_1.at 25 rfl) c8_447 rfl rfl hH hA (by omega) (Nat.le_of_ble_eq_true rfl) (fun f116 g116 j116 h q116 hH hA => ?_)
      obtain ⟨q116, xf, xg, xj⟩ := q116
      rw [xj] at hH
      have ef13 := (xf 13 (by decide)).trans ef13
      have ef14 := (xf 14 (by decide)).trans ef14
      have hfE := hfE.trans xf (by decide)
      have eg1 := (xg 1 (by decide)).trans eg1
      have eg5 := (xg 5 (by decide)).trans eg5
      have eg35 := (xg 35 (by decide)).trans eg35
      have hgE := hgE.trans xg (by decide)
      have qL := q116
      have eg2 := qL
      refine z_iconst (TX8_orders_1.at 26 rfl) ?_
      refine z_ist_4 (TX8_orders_1.at 27 rfl) (Nat.le_of_ble_eq_true rfl) rfl ?_
      refine lp_ord2 (ua := u) (ed := 2400 + (nN : Int)) (ix := (i : Int)) (fun f122 g122 h eg34 eg35 xf xg hH hA => ?_) 481 0 _ _ _ (by omega) (by omega) (by omega) ((rfl : _ = _).trans (cpy_0 _ _ _ _).symm) eg35 eqx.rf eqx.rf hH hA
      have ef13 := (xf 13 (by decide)).trans ef13
      have ef14 := (xf 14 (by decide)).trans ef14
      have hfE := hfE.trans xf (by decide)
      have eg1 := (xg 1 (by decide)).trans eg1
      have eg5 := (xg 5 (by decide)).trans eg5
      have hgE := hgE.trans xg (by decide)
      have eg2 := (xg 2 (by decide)).trans eg2
      refine z_ald_0 (TX8_orders_2.at 1 rfl) ?_
      refine z_ild_1 (TX8_orders_2.at 2 rfl) ?_
      refine zm_putIE (TX8_orders_2.at 3 rfl) fp8_11 hH hA rfl (by decide) (by first | omega | exact b2i_01 _) (fun h f152 e1 e2 hH hA => ?_)
      have ef13 := (e1 13 (by decide)).trans ef13
      have ef14 := (e1 14 (by decide)).trans ef14
      have hfE := hfE.put e1 (by decide)
      have ef36 := e2
      refine z_ald_0 (TX8_orders_2.at 4 rfl) ?_
      refine z_ild_3 (TX8_orders_2.at 5 rfl) ?_
      refine zm_putIE (TX8_orders_2.at 6 rfl) fp8_91 hH hA rfl (by decide) (by first | omega | exact b2i_01 _) (fun h f157 e1 e2 hH hA => ?_)
      have ef13 := (e1 13 (by decide)).trans ef13
      have ef14 := (e1 14 (by decide)).trans ef14
      have hfE := hfE.put e1 (by decide)
      have ef36 := (e1 36 (by decide)).trans ef36
      have ef40 := e2
      refine z_ald_0 (TX8_orders_2.at 7 rfl) ?_
      refine z_bipush (by decide) (TX8_orders_2.at 8 rfl) ?_
      refine zm_callI1 (t_refuses eg1 (by omega) (by omega) (by omega) hb) (TX8_orders_2.at 9 rfl) c8_103 rfl rfl hH hA (by omega) (Nat.le_of_ble_eq_true rfl) (fun x163 f163 g163 j163 h r163 q163 hH hA => ?_)
      obtain ⟨q163, xf, xg, xj⟩ := q163
      rw [xj] at hH
      have ef13 := (xf 13 (by decide)).trans ef13
      have ef14 := (xf 14 (by decide)).trans ef14
      have hfE := hfE.trans xf (by decide)
      have eg5 := (xg 5 (by decide)).trans eg5
      have eg35 := (xg 35 (by decide)).trans eg35
      have hgE := hgE.trans xg (by decide)
      have qL := q163
      refine zm_iret (TX8_orders_2.at 10 rfl) rfl hH hA (by omega) ?_
      have ef36 := (xf 36 (by decide)).trans ef36
      have ef40 := (xf 40 (by decide)).trans ef40
      have eg2 := (xg 2 (by decide)).trans eg2
      have eg34 := (xg 34 (by decide)).trans eg34
      exact ⟨⟨ef13, Or.inr ⟨l0, K1, h1, ef14.trans h2, hlp, Or.inr ⟨i, er, ⟨qL.1, qL.2.1, qL.2.2⟩, fun q q0 => by
        rw [eg2]
        unfold cpy
        by_cases hq : 0 ≤ q ∧ q < 0 + 29
        · rw [if_pos hq, if_pos (by omega), hlp.1 q (by omega)]; congr 1; omega
        · rw [if_neg hq]; exact hq9 q (by omega), fun q q0 q1 => by
        rw [eg34]
        unfold cpy
        rw [if_pos (by omega), if_pos (by omega)]; congr 1; omega, ef36, ef40⟩⟩⟩, hfE, hgE, hjE⟩
    · have hfE := hfE.trans xf (by decide)
      have hgE := hgE.trans xg (by decide)
      have hjE := hjE.trans xj (by decide)
      have eg1 := (xg 1 (by decide)).trans eg1
      have ef13 := (xf 13 (by decide)).trans ef13
      have ef14 := (xf 14 (by decide)).trans ef14
      have ef40 := (xf 40 (by decide)).trans ef40
      have hdn := hw9.2.2.2.1
      simp only at hdn
      refine z_ald_0 (TX8_orders_2.at 13 rfl) ?_
      refine z_ald_0 (TX8_orders_2.at 14 rfl) ?_
      skip
      refine zm_getIE h27 (TX8_orders_2.at 15 rfl) fl8_296 hH rfl (by decide) (fun r175 => ?_)
      refine zm_callI1 (t_good (by omega)) (TX8_orders_2.at 16 rfl) c8_14 rfl rfl hH hA (by omega) (Nat.le_of_ble_eq_true rfl) (fun x178 f178 g178 j178 h r178 q178 hH hA => ?_)
      obtain ⟨q178, xf, xg, xj⟩ := q178
      rw [xj] at hH
      have ef13 := (xf 13 (by decide)).trans ef13
      have ef14 := (xf 14 (by decide)).trans ef14
      have hfE := hfE.trans xf (by decide)
      have eg1 := (xg 1 (by decide)).trans eg1
      have hgE := hgE.trans xg (by decide)
      have qL := q178
      refine zm_iret (TX8_orders_2.at 17 rfl) rfl hH hA (by omega) ?_
      exact ⟨⟨ef13, Or.inr ⟨l0, K1, h1, ef14.trans h2, hlp, Or.inl ⟨(K9, X9, u9, dn9, lt9), er, hw9, ⟨qL.1, qL.2, eg1⟩, (xg 2 (by decide)).trans hg2, (xg 34 (by decide)).trans hg34, (xf 36 (by decide)).trans h36, (xf 40 (by decide)).trans ef40⟩⟩⟩, hfE, hgE, hjE⟩
  · skip
    refine z_ald_0 (TX8_orders_0.at 7 rfl) ?_
    refine z_bipush (by decide) (TX8_orders_0.at 8 rfl) ?_
    refine zm_callI1 (t_refuses eg1 (by omega) (by omega) (by omega) hb) (TX8_orders_0.at 9 rfl) c8_103 rfl rfl hH hA (by omega) (Nat.le_of_ble_eq_true rfl) (fun x16 f16 g16 j16 h r16 q16 hH hA => ?_)
    obtain ⟨q16, xf, xg, xj⟩ := q16
    rw [xj] at hH
    have ef13 := (xf 13 (by decide)).trans ef13
    have ef36 := (xf 36 (by decide)).trans ef36
    have ef14 := (xf 14 (by decide)).trans ef14
    have ef18 := (xf 18 (by decide)).trans ef18
    have hfE := hfE.trans xf (by decide)
    have eg2 := (xg 2 (by decide)).trans eg2
    have eg5 := (xg 5 (by decide)).trans eg5
    have eg7 := (xg 7 (by decide)).trans eg7
    have eg11 := (xg 11 (by decide)).trans eg11
    have eg34 := (xg 34 (by decide)).trans eg34
    have eg35 := (xg 35 (by decide)).trans eg35
    have eg15 := (xg 15 (by decide)).trans eg15
    have eg16 := (xg 16 (by decide)).trans eg16
    have eg17 := (xg 17 (by decide)).trans eg17
    have hgE := hgE.trans xg (by decide)
    have qL := q16
    refine zm_iret (TX8_orders_0.at 10 rfl) rfl hH hA (by omega) ?_
    exact ⟨⟨ef13, Or.inl (by rcases hre with ⟨-, e, h1, h2⟩ | ⟨q1, -⟩; exact ⟨e, h1, ⟨qL.1, qL.2.1, qL.2.2⟩, eg2, eg34, ef36, (xf 40 (by decide)).trans ef40, ef14.trans h2⟩; exact absurd q1 (by omega))⟩, hfE, hgE, hjE⟩

