set_option maxHeartbeats 4000000 in
set_option maxRecDepth 100000 in
theorem m_isLaw {l : Launch} {o : Nat} {ar : Nat → Nat} {f : mF} {g j : mA} {K : Int → Int} {x : Int}  (eg2 : g 2 = K) (hx : zIn x) (t0 : 0 ≤ K 79) : MM l o ar MX8_isLaw 1 [.ref o, vI x] f g j (PI (fun r f' g' j' => (r = b2i (-1 ≤ x ∧ x ≤ K 79 - 1)) ∧ eqx [] f f' ∧ eqx [] g g' ∧ j' = j)) := by
  refine MM.intro [some (.ref o), some (vI x)] (by decide) (Nat.le_of_ble_eq_true rfl) rfl (fun d hd h0 h hH hA => ?_)
  have hfE : eqx [] f f := eqx.rf
  have hgE : eqx [] g g := eqx.rf
  refine z_ild_1 (TX8_isLaw.at 0 rfl) ?_
  refine z_iconst (TX8_isLaw.at 1 rfl) ?_
  refine z_ald_0 (TX8_isLaw.at 2 rfl) ?_
  refine zm_getA (TX8_isLaw.at 3 rfl) fl8_28 hH (by decide) (by decide) ?_
  refine z_bipush (by decide) (TX8_isLaw.at 4 rfl) ?_
  refine zm_ialdE eg2 (TX8_isLaw.at 5 rfl) hH rfl (by omega) (show _ < ((5688 : Nat) : Int) by omega) (fun r8 => ?_)
  refine z_iconst (TX8_isLaw.at 6 rfl) ?_
  refine z_isub (TX8_isLaw.at 7 rfl) ?_
  refine zs_call3 (s_lies (by omega) (by omega) (by omega)) (TX8_isLaw.at 8 rfl) c8_18 rfl (by omega) (Nat.le_of_ble_eq_true rfl) (fun r11 => ?_)
  refine zm_zret (TX8_isLaw.at 9 rfl) rfl hH hA (by first | omega | exact b2i_01 _) ?_
  exact ⟨rfl, hfE, hgE, rfl⟩

set_option maxHeartbeats 4000000 in
set_option maxRecDepth 100000 in
theorem m_force {l : Launch} {o : Nat} {ar : Nat → Nat} {f : mF} {g j : mA} {X1 : Int → Int} {K : Int → Int} {x : Int}  (eg1 : g 1 = X1) (eg2 : g 2 = K) (hx : zIn x) (hb : ∀ i, X1 i ≤ 100000) (t0 : 0 ≤ K 79) : MM l o ar MX8_force 2 [.ref o, vI x] f g j (PI (fun r f' g' j' => ((¬ (-1 ≤ x ∧ x ≤ K 79 - 1) ∧ mRef (-2) r f' g' X1 ∧ g' 2 = K) ∨ ((-1 ≤ x ∧ x ≤ K 79 - 1) ∧ mOk (K 80) r f' g' X1 ∧ g' 2 = iu K 80 x)) ∧ eqx [0] f f' ∧ eqx [1, 2] g g' ∧ j' = j)) := by
  refine MM.intro [some (.ref o), some (vI x), none] (by decide) (Nat.le_of_ble_eq_true rfl) rfl (fun d hd h0 h hH hA => ?_)
  have hfE : eqx [0] f f := eqx.rf
  have hgE : eqx [1, 2] g g := eqx.rf
  refine z_ald_0 (TX8_force.at 0 rfl) ?_
  refine z_ild_1 (TX8_force.at 1 rfl) ?_
  refine zm_callI1 (m_isLaw eg2 (by omega) t0) (TX8_force.at 2 rfl) c8_254 rfl rfl hH hA (by omega) (Nat.le_of_ble_eq_true rfl) (fun x2 f2 g2 j2 h r2 q2 hH hA => ?_)
  obtain ⟨q2, xf, xg, xj⟩ := q2
  rw [xj] at hH
  have hfE := hfE.trans xf (by decide)
  have eg1 := (xg 1 (by decide)).trans eg1
  have eg2 := (xg 2 (by decide)).trans eg2
  have hgE := hgE.trans xg (by decide)
  have qL := q2
  obtain rfl := qL
  refine z_if_neB (tgt := 15) (TX8_force.at 3 rfl) rfl (fun c1 => ?_) (fun c1 => ?_)
  · skip
    refine z_ald_0 (TX8_force.at 8 rfl) ?_
    refine zm_getA (TX8_force.at 9 rfl) fl8_28 hH (by decide) (by decide) ?_
    refine z_bipush (by decide) (TX8_force.at 10 rfl) ?_
    refine zm_ialdE eg2 (TX8_force.at 11 rfl) hH rfl (by omega) (show _ < ((5688 : Nat) : Int) by omega) (fun r21 => ?_)
    refine z_ist_2 (TX8_force.at 12 rfl) (Nat.le_of_ble_eq_true rfl) rfl ?_
    refine z_ald_0 (TX8_force.at 13 rfl) ?_
    refine zm_getA (TX8_force.at 14 rfl) fl8_28 hH (by decide) (by decide) ?_
    refine z_bipush (by decide) (TX8_force.at 15 rfl) ?_
    refine z_ild_1 (TX8_force.at 16 rfl) ?_
    refine zm_iastE (TX8_force.at 17 rfl) hH hA rfl (by omega) (show _ < ((5688 : Nat) : Int) by omega) (by omega) (fun h g30 e1 e2 hH hA => ?_)
    have eg1 := (e1 1 (by decide)).trans eg1
    rw [eg2] at e2; have eg2 := e2
    have hgE := hgE.put e1 (by decide)
    refine z_ald_0 (TX8_force.at 18 rfl) ?_
    refine z_ild_2 (TX8_force.at 19 rfl) ?_
    refine zm_callI1 (t_good (by omega)) (TX8_force.at 20 rfl) c8_14 rfl rfl hH hA (by omega) (Nat.le_of_ble_eq_true rfl) (fun x33 f33 g33 j33 h r33 q33 hH hA => ?_)
    obtain ⟨q33, xf, xg, xj⟩ := q33
    rw [xj] at hH
    have hfE := hfE.trans xf (by decide)
    have eg1 := (xg 1 (by decide)).trans eg1
    have eg2 := (xg 2 (by decide)).trans eg2
    have hgE := hgE.trans xg (by decide)
    have qL := q33
    refine zm_iret (TX8_force.at 21 rfl) rfl hH hA (by omega) ?_
    exact ⟨Or.inr ⟨c1, ⟨qL.1, qL.2, eg1⟩, eg2⟩, hfE, hgE, rfl⟩
  · skip
    refine z_ald_0 (TX8_force.at 4 rfl) ?_
    refine z_bipush (by decide) (TX8_force.at 5 rfl) ?_
    refine zm_callI1 (t_refuses eg1 (by omega) (by omega) (by omega) hb) (TX8_force.at 6 rfl) c8_103 rfl rfl hH hA (by omega) (Nat.le_of_ble_eq_true rfl) (fun x11 f11 g11 j11 h r11 q11 hH hA => ?_)
    obtain ⟨q11, xf, xg, xj⟩ := q11
    rw [xj] at hH
    have hfE := hfE.trans xf (by decide)
    have eg2 := (xg 2 (by decide)).trans eg2
    have hgE := hgE.trans xg (by decide)
    have qL := q11
    refine zm_iret (TX8_force.at 7 rfl) rfl hH hA (by omega) ?_
    exact ⟨Or.inl ⟨c1, ⟨qL.1, qL.2.1, qL.2.2⟩, eg2⟩, hfE, hgE, rfl⟩

set_option maxHeartbeats 4000000 in
set_option maxRecDepth 100000 in
theorem m_seen {l : Launch} {o : Nat} {ar : Nat → Nat} {f : mF} {g j : mA} {X1 : Int → Int} {K : Int → Int} {k s : Int}  (eg1 : g 1 = X1) (eg2 : g 2 = K) (hk : zIn k) (hs : zIn s) (hb : ∀ i, X1 i ≤ 100000) (n0 : 0 ≤ K 78) (n1 : K 78 ≤ 6) : MM l o ar MX8_seen 2 [.ref o, vI k, vI s] f g j (PI (fun r f' g' j' => ((¬ ((0 ≤ k ∧ k ≤ 7) ∧ 0 ≤ s ∧ s ≤ 999) ∧ mRef (-1) r f' g' X1 ∧ g' 2 = K) ∨ (((0 ≤ k ∧ k ≤ 7) ∧ 0 ≤ s ∧ s ≤ 999) ∧ K 78 = 6 ∧ mRef (-5) r f' g' X1 ∧ g' 2 = K) ∨ (((0 ≤ k ∧ k ≤ 7) ∧ 0 ≤ s ∧ s ≤ 999) ∧ K 78 < 6 ∧ mOk (K 78 + 1) r f' g' X1 ∧ g' 2 = iu (iu (iu K (62 + 2 * K 78) k) (62 + 2 * K 78 + 1) s) 78 (K 78 + 1))) ∧ eqx [0] f f' ∧ eqx [1, 2] g g' ∧ j' = j)) := by
  refine MM.intro [some (.ref o), some (vI k), some (vI s), none] (by decide) (Nat.le_of_ble_eq_true rfl) rfl (fun d hd h0 h hH hA => ?_)
  have hfE : eqx [0] f f := eqx.rf
  have hgE : eqx [1, 2] g g := eqx.rf
  refine z_ild_1 (TX8_seen.at 0 rfl) ?_
  refine zs_call1 (s_isKnot (by omega)) (TX8_seen.at 1 rfl) c8_113 rfl (by omega) (Nat.le_of_ble_eq_true rfl) (fun r1 => ?_)
  refine z_if_eqB (tgt := 18) (TX8_seen.at 2 rfl) rfl (fun c1 => ?_) (fun c1 => ?_)
  · skip
    refine z_ald_0 (TX8_seen.at 8 rfl) ?_
    refine z_iconst (TX8_seen.at 9 rfl) ?_
    refine zm_callI1 (t_refuses eg1 (by omega) (by omega) (by omega) hb) (TX8_seen.at 10 rfl) c8_103 rfl rfl hH hA (by omega) (Nat.le_of_ble_eq_true rfl) (fun x20 f20 g20 j20 h r20 q20 hH hA => ?_)
    obtain ⟨q20, xf, xg, xj⟩ := q20
    rw [xj] at hH
    have hfE := hfE.trans xf (by decide)
    have eg2 := (xg 2 (by decide)).trans eg2
    have hgE := hgE.trans xg (by decide)
    have qL := q20
    refine zm_iret (TX8_seen.at 11 rfl) rfl hH hA (by omega) ?_
    exact ⟨Or.inl ⟨by omega, ⟨qL.1, qL.2.1, qL.2.2⟩, eg2⟩, hfE, hgE, rfl⟩
  · skip
    refine z_ild_2 (TX8_seen.at 3 rfl) ?_
    refine z_iconst (TX8_seen.at 4 rfl) ?_
    refine z_sipush (by decide) (TX8_seen.at 5 rfl) ?_
    refine zs_call3 (s_lies (by omega) (by omega) (by omega)) (TX8_seen.at 6 rfl) c8_18 rfl (by omega) (Nat.le_of_ble_eq_true rfl) (fun r12 => ?_)
    refine z_if_neB (tgt := 24) (TX8_seen.at 7 rfl) rfl (fun c2 => ?_) (fun c2 => ?_)
    · skip
      refine z_bipush (by decide) (TX8_seen.at 12 rfl) ?_
      refine z_iconst (TX8_seen.at 13 rfl) ?_
      refine z_ald_0 (TX8_seen.at 14 rfl) ?_
      refine zm_getA (TX8_seen.at 15 rfl) fl8_28 hH (by decide) (by decide) ?_
      refine z_bipush (by decide) (TX8_seen.at 16 rfl) ?_
      refine zm_ialdE eg2 (TX8_seen.at 17 rfl) hH rfl (by omega) (show _ < ((5688 : Nat) : Int) by omega) (fun r33 => ?_)
      refine z_imul (TX8_seen.at 18 rfl) ?_
      refine z_iadd (TX8_seen.at 19 rfl) ?_
      refine z_ist_3 (TX8_seen.at 20 rfl) (Nat.le_of_ble_eq_true rfl) rfl ?_
      refine z_ald_0 (TX8_seen.at 21 rfl) ?_
      refine zm_getA (TX8_seen.at 22 rfl) fl8_28 hH (by decide) (by decide) ?_
      refine z_bipush (by decide) (TX8_seen.at 23 rfl) ?_
      refine zm_ialdE eg2 (TX8_seen.at 24 rfl) hH rfl (by omega) (show _ < ((5688 : Nat) : Int) by omega) (fun r43 => ?_)
      refine z_bipush (by decide) (TX8_seen.at 25 rfl) ?_
      refine z_icmp_ne (tgt := 56) (TX8_seen.at 26 rfl) rfl (by omega) (by omega) (fun c3 => ?_) (fun c3 => ?_)
      · skip
        refine z_ald_0 (TX8_seen.at 31 rfl) ?_
        refine zm_getA (TX8_seen.at 32 rfl) fl8_28 hH (by decide) (by decide) ?_
        refine z_ild_3 (TX8_seen.at 33 rfl) ?_
        refine z_ild_1 (TX8_seen.at 34 rfl) ?_
        refine zm_iastE (TX8_seen.at 35 rfl) hH hA rfl (by omega) (show _ < ((5688 : Nat) : Int) by omega) (by omega) (fun h g62 e1 e2 hH hA => ?_)
        have eg1 := (e1 1 (by decide)).trans eg1
        rw [eg2] at e2; have eg2 := e2
        have hgE := hgE.put e1 (by decide)
        refine z_ald_0 (TX8_seen.at 36 rfl) ?_
        refine zm_getA (TX8_seen.at 37 rfl) fl8_28 hH (by decide) (by decide) ?_
        refine z_ild_3 (TX8_seen.at 38 rfl) ?_
        refine z_iconst (TX8_seen.at 39 rfl) ?_
        refine z_iadd (TX8_seen.at 40 rfl) ?_
        refine z_ild_2 (TX8_seen.at 41 rfl) ?_
        refine zm_iastE (TX8_seen.at 42 rfl) hH hA rfl (by omega) (show _ < ((5688 : Nat) : Int) by omega) (by omega) (fun h g71 e1 e2 hH hA => ?_)
        have eg1 := (e1 1 (by decide)).trans eg1
        rw [eg2] at e2; have eg2 := e2
        have hgE := hgE.put e1 (by decide)
        refine z_ald_0 (TX8_seen.at 43 rfl) ?_
        refine zm_getA (TX8_seen.at 44 rfl) fl8_28 hH (by decide) (by decide) ?_
        refine z_bipush (by decide) (TX8_seen.at 45 rfl) ?_
        refine z_dup2 rfl rfl (TX8_seen.at 46 rfl) ?_
        refine zm_ialdE eg2 (TX8_seen.at 47 rfl) hH rfl (by omega) (show _ < ((5688 : Nat) : Int) by omega) (fun r79 => ?_)
        simp (disch := omega) only [iu_ne] at r79 ⊢
        refine z_iconst (TX8_seen.at 48 rfl) ?_
        refine z_iadd (TX8_seen.at 49 rfl) ?_
        refine zm_iastE (TX8_seen.at 50 rfl) hH hA rfl (by omega) (show _ < ((5688 : Nat) : Int) by omega) (by omega) (fun h g82 e1 e2 hH hA => ?_)
        have eg1 := (e1 1 (by decide)).trans eg1
        rw [eg2] at e2; have eg2 := e2
        have hgE := hgE.put e1 (by decide)
        refine z_ald_0 (TX8_seen.at 51 rfl) ?_
        refine z_ald_0 (TX8_seen.at 52 rfl) ?_
        refine zm_getA (TX8_seen.at 53 rfl) fl8_28 hH (by decide) (by decide) ?_
        refine z_bipush (by decide) (TX8_seen.at 54 rfl) ?_
        refine zm_ialdE eg2 (TX8_seen.at 55 rfl) hH rfl (by omega) (show _ < ((5688 : Nat) : Int) by omega) (fun r90 => ?_)
        rw [iu_self] at r90 ⊢
        refine zm_callI1 (t_good (by omega)) (TX8_seen.at 56 rfl) c8_14 rfl rfl hH hA (by omega) (Nat.le_of_ble_eq_true rfl) (fun x91 f91 g91 j91 h r91 q91 hH hA => ?_)
        obtain ⟨q91, xf, xg, xj⟩ := q91
        rw [xj] at hH
        have hfE := hfE.trans xf (by decide)
        have eg1 := (xg 1 (by decide)).trans eg1
        have eg2 := (xg 2 (by decide)).trans eg2
        have hgE := hgE.trans xg (by decide)
        have qL := q91
        refine zm_iret (TX8_seen.at 57 rfl) rfl hH hA (by omega) ?_
        exact ⟨Or.inr (Or.inr ⟨by omega, by omega, ⟨qL.1, qL.2, eg1⟩, eg2⟩), hfE, hgE, rfl⟩
      · skip
        refine z_ald_0 (TX8_seen.at 27 rfl) ?_
        refine z_bipush (by decide) (TX8_seen.at 28 rfl) ?_
        refine zm_callI1 (t_refuses eg1 (by omega) (by omega) (by omega) hb) (TX8_seen.at 29 rfl) c8_103 rfl rfl hH hA (by omega) (Nat.le_of_ble_eq_true rfl) (fun x52 f52 g52 j52 h r52 q52 hH hA => ?_)
        obtain ⟨q52, xf, xg, xj⟩ := q52
        rw [xj] at hH
        have hfE := hfE.trans xf (by decide)
        have eg2 := (xg 2 (by decide)).trans eg2
        have hgE := hgE.trans xg (by decide)
        have qL := q52
        refine zm_iret (TX8_seen.at 30 rfl) rfl hH hA (by omega) ?_
        exact ⟨Or.inr (Or.inl ⟨by omega, by omega, ⟨qL.1, qL.2.1, qL.2.2⟩, eg2⟩), hfE, hgE, rfl⟩
    · skip
      refine z_ald_0 (TX8_seen.at 8 rfl) ?_
      refine z_iconst (TX8_seen.at 9 rfl) ?_
      refine zm_callI1 (t_refuses eg1 (by omega) (by omega) (by omega) hb) (TX8_seen.at 10 rfl) c8_103 rfl rfl hH hA (by omega) (Nat.le_of_ble_eq_true rfl) (fun x20 f20 g20 j20 h r20 q20 hH hA => ?_)
      obtain ⟨q20, xf, xg, xj⟩ := q20
      rw [xj] at hH
      have hfE := hfE.trans xf (by decide)
      have eg2 := (xg 2 (by decide)).trans eg2
      have hgE := hgE.trans xg (by decide)
      have qL := q20
      refine zm_iret (TX8_seen.at 11 rfl) rfl hH hA (by omega) ?_
      exact ⟨Or.inl ⟨by omega, ⟨qL.1, qL.2.1, qL.2.2⟩, eg2⟩, hfE, hgE, rfl⟩

set_option maxHeartbeats 4000000 in
set_option maxRecDepth 100000 in
theorem m_forget {l : Launch} {o : Nat} {ar : Nat → Nat} {f : mF} {g j : mA} {K : Int → Int}  (eg2 : g 2 = K)  : MM l o ar MX8_forget 0 [.ref o] f g j (PI (fun r f' g' j' => (r = K 78 ∧ g' 2 = iu K 78 0) ∧ eqx [] f f' ∧ eqx [2] g g' ∧ j' = j)) := by
  refine MM.intro [some (.ref o), none] (by decide) (Nat.le_of_ble_eq_true rfl) rfl (fun d hd h0 h hH hA => ?_)
  have hfE : eqx [] f f := eqx.rf
  have hgE : eqx [2] g g := eqx.rf
  refine z_ald_0 (TX8_forget.at 0 rfl) ?_
  refine zm_getA (TX8_forget.at 1 rfl) fl8_28 hH (by decide) (by decide) ?_
  refine z_bipush (by decide) (TX8_forget.at 2 rfl) ?_
  refine zm_ialdE eg2 (TX8_forget.at 3 rfl) hH rfl (by omega) (show _ < ((5688 : Nat) : Int) by omega) (fun r6 => ?_)
  refine z_ist_1 (TX8_forget.at 4 rfl) (Nat.le_of_ble_eq_true rfl) rfl ?_
  refine z_ald_0 (TX8_forget.at 5 rfl) ?_
  refine zm_getA (TX8_forget.at 6 rfl) fl8_28 hH (by decide) (by decide) ?_
  refine z_bipush (by decide) (TX8_forget.at 7 rfl) ?_
  refine z_iconst (TX8_forget.at 8 rfl) ?_
  refine zm_iastE (TX8_forget.at 9 rfl) hH hA rfl (by omega) (show _ < ((5688 : Nat) : Int) by omega) (by omega) (fun h g15 e1 e2 hH hA => ?_)
  rw [eg2] at e2; have eg2 := e2
  have hgE := hgE.put e1 (by decide)
  refine z_ild_1 (TX8_forget.at 10 rfl) ?_
  refine zm_iret (TX8_forget.at 11 rfl) rfl hH hA (by omega) ?_
  exact ⟨⟨rfl, eg2⟩, hfE, hgE, rfl⟩

set_option maxHeartbeats 4000000 in
set_option maxRecDepth 100000 in
theorem m_exchanges {l : Launch} {o : Nat} {ar : Nat → Nat} {f : mF} {g j : mA} {K : Int → Int} {a b : Int}  (eg2 : g 2 = K) (ha : zIn a) (hb : zIn b) (a0 : 0 ≤ a) (a1 : a ≤ 9) (b0 : 0 ≤ b) (b1 : b ≤ 9) : MM l o ar MX8_exchanges 0 [.ref o, vI a, vI b] f g j (PV (fun f' g' j' => (g' 2 = iu (iu K (10 + a) (K (10 + b))) (10 + b) (K (10 + a))) ∧ eqx [] f f' ∧ eqx [2] g g' ∧ j' = j)) := by
  refine MM.intro [some (.ref o), some (vI a), some (vI b), none] (by decide) (Nat.le_of_ble_eq_true rfl) rfl (fun d hd h0 h hH hA => ?_)
  have hfE : eqx [] f f := eqx.rf
  have hgE : eqx [2] g g := eqx.rf
  refine z_ald_0 (TX8_exchanges.at 0 rfl) ?_
  refine zm_getA (TX8_exchanges.at 1 rfl) fl8_28 hH (by decide) (by decide) ?_
  refine z_bipush (by decide) (TX8_exchanges.at 2 rfl) ?_
  refine z_ild_1 (TX8_exchanges.at 3 rfl) ?_
  refine z_iadd (TX8_exchanges.at 4 rfl) ?_
  refine zm_ialdE eg2 (TX8_exchanges.at 5 rfl) hH rfl (by omega) (show _ < ((5688 : Nat) : Int) by omega) (fun r8 => ?_)
  refine z_ist_3 (TX8_exchanges.at 6 rfl) (Nat.le_of_ble_eq_true rfl) rfl ?_
  refine z_ald_0 (TX8_exchanges.at 7 rfl) ?_
  refine zm_getA (TX8_exchanges.at 8 rfl) fl8_28 hH (by decide) (by decide) ?_
  refine z_bipush (by decide) (TX8_exchanges.at 9 rfl) ?_
  refine z_ild_1 (TX8_exchanges.at 10 rfl) ?_
  refine z_iadd (TX8_exchanges.at 11 rfl) ?_
  refine z_ald_0 (TX8_exchanges.at 12 rfl) ?_
  refine zm_getA (TX8_exchanges.at 13 rfl) fl8_28 hH (by decide) (by decide) ?_
  refine z_bipush (by decide) (TX8_exchanges.at 14 rfl) ?_
  refine z_ild_2 (TX8_exchanges.at 15 rfl) ?_
  refine z_iadd (TX8_exchanges.at 16 rfl) ?_
  refine zm_ialdE eg2 (TX8_exchanges.at 17 rfl) hH rfl (by omega) (show _ < ((5688 : Nat) : Int) by omega) (fun r26 => ?_)
  refine zm_iastE (TX8_exchanges.at 18 rfl) hH hA rfl (by omega) (show _ < ((5688 : Nat) : Int) by omega) (by omega) (fun h g27 e1 e2 hH hA => ?_)
  rw [eg2] at e2; have eg2 := e2
  have hgE := hgE.put e1 (by decide)
  refine z_ald_0 (TX8_exchanges.at 19 rfl) ?_
  refine zm_getA (TX8_exchanges.at 20 rfl) fl8_28 hH (by decide) (by decide) ?_
  refine z_bipush (by decide) (TX8_exchanges.at 21 rfl) ?_
  refine z_ild_2 (TX8_exchanges.at 22 rfl) ?_
  refine z_iadd (TX8_exchanges.at 23 rfl) ?_
  refine z_ild_3 (TX8_exchanges.at 24 rfl) ?_
  refine zm_iastE (TX8_exchanges.at 25 rfl) hH hA rfl (by omega) (show _ < ((5688 : Nat) : Int) by omega) (by omega) (fun h g37 e1 e2 hH hA => ?_)
  rw [eg2] at e2; have eg2 := e2
  have hgE := hgE.put e1 (by decide)
  refine zm_vret (TX8_exchanges.at 26 rfl) rfl hH hA ?_
  exact ⟨eg2, hfE, hgE, rfl⟩

def kpU (u : Int) : Int := if u = 16 then 15 else u
def kpX (X : Int → Int) (u : Int) : Int → Int := if u = 16 then shd X 30 450 else X
theorem kpU_ne {u : Int} (h : u ≠ 16) : kpU u = u := if_neg h
theorem kpX_ne {X : Int → Int} {u : Int} (h : u ≠ 16) : kpX X u = X := if_neg h
theorem kpU_eq {u : Int} (h : u = 16) : kpU u = u - 1 := by subst h; rfl
theorem kpX_eq {X : Int → Int} {u : Int} (h : u = 16) : kpX X u = shd X 30 450 := if_pos h
/-- the row of what can be undone, with one more -/
def kpR (X K : Int → Int) (u w : Int) : Int → Int := iu (cpy (kpX X u) K (30 * kpU u) 0 29) (30 * kpU u + 29) w
set_option maxHeartbeats 4000000 in
set_option maxRecDepth 100000 in
theorem lp_keeps1 {l : Launch} {o : Nat} {ar : Nat → Nat} {d : Nat} {Pz : Option Value → zH → Prop} {h0 : zH} {f0 : mF} {g0 : mA} {j : mA}  {X34 : Int → Int} {w : Int} (kx : ∀ (f : mF) (g : mA) (h : zH), g 34 = shd X34 30 450 → eqx [] f0 f → eqx [34] g0 g → HM o ar f g j h → zAg o ar h0 h → Z l MX8_keeps d 0 0 Pz 42 [some (.ref o), some (vI w), some (vI 30), some (vI 450)] [] h 0 0)  : ∀ (n : Nat) (i : Int) (f : mF) (g : mA) (h : zH) (i0 : 0 ≤ i) (i1 : i ≤ 450) (i2 : 450 < i + n) (eg34 : g 34 = shd X34 30 i) (hfE : eqx [] f0 f) (hgE : eqx [34] g0 g) (hH : HM o ar f g j h) (hA : zAg o ar h0 h), Z l MX8_keeps d 0 0 Pz 14 [some (.ref o), some (vI w), some (vI 30), some (vI i)] [] h 0 0 := by
  intro n
  induction n with
  | zero => intro i f g h i0 i1 i2 eg34 hfE hgE hH hA; exfalso; omega
  | succ n ih =>
    intro i f g h i0 i1 i2 eg34 hfE hgE hH hA
    refine z_ild_3 (TX8_keeps_0.at 8 rfl) ?_
    refine z_bipush (by decide) (TX8_keeps_0.at 9 rfl) ?_
    refine z_ild_2 (TX8_keeps_0.at 10 rfl) ?_
    refine z_imul (TX8_keeps_0.at 11 rfl) ?_
    refine z_icmp_ge (tgt := 42) (TX8_keeps_0.at 12 rfl) rfl (by omega) (by omega) (fun c1 => ?_) (fun c1 => ?_)
    · skip
      obtain rfl : i = 450 := by omega
      exact kx _ _ _ eg34 hfE hgE hH hA
    · skip
      refine z_ald_0 (TX8_keeps_0.at 13 rfl) ?_
      refine zm_getA (TX8_keeps_0.at 14 rfl) fl8_75 hH (by decide) (by decide) ?_
      refine z_ild_3 (TX8_keeps_0.at 15 rfl) ?_
      refine z_ald_0 (TX8_keeps_0.at 16 rfl) ?_
      refine zm_getA (TX8_keeps_0.at 17 rfl) fl8_75 hH (by decide) (by decide) ?_
      refine z_ild_3 (TX8_keeps_0.at 18 rfl) ?_
      refine z_ild_2 (TX8_keeps_0.at 19 rfl) ?_
      refine z_iadd (TX8_keeps_0.at 20 rfl) ?_
      refine zm_ialdE eg34 (TX8_keeps_0.at 21 rfl) hH rfl (by omega) (show _ < ((480 : Nat) : Int) by omega) (fun r34 => ?_)
      refine zm_iastE (TX8_keeps_0.at 22 rfl) hH hA rfl (by omega) (show _ < ((480 : Nat) : Int) by omega) (by omega) (fun h g35 e1 e2 hH hA => ?_)
      rw [eg34] at e2; have eg34 := e2
      have hgE := hgE.put e1 (by decide)
      refine z_iinc_3 (TX8_keeps_0.at 23 rfl) (Nat.le_of_ble_eq_true rfl) rfl ?_
      refine z_goto (tgt := 14) (TX8_keeps_0.at 24 rfl) rfl ?_
      exact ih (i + 1) _ _ _ (by omega) (by omega) (by omega) (by rw [shd_s (by omega) (by omega) (by omega)] at eg34; exact eg34) hfE hgE hH hA

set_option maxHeartbeats 4000000 in
set_option maxRecDepth 100000 in
theorem lp_keeps2 {l : Launch} {o : Nat} {ar : Nat → Nat} {d : Nat} {Pz : Option Value → zH → Prop} {h0 : zH} {f0 : mF} {g0 : mA} {j : mA}  {X34 K : Int → Int} {w u : Int} (u0 : 0 ≤ u) (u1 : u ≤ 15) (kx : ∀ (f : mF) (g : mA) (h : zH), g 34 = cpy X34 K (30 * u) 0 29 → g 2 = K → f 36 = u → eqx [] f0 f → eqx [34] g0 g → HM o ar f g j h → zAg o ar h0 h → Z l MX8_keeps d 0 0 Pz 85 [some (.ref o), some (vI w), some (vI 30), some (vI 29)] [] h 0 0)  : ∀ (n : Nat) (i : Int) (f : mF) (g : mA) (h : zH) (i0 : 0 ≤ i) (i1 : i ≤ 29) (i2 : 29 < i + n) (eg34 : g 34 = cpy X34 K (30 * u) 0 i) (eg2 : g 2 = K) (ef36 : f 36 = u) (hfE : eqx [] f0 f) (hgE : eqx [34] g0 g) (hH : HM o ar f g j h) (hA : zAg o ar h0 h), Z l MX8_keeps d 0 0 Pz 54 [some (.ref o), some (vI w), some (vI 30), some (vI i)] [] h 0 0 := by
  intro n
  induction n with
  | zero => intro i f g h i0 i1 i2 eg34 eg2 ef36 hfE hgE hH hA; exfalso; omega
  | succ n ih =>
    intro i f g h i0 i1 i2 eg34 eg2 ef36 hfE hgE hH hA
    refine z_ild_3 (TX8_keeps_0.at 33 rfl) ?_
    refine z_bipush (by decide) (TX8_keeps_0.at 34 rfl) ?_
    refine z_icmp_ge (tgt := 85) (TX8_keeps_0.at 35 rfl) rfl (by omega) (by omega) (fun c1 => ?_) (fun c1 => ?_)
    · skip
      obtain rfl : i = 29 := by omega
      exact kx _ _ _ eg34 eg2 ef36 hfE hgE hH hA
    · skip
      refine z_ald_0 (TX8_keeps_0.at 36 rfl) ?_
      refine zm_getA (TX8_keeps_0.at 37 rfl) fl8_75 hH (by decide) (by decide) ?_
      refine z_ild_2 (TX8_keeps_0.at 38 rfl) ?_
      refine z_ald_0 (TX8_keeps_0.at 39 rfl) ?_
      refine zm_getIE ef36 (TX8_keeps_1.at 0 rfl) fl8_11 hH rfl (by decide) (fun r66 => ?_)
      refine z_imul (TX8_keeps_1.at 1 rfl) ?_
      refine z_ild_3 (TX8_keeps_1.at 2 rfl) ?_
      refine z_iadd (TX8_keeps_1.at 3 rfl) ?_
      refine z_ald_0 (TX8_keeps_1.at 4 rfl) ?_
      refine zm_getA (TX8_keeps_1.at 5 rfl) fl8_28 hH (by decide) (by decide) ?_
      refine z_ild_3 (TX8_keeps_1.at 6 rfl) ?_
      refine zm_ialdE eg2 (TX8_keeps_1.at 7 rfl) hH rfl (by omega) (show _ < ((5688 : Nat) : Int) by omega) (fun r77 => ?_)
      refine zm_iastE (TX8_keeps_1.at 8 rfl) hH hA rfl (by omega) (show _ < ((480 : Nat) : Int) by omega) (by omega) (fun h g78 e1 e2 hH hA => ?_)
      rw [eg34] at e2; have eg34 := e2
      have eg2 := (e1 2 (by decide)).trans eg2
      have hgE := hgE.put e1 (by decide)
      refine z_iinc_3 (TX8_keeps_1.at 9 rfl) (Nat.le_of_ble_eq_true rfl) rfl ?_
      refine z_goto (tgt := 54) (TX8_keeps_1.at 10 rfl) rfl ?_
      exact ih (i + 1) _ _ _ (by omega) (by omega) (by omega) (by rw [cpy_s (by omega) (by omega) (by omega)] at eg34; exact eg34) eg2 ef36 hfE hgE hH hA

set_option maxHeartbeats 4000000 in
set_option maxRecDepth 100000 in
theorem m_keeps {l : Launch} {o : Nat} {ar : Nat → Nat} {f : mF} {g j : mA} {X34 : Int → Int} {K : Int → Int} {u : Int} {w : Int}  (eg34 : g 34 = X34) (eg2 : g 2 = K) (ef36 : f 36 = u) (hw : zIn w) (u0 : 0 ≤ u) (u1 : u ≤ 16) : MM l o ar MX8_keeps 0 [.ref o, vI w] f g j (PV (fun f' g' j' => (g' 34 = kpR X34 K u w ∧ f' 36 = kpU u + 1) ∧ eqx [36] f f' ∧ eqx [34] g g' ∧ j' = j)) := by
  refine MM.intro [some (.ref o), some (vI w), none, none] (by decide) (Nat.le_of_ble_eq_true rfl) rfl (fun d hd h0 h hH hA => ?_)
  have hfE : eqx [36] f f := eqx.rf
  have hgE : eqx [34] g g := eqx.rf
  refine z_bipush (by decide) (TX8_keeps_0.at 0 rfl) ?_
  refine z_ist_2 (TX8_keeps_0.at 1 rfl) (Nat.le_of_ble_eq_true rfl) rfl ?_
  refine z_ald_0 (TX8_keeps_0.at 2 rfl) ?_
  refine zm_getIE ef36 (TX8_keeps_0.at 3 rfl) fl8_11 hH rfl (by decide) (fun r4 => ?_)
  refine z_bipush (by decide) (TX8_keeps_0.at 4 rfl) ?_
  refine z_icmp_ne (tgt := 52) (TX8_keeps_0.at 5 rfl) rfl (by omega) (by omega) (fun c1 => ?_) (fun c1 => ?_)
  · skip
    refine z_iconst (TX8_keeps_0.at 31 rfl) ?_
    refine z_ist_3 (TX8_keeps_0.at 32 rfl) (Nat.le_of_ble_eq_true rfl) rfl ?_
    refine lp_keeps2 (w := w) (by omega) (by omega) (fun f54 g54 h eg34 eg2 ef36 xf xg hH hA => ?_) 30 0 _ _ _ (by omega) (by omega) (by omega) (eg34.trans (cpy_0 _ _ _ _).symm) eg2 ef36 eqx.rf eqx.rf hH hA
    have hfE := hfE.trans xf (by decide)
    have hgE := hgE.trans xg (by decide)
    refine z_ald_0 (TX8_keeps_1.at 11 rfl) ?_
    refine zm_getA (TX8_keeps_1.at 12 rfl) fl8_75 hH (by decide) (by decide) ?_
    refine z_ild_2 (TX8_keeps_1.at 13 rfl) ?_
    refine z_ald_0 (TX8_keeps_1.at 14 rfl) ?_
    refine zm_getIE ef36 (TX8_keeps_1.at 15 rfl) fl8_11 hH rfl (by decide) (fun r91 => ?_)
    refine z_imul (TX8_keeps_1.at 16 rfl) ?_
    refine z_bipush (by decide) (TX8_keeps_1.at 17 rfl) ?_
    refine z_iadd (TX8_keeps_1.at 18 rfl) ?_
    refine z_ild_1 (TX8_keeps_1.at 19 rfl) ?_
    refine zm_iastE (TX8_keeps_1.at 20 rfl) hH hA rfl (by omega) (show _ < ((480 : Nat) : Int) by omega) (by omega) (fun h g99 e1 e2 hH hA => ?_)
    rw [eg34] at e2; have eg34 := e2
    have eg2 := (e1 2 (by decide)).trans eg2
    have hgE := hgE.put e1 (by decide)
    refine z_ald_0 (TX8_keeps_1.at 21 rfl) ?_
    refine z_dup rfl (TX8_keeps_1.at 22 rfl) ?_
    refine zm_getIE ef36 (TX8_keeps_1.at 23 rfl) fl8_11 hH rfl (by decide) (fun r102 => ?_)
    refine z_iconst (TX8_keeps_1.at 24 rfl) ?_
    refine z_iadd (TX8_keeps_1.at 25 rfl) ?_
    refine zm_putIE (TX8_keeps_1.at 26 rfl) fp8_11 hH hA rfl (by decide) (by first | omega | exact b2i_01 _) (fun h f107 e1 e2 hH hA => ?_)
    have ef36 := e2
    have hfE := hfE.put e1 (by decide)
    refine zm_vret (TX8_keeps_1.at 27 rfl) rfl hH hA ?_
    exact ⟨by unfold kpR; first | (have hu : u ≠ 16 := (by omega); rw [kpU_ne hu, kpX_ne hu]; exact ⟨eg34, ef36⟩) | (have hu : u = 16 := (by omega); rw [kpU_eq hu, kpX_eq hu]; exact ⟨eg34, ef36⟩), hfE, hgE, rfl⟩
  · skip
    refine z_iconst (TX8_keeps_0.at 6 rfl) ?_
    refine z_ist_3 (TX8_keeps_0.at 7 rfl) (Nat.le_of_ble_eq_true rfl) rfl ?_
    refine lp_keeps1 (w := w) (fun f14 g14 h eg34 xf xg hH hA => ?_) 451 0 _ _ _ (by omega) (by omega) (by omega) (eg34.trans (shd_0 _ _).symm) eqx.rf eqx.rf hH hA
    have ef36 := (xf 36 (by decide)).trans ef36
    have hfE := hfE.trans xf (by decide)
    have eg2 := (xg 2 (by decide)).trans eg2
    have hgE := hgE.trans xg (by decide)
    refine z_ald_0 (TX8_keeps_0.at 25 rfl) ?_
    refine z_dup rfl (TX8_keeps_0.at 26 rfl) ?_
    refine zm_getIE ef36 (TX8_keeps_0.at 27 rfl) fl8_11 hH rfl (by decide) (fun r44 => ?_)
    refine z_iconst (TX8_keeps_0.at 28 rfl) ?_
    refine z_isub (TX8_keeps_0.at 29 rfl) ?_
    refine zm_putIE (TX8_keeps_0.at 30 rfl) fp8_11 hH hA rfl (by decide) (by first | omega | exact b2i_01 _) (fun h f49 e1 e2 hH hA => ?_)
    have ef36 := e2
    have hfE := hfE.put e1 (by decide)
    refine z_iconst (TX8_keeps_0.at 31 rfl) ?_
    refine z_ist_3 (TX8_keeps_0.at 32 rfl) (Nat.le_of_ble_eq_true rfl) rfl ?_
    refine lp_keeps2 (w := w) (by omega) (by omega) (fun f54 g54 h eg34 eg2 ef36 xf xg hH hA => ?_) 30 0 _ _ _ (by omega) (by omega) (by omega) (eg34.trans (cpy_0 _ _ _ _).symm) eg2 ef36 eqx.rf eqx.rf hH hA
    have hfE := hfE.trans xf (by decide)
    have hgE := hgE.trans xg (by decide)
    refine z_ald_0 (TX8_keeps_1.at 11 rfl) ?_
    refine zm_getA (TX8_keeps_1.at 12 rfl) fl8_75 hH (by decide) (by decide) ?_
    refine z_ild_2 (TX8_keeps_1.at 13 rfl) ?_
    refine z_ald_0 (TX8_keeps_1.at 14 rfl) ?_
    refine zm_getIE ef36 (TX8_keeps_1.at 15 rfl) fl8_11 hH rfl (by decide) (fun r91 => ?_)
    refine z_imul (TX8_keeps_1.at 16 rfl) ?_
    refine z_bipush (by decide) (TX8_keeps_1.at 17 rfl) ?_
    refine z_iadd (TX8_keeps_1.at 18 rfl) ?_
    refine z_ild_1 (TX8_keeps_1.at 19 rfl) ?_
    refine zm_iastE (TX8_keeps_1.at 20 rfl) hH hA rfl (by omega) (show _ < ((480 : Nat) : Int) by omega) (by omega) (fun h g99 e1 e2 hH hA => ?_)
    rw [eg34] at e2; have eg34 := e2
    have eg2 := (e1 2 (by decide)).trans eg2
    have hgE := hgE.put e1 (by decide)
    refine z_ald_0 (TX8_keeps_1.at 21 rfl) ?_
    refine z_dup rfl (TX8_keeps_1.at 22 rfl) ?_
    refine zm_getIE ef36 (TX8_keeps_1.at 23 rfl) fl8_11 hH rfl (by decide) (fun r102 => ?_)
    refine z_iconst (TX8_keeps_1.at 24 rfl) ?_
    refine z_iadd (TX8_keeps_1.at 25 rfl) ?_
    refine zm_putIE (TX8_keeps_1.at 26 rfl) fp8_11 hH hA rfl (by decide) (by first | omega | exact b2i_01 _) (fun h f107 e1 e2 hH hA => ?_)
    have ef36 := e2
    have hfE := hfE.put e1 (by decide)
    refine zm_vret (TX8_keeps_1.at 27 rfl) rfl hH hA ?_
    exact ⟨by unfold kpR; first | (have hu : u ≠ 16 := (by omega); rw [kpU_ne hu, kpX_ne hu]; exact ⟨eg34, ef36⟩) | (have hu : u = 16 := (by omega); rw [kpU_eq hu, kpX_eq hu]; exact ⟨eg34, ef36⟩), hfE, hgE, rfl⟩

set_option maxHeartbeats 4000000 in
set_option maxRecDepth 100000 in
theorem lp_undo {l : Launch} {o : Nat} {ar : Nat → Nat} {d : Nat} {Pz : Option Value → zH → Prop} {h0 : zH} {f0 : mF} {g0 : mA} {j : mA}  {X34 K : Int → Int} {y : Int} (y0 : 0 ≤ y) (y1 : y ≤ 450) (kx : ∀ (f : mF) (g : mA) (h : zH), g 2 = cpy K X34 0 y 29 → g 34 = X34 → eqx [] f0 f → eqx [2] g0 g → HM o ar f g j h → zAg o ar h0 h → Z l MX8_undo d 0 0 Pz 60 [some (.ref o), some (vI y), some (vI 29)] [] h 0 0)  : ∀ (n : Nat) (i : Int) (f : mF) (g : mA) (h : zH) (i0 : 0 ≤ i) (i1 : i ≤ 29) (i2 : 29 < i + n) (eg2 : g 2 = cpy K X34 0 y i) (eg34 : g 34 = X34) (hfE : eqx [] f0 f) (hgE : eqx [2] g0 g) (hH : HM o ar f g j h) (hA : zAg o ar h0 h), Z l MX8_undo d 0 0 Pz 34 [some (.ref o), some (vI y), some (vI i)] [] h 0 0 := by
  intro n
  induction n with
  | zero => intro i f g h i0 i1 i2 eg2 eg34 hfE hgE hH hA; exfalso; omega
  | succ n ih =>
    intro i f g h i0 i1 i2 eg2 eg34 hfE hgE hH hA
    refine z_ild_2 (TX8_undo.at 20 rfl) ?_
    refine z_bipush (by decide) (TX8_undo.at 21 rfl) ?_
    refine z_icmp_ge (tgt := 60) (TX8_undo.at 22 rfl) rfl (by omega) (by omega) (fun c1 => ?_) (fun c1 => ?_)
    · skip
      obtain rfl : i = 29 := by omega
      exact kx _ _ _ eg2 eg34 hfE hgE hH hA
    · skip
      refine z_ald_0 (TX8_undo.at 23 rfl) ?_
      refine zm_getA (TX8_undo.at 24 rfl) fl8_28 hH (by decide) (by decide) ?_
      refine z_ild_2 (TX8_undo.at 25 rfl) ?_
      refine z_ald_0 (TX8_undo.at 26 rfl) ?_
      refine zm_getA (TX8_undo.at 27 rfl) fl8_75 hH (by decide) (by decide) ?_
      refine z_ild_1 (TX8_undo.at 28 rfl) ?_
      refine z_ild_2 (TX8_undo.at 29 rfl) ?_
      refine z_iadd (TX8_undo.at 30 rfl) ?_
      refine zm_ialdE eg34 (TX8_undo.at 31 rfl) hH rfl (by omega) (show _ < ((480 : Nat) : Int) by omega) (fun r52 => ?_)
      refine zm_iastE (TX8_undo.at 32 rfl) hH hA rfl (by omega) (show _ < ((5688 : Nat) : Int) by omega) (by omega) (fun h g53 e1 e2 hH hA => ?_)
      rw [eg2] at e2; have eg2 := e2
      have eg34 := (e1 34 (by decide)).trans eg34
      have hgE := hgE.put e1 (by decide)
      refine z_iinc_2 (TX8_undo.at 33 rfl) (Nat.le_of_ble_eq_true rfl) rfl ?_
      refine z_goto (tgt := 34) (TX8_undo.at 34 rfl) rfl ?_
      exact ih (i + 1) _ _ _ (by omega) (by omega) (by omega) (by rw [cpy_s (by omega) (by omega) (by omega)] at eg2; exact eg2) eg34 hfE hgE hH hA

set_option maxHeartbeats 4000000 in
set_option maxRecDepth 100000 in
theorem m_undo {l : Launch} {o : Nat} {ar : Nat → Nat} {f : mF} {g j : mA} {X1 : Int → Int} {K : Int → Int} {X34 : Int → Int} {u : Int}  (eg1 : g 1 = X1) (eg2 : g 2 = K) (eg34 : g 34 = X34) (ef36 : f 36 = u) (hb : ∀ i, X1 i ≤ 100000) (u0 : 0 ≤ u) (u1 : u ≤ 16) : MM l o ar MX8_undo 1 [.ref o] f g j (PI (fun r f' g' j' => ((u = 0 ∧ mRef (-3) r f' g' X1 ∧ g' 2 = K ∧ f' 36 = u) ∨ (u ≠ 0 ∧ mOk (X34 (30 * (u - 1) + 29)) r f' g' X1 ∧ g' 2 = cpy K X34 0 (30 * (u - 1)) 29 ∧ f' 36 = u - 1)) ∧ eqx [0, 36] f f' ∧ eqx [1, 2] g g' ∧ j' = j)) := by
  refine MM.intro [some (.ref o), none, none] (by decide) (Nat.le_of_ble_eq_true rfl) rfl (fun d hd h0 h hH hA => ?_)
  have hfE : eqx [0, 36] f f := eqx.rf
  have hgE : eqx [1, 2] g g := eqx.rf
  refine z_ald_0 (TX8_undo.at 0 rfl) ?_
  refine zm_getIE ef36 (TX8_undo.at 1 rfl) fl8_11 hH rfl (by decide) (fun r1 => ?_)
  refine z_if_ne (tgt := 14) (TX8_undo.at 2 rfl) rfl (by omega) (fun c1 => ?_) (fun c1 => ?_)
  · skip
    refine z_ald_0 (TX8_undo.at 7 rfl) ?_
    refine z_dup rfl (TX8_undo.at 8 rfl) ?_
    refine zm_getIE ef36 (TX8_undo.at 9 rfl) fl8_11 hH rfl (by decide) (fun r16 => ?_)
    refine z_iconst (TX8_undo.at 10 rfl) ?_
    refine z_isub (TX8_undo.at 11 rfl) ?_
    refine zm_putIE (TX8_undo.at 12 rfl) fp8_11 hH hA rfl (by decide) (by first | omega | exact b2i_01 _) (fun h f21 e1 e2 hH hA => ?_)
    have ef36 := e2
    have hfE := hfE.put e1 (by decide)
    refine z_bipush (by decide) (TX8_undo.at 13 rfl) ?_
    refine z_ald_0 (TX8_undo.at 14 rfl) ?_
    refine zm_getIE ef36 (TX8_undo.at 15 rfl) fl8_11 hH rfl (by decide) (fun r27 => ?_)
    refine z_imul (TX8_undo.at 16 rfl) ?_
    refine z_ist_1 (TX8_undo.at 17 rfl) (Nat.le_of_ble_eq_true rfl) rfl ?_
    refine z_iconst (TX8_undo.at 18 rfl) ?_
    refine z_ist_2 (TX8_undo.at 19 rfl) (Nat.le_of_ble_eq_true rfl) rfl ?_
    refine lp_undo (y := 30 * (u - 1)) (by omega) (by omega) (fun f34 g34 h eg2 eg34 xf xg hH hA => ?_) 30 0 _ _ _ (by omega) (by omega) (by omega) (eg2.trans (cpy_0 _ _ _ _).symm) eg34 eqx.rf eqx.rf hH hA
    have ef36 := (xf 36 (by decide)).trans ef36
    have hfE := hfE.trans xf (by decide)
    have eg1 := (xg 1 (by decide)).trans eg1
    have hgE := hgE.trans xg (by decide)
    refine z_ald_0 (TX8_undo.at 35 rfl) ?_
    refine z_ald_0 (TX8_undo.at 36 rfl) ?_
    refine zm_getA (TX8_undo.at 37 rfl) fl8_75 hH (by decide) (by decide) ?_
    refine z_ild_1 (TX8_undo.at 38 rfl) ?_
    refine z_bipush (by decide) (TX8_undo.at 39 rfl) ?_
    refine z_iadd (TX8_undo.at 40 rfl) ?_
    refine zm_ialdE eg34 (TX8_undo.at 41 rfl) hH rfl (by omega) (show _ < ((480 : Nat) : Int) by omega) (fun r69 => ?_)
    refine zm_callI1 (t_good (by omega)) (TX8_undo.at 42 rfl) c8_14 rfl rfl hH hA (by omega) (Nat.le_of_ble_eq_true rfl) (fun x70 f70 g70 j70 h r70 q70 hH hA => ?_)
    obtain ⟨q70, xf, xg, xj⟩ := q70
    rw [xj] at hH
    have ef36 := (xf 36 (by decide)).trans ef36
    have hfE := hfE.trans xf (by decide)
    have eg1 := (xg 1 (by decide)).trans eg1
    have eg2 := (xg 2 (by decide)).trans eg2
    have eg34 := (xg 34 (by decide)).trans eg34
    have hgE := hgE.trans xg (by decide)
    have qL := q70
    refine zm_iret (TX8_undo.at 43 rfl) rfl hH hA (by omega) ?_
    exact ⟨Or.inr ⟨by omega, ⟨qL.1, qL.2, eg1⟩, eg2, ef36⟩, hfE, hgE, rfl⟩
  · skip
    refine z_ald_0 (TX8_undo.at 3 rfl) ?_
    refine z_bipush (by decide) (TX8_undo.at 4 rfl) ?_
    refine zm_callI1 (t_refuses eg1 (by omega) (by omega) (by omega) hb) (TX8_undo.at 5 rfl) c8_103 rfl rfl hH hA (by omega) (Nat.le_of_ble_eq_true rfl) (fun x10 f10 g10 j10 h r10 q10 hH hA => ?_)
    obtain ⟨q10, xf, xg, xj⟩ := q10
    rw [xj] at hH
    have ef36 := (xf 36 (by decide)).trans ef36
    have hfE := hfE.trans xf (by decide)
    have eg2 := (xg 2 (by decide)).trans eg2
    have eg34 := (xg 34 (by decide)).trans eg34
    have hgE := hgE.trans xg (by decide)
    have qL := q10
    refine zm_iret (TX8_undo.at 6 rfl) rfl hH hA (by omega) ?_
    exact ⟨Or.inl ⟨by omega, ⟨qL.1, qL.2.1, qL.2.2⟩, eg2, ef36⟩, hfE, hgE, rfl⟩

def litS (K X : Int → Int) (u k r : Int) (K' X' : Int → Int) (u' : Int) : Prop := (¬ (0 ≤ k ∧ k ≤ 7) ∧ r = -1 ∧ K' = K ∧ X' = X ∧ u' = u) ∨ ((0 ≤ k ∧ k ≤ 7) ∧ K (20 + k) ≠ -1 ∧ r = -3 ∧ K' = K ∧ X' = X ∧ u' = u) ∨ ((0 ≤ k ∧ k ≤ 7) ∧ K (20 + k) = -1 ∧ r = K 28 ∧ K' = iu K (20 + k) (K 28) ∧ X' = kpR X K u 0 ∧ u' = kpU u + 1)
def soakS (K X : Int → Int) (u k r : Int) (K' X' : Int → Int) (u' : Int) : Prop := (¬ (0 ≤ k ∧ k ≤ K 76 - 1) ∧ r = -2 ∧ K' = K ∧ X' = X ∧ u' = u) ∨ ((0 ≤ k ∧ k ≤ K 76 - 1) ∧ r = 1 - K k ∧ K' = iu K k (1 - K k) ∧ X' = kpR X K u 1 ∧ u' = kpU u + 1)
def swapS (K X : Int → Int) (u a b r : Int) (K' X' : Int → Int) (u' : Int) : Prop := (a = b ∧ r = -1 ∧ K' = K ∧ X' = X ∧ u' = u) ∨ (a ≠ b ∧ ¬ ((0 ≤ a ∧ a ≤ K 76 - 1) ∧ 0 ≤ b ∧ b ≤ K 76 - 1) ∧ r = -2 ∧ K' = K ∧ X' = X ∧ u' = u) ∨ (a ≠ b ∧ ((0 ≤ a ∧ a ≤ K 76 - 1) ∧ 0 ≤ b ∧ b ≤ K 76 - 1) ∧ r = K (10 + b) ∧ K' = iu (iu K (10 + a) (K (10 + b))) (10 + b) (K (10 + a)) ∧ X' = kpR X K u 2 ∧ u' = kpU u + 1)
def mGood (v r : Int) (f' : mF) (g' : mA) (X1 : Int → Int) : Prop := (v < 0 ∧ mRef v r f' g' X1) ∨ (0 ≤ v ∧ mOk v r f' g' X1)
set_option maxHeartbeats 4000000 in
set_option maxRecDepth 100000 in
theorem m_lightsKept {l : Launch} {o : Nat} {ar : Nat → Nat} {f : mF} {g j : mA} {K : Int → Int} {X34 : Int → Int} {u : Int} {k : Int}  (eg2 : g 2 = K) (eg34 : g 34 = X34) (ef36 : f 36 = u) (hk : zIn k) (u0 : 0 ≤ u) (u1 : u ≤ 16) : MM l o ar MX8_lightsKept 2 [.ref o, vI k] f g j (PI (fun r f' g' j' => (litS K X34 u k r (g' 2) (g' 34) (f' 36)) ∧ eqx [36] f f' ∧ eqx [2, 34] g g' ∧ j' = j)) := by
  refine MM.intro [some (.ref o), some (vI k)] (by decide) (Nat.le_of_ble_eq_true rfl) rfl (fun d hd h0 h hH hA => ?_)
  have hfE : eqx [36] f f := eqx.rf
  have hgE : eqx [2, 34] g g := eqx.rf
  refine z_ild_1 (TX8_lightsKept.at 0 rfl) ?_
  refine zs_call1 (s_isKnot (by omega)) (TX8_lightsKept.at 1 rfl) c8_113 rfl (by omega) (Nat.le_of_ble_eq_true rfl) (fun r1 => ?_)
  refine z_if_neB (tgt := 9) (TX8_lightsKept.at 2 rfl) rfl (fun c1 => ?_) (fun c1 => ?_)
  · skip
    refine z_ald_0 (TX8_lightsKept.at 5 rfl) ?_
    refine zm_getA (TX8_lightsKept.at 6 rfl) fl8_28 hH (by decide) (by decide) ?_
    refine z_bipush (by decide) (TX8_lightsKept.at 7 rfl) ?_
    refine z_ild_1 (TX8_lightsKept.at 8 rfl) ?_
    refine z_iadd (TX8_lightsKept.at 9 rfl) ?_
    refine zm_ialdE eg2 (TX8_lightsKept.at 10 rfl) hH rfl (by omega) (show _ < ((5688 : Nat) : Int) by omega) (fun r17 => ?_)
    refine z_iconst (TX8_lightsKept.at 11 rfl) ?_
    refine z_icmp_eq (tgt := 25) (TX8_lightsKept.at 12 rfl) rfl (by omega) (by omega) (fun c2 => ?_) (fun c2 => ?_)
    · skip
      refine z_ald_0 (TX8_lightsKept.at 15 rfl) ?_
      refine z_iconst (TX8_lightsKept.at 16 rfl) ?_
      refine zm_callV1 (m_keeps eg34 eg2 ef36 (by omega) u0 u1) (TX8_lightsKept.at 17 rfl) c8_360 rfl rfl hH hA (by omega) (Nat.le_of_ble_eq_true rfl) (fun f27 g27 j27 h q27 hH hA => ?_)
      obtain ⟨q27, xf, xg, xj⟩ := q27
      rw [xj] at hH
      have hfE := hfE.trans xf (by decide)
      have eg2 := (xg 2 (by decide)).trans eg2
      have hgE := hgE.trans xg (by decide)
      have qL := q27
      have eg34 := qL.1
      have ef36 := qL.2
      refine z_ald_0 (TX8_lightsKept.at 18 rfl) ?_
      refine zm_getA (TX8_lightsKept.at 19 rfl) fl8_28 hH (by decide) (by decide) ?_
      refine z_bipush (by decide) (TX8_lightsKept.at 20 rfl) ?_
      refine z_ild_1 (TX8_lightsKept.at 21 rfl) ?_
      refine z_iadd (TX8_lightsKept.at 22 rfl) ?_
      refine z_ald_0 (TX8_lightsKept.at 23 rfl) ?_
      refine zm_getA (TX8_lightsKept.at 24 rfl) fl8_28 hH (by decide) (by decide) ?_
      refine z_bipush (by decide) (TX8_lightsKept.at 25 rfl) ?_
      refine zm_ialdE eg2 (TX8_lightsKept.at 26 rfl) hH rfl (by omega) (show _ < ((5688 : Nat) : Int) by omega) (fun r44 => ?_)
      refine zm_iastE (TX8_lightsKept.at 27 rfl) hH hA rfl (by omega) (show _ < ((5688 : Nat) : Int) by omega) (by omega) (fun h g45 e1 e2 hH hA => ?_)
      rw [eg2] at e2; have eg2 := e2
      have eg34 := (e1 34 (by decide)).trans eg34
      have hgE := hgE.put e1 (by decide)
      refine z_ald_0 (TX8_lightsKept.at 28 rfl) ?_
      refine zm_getA (TX8_lightsKept.at 29 rfl) fl8_28 hH (by decide) (by decide) ?_
      refine z_bipush (by decide) (TX8_lightsKept.at 30 rfl) ?_
      refine zm_ialdE eg2 (TX8_lightsKept.at 31 rfl) hH rfl (by omega) (show _ < ((5688 : Nat) : Int) by omega) (fun r52 => ?_)
      simp (disch := omega) only [iu_ne] at r52 ⊢
      refine zm_iret (TX8_lightsKept.at 32 rfl) rfl hH hA (by omega) ?_
      exact ⟨Or.inr (Or.inr ⟨c1, c2, rfl, eg2, eg34, ef36⟩), hfE, hgE, rfl⟩
    · skip
      refine z_bipush (by decide) (TX8_lightsKept.at 13 rfl) ?_
      refine zm_iret (TX8_lightsKept.at 14 rfl) rfl hH hA (by omega) ?_
      exact ⟨Or.inr (Or.inl ⟨c1, c2, rfl, eg2, eg34, ef36⟩), hfE, hgE, rfl⟩
  · skip
    refine z_iconst (TX8_lightsKept.at 3 rfl) ?_
    refine zm_iret (TX8_lightsKept.at 4 rfl) rfl hH hA (by omega) ?_
    exact ⟨Or.inl ⟨c1, rfl, eg2, eg34, ef36⟩, hfE, hgE, rfl⟩

set_option maxHeartbeats 4000000 in
set_option maxRecDepth 100000 in
theorem m_soaksKept {l : Launch} {o : Nat} {ar : Nat → Nat} {f : mF} {g j : mA} {K : Int → Int} {X34 : Int → Int} {u : Int} {k : Int}  (eg2 : g 2 = K) (eg34 : g 34 = X34) (ef36 : f 36 = u) (hk : zIn k) (u0 : 0 ≤ u) (u1 : u ≤ 16) (n0 : 0 ≤ K 76) (n1 : K 76 ≤ 10) (hd0 : ∀ i, 0 ≤ i → i < K 76 → K i = 0 ∨ K i = 1) : MM l o ar MX8_soaksKept 2 [.ref o, vI k] f g j (PI (fun r f' g' j' => (soakS K X34 u k r (g' 2) (g' 34) (f' 36)) ∧ eqx [36] f f' ∧ eqx [2, 34] g g' ∧ j' = j)) := by
  refine MM.intro [some (.ref o), some (vI k)] (by decide) (Nat.le_of_ble_eq_true rfl) rfl (fun d hd h0 h hH hA => ?_)
  have hfE : eqx [36] f f := eqx.rf
  have hgE : eqx [2, 34] g g := eqx.rf
  refine z_ald_0 (TX8_soaksKept.at 0 rfl) ?_
  refine z_ild_1 (TX8_soaksKept.at 1 rfl) ?_
  refine zm_callP1 (m_isFuse (by omega) (by rw [eg2]; exact n0)) (TX8_soaksKept.at 2 rfl) c8_125 rfl rfl hH hA (by omega) (Nat.le_of_ble_eq_true rfl) (fun h r2 hH hA => ?_)
  rw [eg2] at r2 ⊢
  refine z_if_neB (tgt := 11) (TX8_soaksKept.at 3 rfl) rfl (fun c1 => ?_) (fun c1 => ?_)
  · skip
    refine z_ald_0 (TX8_soaksKept.at 6 rfl) ?_
    refine z_iconst (TX8_soaksKept.at 7 rfl) ?_
    refine zm_callV1 (m_keeps eg34 eg2 ef36 (by omega) u0 u1) (TX8_soaksKept.at 8 rfl) c8_360 rfl rfl hH hA (by omega) (Nat.le_of_ble_eq_true rfl) (fun f13 g13 j13 h q13 hH hA => ?_)
    obtain ⟨q13, xf, xg, xj⟩ := q13
    rw [xj] at hH
    have hfE := hfE.trans xf (by decide)
    have eg2 := (xg 2 (by decide)).trans eg2
    have hgE := hgE.trans xg (by decide)
    have qL := q13
    have eg34 := qL.1
    have ef36 := qL.2
    have hk0 := hd0 k (by omega) (by omega)
    refine z_ald_0 (TX8_soaksKept.at 9 rfl) ?_
    refine zm_getA (TX8_soaksKept.at 10 rfl) fl8_28 hH (by decide) (by decide) ?_
    refine z_iconst (TX8_soaksKept.at 11 rfl) ?_
    refine z_ild_1 (TX8_soaksKept.at 12 rfl) ?_
    refine z_iadd (TX8_soaksKept.at 13 rfl) ?_
    refine z_iconst (TX8_soaksKept.at 14 rfl) ?_
    refine z_ald_0 (TX8_soaksKept.at 15 rfl) ?_
    refine zm_getA (TX8_soaksKept.at 16 rfl) fl8_28 hH (by decide) (by decide) ?_
    refine z_iconst (TX8_soaksKept.at 17 rfl) ?_
    refine z_ild_1 (TX8_soaksKept.at 18 rfl) ?_
    refine z_iadd (TX8_soaksKept.at 19 rfl) ?_
    refine zm_ialdE eg2 (TX8_soaksKept.at 20 rfl) hH rfl (by omega) (show _ < ((5688 : Nat) : Int) by omega) (fun r31 => ?_)
    rw [show (0 : Int) + k = k by omega] at r31 ⊢
    refine z_isub (TX8_soaksKept.at 21 rfl) ?_
    refine zm_iastE (TX8_soaksKept.at 22 rfl) hH hA rfl (by omega) (show _ < ((5688 : Nat) : Int) by omega) (by omega) (fun h g33 e1 e2 hH hA => ?_)
    rw [eg2] at e2; have eg2 := e2
    have eg34 := (e1 34 (by decide)).trans eg34
    have hgE := hgE.put e1 (by decide)
    refine z_ald_0 (TX8_soaksKept.at 23 rfl) ?_
    refine zm_getA (TX8_soaksKept.at 24 rfl) fl8_28 hH (by decide) (by decide) ?_
    refine z_iconst (TX8_soaksKept.at 25 rfl) ?_
    refine z_ild_1 (TX8_soaksKept.at 26 rfl) ?_
    refine z_iadd (TX8_soaksKept.at 27 rfl) ?_
    refine zm_ialdE eg2 (TX8_soaksKept.at 28 rfl) hH rfl (by omega) (show _ < ((5688 : Nat) : Int) by omega) (fun r41 => ?_)
    rw [show (0 : Int) + k = k by omega, iu_self] at r41 ⊢
    refine zm_iret (TX8_soaksKept.at 29 rfl) rfl hH hA (by omega) ?_
    exact ⟨Or.inr ⟨c1, rfl, eg2, eg34, ef36⟩, hfE, hgE, rfl⟩
  · skip
    refine z_bipush (by decide) (TX8_soaksKept.at 4 rfl) ?_
    refine zm_iret (TX8_soaksKept.at 5 rfl) rfl hH hA (by omega) ?_
    exact ⟨Or.inl ⟨c1, rfl, eg2, eg34, ef36⟩, hfE, hgE, rfl⟩

set_option maxHeartbeats 4000000 in
set_option maxRecDepth 100000 in
theorem m_swapsKept {l : Launch} {o : Nat} {ar : Nat → Nat} {f : mF} {g j : mA} {K : Int → Int} {X34 : Int → Int} {u : Int} {a b : Int}  (eg2 : g 2 = K) (eg34 : g 34 = X34) (ef36 : f 36 = u) (ha : zIn a) (hb : zIn b) (u0 : 0 ≤ u) (u1 : u ≤ 16) (n0 : 0 ≤ K 76) (n1 : K 76 ≤ 10) : MM l o ar MX8_swapsKept 2 [.ref o, vI a, vI b] f g j (PI (fun r f' g' j' => (swapS K X34 u a b r (g' 2) (g' 34) (f' 36)) ∧ eqx [36] f f' ∧ eqx [2, 34] g g' ∧ j' = j)) := by
  refine MM.intro [some (.ref o), some (vI a), some (vI b)] (by decide) (Nat.le_of_ble_eq_true rfl) rfl (fun d hd h0 h hH hA => ?_)
  have hfE : eqx [36] f f := eqx.rf
  have hgE : eqx [2, 34] g g := eqx.rf
  refine z_ild_1 (TX8_swapsKept.at 0 rfl) ?_
  refine z_ild_2 (TX8_swapsKept.at 1 rfl) ?_
  refine z_icmp_ne (tgt := 7) (TX8_swapsKept.at 2 rfl) rfl (by omega) (by omega) (fun c1 => ?_) (fun c1 => ?_)
  · skip
    refine z_ald_0 (TX8_swapsKept.at 5 rfl) ?_
    refine z_ild_1 (TX8_swapsKept.at 6 rfl) ?_
    refine zm_callP1 (m_isFuse (by omega) (by rw [eg2]; exact n0)) (TX8_swapsKept.at 7 rfl) c8_125 rfl rfl hH hA (by omega) (Nat.le_of_ble_eq_true rfl) (fun h r9 hH hA => ?_)
    rw [eg2] at r9 ⊢
    refine z_if_eqB (tgt := 23) (TX8_swapsKept.at 8 rfl) rfl (fun c2 => ?_) (fun c2 => ?_)
    · skip
      refine z_bipush (by decide) (TX8_swapsKept.at 13 rfl) ?_
      refine zm_iret (TX8_swapsKept.at 14 rfl) rfl hH hA (by omega) ?_
      exact ⟨Or.inr (Or.inl ⟨by omega, by omega, rfl, eg2, eg34, ef36⟩), hfE, hgE, rfl⟩
    · skip
      refine z_ald_0 (TX8_swapsKept.at 9 rfl) ?_
      refine z_ild_2 (TX8_swapsKept.at 10 rfl) ?_
      refine zm_callP1 (m_isFuse (by omega) (by rw [eg2]; exact n0)) (TX8_swapsKept.at 11 rfl) c8_125 rfl rfl hH hA (by omega) (Nat.le_of_ble_eq_true rfl) (fun h r17 hH hA => ?_)
      rw [eg2] at r17 ⊢
      refine z_if_neB (tgt := 26) (TX8_swapsKept.at 12 rfl) rfl (fun c3 => ?_) (fun c3 => ?_)
      · skip
        refine z_ald_0 (TX8_swapsKept.at 15 rfl) ?_
        refine z_iconst (TX8_swapsKept.at 16 rfl) ?_
        refine zm_callV1 (m_keeps eg34 eg2 ef36 (by omega) u0 u1) (TX8_swapsKept.at 17 rfl) c8_360 rfl rfl hH hA (by omega) (Nat.le_of_ble_eq_true rfl) (fun f28 g28 j28 h q28 hH hA => ?_)
        obtain ⟨q28, xf, xg, xj⟩ := q28
        rw [xj] at hH
        have hfE := hfE.trans xf (by decide)
        have eg2 := (xg 2 (by decide)).trans eg2
        have hgE := hgE.trans xg (by decide)
        have qL := q28
        have eg34 := qL.1
        have ef36 := qL.2
        refine z_ald_0 (TX8_swapsKept.at 18 rfl) ?_
        refine z_ild_1 (TX8_swapsKept.at 19 rfl) ?_
        refine z_ild_2 (TX8_swapsKept.at 20 rfl) ?_
        refine zm_callV2 (m_exchanges eg2 (by omega) (by omega) (by omega) (by omega) (by omega) (by omega)) (TX8_swapsKept.at 21 rfl) c8_363 rfl rfl hH hA (by omega) (Nat.le_of_ble_eq_true rfl) (fun f34 g34 j34 h q34 hH hA => ?_)
        obtain ⟨q34, xf, xg, xj⟩ := q34
        rw [xj] at hH
        have ef36 := (xf 36 (by decide)).trans ef36
        have hfE := hfE.trans xf (by decide)
        have eg34 := (xg 34 (by decide)).trans eg34
        have hgE := hgE.trans xg (by decide)
        have qL := q34
        have eg2 := qL
        refine z_ald_0 (TX8_swapsKept.at 22 rfl) ?_
        refine zm_getA (TX8_swapsKept.at 23 rfl) fl8_28 hH (by decide) (by decide) ?_
        refine z_bipush (by decide) (TX8_swapsKept.at 24 rfl) ?_
        refine z_ild_1 (TX8_swapsKept.at 25 rfl) ?_
        refine z_iadd (TX8_swapsKept.at 26 rfl) ?_
        refine zm_ialdE eg2 (TX8_swapsKept.at 27 rfl) hH rfl (by omega) (show _ < ((5688 : Nat) : Int) by omega) (fun r45 => ?_)
        rw [iu_ne (show 10 + a ≠ 10 + b by omega), iu_self] at r45 ⊢
        refine zm_iret (TX8_swapsKept.at 28 rfl) rfl hH hA (by omega) ?_
        exact ⟨Or.inr (Or.inr ⟨by omega, by omega, rfl, eg2, eg34, ef36⟩), hfE, hgE, rfl⟩
      · skip
        refine z_bipush (by decide) (TX8_swapsKept.at 13 rfl) ?_
        refine zm_iret (TX8_swapsKept.at 14 rfl) rfl hH hA (by omega) ?_
        exact ⟨Or.inr (Or.inl ⟨by omega, by omega, rfl, eg2, eg34, ef36⟩), hfE, hgE, rfl⟩
  · skip
    refine z_iconst (TX8_swapsKept.at 3 rfl) ?_
    refine zm_iret (TX8_swapsKept.at 4 rfl) rfl hH hA (by omega) ?_
    exact ⟨Or.inl ⟨by omega, rfl, eg2, eg34, ef36⟩, hfE, hgE, rfl⟩

set_option maxHeartbeats 4000000 in
set_option maxRecDepth 100000 in
theorem m_goodOr {l : Launch} {o : Nat} {ar : Nat → Nat} {f : mF} {g j : mA} {X1 : Int → Int} {v : Int}  (eg1 : g 1 = X1) (hv : zIn v) (v0 : -6 ≤ v) (hb : ∀ i, X1 i ≤ 100000) : MM l o ar MX8_goodOr 1 [.ref o, vI v] f g j (PI (fun r f' g' j' => (mGood v r f' g' X1) ∧ eqx [0] f f' ∧ eqx [1] g g' ∧ j' = j)) := by
  refine MM.intro [some (.ref o), some (vI v)] (by decide) (Nat.le_of_ble_eq_true rfl) rfl (fun d hd h0 h hH hA => ?_)
  have hfE : eqx [0] f f := eqx.rf
  have hgE : eqx [1] g g := eqx.rf
  refine z_ild_1 (TX8_goodOr.at 0 rfl) ?_
  refine z_if_ge (tgt := 12) (TX8_goodOr.at 1 rfl) rfl (by omega) (fun c1 => ?_) (fun c1 => ?_)
  · skip
    refine z_ald_0 (TX8_goodOr.at 6 rfl) ?_
    refine z_ild_1 (TX8_goodOr.at 7 rfl) ?_
    refine zm_callI1 (t_good (by omega)) (TX8_goodOr.at 8 rfl) c8_14 rfl rfl hH hA (by omega) (Nat.le_of_ble_eq_true rfl) (fun x14 f14 g14 j14 h r14 q14 hH hA => ?_)
    obtain ⟨q14, xf, xg, xj⟩ := q14
    rw [xj] at hH
    have hfE := hfE.trans xf (by decide)
    have eg1 := (xg 1 (by decide)).trans eg1
    have hgE := hgE.trans xg (by decide)
    have qL := q14
    refine zm_iret (TX8_goodOr.at 9 rfl) rfl hH hA (by omega) ?_
    exact ⟨Or.inr ⟨by omega, ⟨qL.1, qL.2, eg1⟩⟩, hfE, hgE, rfl⟩
  · skip
    refine z_ald_0 (TX8_goodOr.at 2 rfl) ?_
    refine z_ild_1 (TX8_goodOr.at 3 rfl) ?_
    refine zm_callI1 (t_refuses eg1 (by omega) (by omega) (by omega) hb) (TX8_goodOr.at 4 rfl) c8_103 rfl rfl hH hA (by omega) (Nat.le_of_ble_eq_true rfl) (fun x6 f6 g6 j6 h r6 q6 hH hA => ?_)
    obtain ⟨q6, xf, xg, xj⟩ := q6
    rw [xj] at hH
    have hfE := hfE.trans xf (by decide)
    have hgE := hgE.trans xg (by decide)
    have qL := q6
    refine z_goto (tgt := 17) (TX8_goodOr.at 5 rfl) rfl ?_
    refine zm_iret (TX8_goodOr.at 9 rfl) rfl hH hA (by omega) ?_
    exact ⟨Or.inl ⟨by omega, ⟨qL.1, qL.2.1, qL.2.2⟩⟩, hfE, hgE, rfl⟩

set_option maxHeartbeats 4000000 in
set_option maxRecDepth 100000 in
theorem m_light {l : Launch} {o : Nat} {ar : Nat → Nat} {f : mF} {g j : mA} {K : Int → Int} {X34 : Int → Int} {X1 : Int → Int} {u : Int} {k : Int}  (eg2 : g 2 = K) (eg34 : g 34 = X34) (eg1 : g 1 = X1) (ef36 : f 36 = u) (hk : zIn k) (hb : ∀ i, X1 i ≤ 100000) (u0 : 0 ≤ u) (u1 : u ≤ 16) (s0 : 0 ≤ K 28 ∧ K 28 ≤ 999) : MM l o ar MX8_light 3 [.ref o, vI k] f g j (PI (fun r f' g' j' => (∃ v, litS K X34 u k v (g' 2) (g' 34) (f' 36) ∧ mGood v r f' g' X1) ∧ eqx [0, 36] f f' ∧ eqx [1, 2, 34] g g' ∧ j' = j)) := by
  refine MM.intro [some (.ref o), some (vI k)] (by decide) (Nat.le_of_ble_eq_true rfl) rfl (fun d hd h0 h hH hA => ?_)
  have hfE : eqx [0, 36] f f := eqx.rf
  have hgE : eqx [1, 2, 34] g g := eqx.rf
  refine z_ald_0 (TX8_light.at 0 rfl) ?_
  refine z_ald_0 (TX8_light.at 1 rfl) ?_
  refine z_ild_1 (TX8_light.at 2 rfl) ?_
  refine zm_callI1 (m_lightsKept eg2 eg34 ef36 (by omega) u0 u1) (TX8_light.at 3 rfl) c8_369 rfl rfl hH hA (by omega) (Nat.le_of_ble_eq_true rfl) (fun x3 f3 g3 j3 h r3 q3 hH hA => ?_)
  obtain ⟨q3, xf, xg, xj⟩ := q3
  rw [xj] at hH
  have hfE := hfE.trans xf (by decide)
  have eg1 := (xg 1 (by decide)).trans eg1
  have hgE := hgE.trans xg (by decide)
  have qL := q3
  obtain ⟨K1, eg2⟩ : ∃ z, g3 2 = z := ⟨_, rfl⟩
  obtain ⟨X2, eg34⟩ : ∃ z, g3 34 = z := ⟨_, rfl⟩
  obtain ⟨u2, ef36⟩ : ∃ z, f3 36 = z := ⟨_, rfl⟩
  rw [eg2, eg34, ef36] at qL
  have qI := qL
  have vb : -6 ≤ x3 := by
    unfold litS at qI; omega
  refine zm_callI1 (m_goodOr eg1 (by omega) (by omega) hb) (TX8_light.at 4 rfl) c8_372 rfl rfl hH hA (by omega) (Nat.le_of_ble_eq_true rfl) (fun x6 f6 g6 j6 h r6 q6 hH hA => ?_)
  obtain ⟨q6, xf, xg, xj⟩ := q6
  rw [xj] at hH
  have ef36 := (xf 36 (by decide)).trans ef36
  have hfE := hfE.trans xf (by decide)
  have eg2 := (xg 2 (by decide)).trans eg2
  have eg34 := (xg 34 (by decide)).trans eg34
  have hgE := hgE.trans xg (by decide)
  have qL := q6
  refine zm_iret (TX8_light.at 5 rfl) rfl hH hA (by omega) ?_
  exact ⟨⟨_, by rw [eg2, eg34, ef36]; exact qI, qL⟩, hfE, hgE, rfl⟩

set_option maxHeartbeats 4000000 in
set_option maxRecDepth 100000 in
theorem m_soak {l : Launch} {o : Nat} {ar : Nat → Nat} {f : mF} {g j : mA} {K : Int → Int} {X34 : Int → Int} {X1 : Int → Int} {u : Int} {k : Int}  (eg2 : g 2 = K) (eg34 : g 34 = X34) (eg1 : g 1 = X1) (ef36 : f 36 = u) (hk : zIn k) (hb : ∀ i, X1 i ≤ 100000) (u0 : 0 ≤ u) (u1 : u ≤ 16) (n0 : 0 ≤ K 76) (n1 : K 76 ≤ 10) (hd0 : ∀ i, 0 ≤ i → i < K 76 → K i = 0 ∨ K i = 1) : MM l o ar MX8_soak 3 [.ref o, vI k] f g j (PI (fun r f' g' j' => (∃ v, soakS K X34 u k v (g' 2) (g' 34) (f' 36) ∧ mGood v r f' g' X1) ∧ eqx [0, 36] f f' ∧ eqx [1, 2, 34] g g' ∧ j' = j)) := by
  refine MM.intro [some (.ref o), some (vI k)] (by decide) (Nat.le_of_ble_eq_true rfl) rfl (fun d hd h0 h hH hA => ?_)
  have hfE : eqx [0, 36] f f := eqx.rf
  have hgE : eqx [1, 2, 34] g g := eqx.rf
  refine z_ald_0 (TX8_soak.at 0 rfl) ?_
  refine z_ald_0 (TX8_soak.at 1 rfl) ?_
  refine z_ild_1 (TX8_soak.at 2 rfl) ?_
  refine zm_callI1 (m_soaksKept eg2 eg34 ef36 (by omega) u0 u1 n0 n1 hd0) (TX8_soak.at 3 rfl) c8_375 rfl rfl hH hA (by omega) (Nat.le_of_ble_eq_true rfl) (fun x3 f3 g3 j3 h r3 q3 hH hA => ?_)
  obtain ⟨q3, xf, xg, xj⟩ := q3
  rw [xj] at hH
  have hfE := hfE.trans xf (by decide)
  have eg1 := (xg 1 (by decide)).trans eg1
  have hgE := hgE.trans xg (by decide)
  have qL := q3
  obtain ⟨K1, eg2⟩ : ∃ z, g3 2 = z := ⟨_, rfl⟩
  obtain ⟨X2, eg34⟩ : ∃ z, g3 34 = z := ⟨_, rfl⟩
  obtain ⟨u2, ef36⟩ : ∃ z, f3 36 = z := ⟨_, rfl⟩
  rw [eg2, eg34, ef36] at qL
  have qI := qL
  have vb : -6 ≤ x3 := by
    rcases qI with q | q
    · omega
    · have := hd0 k (by omega) (by omega); omega
  refine zm_callI1 (m_goodOr eg1 (by omega) (by omega) hb) (TX8_soak.at 4 rfl) c8_372 rfl rfl hH hA (by omega) (Nat.le_of_ble_eq_true rfl) (fun x6 f6 g6 j6 h r6 q6 hH hA => ?_)
  obtain ⟨q6, xf, xg, xj⟩ := q6
  rw [xj] at hH
  have ef36 := (xf 36 (by decide)).trans ef36
  have hfE := hfE.trans xf (by decide)
  have eg2 := (xg 2 (by decide)).trans eg2
  have eg34 := (xg 34 (by decide)).trans eg34
  have hgE := hgE.trans xg (by decide)
  have qL := q6
  refine zm_iret (TX8_soak.at 5 rfl) rfl hH hA (by omega) ?_
  exact ⟨⟨_, by rw [eg2, eg34, ef36]; exact qI, qL⟩, hfE, hgE, rfl⟩

set_option maxHeartbeats 4000000 in
set_option maxRecDepth 100000 in
theorem m_swap {l : Launch} {o : Nat} {ar : Nat → Nat} {f : mF} {g j : mA} {K : Int → Int} {X34 : Int → Int} {X1 : Int → Int} {u : Int} {a b : Int}  (eg2 : g 2 = K) (eg34 : g 34 = X34) (eg1 : g 1 = X1) (ef36 : f 36 = u) (ha : zIn a) (hb : zIn b) (hb : ∀ i, X1 i ≤ 100000) (u0 : 0 ≤ u) (u1 : u ≤ 16) (n0 : 0 ≤ K 76) (n1 : K 76 ≤ 10) (hl0 : ∀ i, 0 ≤ i → i < K 76 → 1 ≤ K (10 + i)) : MM l o ar MX8_swap 3 [.ref o, vI a, vI b] f g j (PI (fun r f' g' j' => (∃ v, swapS K X34 u a b v (g' 2) (g' 34) (f' 36) ∧ mGood v r f' g' X1) ∧ eqx [0, 36] f f' ∧ eqx [1, 2, 34] g g' ∧ j' = j)) := by
  refine MM.intro [some (.ref o), some (vI a), some (vI b)] (by decide) (Nat.le_of_ble_eq_true rfl) rfl (fun d hd h0 h hH hA => ?_)
  have hfE : eqx [0, 36] f f := eqx.rf
  have hgE : eqx [1, 2, 34] g g := eqx.rf
  refine z_ald_0 (TX8_swap.at 0 rfl) ?_
  refine z_ald_0 (TX8_swap.at 1 rfl) ?_
  refine z_ild_1 (TX8_swap.at 2 rfl) ?_
  refine z_ild_2 (TX8_swap.at 3 rfl) ?_
  refine zm_callI2 (m_swapsKept eg2 eg34 ef36 (by omega) (by omega) u0 u1 n0 n1) (TX8_swap.at 4 rfl) c8_378 rfl rfl hH hA (by omega) (Nat.le_of_ble_eq_true rfl) (fun x4 f4 g4 j4 h r4 q4 hH hA => ?_)
  obtain ⟨q4, xf, xg, xj⟩ := q4
  rw [xj] at hH
  have hfE := hfE.trans xf (by decide)
  have eg1 := (xg 1 (by decide)).trans eg1
  have hgE := hgE.trans xg (by decide)
  have qL := q4
  obtain ⟨K1, eg2⟩ : ∃ z, g4 2 = z := ⟨_, rfl⟩
  obtain ⟨X2, eg34⟩ : ∃ z, g4 34 = z := ⟨_, rfl⟩
  obtain ⟨u2, ef36⟩ : ∃ z, f4 36 = z := ⟨_, rfl⟩
  rw [eg2, eg34, ef36] at qL
  have qI := qL
  have vb : -6 ≤ x4 := by
    rcases qI with q | q | q
    · omega
    · omega
    · have := hl0 b (by omega) (by omega); omega
  refine zm_callI1 (m_goodOr eg1 (by omega) (by omega) hb) (TX8_swap.at 5 rfl) c8_372 rfl rfl hH hA (by omega) (Nat.le_of_ble_eq_true rfl) (fun x7 f7 g7 j7 h r7 q7 hH hA => ?_)
  obtain ⟨q7, xf, xg, xj⟩ := q7
  rw [xj] at hH
  have ef36 := (xf 36 (by decide)).trans ef36
  have hfE := hfE.trans xf (by decide)
  have eg2 := (xg 2 (by decide)).trans eg2
  have eg34 := (xg 34 (by decide)).trans eg34
  have hgE := hgE.trans xg (by decide)
  have qL := q7
  refine zm_iret (TX8_swap.at 6 rfl) rfl hH hA (by omega) ?_
  exact ⟨⟨_, by rw [eg2, eg34, ef36]; exact qI, qL⟩, hfE, hgE, rfl⟩

