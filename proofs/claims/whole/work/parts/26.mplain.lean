theorem cmp_ev {live br o : Int} {k1 k2 : Den} {φ : Int → Int} (ho : o = 8 ∨ o = 9 ∨ o = 10) : evB live (evB live br (k1 φ)) (k2 φ) = evB live br (dBin o k1 k2 φ) ∧ (live = 1 → br = 0 → ∀ x, dBin o k1 k2 φ = some x → evB live (evB live br (k1 φ)) (k2 φ) = 0 ∧ opV o (evV live br (k1 φ)) (evV live (evB live br (k1 φ)) (k2 φ)) = some x) := by
  by_cases hL : live = 1 ∧ br = 0
  · obtain ⟨rfl, rfl⟩ := hL
    cases e1 : k1 φ with
    | none =>
      refine ⟨?_, fun _ _ x hx => by unfold dBin at hx; rw [e1] at hx; cases hx⟩
      rw [show evB 1 0 none = 1 from rfl, evB_no (by omega)]
      unfold dBin; rw [e1]; rfl
    | some x1 =>
      rw [show evB 1 0 (some x1) = 0 from rfl]
      cases e2 : k2 φ with
      | none =>
        refine ⟨?_, fun _ _ x hx => by unfold dBin at hx; rw [e1, e2] at hx; cases hx⟩
        unfold dBin; rw [e1, e2]
      | some x2 =>
        have hd : dBin o k1 k2 φ = opV o x1 x2 := by unfold dBin; rw [e1, e2]
        rw [hd]
        refine ⟨?_, fun _ _ x hx => ⟨rfl, hx⟩⟩
        have : ∃ z, opV o x1 x2 = some z := by
          rcases ho with rfl | rfl | rfl
          · exact ⟨_, rfl⟩
          · exact ⟨_, rfl⟩
          · exact ⟨_, rfl⟩
        obtain ⟨z, hz⟩ := this
        rw [hz]; rfl
  · rw [evB_no hL, evB_no hL, evB_no hL]
    exact ⟨rfl, fun a c => absurd ⟨a, c⟩ hL⟩
set_option maxHeartbeats 4000000 in
set_option maxRecDepth 100000 in
theorem m_posI {l : Launch} {o : Nat} {ar : Nat → Nat} {f : mF} {g j : mA} {K : Int → Int} {y22 : Int} {y23 : Int} {br : Int} {live : Int} {b n t t1 y : Int} {N : Nat} {lw : Bool} {φ : Int → Int} {PP : Int → Prop} (eg2 : g 2 = K) (ef22 : f 22 = y22) (ef23 : f 23 = y23) (ef24 : f 24 = br) (hl : live = 0 ∨ live = 1) (hbr : br = 0 ∨ br = 1) (ey : y22 = b + t) (ez : y23 = b + n) (b0 : 0 ≤ b) (t0 : 0 ≤ t) (bn : b + n ≤ 2800) (tn : t < n) (hN : 2 ≤ N) (hx : cK K b n t = 140) (t1b : 0 ≤ t1 ∧ b + t1 ≤ 2801) (hFo : FOK lw K f g φ) (htest : ∀ (f : mF) (g j : mA), g 2 = K → f 22 = b + (t + 1) → f 23 = b + n → f 24 = br → FOK lw K f g φ → MM l o ar MX8_testOf N [.ref o, vI live] f g j (PI (fun r f' g' j' => ((r = 0 ∨ r = 1) ∧ f' 24 = y ∧ f' 22 = b + t1 ∧ PP r) ∧ eqx [22, 24] f f' ∧ eqx [] g g' ∧ j' = j))) : MM l o ar MX8_positiveOf (N + 1) [.ref o, vI live] f g j (PI (fun r f' g' j' => ((r = 0 ∨ r = 1) ∧ f' 24 = y ∧ f' 22 = b + t1 + 1 ∧ PP r) ∧ eqx [22, 24] f f' ∧ eqx [] g g' ∧ j' = j)) := by
  refine MM.intro [some (.ref o), some (vI live), none, none, none, none, none] (by decide) (Nat.le_of_ble_eq_true rfl) rfl (fun d hd h0 h hH hA => ?_)
  have hfE : eqx [22, 24] f f := eqx.rf
  have hgE : eqx [] g g := eqx.rf
  subst ey; subst ez
  refine z_ald_0 (TX8_positiveOf_0.at 0 rfl) ?_
  refine z_bipush (by decide) (TX8_positiveOf_0.at 1 rfl) ?_
  refine zs_call1 (s_sign (by omega)) (TX8_positiveOf_0.at 2 rfl) c8_219 rfl (by omega) (Nat.le_of_ble_eq_true rfl) (fun r3 => ?_)
  refine zm_callI1 (m_passes0 eg2 ef22 ef23 (by omega) rfl rfl (by omega) (by omega) (by omega) (by omega)) (TX8_positiveOf_0.at 3 rfl) c8_284 rfl rfl hH hA (by omega) (Nat.le_of_ble_eq_true rfl) (fun x6 f6 g6 j6 h r6 q6 hH hA => ?_)
  obtain ⟨q6, xf, xg, xj⟩ := q6
  rw [xj] at hH
  have ef23 := (xf 23 (by decide)).trans ef23
  have ef24 := (xf 24 (by decide)).trans ef24
  have hfE := hfE.trans xf (by decide)
  have eg2 := (xg 2 (by decide)).trans eg2
  have hgE := hgE.trans xg (by decide)
  have qL := q6
  obtain ⟨rfl, ef22⟩ := qL
  refine z_if_eqB (tgt := 30) (TX8_positiveOf_0.at 4 rfl) rfl (fun c1 => absurd c1 (by omega)) (fun c1 => ?_)
  refine z_ald_0 (TX8_positiveOf_0.at 5 rfl) ?_
  refine z_ild_1 (TX8_positiveOf_0.at 6 rfl) ?_
  refine zm_callI1 (htest _ _ _ eg2 (by rw [ef22, b2i_t c1]; omega) ef23 ef24 (hFo.keep hfE hgE)) (TX8_positiveOf_0.at 7 rfl) c8_317 rfl rfl hH hA (by omega) (Nat.le_of_ble_eq_true rfl) (fun x14 f14 g14 j14 h r14 q14 hH hA => ?_)
  obtain ⟨q14, xf, xg, xj⟩ := q14
  rw [xj] at hH
  have ef23 := (xf 23 (by decide)).trans ef23
  have hfE := hfE.trans xf (by decide)
  have eg2 := (xg 2 (by decide)).trans eg2
  have hgE := hgE.trans xg (by decide)
  have qL := q14
  obtain ⟨rz, ef24, ef22, hpp⟩ := qL
  refine z_ist_2 (TX8_positiveOf_0.at 8 rfl) (Nat.le_of_ble_eq_true rfl) rfl ?_
  refine z_ald_0 (TX8_positiveOf_0.at 9 rfl) ?_
  refine z_dup rfl (TX8_positiveOf_0.at 10 rfl) ?_
  refine zm_getIE ef22 (TX8_positiveOf_0.at 11 rfl) fl8_260 hH rfl (by decide) (fun r20 => ?_)
  refine z_iconst (TX8_positiveOf_0.at 12 rfl) ?_
  refine z_iadd (TX8_positiveOf_0.at 13 rfl) ?_
  refine zm_putIE (TX8_positiveOf_0.at 14 rfl) fp8_260 hH hA rfl (by decide) (by first | omega | exact b2i_01 _) (fun h f25 e1 e2 hH hA => ?_)
  have ef22 := e2
  have ef23 := (e1 23 (by decide)).trans ef23
  have ef24 := (e1 24 (by decide)).trans ef24
  have hfE := hfE.put e1 (by decide)
  refine z_ild_2 (TX8_positiveOf_0.at 15 rfl) ?_
  refine zm_zret (TX8_positiveOf_0.at 16 rfl) rfl hH hA (by first | omega | exact b2i_01 _) ?_
  exact ⟨⟨rz, ef24, ef22, hpp⟩, hfE, hgE, rfl⟩

set_option maxHeartbeats 4000000 in
set_option maxRecDepth 100000 in
theorem m_pos8 {l : Launch} {o : Nat} {ar : Nat → Nat} {f : mF} {g j : mA} {K : Int → Int} {y22 : Int} {y23 : Int} {br : Int} {live : Int} {b nt : Int} {N t p t2 p2 t3 p3 : Nat} {k1 k2 : Den} {lw : Bool} {φ : Int → Int} {sum : Nat → Nat → PR} (eg2 : g 2 = K) (ef22 : f 22 = y22) (ef23 : f 23 = y23) (ef24 : f 24 = br) (hl : live = 0 ∨ live = 1) (hb : br = 0 ∨ br = 1) (ey : y22 = b + t) (ez : y23 = b + nt) (b0 : 0 ≤ b) (bn : b + nt ≤ 2800) (tn : (t : Int) ≤ nt) (t2n : (t2 : Int) < nt) (hN : 2 ≤ N) (hne : cK K b nt t ≠ 140) (hs : cK K b nt t2 = 160) (hFo : FOK lw K f g φ) (hsum : EvC l o ar MX8_sumOf N lw K b nt φ sum) (hp1 : sum t p = .ok (t2, p2, k1)) (hp2 : sum (t2 + 1) p2 = .ok (t3, p3, k2)) : MM l o ar MX8_positiveOf (N + 1) [.ref o, vI live] f g j (PI (fun r f' g' j' => ((r = 0 ∨ r = 1) ∧ f' 24 = evB live br (dBin 8 k1 k2 φ) ∧ f' 22 = b + t3 ∧ (live = 1 → br = 0 → ∀ x, dBin 8 k1 k2 φ = some x → r = x)) ∧ eqx [22, 24] f f' ∧ eqx [] g g' ∧ j' = j)) := by
  refine MM.intro [some (.ref o), some (vI live), none, none, none, none, none] (by decide) (Nat.le_of_ble_eq_true rfl) rfl (fun d hd h0 h hH hA => ?_)
  have hfE : eqx [22, 24] f f := eqx.rf
  have hgE : eqx [] g g := eqx.rf
  subst ey; subst ez
  have ce := cmp_ev (live := live) (br := br) (o := 8) (k1 := k1) (k2 := k2) (φ := φ) (by omega)
  refine z_ald_0 (TX8_positiveOf_0.at 0 rfl) ?_
  refine z_bipush (by decide) (TX8_positiveOf_0.at 1 rfl) ?_
  refine zs_call1 (s_sign (by omega)) (TX8_positiveOf_0.at 2 rfl) c8_219 rfl (by omega) (Nat.le_of_ble_eq_true rfl) (fun r3 => ?_)
  refine zm_callI1 (m_passes0 eg2 ef22 ef23 (by omega) rfl rfl b0 (by omega) bn tn) (TX8_positiveOf_0.at 3 rfl) c8_284 rfl rfl hH hA (by omega) (Nat.le_of_ble_eq_true rfl) (fun x6 f6 g6 j6 h r6 q6 hH hA => ?_)
  obtain ⟨q6, xf, xg, xj⟩ := q6
  rw [xj] at hH
  have ef23 := (xf 23 (by decide)).trans ef23
  have ef24 := (xf 24 (by decide)).trans ef24
  have hfE := hfE.trans xf (by decide)
  have eg2 := (xg 2 (by decide)).trans eg2
  have hgE := hgE.trans xg (by decide)
  have qL := q6
  obtain ⟨rfl, ef22⟩ := qL
  refine z_if_eqB (tgt := 30) (TX8_positiveOf_0.at 4 rfl) rfl (fun c1 => ?_) (fun c1 => absurd c1 (by omega))
  rw [b2i_f c1, Int.add_zero] at ef22
  refine z_ald_0 (TX8_positiveOf_0.at 17 rfl) ?_
  refine z_ild_1 (TX8_positiveOf_0.at 18 rfl) ?_
  refine zm_callL1 (hsum live _ t p t2 p2 k1 _ _ _ hl hb eg2 ef22 ef23 ef24 (hFo.keep hfE hgE) tn hp1) (TX8_positiveOf_0.at 19 rfl) c8_287 rfl rfl hH hA (by omega) (Nat.le_of_ble_eq_true rfl) (fun x32 f32 g32 j32 h r32 q32 hH hA => ?_)
  obtain ⟨q32, xf, xg, xj⟩ := q32
  rw [xj] at hH
  have ef23 := (xf 23 (by decide)).trans ef23
  have hfE := hfE.trans xf (by decide)
  have eg2 := (xg 2 (by decide)).trans eg2
  have hgE := hgE.trans xg (by decide)
  have qL := q32
  obtain ⟨rfl, ef24, ef22, ra⟩ := qL
  refine z_lst_2 (TX8_positiveOf_0.at 20 rfl) (Nat.le_of_ble_eq_true rfl) rfl ?_
  refine z_ald_0 (TX8_positiveOf_0.at 21 rfl) ?_
  refine z_ald_0 (TX8_positiveOf_0.at 22 rfl) ?_
  refine zm_getIE ef22 (TX8_positiveOf_0.at 23 rfl) fl8_260 hH rfl (by decide) (fun r38 => ?_)
  refine zm_callI1 (m_codeAt eg2 ef23 (by omega) (by omega) (by omega)) (TX8_positiveOf_0.at 24 rfl) c8_263 rfl rfl hH hA (by omega) (Nat.le_of_ble_eq_true rfl) (fun x41 f41 g41 j41 h r41 q41 hH hA => ?_)
  obtain ⟨q41, xf, xg, xj⟩ := q41
  rw [xj] at hH
  have ef22 := (xf 22 (by decide)).trans ef22
  have ef23 := (xf 23 (by decide)).trans ef23
  have ef24 := (xf 24 (by decide)).trans ef24
  have hfE := hfE.trans xf (by decide)
  have eg2 := (xg 2 (by decide)).trans eg2
  have hgE := hgE.trans xg (by decide)
  have qL := q41
  obtain rfl := qL
  rw [cK_at, hs] at r41 ⊢
  refine z_ist_4 (TX8_positiveOf_0.at 25 rfl) (Nat.le_of_ble_eq_true rfl) rfl ?_
  refine z_ald_0 (TX8_positiveOf_0.at 26 rfl) ?_
  refine z_dup rfl (TX8_positiveOf_0.at 27 rfl) ?_
  refine zm_getIE ef22 (TX8_positiveOf_0.at 28 rfl) fl8_260 hH rfl (by decide) (fun r48 => ?_)
  refine z_iconst (TX8_positiveOf_0.at 29 rfl) ?_
  refine z_iadd (TX8_positiveOf_0.at 30 rfl) ?_
  refine zm_putIE (TX8_positiveOf_0.at 31 rfl) fp8_260 hH hA rfl (by decide) (by first | omega | exact b2i_01 _) (fun h f53 e1 e2 hH hA => ?_)
  have ef22 := e2
  have ef23 := (e1 23 (by decide)).trans ef23
  have ef24 := (e1 24 (by decide)).trans ef24
  have hfE := hfE.put e1 (by decide)
  refine z_ald_0 (TX8_positiveOf_0.at 32 rfl) ?_
  refine z_ild_1 (TX8_positiveOf_0.at 33 rfl) ?_
  refine zm_callL1 (hsum live _ (t2 + 1) p2 t3 p3 k2 _ _ _ hl (evB_01 hb) eg2 (by rw [ef22]; push_cast; omega) ef23 ef24 (hFo.keep hfE hgE) (by push_cast; omega) hp2) (TX8_positiveOf_0.at 34 rfl) c8_287 rfl rfl hH hA (by omega) (Nat.le_of_ble_eq_true rfl) (fun x58 f58 g58 j58 h r58 q58 hH hA => ?_)
  obtain ⟨q58, xf, xg, xj⟩ := q58
  rw [xj] at hH
  have ef23 := (xf 23 (by decide)).trans ef23
  have hfE := hfE.trans xf (by decide)
  have eg2 := (xg 2 (by decide)).trans eg2
  have hgE := hgE.trans xg (by decide)
  have qL := q58
  obtain ⟨rfl, ef24, ef22, rb⟩ := qL
  refine z_lst_5 (TX8_positiveOf_0.at 35 rfl) (Nat.le_of_ble_eq_true rfl) rfl ?_
  refine z_ild_1 (TX8_positiveOf_0.at 36 rfl) ?_
  refine z_if_eq (tgt := 125) (TX8_positiveOf_0.at 37 rfl) rfl (by omega) (fun c2 => ?_) (fun c2 => ?_)
  · skip
    refine z_iconst (TX8_positiveOf_1.at 25 rfl) ?_
    refine zm_zret (TX8_positiveOf_1.at 26 rfl) rfl hH hA (by first | omega | exact b2i_01 _) ?_
    exact ⟨⟨by omega, by rw [ef24]; exact ce.1, ef22, fun q1 q2 x hx => by obtain ⟨c0, c9⟩ := ce.2 q1 q2 x hx; have e9 : b2i (evV live br (k1 φ) < evV live (evB live br (k1 φ)) (k2 φ)) = x := Option.some.inj c9; first | (exfalso; omega) | (rw [← e9, b2i_t (by omega)]; done) | (rw [← e9, b2i_f (by omega)]; done)⟩, hfE, hgE, rfl⟩
  · skip
    refine z_ald_0 (TX8_positiveOf_0.at 38 rfl) ?_
    refine zm_getIE ef24 (TX8_positiveOf_0.at 39 rfl) fl8_270 hH rfl (by decide) (fun r68 => ?_)
    refine z_if_ne (tgt := 125) (TX8_positiveOf_1.at 0 rfl) rfl (by have := evB_01 (live := live) (br := evB live br (k1 φ)) (z := k2 φ) (evB_01 hb); omega) (fun c3 => ?_) (fun c3 => ?_)
    · skip
      refine z_iconst (TX8_positiveOf_1.at 25 rfl) ?_
      refine zm_zret (TX8_positiveOf_1.at 26 rfl) rfl hH hA (by first | omega | exact b2i_01 _) ?_
      exact ⟨⟨by omega, by rw [ef24]; exact ce.1, ef22, fun q1 q2 x hx => by obtain ⟨c0, c9⟩ := ce.2 q1 q2 x hx; have e9 : b2i (evV live br (k1 φ) < evV live (evB live br (k1 φ)) (k2 φ)) = x := Option.some.inj c9; first | (exfalso; omega) | (rw [← e9, b2i_t (by omega)]; done) | (rw [← e9, b2i_f (by omega)]; done)⟩, hfE, hgE, rfl⟩
    · skip
      refine z_ild_4 (TX8_positiveOf_1.at 1 rfl) ?_
      refine z_bipush (by decide) (TX8_positiveOf_1.at 2 rfl) ?_
      refine zs_call1 (s_sign (by omega)) (TX8_positiveOf_1.at 3 rfl) c8_219 rfl (by omega) (Nat.le_of_ble_eq_true rfl) (fun r78 => ?_)
      refine z_icmp_ne (tgt := 94) (TX8_positiveOf_1.at 4 rfl) rfl (by omega) (by omega) (fun c4 => absurd c4 (by decide)) (fun c4 => ?_)
      refine z_lld_2 (TX8_positiveOf_1.at 5 rfl) ?_
      refine z_lld_5 (TX8_positiveOf_1.at 6 rfl) ?_
      refine z_lif_ge (tgt := 125) (TX8_positiveOf_1.at 7 rfl) (TX8_positiveOf_1.at 8 rfl) rfl (by omega) (by omega) (fun c5 => ?_) (fun c5 => ?_)
      · skip
        refine z_iconst (TX8_positiveOf_1.at 25 rfl) ?_
        refine zm_zret (TX8_positiveOf_1.at 26 rfl) rfl hH hA (by first | omega | exact b2i_01 _) ?_
        exact ⟨⟨by omega, by rw [ef24]; exact ce.1, ef22, fun q1 q2 x hx => by obtain ⟨c0, c9⟩ := ce.2 q1 q2 x hx; have e9 : b2i (evV live br (k1 φ) < evV live (evB live br (k1 φ)) (k2 φ)) = x := Option.some.inj c9; first | (exfalso; omega) | (rw [← e9, b2i_t (by omega)]; done) | (rw [← e9, b2i_f (by omega)]; done)⟩, hfE, hgE, rfl⟩
      · skip
        refine z_goto (tgt := 121) (TX8_positiveOf_1.at 9 rfl) rfl ?_
        refine z_iconst (TX8_positiveOf_1.at 23 rfl) ?_
        refine z_goto (tgt := 126) (TX8_positiveOf_1.at 24 rfl) rfl ?_
        refine zm_zret (TX8_positiveOf_1.at 26 rfl) rfl hH hA (by first | omega | exact b2i_01 _) ?_
        exact ⟨⟨by omega, by rw [ef24]; exact ce.1, ef22, fun q1 q2 x hx => by obtain ⟨c0, c9⟩ := ce.2 q1 q2 x hx; have e9 : b2i (evV live br (k1 φ) < evV live (evB live br (k1 φ)) (k2 φ)) = x := Option.some.inj c9; first | (exfalso; omega) | (rw [← e9, b2i_t (by omega)]; done) | (rw [← e9, b2i_f (by omega)]; done)⟩, hfE, hgE, rfl⟩

set_option maxHeartbeats 4000000 in
set_option maxRecDepth 100000 in
theorem m_pos9 {l : Launch} {o : Nat} {ar : Nat → Nat} {f : mF} {g j : mA} {K : Int → Int} {y22 : Int} {y23 : Int} {br : Int} {live : Int} {b nt : Int} {N t p t2 p2 t3 p3 : Nat} {k1 k2 : Den} {lw : Bool} {φ : Int → Int} {sum : Nat → Nat → PR} (eg2 : g 2 = K) (ef22 : f 22 = y22) (ef23 : f 23 = y23) (ef24 : f 24 = br) (hl : live = 0 ∨ live = 1) (hb : br = 0 ∨ br = 1) (ey : y22 = b + t) (ez : y23 = b + nt) (b0 : 0 ≤ b) (bn : b + nt ≤ 2800) (tn : (t : Int) ≤ nt) (t2n : (t2 : Int) < nt) (hN : 2 ≤ N) (hne : cK K b nt t ≠ 140) (hs : cK K b nt t2 = 162) (hFo : FOK lw K f g φ) (hsum : EvC l o ar MX8_sumOf N lw K b nt φ sum) (hp1 : sum t p = .ok (t2, p2, k1)) (hp2 : sum (t2 + 1) p2 = .ok (t3, p3, k2)) : MM l o ar MX8_positiveOf (N + 1) [.ref o, vI live] f g j (PI (fun r f' g' j' => ((r = 0 ∨ r = 1) ∧ f' 24 = evB live br (dBin 9 k1 k2 φ) ∧ f' 22 = b + t3 ∧ (live = 1 → br = 0 → ∀ x, dBin 9 k1 k2 φ = some x → r = x)) ∧ eqx [22, 24] f f' ∧ eqx [] g g' ∧ j' = j)) := by
  refine MM.intro [some (.ref o), some (vI live), none, none, none, none, none] (by decide) (Nat.le_of_ble_eq_true rfl) rfl (fun d hd h0 h hH hA => ?_)
  have hfE : eqx [22, 24] f f := eqx.rf
  have hgE : eqx [] g g := eqx.rf
  subst ey; subst ez
  have ce := cmp_ev (live := live) (br := br) (o := 9) (k1 := k1) (k2 := k2) (φ := φ) (by omega)
  refine z_ald_0 (TX8_positiveOf_0.at 0 rfl) ?_
  refine z_bipush (by decide) (TX8_positiveOf_0.at 1 rfl) ?_
  refine zs_call1 (s_sign (by omega)) (TX8_positiveOf_0.at 2 rfl) c8_219 rfl (by omega) (Nat.le_of_ble_eq_true rfl) (fun r3 => ?_)
  refine zm_callI1 (m_passes0 eg2 ef22 ef23 (by omega) rfl rfl b0 (by omega) bn tn) (TX8_positiveOf_0.at 3 rfl) c8_284 rfl rfl hH hA (by omega) (Nat.le_of_ble_eq_true rfl) (fun x6 f6 g6 j6 h r6 q6 hH hA => ?_)
  obtain ⟨q6, xf, xg, xj⟩ := q6
  rw [xj] at hH
  have ef23 := (xf 23 (by decide)).trans ef23
  have ef24 := (xf 24 (by decide)).trans ef24
  have hfE := hfE.trans xf (by decide)
  have eg2 := (xg 2 (by decide)).trans eg2
  have hgE := hgE.trans xg (by decide)
  have qL := q6
  obtain ⟨rfl, ef22⟩ := qL
  refine z_if_eqB (tgt := 30) (TX8_positiveOf_0.at 4 rfl) rfl (fun c1 => ?_) (fun c1 => absurd c1 (by omega))
  rw [b2i_f c1, Int.add_zero] at ef22
  refine z_ald_0 (TX8_positiveOf_0.at 17 rfl) ?_
  refine z_ild_1 (TX8_positiveOf_0.at 18 rfl) ?_
  refine zm_callL1 (hsum live _ t p t2 p2 k1 _ _ _ hl hb eg2 ef22 ef23 ef24 (hFo.keep hfE hgE) tn hp1) (TX8_positiveOf_0.at 19 rfl) c8_287 rfl rfl hH hA (by omega) (Nat.le_of_ble_eq_true rfl) (fun x32 f32 g32 j32 h r32 q32 hH hA => ?_)
  obtain ⟨q32, xf, xg, xj⟩ := q32
  rw [xj] at hH
  have ef23 := (xf 23 (by decide)).trans ef23
  have hfE := hfE.trans xf (by decide)
  have eg2 := (xg 2 (by decide)).trans eg2
  have hgE := hgE.trans xg (by decide)
  have qL := q32
  obtain ⟨rfl, ef24, ef22, ra⟩ := qL
  refine z_lst_2 (TX8_positiveOf_0.at 20 rfl) (Nat.le_of_ble_eq_true rfl) rfl ?_
  refine z_ald_0 (TX8_positiveOf_0.at 21 rfl) ?_
  refine z_ald_0 (TX8_positiveOf_0.at 22 rfl) ?_
  refine zm_getIE ef22 (TX8_positiveOf_0.at 23 rfl) fl8_260 hH rfl (by decide) (fun r38 => ?_)
  refine zm_callI1 (m_codeAt eg2 ef23 (by omega) (by omega) (by omega)) (TX8_positiveOf_0.at 24 rfl) c8_263 rfl rfl hH hA (by omega) (Nat.le_of_ble_eq_true rfl) (fun x41 f41 g41 j41 h r41 q41 hH hA => ?_)
  obtain ⟨q41, xf, xg, xj⟩ := q41
  rw [xj] at hH
  have ef22 := (xf 22 (by decide)).trans ef22
  have ef23 := (xf 23 (by decide)).trans ef23
  have ef24 := (xf 24 (by decide)).trans ef24
  have hfE := hfE.trans xf (by decide)
  have eg2 := (xg 2 (by decide)).trans eg2
  have hgE := hgE.trans xg (by decide)
  have qL := q41
  obtain rfl := qL
  rw [cK_at, hs] at r41 ⊢
  refine z_ist_4 (TX8_positiveOf_0.at 25 rfl) (Nat.le_of_ble_eq_true rfl) rfl ?_
  refine z_ald_0 (TX8_positiveOf_0.at 26 rfl) ?_
  refine z_dup rfl (TX8_positiveOf_0.at 27 rfl) ?_
  refine zm_getIE ef22 (TX8_positiveOf_0.at 28 rfl) fl8_260 hH rfl (by decide) (fun r48 => ?_)
  refine z_iconst (TX8_positiveOf_0.at 29 rfl) ?_
  refine z_iadd (TX8_positiveOf_0.at 30 rfl) ?_
  refine zm_putIE (TX8_positiveOf_0.at 31 rfl) fp8_260 hH hA rfl (by decide) (by first | omega | exact b2i_01 _) (fun h f53 e1 e2 hH hA => ?_)
  have ef22 := e2
  have ef23 := (e1 23 (by decide)).trans ef23
  have ef24 := (e1 24 (by decide)).trans ef24
  have hfE := hfE.put e1 (by decide)
  refine z_ald_0 (TX8_positiveOf_0.at 32 rfl) ?_
  refine z_ild_1 (TX8_positiveOf_0.at 33 rfl) ?_
  refine zm_callL1 (hsum live _ (t2 + 1) p2 t3 p3 k2 _ _ _ hl (evB_01 hb) eg2 (by rw [ef22]; push_cast; omega) ef23 ef24 (hFo.keep hfE hgE) (by push_cast; omega) hp2) (TX8_positiveOf_0.at 34 rfl) c8_287 rfl rfl hH hA (by omega) (Nat.le_of_ble_eq_true rfl) (fun x58 f58 g58 j58 h r58 q58 hH hA => ?_)
  obtain ⟨q58, xf, xg, xj⟩ := q58
  rw [xj] at hH
  have ef23 := (xf 23 (by decide)).trans ef23
  have hfE := hfE.trans xf (by decide)
  have eg2 := (xg 2 (by decide)).trans eg2
  have hgE := hgE.trans xg (by decide)
  have qL := q58
  obtain ⟨rfl, ef24, ef22, rb⟩ := qL
  refine z_lst_5 (TX8_positiveOf_0.at 35 rfl) (Nat.le_of_ble_eq_true rfl) rfl ?_
  refine z_ild_1 (TX8_positiveOf_0.at 36 rfl) ?_
  refine z_if_eq (tgt := 125) (TX8_positiveOf_0.at 37 rfl) rfl (by omega) (fun c2 => ?_) (fun c2 => ?_)
  · skip
    refine z_iconst (TX8_positiveOf_1.at 25 rfl) ?_
    refine zm_zret (TX8_positiveOf_1.at 26 rfl) rfl hH hA (by first | omega | exact b2i_01 _) ?_
    exact ⟨⟨by omega, by rw [ef24]; exact ce.1, ef22, fun q1 q2 x hx => by obtain ⟨c0, c9⟩ := ce.2 q1 q2 x hx; have e9 : b2i (evV live (evB live br (k1 φ)) (k2 φ) < evV live br (k1 φ)) = x := Option.some.inj c9; first | (exfalso; omega) | (rw [← e9, b2i_t (by omega)]; done) | (rw [← e9, b2i_f (by omega)]; done)⟩, hfE, hgE, rfl⟩
  · skip
    refine z_ald_0 (TX8_positiveOf_0.at 38 rfl) ?_
    refine zm_getIE ef24 (TX8_positiveOf_0.at 39 rfl) fl8_270 hH rfl (by decide) (fun r68 => ?_)
    refine z_if_ne (tgt := 125) (TX8_positiveOf_1.at 0 rfl) rfl (by have := evB_01 (live := live) (br := evB live br (k1 φ)) (z := k2 φ) (evB_01 hb); omega) (fun c3 => ?_) (fun c3 => ?_)
    · skip
      refine z_iconst (TX8_positiveOf_1.at 25 rfl) ?_
      refine zm_zret (TX8_positiveOf_1.at 26 rfl) rfl hH hA (by first | omega | exact b2i_01 _) ?_
      exact ⟨⟨by omega, by rw [ef24]; exact ce.1, ef22, fun q1 q2 x hx => by obtain ⟨c0, c9⟩ := ce.2 q1 q2 x hx; have e9 : b2i (evV live (evB live br (k1 φ)) (k2 φ) < evV live br (k1 φ)) = x := Option.some.inj c9; first | (exfalso; omega) | (rw [← e9, b2i_t (by omega)]; done) | (rw [← e9, b2i_f (by omega)]; done)⟩, hfE, hgE, rfl⟩
    · skip
      refine z_ild_4 (TX8_positiveOf_1.at 1 rfl) ?_
      refine z_bipush (by decide) (TX8_positiveOf_1.at 2 rfl) ?_
      refine zs_call1 (s_sign (by omega)) (TX8_positiveOf_1.at 3 rfl) c8_219 rfl (by omega) (Nat.le_of_ble_eq_true rfl) (fun r78 => ?_)
      refine z_icmp_ne (tgt := 94) (TX8_positiveOf_1.at 4 rfl) rfl (by omega) (by omega) (fun c4 => ?_) (fun c4 => absurd c4 (by decide))
      refine z_ild_4 (TX8_positiveOf_1.at 10 rfl) ?_
      refine z_bipush (by decide) (TX8_positiveOf_1.at 11 rfl) ?_
      refine zs_call1 (s_sign (by omega)) (TX8_positiveOf_1.at 12 rfl) c8_219 rfl (by omega) (Nat.le_of_ble_eq_true rfl) (fun r98 => ?_)
      refine z_icmp_ne (tgt := 114) (TX8_positiveOf_1.at 13 rfl) rfl (by omega) (by omega) (fun c5 => absurd c5 (by decide)) (fun c5 => ?_)
      refine z_lld_2 (TX8_positiveOf_1.at 14 rfl) ?_
      refine z_lld_5 (TX8_positiveOf_1.at 15 rfl) ?_
      refine z_lif_le (tgt := 125) (TX8_positiveOf_1.at 16 rfl) (TX8_positiveOf_1.at 17 rfl) rfl (by omega) (by omega) (fun c6 => ?_) (fun c6 => ?_)
      · skip
        refine z_iconst (TX8_positiveOf_1.at 25 rfl) ?_
        refine zm_zret (TX8_positiveOf_1.at 26 rfl) rfl hH hA (by first | omega | exact b2i_01 _) ?_
        exact ⟨⟨by omega, by rw [ef24]; exact ce.1, ef22, fun q1 q2 x hx => by obtain ⟨c0, c9⟩ := ce.2 q1 q2 x hx; have e9 : b2i (evV live (evB live br (k1 φ)) (k2 φ) < evV live br (k1 φ)) = x := Option.some.inj c9; first | (exfalso; omega) | (rw [← e9, b2i_t (by omega)]; done) | (rw [← e9, b2i_f (by omega)]; done)⟩, hfE, hgE, rfl⟩
      · skip
        refine z_goto (tgt := 121) (TX8_positiveOf_1.at 18 rfl) rfl ?_
        refine z_iconst (TX8_positiveOf_1.at 23 rfl) ?_
        refine z_goto (tgt := 126) (TX8_positiveOf_1.at 24 rfl) rfl ?_
        refine zm_zret (TX8_positiveOf_1.at 26 rfl) rfl hH hA (by first | omega | exact b2i_01 _) ?_
        exact ⟨⟨by omega, by rw [ef24]; exact ce.1, ef22, fun q1 q2 x hx => by obtain ⟨c0, c9⟩ := ce.2 q1 q2 x hx; have e9 : b2i (evV live (evB live br (k1 φ)) (k2 φ) < evV live br (k1 φ)) = x := Option.some.inj c9; first | (exfalso; omega) | (rw [← e9, b2i_t (by omega)]; done) | (rw [← e9, b2i_f (by omega)]; done)⟩, hfE, hgE, rfl⟩

set_option maxHeartbeats 4000000 in
set_option maxRecDepth 100000 in
theorem m_pos10 {l : Launch} {o : Nat} {ar : Nat → Nat} {f : mF} {g j : mA} {K : Int → Int} {y22 : Int} {y23 : Int} {br : Int} {live : Int} {b nt : Int} {N t p t2 p2 t3 p3 : Nat} {k1 k2 : Den} {lw : Bool} {φ : Int → Int} {sum : Nat → Nat → PR} (eg2 : g 2 = K) (ef22 : f 22 = y22) (ef23 : f 23 = y23) (ef24 : f 24 = br) (hl : live = 0 ∨ live = 1) (hb : br = 0 ∨ br = 1) (ey : y22 = b + t) (ez : y23 = b + nt) (b0 : 0 ≤ b) (bn : b + nt ≤ 2800) (tn : (t : Int) ≤ nt) (t2n : (t2 : Int) < nt) (hN : 2 ≤ N) (hne : cK K b nt t ≠ 140) (hs : cK K b nt t2 = 161) (hFo : FOK lw K f g φ) (hsum : EvC l o ar MX8_sumOf N lw K b nt φ sum) (hp1 : sum t p = .ok (t2, p2, k1)) (hp2 : sum (t2 + 1) p2 = .ok (t3, p3, k2)) : MM l o ar MX8_positiveOf (N + 1) [.ref o, vI live] f g j (PI (fun r f' g' j' => ((r = 0 ∨ r = 1) ∧ f' 24 = evB live br (dBin 10 k1 k2 φ) ∧ f' 22 = b + t3 ∧ (live = 1 → br = 0 → ∀ x, dBin 10 k1 k2 φ = some x → r = x)) ∧ eqx [22, 24] f f' ∧ eqx [] g g' ∧ j' = j)) := by
  refine MM.intro [some (.ref o), some (vI live), none, none, none, none, none] (by decide) (Nat.le_of_ble_eq_true rfl) rfl (fun d hd h0 h hH hA => ?_)
  have hfE : eqx [22, 24] f f := eqx.rf
  have hgE : eqx [] g g := eqx.rf
  subst ey; subst ez
  have ce := cmp_ev (live := live) (br := br) (o := 10) (k1 := k1) (k2 := k2) (φ := φ) (by omega)
  refine z_ald_0 (TX8_positiveOf_0.at 0 rfl) ?_
  refine z_bipush (by decide) (TX8_positiveOf_0.at 1 rfl) ?_
  refine zs_call1 (s_sign (by omega)) (TX8_positiveOf_0.at 2 rfl) c8_219 rfl (by omega) (Nat.le_of_ble_eq_true rfl) (fun r3 => ?_)
  refine zm_callI1 (m_passes0 eg2 ef22 ef23 (by omega) rfl rfl b0 (by omega) bn tn) (TX8_positiveOf_0.at 3 rfl) c8_284 rfl rfl hH hA (by omega) (Nat.le_of_ble_eq_true rfl) (fun x6 f6 g6 j6 h r6 q6 hH hA => ?_)
  obtain ⟨q6, xf, xg, xj⟩ := q6
  rw [xj] at hH
  have ef23 := (xf 23 (by decide)).trans ef23
  have ef24 := (xf 24 (by decide)).trans ef24
  have hfE := hfE.trans xf (by decide)
  have eg2 := (xg 2 (by decide)).trans eg2
  have hgE := hgE.trans xg (by decide)
  have qL := q6
  obtain ⟨rfl, ef22⟩ := qL
  refine z_if_eqB (tgt := 30) (TX8_positiveOf_0.at 4 rfl) rfl (fun c1 => ?_) (fun c1 => absurd c1 (by omega))
  rw [b2i_f c1, Int.add_zero] at ef22
  refine z_ald_0 (TX8_positiveOf_0.at 17 rfl) ?_
  refine z_ild_1 (TX8_positiveOf_0.at 18 rfl) ?_
  refine zm_callL1 (hsum live _ t p t2 p2 k1 _ _ _ hl hb eg2 ef22 ef23 ef24 (hFo.keep hfE hgE) tn hp1) (TX8_positiveOf_0.at 19 rfl) c8_287 rfl rfl hH hA (by omega) (Nat.le_of_ble_eq_true rfl) (fun x32 f32 g32 j32 h r32 q32 hH hA => ?_)
  obtain ⟨q32, xf, xg, xj⟩ := q32
  rw [xj] at hH
  have ef23 := (xf 23 (by decide)).trans ef23
  have hfE := hfE.trans xf (by decide)
  have eg2 := (xg 2 (by decide)).trans eg2
  have hgE := hgE.trans xg (by decide)
  have qL := q32
  obtain ⟨rfl, ef24, ef22, ra⟩ := qL
  refine z_lst_2 (TX8_positiveOf_0.at 20 rfl) (Nat.le_of_ble_eq_true rfl) rfl ?_
  refine z_ald_0 (TX8_positiveOf_0.at 21 rfl) ?_
  refine z_ald_0 (TX8_positiveOf_0.at 22 rfl) ?_
  refine zm_getIE ef22 (TX8_positiveOf_0.at 23 rfl) fl8_260 hH rfl (by decide) (fun r38 => ?_)
  refine zm_callI1 (m_codeAt eg2 ef23 (by omega) (by omega) (by omega)) (TX8_positiveOf_0.at 24 rfl) c8_263 rfl rfl hH hA (by omega) (Nat.le_of_ble_eq_true rfl) (fun x41 f41 g41 j41 h r41 q41 hH hA => ?_)
  obtain ⟨q41, xf, xg, xj⟩ := q41
  rw [xj] at hH
  have ef22 := (xf 22 (by decide)).trans ef22
  have ef23 := (xf 23 (by decide)).trans ef23
  have ef24 := (xf 24 (by decide)).trans ef24
  have hfE := hfE.trans xf (by decide)
  have eg2 := (xg 2 (by decide)).trans eg2
  have hgE := hgE.trans xg (by decide)
  have qL := q41
  obtain rfl := qL
  rw [cK_at, hs] at r41 ⊢
  refine z_ist_4 (TX8_positiveOf_0.at 25 rfl) (Nat.le_of_ble_eq_true rfl) rfl ?_
  refine z_ald_0 (TX8_positiveOf_0.at 26 rfl) ?_
  refine z_dup rfl (TX8_positiveOf_0.at 27 rfl) ?_
  refine zm_getIE ef22 (TX8_positiveOf_0.at 28 rfl) fl8_260 hH rfl (by decide) (fun r48 => ?_)
  refine z_iconst (TX8_positiveOf_0.at 29 rfl) ?_
  refine z_iadd (TX8_positiveOf_0.at 30 rfl) ?_
  refine zm_putIE (TX8_positiveOf_0.at 31 rfl) fp8_260 hH hA rfl (by decide) (by first | omega | exact b2i_01 _) (fun h f53 e1 e2 hH hA => ?_)
  have ef22 := e2
  have ef23 := (e1 23 (by decide)).trans ef23
  have ef24 := (e1 24 (by decide)).trans ef24
  have hfE := hfE.put e1 (by decide)
  refine z_ald_0 (TX8_positiveOf_0.at 32 rfl) ?_
  refine z_ild_1 (TX8_positiveOf_0.at 33 rfl) ?_
  refine zm_callL1 (hsum live _ (t2 + 1) p2 t3 p3 k2 _ _ _ hl (evB_01 hb) eg2 (by rw [ef22]; push_cast; omega) ef23 ef24 (hFo.keep hfE hgE) (by push_cast; omega) hp2) (TX8_positiveOf_0.at 34 rfl) c8_287 rfl rfl hH hA (by omega) (Nat.le_of_ble_eq_true rfl) (fun x58 f58 g58 j58 h r58 q58 hH hA => ?_)
  obtain ⟨q58, xf, xg, xj⟩ := q58
  rw [xj] at hH
  have ef23 := (xf 23 (by decide)).trans ef23
  have hfE := hfE.trans xf (by decide)
  have eg2 := (xg 2 (by decide)).trans eg2
  have hgE := hgE.trans xg (by decide)
  have qL := q58
  obtain ⟨rfl, ef24, ef22, rb⟩ := qL
  refine z_lst_5 (TX8_positiveOf_0.at 35 rfl) (Nat.le_of_ble_eq_true rfl) rfl ?_
  refine z_ild_1 (TX8_positiveOf_0.at 36 rfl) ?_
  refine z_if_eq (tgt := 125) (TX8_positiveOf_0.at 37 rfl) rfl (by omega) (fun c2 => ?_) (fun c2 => ?_)
  · skip
    refine z_iconst (TX8_positiveOf_1.at 25 rfl) ?_
    refine zm_zret (TX8_positiveOf_1.at 26 rfl) rfl hH hA (by first | omega | exact b2i_01 _) ?_
    exact ⟨⟨by omega, by rw [ef24]; exact ce.1, ef22, fun q1 q2 x hx => by obtain ⟨c0, c9⟩ := ce.2 q1 q2 x hx; have e9 : b2i (evV live br (k1 φ) = evV live (evB live br (k1 φ)) (k2 φ)) = x := Option.some.inj c9; first | (exfalso; omega) | (rw [← e9, b2i_t (by omega)]; done) | (rw [← e9, b2i_f (by omega)]; done)⟩, hfE, hgE, rfl⟩
  · skip
    refine z_ald_0 (TX8_positiveOf_0.at 38 rfl) ?_
    refine zm_getIE ef24 (TX8_positiveOf_0.at 39 rfl) fl8_270 hH rfl (by decide) (fun r68 => ?_)
    refine z_if_ne (tgt := 125) (TX8_positiveOf_1.at 0 rfl) rfl (by have := evB_01 (live := live) (br := evB live br (k1 φ)) (z := k2 φ) (evB_01 hb); omega) (fun c3 => ?_) (fun c3 => ?_)
    · skip
      refine z_iconst (TX8_positiveOf_1.at 25 rfl) ?_
      refine zm_zret (TX8_positiveOf_1.at 26 rfl) rfl hH hA (by first | omega | exact b2i_01 _) ?_
      exact ⟨⟨by omega, by rw [ef24]; exact ce.1, ef22, fun q1 q2 x hx => by obtain ⟨c0, c9⟩ := ce.2 q1 q2 x hx; have e9 : b2i (evV live br (k1 φ) = evV live (evB live br (k1 φ)) (k2 φ)) = x := Option.some.inj c9; first | (exfalso; omega) | (rw [← e9, b2i_t (by omega)]; done) | (rw [← e9, b2i_f (by omega)]; done)⟩, hfE, hgE, rfl⟩
    · skip
      refine z_ild_4 (TX8_positiveOf_1.at 1 rfl) ?_
      refine z_bipush (by decide) (TX8_positiveOf_1.at 2 rfl) ?_
      refine zs_call1 (s_sign (by omega)) (TX8_positiveOf_1.at 3 rfl) c8_219 rfl (by omega) (Nat.le_of_ble_eq_true rfl) (fun r78 => ?_)
      refine z_icmp_ne (tgt := 94) (TX8_positiveOf_1.at 4 rfl) rfl (by omega) (by omega) (fun c4 => ?_) (fun c4 => absurd c4 (by decide))
      refine z_ild_4 (TX8_positiveOf_1.at 10 rfl) ?_
      refine z_bipush (by decide) (TX8_positiveOf_1.at 11 rfl) ?_
      refine zs_call1 (s_sign (by omega)) (TX8_positiveOf_1.at 12 rfl) c8_219 rfl (by omega) (Nat.le_of_ble_eq_true rfl) (fun r98 => ?_)
      refine z_icmp_ne (tgt := 114) (TX8_positiveOf_1.at 13 rfl) rfl (by omega) (by omega) (fun c5 => ?_) (fun c5 => absurd c5 (by decide))
      refine z_lld_2 (TX8_positiveOf_1.at 19 rfl) ?_
      refine z_lld_5 (TX8_positiveOf_1.at 20 rfl) ?_
      refine z_lif_ne (tgt := 125) (TX8_positiveOf_1.at 21 rfl) (TX8_positiveOf_1.at 22 rfl) rfl (by omega) (by omega) (fun c6 => ?_) (fun c6 => ?_)
      · skip
        refine z_iconst (TX8_positiveOf_1.at 25 rfl) ?_
        refine zm_zret (TX8_positiveOf_1.at 26 rfl) rfl hH hA (by first | omega | exact b2i_01 _) ?_
        exact ⟨⟨by omega, by rw [ef24]; exact ce.1, ef22, fun q1 q2 x hx => by obtain ⟨c0, c9⟩ := ce.2 q1 q2 x hx; have e9 : b2i (evV live br (k1 φ) = evV live (evB live br (k1 φ)) (k2 φ)) = x := Option.some.inj c9; first | (exfalso; omega) | (rw [← e9, b2i_t (by omega)]; done) | (rw [← e9, b2i_f (by omega)]; done)⟩, hfE, hgE, rfl⟩
      · skip
        refine z_iconst (TX8_positiveOf_1.at 23 rfl) ?_
        refine z_goto (tgt := 126) (TX8_positiveOf_1.at 24 rfl) rfl ?_
        refine zm_zret (TX8_positiveOf_1.at 26 rfl) rfl hH hA (by first | omega | exact b2i_01 _) ?_
        exact ⟨⟨by omega, by rw [ef24]; exact ce.1, ef22, fun q1 q2 x hx => by obtain ⟨c0, c9⟩ := ce.2 q1 q2 x hx; have e9 : b2i (evV live br (k1 φ) = evV live (evB live br (k1 φ)) (k2 φ)) = x := Option.some.inj c9; first | (exfalso; omega) | (rw [← e9, b2i_t (by omega)]; done) | (rw [← e9, b2i_f (by omega)]; done)⟩, hfE, hgE, rfl⟩

