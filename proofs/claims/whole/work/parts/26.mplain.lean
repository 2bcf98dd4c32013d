theorem cmp_ev {live br o : Int} {k1 k2 : Den} {φ : Int → Int} (ho : o = 8 ∨ o = 9 ∨ o = 10) : evB live (evB live br (k1 φ)) (k2 φ) = evB live br (dBin o k1 k2 φ) ∧ (live = 1 → br = 0 → ∀ x, dBin o k1 k2 φ = some x → evB live (evB live br (k1 φ)) (k2 φ) = 0 ∧ opV o (evV live br (k1 φ)) (evV live (evB live br (k1 φ)) (k2 φ)) = some x) := by
  by_cases hL : live = 1 ∧ br = 0
  · obtain ⟨rfl, rfl⟩ := hL
    cases e1 : k1 φ with
    | none =>
      refine ⟨?_, fun _ _ x hx => by unfold dBin at hx; rw [e1] at hx; cases hx⟩
      rw [show evB 1 0 none = 1 from rfl, evB_no (by omega)]
      unfold dBin; rw [e1]; rfl
    | some x1 =>
      rw [show evB 1 0 (some x1) = 0 from rfl]
      cases e2 : k2 φ with
      | none =>
        refine ⟨?_, fun _ _ x hx => by unfold dBin at hx; rw [e1, e2] at hx; cases hx⟩
        unfold dBin; rw [e1, e2]
      | some x2 =>
        have hd : dBin o k1 k2 φ = opV o x1 x2 := by unfold dBin; rw [e1, e2]
        rw [hd]
        refine ⟨?_, fun _ _ x hx => ⟨rfl, hx⟩⟩
        have : ∃ z, opV o x1 x2 = some z := by
          rcases ho with rfl | rfl | rfl
          · exact ⟨_, rfl⟩
          · exact ⟨_, rfl⟩
          · exact ⟨_, rfl⟩
        obtain ⟨z, hz⟩ := this
        rw [hz]; rfl
  · rw [evB_no hL, evB_no hL, evB_no hL]
    exact ⟨rfl, fun a c => absurd ⟨a, c⟩ hL⟩
set_option maxHeartbeats 4000000 in
set_option maxRecDepth 100000 in
theorem m_posI {l : Launch} {o : Nat} {ar : Nat → Nat} {f : mF} {g j : mA} {K : Int → Int} {y22 : Int} {y23 : Int} {br : Int} {live : Int} {b n t t1 y : Int} {N : Nat} {lw : Bool} {φ : Int → Int} {PP : Int → Prop} (eg2 : g 2 = K) (ef22 : f 22 = y22) (ef23 : f 23 = y23) (ef24 : f 24 = br) (hl : live = 0 ∨ live = 1) (hbr : br = 0 ∨ br = 1) (ey : y22 = b + t) (ez : y23 = b + n) (b0 : 0 ≤ b) (t0 : 0 ≤ t) (bn : b + n ≤ 2800) (tn : t < n) (hN : 2 ≤ N) (hx : cK K b n t = 140) (t1b : 0 ≤ t1 ∧ b + t1 ≤ 2801) (hFo : FOK lw K f g φ) (htest : ∀ (f : mF) (g j : mA), g 2 = K → f 22 = b + (t + 1) → f 23 = b + n → f 24 = br → FOK lw K f g φ → MM l o ar MX8_testOf N [.ref o, vI live] f g j (PI (fun r f' g' j' => ((r = 0 ∨ r = 1) ∧ f' 24 = y ∧ f' 22 = b + t1 ∧ PP r) ∧ eqx [22, 24] f f' ∧ eqx [] g g' ∧ j' = j))) : MM l o ar MX8_positiveOf (N + 1) [.ref o, vI live] f g j (PI (fun r f' g' j' => ((r = 0 ∨ r = 1) ∧ f' 24 = y ∧ f' 22 = b + t1 + 1 ∧ PP r) ∧ eqx [22, 24] f f' ∧ eqx [] g g' ∧ j' = j)) := by
  refine MM.intro [some (.ref o), some (vI live), none, none, none, none, none] (by decide) (Nat.le_of_ble_eq_true rfl) rfl (fun d hd h0 h hH hA => ?_)
  have hfE : eqx [22, 24] f f := eqx.rf
  have hgE : eqx [] g g := eqx.rf
  subst ey; subst ez
  refine z_ald_0 (TX8_positiveOf_0.at 0 rfl) ?_
  refine z_bipush (by decide) (TX8_positiveOf_0.at 1 rfl) ?_
  refine zs_call1 (s_sign (by omega)) (TX8_positiveOf_0.at 2 rfl) c8_219 rfl (by omega) (Nat.le_of_ble_eq_true rfl) (fun r3 => ?_)
  refine zm_callI1 (m_passes0 eg2 ef22 ef23 (by omega) rfl rfl (by omega) (by omega) (by omega) (by omega)) (TX8_positiveOf_0.at 3 rfl) c8_284 rfl rfl hH hA (by omega) (Nat.le_of_ble_eq_true rfl) (fun x6 f6 g6 j6 h r6 q6 hH hA => ?_)
  obtain ⟨q6, xf, xg, xj⟩ := q6
  rw [xj] at hH
  have ef23 := (xf 23 (by decide)).trans ef23
  have ef24 := (xf 24 (by decide)).trans ef24
  have hfE := hfE.trans xf (by decide)
  have eg2 := (xg 2 (by decide)).trans eg2
  have hgE := hgE.trans xg (by decide)
  have qL := q6
  obtain ⟨rfl, ef22⟩ := qL
  refine z_if_eqB (tgt := 30) (TX8_positiveOf_0.at 4 rfl) rfl (fun c1 => absurd c1 (by omega)) (fun c1 => ?_)
  refine z_ald_0 (TX8_positiveOf_0.at 5 rfl) ?_
  refine z_ild_1 (TX8_positiveOf_0.at 6 rfl) ?_
  refine zm_callI1 (htest _ _ _ eg2 (by rw [ef22, b2i_t c1]; omega) ef23 ef24 (hFo.keep hfE hgE)) (TX8_positiveOf_0.at 7 rfl) c8_317 rfl rfl hH hA (by omega) (Nat.le_of_ble_eq_true rfl) (fun x14 f14 g14 j14 h r14 q14 hH hA => ?_)
  obtain ⟨q14, xf, xg, xj⟩ := q14
  rw [xj] at hH
  have ef23 := (xf 23 (by decide)).trans ef23
  have hfE := hfE.trans xf (by decide)
  have eg2 := (xg 2 (by decide)).trans eg2
  have hgE := hgE.trans xg (by decide)
  have qL := q14
  obtain ⟨rz, ef24, ef22, hpp⟩ := qL
  refine z_ist_2 (TX8_positiveOf_0.at 8 rfl) (Nat.le_of_ble_eq_true rfl) rfl ?_
  refine z_ald_0 (TX8_positiveOf_0.at 9 rfl) ?_
  refine z_dup rfl (TX8_positiveOf_0.at 10 rfl) ?_
  refine zm_getIE ef22 (TX8_positiveOf_0.at 11 rfl) fl8_260 hH rfl (by decide) (fun r20 => ?_)
  refine z_iconst (TX8_positiveOf_0.at 12 rfl) ?_
  refine z_iadd (TX8_positiveOf_0.at 13 rfl) ?_
  refine zm_putIE (TX8_positiveOf_0.at 14 rfl) fp8_260 hH hA rfl (by decide) (by first | omega | exact b2i_01 _) (fun h f25 e1 e2 hH hA => ?_)
  have ef22 := e2
  have ef23 := (e1 23 (by decide)).trans ef23
  have ef24 := (e1 24 (by decide)).trans ef24
  have hfE := hfE.put e1 (by decide)
  refine z_ild_2 (TX8_positiveOf_0.at 15 rfl) ?_
  refine zm_zret (TX8_positiveOf_0.at 16 rfl) rfl hH hA (by first | omega | exact b2i_01 _) ?_
  exact ⟨⟨rz, ef24, ef22, hpp⟩, hfE, hgE, rfl⟩

set_option maxHeartbeats 4000000 in
set_option maxRecDepth 100000 in
theorem m_pos8 {l : Launch} {o : Nat} {ar : Nat → Nat} {f : mF} {g j : mA} {K : Int → Int} {y22 : Int} {y23 : Int} {br : Int} {live : Int} {b nt : Int} {N t p t2 p2 t3 p3 : Nat} {k1 k2 : Den} {lw : Bool} {φ : Int → Int} {sum : Nat → Nat → PR} (eg2 : g 2 = K) (ef22 : f 22 = y22) (ef23 : f 23 = y23) (ef24 : f 24 = br) (hl : live = 0 ∨ live = 1) (hb : br = 0 ∨ br = 1) (ey : y22 = b + t) (ez : y23 = b + nt) (b0 : 0 ≤ b) (bn : b + nt ≤ 2800) (tn : (t : Int) ≤ nt) (t2n : (t2 : Int) < nt) (hN : 2 ≤ N) (hne : cK K b nt t ≠ 140) (hs : cK K b nt t2 = 160) (hFo : FOK lw K f g φ) (hsum : EvC l o ar MX8_sumOf N lw K b nt φ sum) (hp1 : sum t p = .ok (t2, p2, k1)) (hp2 : sum (t2 + 1) p2 = .ok (t3, p3, k2)) : MM l o ar MX8_positiveOf (N + 1) [.ref o, vI live] f g j (PI (fun r f' g' j' => ((r = 0 ∨ r = 1) ∧ f' 24 = evB live br (dBin 8 k1 k2 φ) ∧ f' 22 = b + t3 ∧ (live = 1 → br = 0 → ∀ x, dBin 8 k1 k2 φ = some x → r = x)) ∧ eqx [22, 24] f f' ∧ eqx [] g g' ∧ j' = j)) := by
  refine MM.intro [some (.ref o), some (vI live), none, none, none, none, none] (by decide) (Nat.le_of_ble_eq_true rfl) rfl (fun d hd h0 h hH hA => ?_)
  have hfE : eqx [22, 24] f f := eqx.rf
  have hgE : eqx [] g g := eqx.rf
  subst ey; subst ez
  have ce := cmp_ev (live := live) (br := br) (o := 8) (k1 := k1) (k2 := k2) (φ := φ) (by omega)
  refine z_ald_0 (TX8_positiveOf_0.at 0 rfl) ?_
  refine z_bipush (by decide) (TX8_positiveOf_0.at 1 rfl) ?_
  refine zs_call1 (s_sign (by omega)) (TX8_positiveOf_0.at 2 rfl) c8_219 rfl (by omega) (Nat.le_of_ble_eq_true rfl) (fun r3 => ?_)
  refine zm_callI1 (m_passes0 eg2 ef22 ef23 (by omega) rfl rfl b0 (by omega) bn tn) (TX8_positiveOf_0.at 3 rfl) c8_284 rfl rfl hH hA (by omega) (Nat.le_of_ble_eq_true rfl) (fun x6 f6 g6 j6 h r6 q6 hH hA => ?_)
  obtain ⟨q6, xf, xg, xj⟩ := q6
  rw [xj] at hH
  have ef23 := (xf 23 (by decide)).trans ef23
  have ef24 := (xf 24 (by decide)).trans ef24
  have hfE := hfE.trans xf (by decide)
  have eg2 := (xg 2 (by decide)).trans eg2
  have hgE := hgE.trans xg (by decide)
  have qL := q6
  obtain ⟨rfl, ef22⟩ := qL
  refine z_if_eqB (tgt := 30) (TX8_positiveOf_0.at 4 rfl) rfl (fun c1 => ?_) (fun c1 => absurd c1 (by omega))
  rw [b2i_f c1, Int.add_zero] at ef22
  refine z_ald_0 (TX8_positiveOf_0.at 17 rfl) ?_
  refine z_ild_1 (TX8_positiveOf_0.at 18 rfl) ?_
  refine zm_callL1 (hsum live _ t p t2 p2 k1 _ _ _ hl hb eg2 ef22 ef23 ef24 (hFo.keep hfE hgE) tn hp1) (TX8_positiveOf_0.at 19 rfl) c8_287 rfl rfl hH hA (by omega) (Nat.le_of_ble_eq_true rfl) (fun x32 f32 g32 j32 h r32 q32 hH hA => ?_)
  obtain ⟨q32, xf, xg, xj⟩ := q32
  rw [xj] at hH
  have ef23 := (xf 23 (by decide)).trans ef23
  have hfE := hfE.trans xf (by decide)
  have eg2 := (xg 2 (by decide)).trans eg2
  have hgE := hgE.trans xg (by decide)
  have qL := q32
  obtain ⟨rfl, ef24, ef22, ra⟩ := qL
  refine z_lst_2 (TX8_positiveOf_0.at 20 rfl) (Nat.le_of_ble_eq_true rfl) rfl ?_
  refine z_ald_0 (TX8_positiveOf_0.at 21 rfl) ?_
  refine z_ald_0 (TX8_positiveOf_0.at 22 rfl) ?_
  refine zm_getIE ef22 (TX8_positiveOf_0.at 23 rfl) fl8_260 hH rfl (by decide) (fun r38 => ?_)
  refine zm_callI1 (m_codeAt eg2 ef23 (by omega) (by omega) (by omega)) (TX8_positiveOf_0.at 24 rfl) c8_263 rfl rfl hH hA (by omega) (Nat.le_of_ble_eq_true rfl) (fun x41 f41 g41 j41 h r41 q41 hH hA => ?_)
  obtain ⟨q41, xf, xg, xj⟩ := q41
  rw [xj] at hH
  have ef22 := (xf 22 (by decide)).trans ef22
  have ef23 := (xf 23 (by decide)).trans ef23
  have ef24 := (xf 24 (by decide)).trans ef24
  have hfE := hfE.trans xf (by decide)
  have eg2 := (xg 2 (by decide)).trans eg2
  have hgE := hgE.trans xg (by decide)
  have qL := q41
  obtain rfl := qL
  rw [cK_at, hs] at r41 ⊢
  refine z_ist_4 (TX8_positiveOf_0.at 25 rfl) (Nat.le_of_ble_eq_true rfl) rfl ?_
  refine z_ald_0 (TX8_positiveOf_0.at 26 rfl) ?_
  refine z_dup rfl (TX8_positiveOf_0.at 27 rfl) ?_
  refine zm_getIE ef22 (TX8_positiveOf_0.at 28 rfl) fl8_260 hH rfl (by decide) (fun r48 => ?_)
  refine z_iconst (TX8_positiveOf_0.at 29 rfl) ?_
  refine z_iadd (TX8_positiveOf_0.at 30 rfl) ?_
  refine zm_putIE (TX8_positiveOf_0.at 31 rfl) fp8_260 hH hA rfl (by decide) (by first | omega | exact b2i_01 _) (fun h f53 e1 e2 hH hA => ?_)
  have ef22 := e2
  have ef23 := (e1 23 (by decide)).trans ef23
  have ef24 := (e1 24 (by decide)).trans ef24
  have hfE := hfE.put e1 (by decide)
  refine z_ald_0 (TX8_positiveOf_0.at 32 rfl) ?_
  refine z_ild_1 (TX8_positiveOf_0.at 33 rfl) ?_
  refine zm_callL1 (hsum live _ (t2 + 1) p2 t3 p3 k2 _ _ _ hl (evB_01 hb) eg2 (by rw [ef22]; push_cast; omega) ef23 ef24 (hFo.keep hfE hgE) (by push_cast; omega) hp2) (TX8_positiveOf_0.at 34 rfl) c8_287 rfl rfl hH hA (by omega) (Nat.le_of_ble_eq_true rfl) (fun x58 f58 g58 j58 h r58 q58 hH hA => ?_)
  obtain ⟨q58, xf, xg, xj⟩ := q58
  rw [xj] at hH
  have ef23 := (xf 23 (by decide)).trans ef23
  have hfE := hfE.trans xf (by decide)
  have eg2 := (xg 2 (by decide)).trans eg2
  have hgE := hgE.trans xg (by decide)
  have qL := q58
  obtain ⟨rfl, ef24, ef22, rb⟩ := qL
  refine z_lst_5 (TX8_positiveOf_0.at 35 rfl) (Nat.le_of_ble_eq_true rfl) rfl ?_
  refine z_ild_1 (TX8_positiveOf_0.at 36 rfl) ?_
  refine z_if_eq (tgt := 125) (TX8_positiveOf_0.at 37 rfl) rfl (by omega) (fun c2 => ?_) (fun c2 => ?_)
  · skip
    refine z_iconst (TX8_positiveOf_1.at 25 rfl) ?_
    refine zm_zret (TX8_positiveOf_1.at 26 rfl) rfl hH hA (by first | omega | exact b2i_01 _) ?_
    exact ⟨⟨by omega, by rw [ef24]; exact ce.1, ef22, fun q1 q2 x hx => by obtain ⟨c0, c9⟩ := ce.2 q1 q2 x hx; have e9 : b2i (evV live br (k1 φ) < evV live (evB live br (k1 φ)) (k2 φ)) = x := Option.some.inj c9; first | (exfalso; omega) | (rw [← e9, b2i_t (by omega)]; done) | (rw [← e9, b2i_f (by omega)]; done)⟩, hfE, hgE, rfl⟩
  · skip
    refine z_ald_0 (TX8_positiveOf_0.at 38 rfl) ?_
    refine zm_getIE ef24 (TX8_positiveOf_0.at 39 rfl) fl8_270 hH rfl (by decide) (fun r68 => ?_)
    refine z_if_ne (tgt := 125) (TX8_positiveOf_1.at 0 rfl) rfl (by have := evB_01 (live := live) (br := evB live br (k1 φ)) (z := k2 φ) (evB_01 hb); omega) (fun c3 => ?_) (fun c3 => ?_)
    · skip
      refine z_iconst (TX8_positiveOf_1.at 25 rfl) ?_
      refine zm_zret (TX8_positiveOf_1.at 26 rfl) rfl hH hA (by first | omega | exact b2i_01 _) ?_
      exact ⟨⟨by omega, by rw [ef24]; exact ce.1, ef22, fun q1 q2 x hx => by obtain ⟨c0, c9⟩ := ce.2 q1 q2 x hx; have e9 : b2i (evV live br (k1 φ) < evV live (evB live br (k1 φ)) (k2 φ)) = x := Option.some.inj c9; first | (exfalso; omega) | (rw [← e9, b2i_t (by omega)]; done) | (rw [← e9, b2i_f (by omega)]; done)⟩, hfE, hgE, rfl⟩
    · skip
      refine z_ild_4 (TX8_positiveOf_1.at 1 rfl) ?_
      refine z_bipush (by decide) (TX8_positiveOf_1.at 2 rfl) ?_
      refine zs_call1 (s_sign (by omega)) (TX8_positiveOf_1.at 3 rfl) c8_219 rfl (by omega) (Nat.le_of_ble_eq_true rfl) (fun r78 => ?_)
      refine z_icmp_ne (tgt := 94) (TX8_positiveOf_1.at 4 rfl) rfl (by omega) (by omega) (fun c4 => absurd c4 (by decide)) (fun c4 => ?_)
      refine z_lld_2 (TX8_positiveOf_1.at 5 rfl) ?_
      refine z_lld_5 (TX8_positiveOf_1.at 6 rfl) ?_
      refine z_lif_ge (tgt := 125) (TX8_positiveOf_1.at 7 rfl) (TX8_positiveOf_1.at 8 rfl) rfl (by omega) (by omega) (fun c5 => ?_) (fun c5 => ?_)
      · skip
        refine z_iconst (TX8_positiveOf_1.at 25 rfl) ?_
        refine zm_zret (TX8_positiveOf_1.at 26 rfl) rfl hH hA (by first | omega | exact b2i_01 _) ?_
        exact ⟨⟨by omega, by rw [ef24]; exact ce.1, ef22, fun q1 q2 x hx => by obtain ⟨c0, c9⟩ := ce.2 q1 q2 x hx; have e9 : b2i (evV live br (k1 φ) < evV live (evB live br (k1 φ)) (k2 φ)) = x := Option.some.inj c9; first | (exfalso; omega) | (rw [← e9, b2i_t (by omega)]; done) | (rw [← e9, b2i_f (by omega)]; done)⟩, hfE, hgE, rfl⟩
      · skip
        refine z_goto (tgt := 121) (TX8_positiveOf_1.at 9 rfl) rfl ?_
        refine z_iconst (TX8_positiveOf_1.at 23 rfl) ?_
        refine z_goto (tgt := 126) (TX8_positiveOf_1.at 24 rfl) rfl ?_
        refine zm_zret (TX8_positiveOf_1.at 26 rfl) rfl hH hA (by first | omega | exact b2i_01 _) ?_
        exact ⟨⟨by omega, by rw [ef24]; exact ce.1, ef22, fun q1 q2 x hx => by obtain ⟨c0, c9⟩ := ce.2 q1 q2 x hx; have e9 : b2i (evV live br (k1 φ) < evV live (evB live br (k1 φ)) (k2 φ)) = x := Option.some.inj c9; first | (exfalso; omega) | (rw [← e9, b2i_t (by omega)]; done) | (rw [← e9, b2i_f (by omega)]; done)⟩, hfE, hgE, rfl⟩

set_option maxHeartbeats 4000000 in
set_option maxRecDepth 100000 in
theorem m_pos9 {l : Launch} {o : Nat} {ar : Nat → Nat} {f : mF} {g j : mA} {K : Int → Int} {y22 : Int} {y23 : Int} {br : Int} {live : Int} {b nt : Int} {N t p t2 p2 t3 p3 : Nat} {k1 k2 : Den} {lw : Bool} {φ : Int → Int} {sum : Nat → Nat → PR} (eg2 : g 2 = K) (ef22 : f 22 = y22) (ef23 : f 23 = y23) (ef24 : f 24 = br) (hl : live = 0 ∨ live = 1) (hb : br = 0 ∨ br = 1) (ey : y22 = b + t) (ez : y23 = b + nt) (b0 : 0 ≤ b) (bn : b + nt ≤ 2800) (tn : (t : Int) ≤ nt) (t2n : (t2 : Int) < nt) (hN : 2 ≤ N) (hne : cK K b nt t ≠ 140) (hs : cK K b nt t2 = 162) (hFo : FOK lw K f g φ) (hsum : EvC l o ar MX8_sumOf N lw K b nt φ sum) (hp1 : sum t p = .ok (t2, p2, k1)) (hp2 : sum (t2 + 1) p2 = .ok (t3, p3, k2)) : MM l o ar MX8_positiveOf (N + 1) [.ref o, vI live] f g j (PI (fun r f' g' j' => ((r = 0 ∨ r = 1) ∧ f' 24 = evB live br (dBin 9 k1 k2 φ) ∧ f' 22 = b + t3 ∧ (live = 1 → br = 0 → ∀ x, dBin 9 k1 k2 φ = some x → r = x)) ∧ eqx [22, 24] f f' ∧ eqx [] g g' ∧ j' = j)) := by
  refine MM.intro [some (.ref o), some (vI live), none, none, none, none, none] (by decide) (Nat.le_of_ble_eq_true rfl) rfl (fun d hd h0 h hH hA => ?_)
  have hfE : eqx [22, 24] f f := eqx.rf
  have hgE : eqx [] g g := eqx.rf
  subst ey; subst ez
  have ce := cmp_ev (live := live) (br := br) (o := 9) (k1 := k1) (k2 := k2) (φ := φ) (by omega)
  refine z_ald_0 (TX8_positiveOf_0.at 0 rfl) ?_
  refine z_bipush (by decide) (TX8_positiveOf_0.at 1 rfl) ?_
  refine zs_call1 (s_sign (by omega)) (TX8_positiveOf_0.at 2 rfl) c8_219 rfl (by omega) (Nat.le_of_ble_eq_true rfl) (fun r3 => ?_)
  refine zm_callI1 (m_passes0 eg2 ef22 ef23 (by omega) rfl rfl b0 (by omega) bn tn) (TX8_positiveOf_0.at 3 rfl) c8_284 rfl rfl hH hA (by omega) (Nat.le_of_ble_eq_true rfl) (fun x6 f6 g6 j6 h r6 q6 hH hA => ?_)
  obtain ⟨q6, xf, xg, xj⟩ := q6
  rw [xj] at hH
  have ef23 := (xf 23 (by decide)).trans ef23
  have ef24 := (xf 24 (by decide)).trans ef24
  have hfE := hfE.trans xf (by decide)
  have eg2 := (xg 2 (by decide)).trans eg2
  have hgE := hgE.trans xg (by decide)
  have qL := q6
  obtain ⟨rfl, ef22⟩ := qL
  refine z_if_eqB (tgt := 30) (TX8_positiveOf_0.at 4 rfl) rfl (fun c1 => ?_) (fun c1 => absurd c1 (by omega))
  rw [b2i_f c1, Int.add_zero] at ef22
  refine z_ald_0 (TX8_positiveOf_0.at 17 rfl) ?_
  refine z_ild_1 (TX8_positiveOf_0.at 18 rfl) ?_
  refine zm_callL1 (hsum live _ t p t2 p2 k1 _ _ _ hl hb eg2 ef22 ef23 ef24 (hFo.keep hfE hgE) tn hp1) (TX8_positiveOf_0.at 19 rfl) c8_287 rfl rfl hH hA (by omega) (Nat.le_of_ble_eq_true rfl) (fun x32 f32 g32 j32 h r32 q32 hH hA => ?_)
  obtain ⟨q32, xf, xg, xj⟩ := q32
  rw [xj] at hH
  have ef23 := (xf 23 (by decide)).trans ef23
  have hfE := hfE.trans xf (by decide)
  have eg2 := (xg 2 (by decide)).trans eg2
  have hgE := hgE.trans xg (by decide)
  have qL := q32
  obtain ⟨rfl, ef24, ef22, ra⟩ := qL
  refine z_lst_2 (TX8_positiveOf_0.at 20 rfl) (Nat.le_of_ble_eq_true rfl) rfl ?_
  refine z_ald_0 (TX8_positiveOf_0.at 21 rfl) ?_
  refine z_ald_0 (TX8_positiveOf_0.at 22 rfl) ?_
  refine zm_getIE ef22 (TX8_positiveOf_0.at 23 rfl) fl8_260 hH rfl (by decide) (fun r38 => ?_)
  refine zm_callI1 (m_codeAt eg2 ef23 (by omega) (by omega) (by omega)) (TX8_positiveOf_0.at 24 rfl) c8_263 rfl rfl hH hA (by omega) (Nat.le_of_ble_eq_true rfl) (fun x41 f41 g41 j41 h r41 q41 hH hA => ?_)
  obtain ⟨q41, xf, xg, xj⟩ := q41
  rw [xj] at hH
  have ef22 := (xf 22 (by decide)).trans ef22
  have ef23 := (xf 23 (by decide)).trans ef23
  have ef24 := (xf 24 (by decide)).trans ef24
  have hfE := hfE.trans xf (by decide)
  have eg2 := (xg 2 (by decide)).trans eg2
  have hgE := hgE.trans xg (by decide)
  have qL := q41
  obtain rfl := qL
  rw [cK_at, hs] at r41 ⊢
  refine z_ist_4 (TX8_positiveOf_0.at 25 rfl) (Nat.le_of_ble_eq_true rfl) rfl ?_
  refine z_ald_0 (TX8_positiveOf_0.at 26 rfl) ?_
  refine z_dup rfl (TX8_positiveOf_0.at 27 rfl) ?_
  refine zm_getIE ef22 (TX8_positiveOf_0.at 28 rfl) fl8_260 hH rfl (by decide) (fun r48 => ?_)
  refine z_iconst (TX8_positiveOf_0.at 29 rfl) ?_
  refine z_iadd (TX8_positiveOf_0.at 30 rfl) ?_
  refine zm_putIE (TX8_positiveOf_0.at 31 rfl) fp8_260 hH hA rfl (by decide) (by first | omega | exact b2i_01 _) (fun h f53 e1 e2 hH hA => ?_)
  have ef22 := e2
  have ef23 := (e1 23 (by decide)).trans ef23
  have ef24 := (e1 24 (by decide)).trans ef24
  have hfE := hfE.put e1 (by decide)
  refine z_ald_0 (TX8_positiveOf_0.at 32 rfl) ?_
  refine z_ild_1 (TX8_positiveOf_0.at 33 rfl) ?_
  refine zm_callL1 (hsum live _ (t2 + 1) p2 t3 p3 k2 _ _ _ hl (evB_01 hb) eg2 (by rw [ef22]; push_cast; omega) ef23 ef24 (hFo.keep hfE hgE) (by push_cast; omega) hp2) (TX8_positiveOf_0.at 34 rfl) c8_287 rfl rfl hH hA (by omega) (Nat.le_of_ble_eq_true rfl) (fun x58 f58 g58 j58 h r58 q58 hH hA => ?_)
  obtain ⟨q58, xf, xg, xj⟩ := q58
  rw [xj] at hH
  have ef23 := (xf 23 (by decide)).trans ef23
  have hfE := hfE.trans xf (by decide)
  have eg2 := (xg 2 (by decide)).trans eg2
  have hgE := hgE.trans xg (by decide)
  have qL := q58
  obtain ⟨rfl, ef24, ef22, rb⟩ := qL
  refine z_lst_5 (TX8_positiveOf_0.at 35 rfl) (Nat.le_of_ble_eq_true rfl) rfl ?_
  refine z_ild_1 (TX8_positiveOf_0.at 36 rfl) ?_
  refine z_if_eq (tgt := 125) (TX8_positiveOf_0.at 37 rfl) rfl (by omega) (fun c2 => ?_) (fun c2 => ?_)
  · skip
    refine z_iconst (TX8_positiveOf_1.at 25 rfl) ?_
    refine zm_zret (TX8_positiveOf_1.at 26 rfl) rfl hH hA (by first | omega | exact b2i_01 _) ?_
    exact ⟨⟨by omega, by rw [ef24]; exact ce.1, ef22, fun q1 q2 x hx => by obtain ⟨c0, c9⟩ := ce.2 q1 q2 x hx; have e9 : b2i (evV live (evB live br (k1 φ)) (k2 φ) < evV live br (k1 φ)) = x := Option.some.inj c9; first | (exfalso; omega) | (rw [← e9, b2i_t (by omega)]; done) | (rw [← e9, b2i_f (by omega)]; done)⟩, hfE, hgE, rfl⟩
  · skip
    refine z_ald_0 (TX8_positiveOf_0.at 38 rfl) ?_
    refine zm_getIE ef24 (TX8_positiveOf_0.at 39 rfl) fl8_270 hH rfl (by decide) (fun r68 => ?_)
    refine z_if_ne (tgt := 125) (TX8_positiveOf_1.at 0 rfl) rfl (by have := evB_01 (live := live) (br := evB live br (k1 φ)) (z := k2 φ) (evB_01 hb); omega) (fun c3 => ?_) (fun c3 => ?_)
    · skip
      refine z_iconst (TX8_positiveOf_1.at 25 rfl) ?_
      refine zm_zret (TX8_positiveOf_1.at 26 rfl) rfl hH hA (by first | omega | exact b2i_01 _) ?_
      exact ⟨⟨by omega, by rw [ef24]; exact ce.1, ef22, fun q1 q2 x hx => by obtain ⟨c0, c9⟩ := ce.2 q1 q2 x hx; have e9 : b2i (evV live (evB live br (k1 φ)) (k2 φ) < evV live br (k1 φ)) = x := Option.some.inj c9; first | (exfalso; omega) | (rw [← e9, b2i_t (by omega)]; done) | (rw [← e9, b2i_f (by omega)]; done)⟩, hfE, hgE, rfl⟩
    · skip
      refine z_ild_4 (TX8_positiveOf_1.at 1 rfl) ?_
      refine z_bipush (by decide) (TX8_positiveOf_1.at 2 rfl) ?_
      refine zs_call1 (s_sign (by omega)) (TX8_positiveOf_1.at 3 rfl) c8_219 rfl (by omega) (Nat.le_of_ble_eq_true rfl) (fun r78 => ?_)
      refine z_icmp_ne (tgt := 94) (TX8_positiveOf_1.at 4 rfl) rfl (by omega) (by omega) (fun c4 => ?_) (fun c4 => absurd c4 (by decide))
      refine z_ild_4 (TX8_positiveOf_1.at 10 rfl) ?_
      refine z_bipush (by decide) (TX8_positiveOf_1.at 11 rfl) ?_
      refine zs_call1 (s_sign (by omega)) (TX8_positiveOf_1.at 12 rfl) c8_219 rfl (by omega) (Nat.le_of_ble_eq_true rfl) (fun r98 => ?_)
      refine z_icmp_ne (tgt := 114) (TX8_positiveOf_1.at 13 rfl) rfl (by omega) (by omega) (fun c5 => absurd c5 (by decide)) (fun c5 => ?_)
      refine z_lld_2 (TX8_positiveOf_1.at 14 rfl) ?_
      refine z_lld_5 (TX8_positiveOf_1.at 15 rfl) ?_
      refine z_lif_le (tgt := 125) (TX8_positiveOf_1.at 16 rfl) (TX8_positiveOf_1.at 17 rfl) rfl (by omega) (by omega) (fun c6 => ?_) (fun c6 => ?_)
      · skip
        refine z_iconst (TX8_positiveOf_1.at 25 rfl) ?_
        refine zm_zret (TX8_positiveOf_1.at 26 rfl) rfl hH hA (by first | omega | exact b2i_01 _) ?_
        exact ⟨⟨by omega, by rw [ef24]; exact ce.1, ef22, fun q1 q2 x hx => by obtain ⟨c0, c9⟩ := ce.2 q1 q2 x hx; have e9 : b2i (evV live (evB live br (k1 φ)) (k2 φ) < evV live br (k1 φ)) = x := Option.some.inj c9; first | (exfalso; omega) | (rw [← e9, b2i_t (by omega)]; done) | (rw [← e9, b2i_f (by omega)]; done)⟩, hfE, hgE, rfl⟩
      · skip
        refine z_goto (tgt := 121) (TX8_positiveOf_1.at 18 rfl) rfl ?_
        refine z_iconst (TX8_positiveOf_1.at 23 rfl) ?_
        refine z_goto (tgt := 126) (TX8_positiveOf_1.at 24 rfl) rfl ?_
        refine zm_zret (TX8_positiveOf_1.at 26 rfl) rfl hH hA (by first | omega | exact b2i_01 _) ?_
        exact ⟨⟨by omega, by rw [ef24]; exact ce.1, ef22, fun q1 q2 x hx => by obtain ⟨c0, c9⟩ := ce.2 q1 q2 x hx; have e9 : b2i (evV live (evB live br (k1 φ)) (k2 φ) < evV live br (k1 φ)) = x := Option.some.inj c9; first | (exfalso; omega) | (rw [← e9, b2i_t (by omega)]; done) | (rw [← e9, b2i_f (by omega)]; done)⟩, hfE, hgE, rfl⟩

set_option maxHeartbeats 4000000 in
set_option maxRecDepth 100000 in
theorem m_pos10 {l : Launch} {o : Nat} {ar : Nat → Nat} {f : mF} {g j : mA} {K : Int → Int} {y22 : Int} {y23 : Int} {br : Int} {live : Int} {b nt : Int} {N t p t2 p2 t3 p3 : Nat} {k1 k2 : Den} {lw : Bool} {φ : Int → Int} {sum : Nat → Nat → PR} (eg2 : g 2 = K) (ef22 : f 22 = y22) (ef23 : f 23 = y23) (ef24 : f 24 = br) (hl : live = 0 ∨ live = 1) (hb : br = 0 ∨ br = 1) (ey : y22 = b + t) (ez : y23 = b + nt) (b0 : 0 ≤ b) (bn : b + nt ≤ 2800) (tn : (t : Int) ≤ nt) (t2n : (t2 : Int) < nt) (hN : 2 ≤ N) (hne : cK K b nt t ≠ 140) (hs : cK K b nt t2 = 161) (hFo : FOK lw K f g φ) (hsum : EvC l o ar MX8_sumOf N lw K b nt φ sum) (hp1 : sum t p = .ok (t2, p2, k1)) (hp2 : sum (t2 + 1) p2 = .ok (t3, p3, k2)) : MM l o ar MX8_positiveOf (N + 1) [.ref o, vI live] f g j (PI (fun r f' g' j' => ((r = 0 ∨ r = 1) ∧ f' 24 = evB live br (dBin 10 k1 k2 φ) ∧ f' 22 = b + t3 ∧ (live = 1 → br = 0 → ∀ x, dBin 10 k1 k2 φ = some x → r = x)) ∧ eqx [22, 24] f f' ∧ eqx [] g g' ∧ j' = j)) := by
  refine MM.intro [some (.ref o), some (vI live), none, none, none, none, none] (by decide) (Nat.le_of_ble_eq_true rfl) rfl (fun d hd h0 h hH hA => ?_)
  have hfE : eqx [22, 24] f f := eqx.rf
  have hgE : eqx [] g g := eqx.rf
  subst ey; subst ez
  have ce := cmp_ev (live := live) (br := br) (o := 10) (k1 := k1) (k2 := k2) (φ := φ) (by omega)
  refine z_ald_0 (TX8_positiveOf_0.at 0 rfl) ?_
  refine z_bipush (by decide) (TX8_positiveOf_0.at 1 rfl) ?_
  refine zs_call1 (s_sign (by omega)) (TX8_positiveOf_0.at 2 rfl) c8_219 rfl (by omega) (Nat.le_of_ble_eq_true rfl) (fun r3 => ?_)
  refine zm_callI1 (m_passes0 eg2 ef22 ef23 (by omega) rfl rfl b0 (by omega) bn tn) (TX8_positiveOf_0.at 3 rfl) c8_284 rfl rfl hH hA (by omega) (Nat.le_of_ble_eq_true rfl) (fun x6 f6 g6 j6 h r6 q6 hH hA => ?_)
  obtain ⟨q6, xf, xg, xj⟩ := q6
  rw [xj] at hH
  have ef23 := (xf 23 (by decide)).trans ef23
  have ef24 := (xf 24 (by decide)).trans ef24
  have hfE := hfE.trans xf (by decide)
  have eg2 := (xg 2 (by decide)).trans eg2
  have hgE := hgE.trans xg (by decide)
  have qL := q6
  obtain ⟨rfl, ef22⟩ := qL
  refine z_if_eqB (tgt := 30) (TX8_positiveOf_0.at 4 rfl) rfl (fun c1 => ?_) (fun c1 => absurd c1 (by omega))
  rw [b2i_f c1, Int.add_zero] at ef22
  refine z_ald_0 (TX8_positiveOf_0.at 17 rfl) ?_
  refine z_ild_1 (TX8_positiveOf_0.at 18 rfl) ?_
  refine zm_callL1 (hsum live _ t p t2 p2 k1 _ _ _ hl hb eg2 ef22 ef23 ef24 (hFo.keep hfE hgE) tn hp1) (TX8_positiveOf_0.at 19 rfl) c8_287 rfl rfl hH hA (by omega) (Nat.le_of_ble_eq_true rfl) (fun x32 f32 g32 j32 h r32 q32 hH hA => ?_)
  obtain ⟨q32, xf, xg, xj⟩ := q32
  rw [xj] at hH
  have ef23 := (xf 23 (by decide)).trans ef23
  have hfE := hfE.trans xf (by decide)
  have eg2 := (xg 2 (by decide)).trans eg2
  have hgE := hgE.trans xg (by decide)
  have qL := q32
  obtain ⟨rfl, ef24, ef22, ra⟩ := qL
  refine z_lst_2 (TX8_positiveOf_0.at 20 rfl) (Nat.le_of_ble_eq_true rfl) rfl ?_
  refine z_ald_0 (TX8_positiveOf_0.at 21 rfl) ?_
  refine z_ald_0 (TX8_positiveOf_0.at 22 rfl) ?_
  refine zm_getIE ef22 (TX8_positiveOf_0.at 23 rfl) fl8_260 hH rfl (by decide) (fun r38 => ?_)
  refine zm_callI1 (m_codeAt eg2 ef23 (by omega) (by omega) (by omega)) (TX8_positiveOf_0.at 24 rfl) c8_263 rfl rfl hH hA (by omega) (Nat.le_of_ble_eq_true rfl) (fun x41 f41 g41 j41 h r41 q41 hH hA => ?_)
  obtain ⟨q41, xf, xg, xj⟩ := q41
  rw [xj] at hH
  have ef22 := (xf 22 (by decide)).trans ef22
  have ef23 := (xf 23 (by decide)).trans ef23
  have ef24 := (xf 24 (by decide)).trans ef24
  have hfE := hfE.trans xf (by decide)
  have eg2 := (xg 2 (by decide)).trans eg2
  have hgE := hgE.trans xg (by decide)
  have qL := q41
  obtain rfl := qL
  rw [cK_at, hs] at r41 ⊢
  refine z_ist_4 (TX8_positiveOf_0.at 25 rfl) (Nat.le_of_ble_eq_true rfl) rfl ?_
  refine z_ald_0 (TX8_positiveOf_0.at 26 rfl) ?_
  refine z_dup rfl (TX8_positiveOf_0.at 27 rfl) ?_
  refine zm_getIE ef22 (TX8_positiveOf_0.at 28 rfl) fl8_260 hH rfl (by decide) (fun r48 => ?_)
  refine z_iconst (TX8_positiveOf_0.at 29 rfl) ?_
  refine z_iadd (TX8_positiveOf_0.at 30 rfl) ?_
  refine zm_putIE (TX8_positiveOf_0.at 31 rfl) fp8_260 hH hA rfl (by decide) (by first | omega | exact b2i_01 _) (fun h f53 e1 e2 hH hA => ?_)
  have ef22 := e2
  have ef23 := (e1 23 (by decide)).trans ef23
  have ef24 := (e1 24 (by decide)).trans ef24
  have hfE := hfE.put e1 (by decide)
  refine z_ald_0 (TX8_positiveOf_0.at 32 rfl) ?_
  refine z_ild_1 (TX8_positiveOf_0.at 33 rfl) ?_
  refine zm_callL1 (hsum live _ (t2 + 1) p2 t3 p3 k2 _ _ _ hl (evB_01 hb) eg2 (by rw [ef22]; push_cast; omega) ef23 ef24 (hFo.keep hfE hgE) (by push_cast; omega) hp2) (TX8_positiveOf_0.at 34 rfl) c8_287 rfl rfl hH hA (by omega) (Nat.le_of_ble_eq_true rfl) (fun x58 f58 g58 j58 h r58 q58 hH hA => ?_)
  obtain ⟨q58, xf, xg, xj⟩ := q58
  rw [xj] at hH
  have ef23 := (xf 23 (by decide)).trans ef23
  have hfE := hfE.trans xf (by decide)
  have eg2 := (xg 2 (by decide)).trans eg2
  have hgE := hgE.trans xg (by decide)
  have qL := q58
  obtain ⟨rfl, ef24, ef22, rb⟩ := qL
  refine z_lst_5 (TX8_positiveOf_0.at 35 rfl) (Nat.le_of_ble_eq_true rfl) rfl ?_
  refine z_ild_1 (TX8_positiveOf_0.at 36 rfl) ?_
  refine z_if_eq (tgt := 125) (TX8_positiveOf_0.at 37 rfl) rfl (by omega) (fun c2 => ?_) (fun c2 => ?_)
  · skip
    refine z_iconst (TX8_positiveOf_1.at 25 rfl) ?_
    refine zm_zret (TX8_positiveOf_1.at 26 rfl) rfl hH hA (by first | omega | exact b2i_01 _) ?_
    exact ⟨⟨by omega, by rw [ef24]; exact ce.1, ef22, fun q1 q2 x hx => by obtain ⟨c0, c9⟩ := ce.2 q1 q2 x hx; have e9 : b2i (evV live br (k1 φ) = evV live (evB live br (k1 φ)) (k2 φ)) = x := Option.some.inj c9; first | (exfalso; omega) | (rw [← e9, b2i_t (by omega)]; done) | (rw [← e9, b2i_f (by omega)]; done)⟩, hfE, hgE, rfl⟩
  · skip
    refine z_ald_0 (TX8_positiveOf_0.at 38 rfl) ?_
    refine zm_getIE ef24 (TX8_positiveOf_0.at 39 rfl) fl8_270 hH rfl (by decide) (fun r68 => ?_)
    refine z_if_ne (tgt := 125) (TX8_positiveOf_1.at 0 rfl) rfl (by have := evB_01 (live := live) (br := evB live br (k1 φ)) (z := k2 φ) (evB_01 hb); omega) (fun c3 => ?_) (fun c3 => ?_)
    · skip
      refine z_iconst (TX8_positiveOf_1.at 25 rfl) ?_
      refine zm_zret (TX8_positiveOf_1.at 26 rfl) rfl hH hA (by first | omega | exact b2i_01 _) ?_
      exact ⟨⟨by omega, by rw [ef24]; exact ce.1, ef22, fun q1 q2 x hx => by obtain ⟨c0, c9⟩ := ce.2 q1 q2 x hx; have e9 : b2i (evV live br (k1 φ) = evV live (evB live br (k1 φ)) (k2 φ)) = x := Option.some.inj c9; first | (exfalso; omega) | (rw [← e9, b2i_t (by omega)]; done) | (rw [← e9, b2i_f (by omega)]; done)⟩, hfE, hgE, rfl⟩
    · skip
      refine z_ild_4 (TX8_positiveOf_1.at 1 rfl) ?_
      refine z_bipush (by decide) (TX8_positiveOf_1.at 2 rfl) ?_
      refine zs_call1 (s_sign (by omega)) (TX8_positiveOf_1.at 3 rfl) c8_219 rfl (by omega) (Nat.le_of_ble_eq_true rfl) (fun r78 => ?_)
      refine z_icmp_ne (tgt := 94) (TX8_positiveOf_1.at 4 rfl) rfl (by omega) (by omega) (fun c4 => ?_) (fun c4 => absurd c4 (by decide))
      refine z_ild_4 (TX8_positiveOf_1.at 10 rfl) ?_
      refine z_bipush (by decide) (TX8_positiveOf_1.at 11 rfl) ?_
      refine zs_call1 (s_sign (by omega)) (TX8_positiveOf_1.at 12 rfl) c8_219 rfl (by omega) (Nat.le_of_ble_eq_true rfl) (fun r98 => ?_)
      refine z_icmp_ne (tgt := 114) (TX8_positiveOf_1.at 13 rfl) rfl (by omega) (by omega) (fun c5 => ?_) (fun c5 => absurd c5 (by decide))
      refine z_lld_2 (TX8_positiveOf_1.at 19 rfl) ?_
      refine z_lld_5 (TX8_positiveOf_1.at 20 rfl) ?_
      refine z_lif_ne (tgt := 125) (TX8_positiveOf_1.at 21 rfl) (TX8_positiveOf_1.at 22 rfl) rfl (by omega) (by omega) (fun c6 => ?_) (fun c6 => ?_)
      · skip
        refine z_iconst (TX8_positiveOf_1.at 25 rfl) ?_
        refine zm_zret (TX8_positiveOf_1.at 26 rfl) rfl hH hA (by first | omega | exact b2i_01 _) ?_
        exact ⟨⟨by omega, by rw [ef24]; exact ce.1, ef22, fun q1 q2 x hx => by obtain ⟨c0, c9⟩ := ce.2 q1 q2 x hx; have e9 : b2i (evV live br (k1 φ) = evV live (evB live br (k1 φ)) (k2 φ)) = x := Option.some.inj c9; first | (exfalso; omega) | (rw [← e9, b2i_t (by omega)]; done) | (rw [← e9, b2i_f (by omega)]; done)⟩, hfE, hgE, rfl⟩
      · skip
        refine z_iconst (TX8_positiveOf_1.at 23 rfl) ?_
        refine z_goto (tgt := 126) (TX8_positiveOf_1.at 24 rfl) rfl ?_
        refine zm_zret (TX8_positiveOf_1.at 26 rfl) rfl hH hA (by first | omega | exact b2i_01 _) ?_
        exact ⟨⟨by omega, by rw [ef24]; exact ce.1, ef22, fun q1 q2 x hx => by obtain ⟨c0, c9⟩ := ce.2 q1 q2 x hx; have e9 : b2i (evV live br (k1 φ) = evV live (evB live br (k1 φ)) (k2 φ)) = x := Option.some.inj c9; first | (exfalso; omega) | (rw [← e9, b2i_t (by omega)]; done) | (rw [← e9, b2i_f (by omega)]; done)⟩, hfE, hgE, rfl⟩

theorem EvC_mono {l : Launch} {o : Nat} {ar : Nat → Nat} {M : zM} {N N' : Nat} {lw : Bool} {K : Int → Int} {b nt : Int} {φ : Int → Int} {pf : Nat → Nat → PR} (h : EvC l o ar M N lw K b nt φ pf) (hN : N ≤ N') : EvC l o ar M N' lw K b nt φ pf :=
  fun live br t p t' p' k f g j a1 a2 a3 a4 a5 a6 a7 a8 a9 => MM_mono (h live br t p t' p' k f g j a1 a2 a3 a4 a5 a6 a7 a8 a9) hN (fun _ _ _ _ q => q)
theorem EvT_mono {l : Launch} {o : Nat} {ar : Nat → Nat} {M : zM} {N N' : Nat} {lw : Bool} {K : Int → Int} {b nt : Int} {φ : Int → Int} {pf : Nat → Nat → PR} (h : EvT l o ar M N lw K b nt φ pf) (hN : N ≤ N') : EvT l o ar M N' lw K b nt φ pf :=
  fun live br t p t' p' k f g j a1 a2 a3 a4 a5 a6 a7 a8 a9 => MM_mono (h live br t p t' p' k f g j a1 a2 a3 a4 a5 a6 a7 a8 a9) hN (fun _ _ _ _ q => q)
theorem ev_pos {l : Launch} {o : Nat} {ar : Nat → Nat} {N : Nat} {lw : Bool} {K : Int → Int} {b nt : Int} {φ : Int → Int} {sum : Nat → Nat → PR} {inner : Option (Nat → Nat → PR)} (b0 : 0 ≤ b) (bn : b + nt ≤ 2800) (hN : 2 ≤ N) (hAdv : Adv (cK K b nt) sum) (hsum : EvC l o ar MX8_sumOf N lw K b nt φ sum) (hin : ∀ pf, inner = some pf → EvT l o ar MX8_testOf N lw K b nt φ pf) : EvT l o ar MX8_positiveOf (N + 1) lw K b nt φ (pPos (cK K b nt) sum inner) := by
  intro live br t p t' p' k f g j hl hb eg2 ef22 ef23 ef24 hFo tn hp
  unfold pPos at hp
  split at hp
  · rename_i h40
    have htn := cK_nz (K := K) (b := b) (nt := nt) t (by omega)
    cases inner with
    | none => cases hp
    | some pf =>
      have hs := hin pf rfl
      simp only at hp
      cases hg : pf (t + 1) p with
      | error e => rw [hg] at hp; cases hp
      | ok r =>
        obtain ⟨t1, p1, k1⟩ := r
        rw [hg] at hp
        simp only at hp
        split at hp
        · rename_i h41
          have ht1 := cK_nz (K := K) (b := b) (nt := nt) t1 (by omega)
          cases hp
          refine MM_mono (m_posI (t1 := (t1 : Int)) (t := (t : Int)) (lw := lw) (φ := φ) (y := evB live br (k φ)) (PP := fun r => live = 1 → br = 0 → ∀ x, k φ = some x → r = x) (N := N) eg2 ef22 ef23 ef24 hl hb rfl rfl b0 (by omega) bn htn hN h40 ⟨by omega, by omega⟩ hFo (fun f g j e1 e2 e3 e4 e5 => hs live br (t + 1) p t1 _ k f g j hl hb e1 (by rw [e2]; push_cast; rfl) e3 e4 e5 (by omega) hg)) (Nat.le_refl _) (fun v f' g' j' q => ?_)
          obtain ⟨r, q1, q2, ⟨q3, q4, q5, q6⟩, q7⟩ := q
          exact ⟨r, q1, q2, ⟨q3, q4, by rw [q5]; push_cast; omega, q6⟩, q7⟩
        · cases hp
  · rename_i h40
    cases hg : sum t p with
    | error e => rw [hg] at hp; cases hp
    | ok r =>
      obtain ⟨t2, p2, k1⟩ := r
      rw [hg] at hp
      simp only at hp
      cases hc : cmpOp (cK K b nt t2) with
      | none => rw [hc] at hp; cases hp
      | some q =>
        rw [hc] at hp
        simp only at hp
        have ht2 := cK_nz (K := K) (b := b) (nt := nt) t2 (op_ne.2.2 hc)
        cases hg2 : sum (t2 + 1) p2 with
        | error e => rw [hg2] at hp; cases hp
        | ok r =>
          obtain ⟨t3, p3, k2⟩ := r
          rw [hg2] at hp
          simp only at hp
          cases hp
          unfold cmpOp at hc
          split at hc
          · cases hc; rename_i hs; exact m_pos8 eg2 ef22 ef23 ef24 hl hb rfl rfl b0 bn tn ht2 hN h40 hs hFo hsum hg hg2
          · split at hc
            · cases hc; rename_i hs; exact m_pos9 eg2 ef22 ef23 ef24 hl hb rfl rfl b0 bn tn ht2 hN h40 hs hFo hsum hg hg2
            · split at hc
              · cases hc; rename_i hs; exact m_pos10 eg2 ef22 ef23 ef24 hl hb rfl rfl b0 bn tn ht2 hN h40 hs hFo hsum hg hg2
              · cases hc
theorem pnots_step {c : Int → Int} {n t : Nat} {bb : Bool} {R : Nat × Bool} (h : pNots c (n + 1) t bb = R) (hc : c t = 7) : pNots c n (t + 1) (!bb) = R := by rw [pNots, if_pos hc] at h; exact h
theorem pnots_end {c : Int → Int} {n t : Nat} {bb : Bool} {R : Nat × Bool} (h : pNots c (n + 1) t bb = R) (hc : ¬ c t = 7) : R = (t, bb) := by rw [pNots, if_neg hc] at h; exact h.symm
set_option maxHeartbeats 4000000 in
set_option maxRecDepth 100000 in
theorem lp_plainOf {l : Launch} {o : Nat} {ar : Nat → Nat} {d : Nat} {Pz : Option Value → zH → Prop} {h0 : zH} {f0 : mF} {g0 : mA} {j : mA} (hd : 3 ≤ d) {K : Int → Int} {b nt live : Int} {tq : Nat} {bq : Bool} (b0 : 0 ≤ b) (bn : b + nt ≤ 2800) (n4 : nt ≤ 400) (kx : ∀ (f : mF) (g : mA) (h : zH), (tq : Int) ≤ nt → f 22 = b + tq → f 23 = b + nt → g 2 = K → eqx [22] f0 f → eqx [] g0 g → HM o ar f g j h → zAg o ar h0 h → Z l MX8_plainOf d 0 0 Pz 24 [some (.ref o), some (vI live), some (vI (if bq then 1 else 0))] [] h 0 0)  : ∀ (n : Nat) (t : Nat) (bb : Bool) (v : Int) (f : mF) (g : mA) (h : zH) (tm : 401 ≤ t + n) (tn : (t : Int) ≤ nt) (hq : pNots (cK K b nt) n t bb = (tq, bq)) (hv : v = if bb then 1 else 0) (eg2 : g 2 = K) (ef22 : f 22 = b + t) (ef23 : f 23 = b + nt) (hfE : eqx [22] f0 f) (hgE : eqx [] g0 g) (hH : HM o ar f g j h) (hA : zAg o ar h0 h), Z l MX8_plainOf d 0 0 Pz 2 [some (.ref o), some (vI live), some (vI v)] [] h 0 0 := by
  intro n
  induction n with
  | zero => intro t bb v f g h tm tn hq hv eg2 ef22 ef23 hfE hgE hH hA; exfalso; omega
  | succ n ih =>
    intro t bb v f g h tm tn hq hv eg2 ef22 ef23 hfE hgE hH hA
    have hv01 : v = 0 ∨ v = 1 := by rw [hv]; cases bb <;> simp
    refine z_ald_0 (TX8_plainOf.at 2 rfl) ?_
    refine z_bipush (by decide) (TX8_plainOf.at 3 rfl) ?_
    refine zm_callI1 (m_passes0 eg2 ef22 ef23 (by omega) rfl rfl b0 (by omega) bn tn) (TX8_plainOf.at 4 rfl) c8_284 rfl rfl hH hA (by omega) (Nat.le_of_ble_eq_true rfl) (fun x5 f5 g5 j5 h r5 q5 hH hA => ?_)
    obtain ⟨q5, xf, xg, xj⟩ := q5
    rw [xj] at hH
    have ef23 := (xf 23 (by decide)).trans ef23
    have hfE := hfE.trans xf (by decide)
    have eg2 := (xg 2 (by decide)).trans eg2
    have hgE := hgE.trans xg (by decide)
    have qL := q5
    obtain ⟨rfl, ef22⟩ := qL
    refine z_if_eqB (tgt := 24) (TX8_plainOf.at 5 rfl) rfl (fun c1 => ?_) (fun c1 => ?_)
    · skip
      have e := pnots_end hq c1
      cases e
      rw [hv]
      exact kx _ _ _ tn (by rw [ef22, b2i_f c1, Int.add_zero]) ef23 eg2 hfE hgE hH hA
    · skip
      have tn1 := cK_nz (K := K) (b := b) (nt := nt) t (by omega)
      refine z_ild_2 (TX8_plainOf.at 6 rfl) ?_
      refine z_if_ne (tgt := 19) (TX8_plainOf.at 7 rfl) rfl (by omega) (fun c2 => ?_) (fun c2 => ?_)
      · skip
        refine z_iconst (TX8_plainOf.at 10 rfl) ?_
        refine z_ist_2 (TX8_plainOf.at 11 rfl) (Nat.le_of_ble_eq_true rfl) rfl ?_
        refine z_goto (tgt := 2) (TX8_plainOf.at 12 rfl) rfl ?_
        exact ih (t + 1) (!bb) _ _ _ _ (by omega) (by push_cast; omega) (pnots_step hq c1) (by cases bb <;> simp_all) eg2 (by rw [ef22, b2i_t c1]; push_cast; omega) ef23 hfE hgE hH hA
      · skip
        refine z_iconst (TX8_plainOf.at 8 rfl) ?_
        refine z_goto (tgt := 20) (TX8_plainOf.at 9 rfl) rfl ?_
        refine z_ist_2 (TX8_plainOf.at 11 rfl) (Nat.le_of_ble_eq_true rfl) rfl ?_
        refine z_goto (tgt := 2) (TX8_plainOf.at 12 rfl) rfl ?_
        exact ih (t + 1) (!bb) _ _ _ _ (by omega) (by push_cast; omega) (pnots_step hq c1) (by cases bb <;> simp_all) eg2 (by rw [ef22, b2i_t c1]; push_cast; omega) ef23 hfE hgE hH hA

theorem dNot_V {bq : Bool} {k : Den} {φ : Int → Int} {x : Int} (h : dNot bq k φ = some x) : ∃ y, k φ = some y ∧ x = if bq then 1 - y else y := by
  unfold dNot at h
  split at h
  · cases h
  · rename_i y e
    refine ⟨y, e, ?_⟩
    cases bq
    · simp at h; simp [h]
    · simp at h; simp [h]
theorem dNot_B {live br : Int} (bq : Bool) (k : Den) (φ : Int → Int) : evB live br (dNot bq k φ) = evB live br (k φ) := by
  unfold evB dNot
  cases k φ with
  | none => rfl
  | some x => cases bq <;> simp
set_option maxHeartbeats 4000000 in
set_option maxRecDepth 100000 in
theorem m_plainOf {l : Launch} {o : Nat} {ar : Nat → Nat} {f : mF} {g j : mA} {K : Int → Int} {y22 : Int} {y23 : Int} {br : Int} {live : Int} {b nt : Int} {N t p t1 p1 tq : Nat} {bq : Bool} {k1 : Den} {lw : Bool} {φ : Int → Int} {item : Nat → Nat → PR} (eg2 : g 2 = K) (ef22 : f 22 = y22) (ef23 : f 23 = y23) (ef24 : f 24 = br) (hl : live = 0 ∨ live = 1) (hb : br = 0 ∨ br = 1) (ey : y22 = b + t) (ez : y23 = b + nt) (b0 : 0 ≤ b) (bn : b + nt ≤ 2800) (n4 : nt ≤ 400) (tn : (t : Int) ≤ nt) (hN : 2 ≤ N) (hFo : FOK lw K f g φ) (hitem : EvT l o ar MX8_positiveOf N lw K b nt φ item) (hq : pNots (cK K b nt) 401 t false = (tq, bq)) (hp : item tq p = .ok (t1, p1, k1)) : MM l o ar MX8_plainOf (N + 1) [.ref o, vI live] f g j (PI (fun r f' g' j' => ((r = 0 ∨ r = 1) ∧ f' 24 = evB live br (dNot bq k1 φ) ∧ f' 22 = b + t1 ∧ (live = 1 → br = 0 → ∀ x, dNot bq k1 φ = some x → r = x)) ∧ eqx [22, 24] f f' ∧ eqx [] g g' ∧ j' = j)) := by
  refine MM.intro [some (.ref o), some (vI live), none] (by decide) (Nat.le_of_ble_eq_true rfl) rfl (fun d hd h0 h hH hA => ?_)
  have hfE : eqx [22, 24] f f := eqx.rf
  have hgE : eqx [] g g := eqx.rf
  subst ey; subst ez
  refine z_iconst (TX8_plainOf.at 0 rfl) ?_
  refine z_ist_2 (TX8_plainOf.at 1 rfl) (Nat.le_of_ble_eq_true rfl) rfl ?_
  refine lp_plainOf (tq := tq) (bq := bq) (by omega) b0 bn n4 (fun f2 g2 h tqn ef22 ef23 eg2 xf xg hH hA => ?_) 401 t false 0 _ _ _ (by omega) tn hq rfl eg2 ef22 ef23 eqx.rf eqx.rf hH hA
  have ef24 := (xf 24 (by decide)).trans ef24
  have hfE := hfE.trans xf (by decide)
  have hgE := hgE.trans xg (by decide)
  have hbq : (if bq = true then (1 : Int) else 0) = 0 ∧ bq = false ∨ (if bq = true then (1 : Int) else 0) = 1 ∧ bq = true := by cases bq <;> simp
  generalize (if bq = true then (1 : Int) else 0) = nv at hbq ⊢
  refine z_ald_0 (TX8_plainOf.at 13 rfl) ?_
  refine z_ild_1 (TX8_plainOf.at 14 rfl) ?_
  refine zm_callI1 (hitem live _ tq p t1 p1 k1 _ _ _ hl hb eg2 ef22 ef23 ef24 (hFo.keep hfE hgE) tqn hp) (TX8_plainOf.at 15 rfl) c8_314 rfl rfl hH hA (by omega) (Nat.le_of_ble_eq_true rfl) (fun x26 f26 g26 j26 h r26 q26 hH hA => ?_)
  obtain ⟨q26, xf, xg, xj⟩ := q26
  rw [xj] at hH
  have ef23 := (xf 23 (by decide)).trans ef23
  have hfE := hfE.trans xf (by decide)
  have eg2 := (xg 2 (by decide)).trans eg2
  have hgE := hgE.trans xg (by decide)
  have qL := q26
  obtain ⟨rw1, ef24, ef22, hw2⟩ := qL
  refine z_ild_2 (TX8_plainOf.at 16 rfl) ?_
  refine z_icmp_eq (tgt := 37) (TX8_plainOf.at 17 rfl) rfl (by omega) (by omega) (fun c1 => ?_) (fun c1 => ?_)
  · skip
    refine z_iconst (TX8_plainOf.at 20 rfl) ?_
    refine zm_zret (TX8_plainOf.at 21 rfl) rfl hH hA (by first | omega | exact b2i_01 _) ?_
    exact ⟨⟨by omega, by rw [ef24]; exact (dNot_B _ _ _).symm, ef22, fun q1 q2 x hx => by obtain ⟨y, e1, e2⟩ := dNot_V hx; have e3 := hw2 q1 q2 y e1; rcases hbq with ⟨h1, h2⟩ | ⟨h1, h2⟩ <;> subst h2 <;> simp at e2 <;> omega⟩, hfE, hgE, rfl⟩
  · skip
    refine z_iconst (TX8_plainOf.at 18 rfl) ?_
    refine z_goto (tgt := 38) (TX8_plainOf.at 19 rfl) rfl ?_
    refine zm_zret (TX8_plainOf.at 21 rfl) rfl hH hA (by first | omega | exact b2i_01 _) ?_
    exact ⟨⟨by omega, by rw [ef24]; exact (dNot_B _ _ _).symm, ef22, fun q1 q2 x hx => by obtain ⟨y, e1, e2⟩ := dNot_V hx; have e3 := hw2 q1 q2 y e1; rcases hbq with ⟨h1, h2⟩ | ⟨h1, h2⟩ <;> subst h2 <;> simp at e2 <;> omega⟩, hfE, hgE, rfl⟩

theorem ev_plain {l : Launch} {o : Nat} {ar : Nat → Nat} {N : Nat} {lw : Bool} {K : Int → Int} {b nt : Int} {φ : Int → Int} {sum : Nat → Nat → PR} {inner : Option (Nat → Nat → PR)} (b0 : 0 ≤ b) (bn : b + nt ≤ 2800) (n4 : nt ≤ 400) (hN : 2 ≤ N) (hitem : EvT l o ar MX8_positiveOf N lw K b nt φ (pPos (cK K b nt) sum inner)) : EvT l o ar MX8_plainOf (N + 1) lw K b nt φ (pPlain (cK K b nt) sum inner) := by
  intro live br t p t' p' k f g j hl hb eg2 ef22 ef23 ef24 hFo tn hp
  obtain ⟨k1, h1, rfl⟩ := pPlain_ok hp
  exact m_plainOf (tq := (pNots (cK K b nt) 401 t false).1) (bq := (pNots (cK K b nt) 401 t false).2) eg2 ef22 ef23 ef24 hl hb rfl rfl b0 bn n4 tn hN hFo hitem rfl h1
/-- a test with d brackets left -/
theorem ev_testD {l : Launch} {o : Nat} {ar : Nat → Nat} {lw : Bool} {K : Int → Int} {b nt : Int} {φ : Int → Int} (b0 : 0 ≤ b) (bn : b + nt ≤ 2800) (n4 : nt ≤ 400) (n0 : 0 ≤ K 76) (n1 : K 76 ≤ 10) (hd0 : ∀ i, 0 ≤ i → i < K 76 → K i = 0 ∨ K i = 1) : ∀ d : Nat, EvT l o ar MX8_testOf (10 + 4 * d) lw K b nt φ (pTestD lw (cK K b nt) (vK K b) d) := by
  intro d
  induction d with
  | zero => exact ev_testOf (N := 9) b0 bn n4 (by omega) (Adv_rowB (by decide) (Adv_plain (Adv_sum _ _ _ 0) (fun g h => by cases h))) (ev_bothOf (N := 8) b0 bn n4 (by omega) (Adv_plain (Adv_sum _ _ _ 0) (fun g h => by cases h)) (ev_plain (N := 7) b0 bn n4 (by omega) (ev_pos (N := 6) b0 bn (by omega) (Adv_sum _ _ _ 0) (EvC_mono (ev_sumD b0 bn n4 n0 n1 hd0 0) (by omega)) (fun pf h => by cases h))))
  | succ d ih => exact ev_testOf (N := 10 + 4 * d + 3) b0 bn n4 (by omega) (Adv_rowB (by decide) (Adv_plain (Adv_sum _ _ _ (d + 1)) (fun g h => by cases h; exact Adv_test _ _ _ d))) (ev_bothOf (N := 10 + 4 * d + 2) b0 bn n4 (by omega) (Adv_plain (Adv_sum _ _ _ (d + 1)) (fun g h => by cases h; exact Adv_test _ _ _ d)) (ev_plain (N := 10 + 4 * d + 1) b0 bn n4 (by omega) (ev_pos (N := 10 + 4 * d) b0 bn (by omega) (Adv_sum _ _ _ (d + 1)) (EvC_mono (ev_sumD b0 bn n4 n0 n1 hd0 (d + 1)) (by omega)) (fun pf h => by cases h; exact ih))))
