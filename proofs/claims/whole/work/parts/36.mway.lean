/-! ===== the reference: way, cut ===== -/
theorem lfN_s {K : Int → Int} {cl : List Cla} {S k i : Int} {L : Int → Int} (h : 0 ≤ i) : iu (lfN K cl S k L i.toNat) k (min (lfN K cl S k L i.toNat k) (lbV K cl S (lfN K cl S k L i.toNat) k i)) = lfN K cl S k L (i + 1).toNat := by
  rw [show (i + 1).toNat = i.toNat + 1 by omega]
  show _ = lfS K cl S k ((i.toNat : Nat) : Int) (lfN K cl S k L i.toNat)
  rw [Int.toNat_of_nonneg h]
  rfl
theorem lfK_s {K : Int → Int} {cl : List Cla} {S i : Int} {L : Int → Int} (h : 0 ≤ i) : lfN K cl S i (lfK K cl S L i.toNat) (K 76).toNat = lfK K cl S L (i + 1).toNat := by
  rw [show (i + 1).toNat = i.toNat + 1 by omega]
  show _ = lfN K cl S ((i.toNat : Nat) : Int) (lfK K cl S L i.toNat) (K 76).toNat
  rw [Int.toNat_of_nonneg h]
set_option maxHeartbeats 4000000 in
set_option maxRecDepth 100000 in
theorem m_otherEnd {l : Launch} {o : Nat} {ar : Nat → Nat} {f : mF} {g j : mA} {K : Int → Int} {x k : Int}  (eg2 : g 2 = K) (hx : zIn x) (hk : zIn k) (x0 : 0 ≤ x) (x1 : x ≤ 9) : MM l o ar MX8_otherEnd 0 [.ref o, vI x, vI k] f g j (PI (fun r f' g' j' => (r = oe K x k) ∧ eqx [] f f' ∧ eqx [] g g' ∧ j' = j)) := by
  refine MM.intro [some (.ref o), some (vI x), some (vI k)] (by decide) (Nat.le_of_ble_eq_true rfl) rfl (fun d hd h0 h hH hA => ?_)
  have hfE : eqx [] f f := eqx.rf
  have hgE : eqx [] g g := eqx.rf
  refine z_ald_0 (TX8_otherEnd.at 0 rfl) ?_
  refine zm_getA (TX8_otherEnd.at 1 rfl) fl8_28 hH (by decide) (by decide) ?_
  refine z_bipush (by decide) (TX8_otherEnd.at 2 rfl) ?_
  refine z_ild_1 (TX8_otherEnd.at 3 rfl) ?_
  refine z_iadd (TX8_otherEnd.at 4 rfl) ?_
  refine zm_ialdE eg2 (TX8_otherEnd.at 5 rfl) hH rfl (by omega) (show _ < ((5688 : Nat) : Int) by omega) (fun r8 => ?_)
  refine z_ild_2 (TX8_otherEnd.at 6 rfl) ?_
  refine z_icmp_ne (tgt := 25) (TX8_otherEnd.at 7 rfl) rfl (by omega) (by omega) (fun c1 => ?_) (fun c1 => ?_)
  · skip
    refine z_ald_0 (TX8_otherEnd.at 15 rfl) ?_
    refine zm_getA (TX8_otherEnd.at 16 rfl) fl8_28 hH (by decide) (by decide) ?_
    refine z_bipush (by decide) (TX8_otherEnd.at 17 rfl) ?_
    refine z_ild_1 (TX8_otherEnd.at 18 rfl) ?_
    refine z_iadd (TX8_otherEnd.at 19 rfl) ?_
    refine zm_ialdE eg2 (TX8_otherEnd.at 20 rfl) hH rfl (by omega) (show _ < ((5688 : Nat) : Int) by omega) (fun r33 => ?_)
    refine z_ild_2 (TX8_otherEnd.at 21 rfl) ?_
    refine z_icmp_ne (tgt := 50) (TX8_otherEnd.at 22 rfl) rfl (by omega) (by omega) (fun c2 => ?_) (fun c2 => ?_)
    · skip
      refine z_iconst (TX8_otherEnd.at 30 rfl) ?_
      refine zm_iret (TX8_otherEnd.at 31 rfl) rfl hH hA (by omega) ?_
      exact ⟨by unfold oe; first | (rw [if_pos (by omega)]; done) | (rw [if_neg (by omega), if_pos (by omega)]; done) | (rw [if_neg (by omega), if_neg (by omega)]; done), hfE, hgE, rfl⟩
    · skip
      refine z_ald_0 (TX8_otherEnd.at 23 rfl) ?_
      refine zm_getA (TX8_otherEnd.at 24 rfl) fl8_28 hH (by decide) (by decide) ?_
      refine z_bipush (by decide) (TX8_otherEnd.at 25 rfl) ?_
      refine z_ild_1 (TX8_otherEnd.at 26 rfl) ?_
      refine z_iadd (TX8_otherEnd.at 27 rfl) ?_
      refine zm_ialdE eg2 (TX8_otherEnd.at 28 rfl) hH rfl (by omega) (show _ < ((5688 : Nat) : Int) by omega) (fun r46 => ?_)
      refine z_goto (tgt := 51) (TX8_otherEnd.at 29 rfl) rfl ?_
      refine zm_iret (TX8_otherEnd.at 31 rfl) rfl hH hA (by omega) ?_
      exact ⟨by unfold oe; first | (rw [if_pos (by omega)]; done) | (rw [if_neg (by omega), if_pos (by omega)]; done) | (rw [if_neg (by omega), if_neg (by omega)]; done), hfE, hgE, rfl⟩
  · skip
    refine z_ald_0 (TX8_otherEnd.at 8 rfl) ?_
    refine zm_getA (TX8_otherEnd.at 9 rfl) fl8_28 hH (by decide) (by decide) ?_
    refine z_bipush (by decide) (TX8_otherEnd.at 10 rfl) ?_
    refine z_ild_1 (TX8_otherEnd.at 11 rfl) ?_
    refine z_iadd (TX8_otherEnd.at 12 rfl) ?_
    refine zm_ialdE eg2 (TX8_otherEnd.at 13 rfl) hH rfl (by omega) (show _ < ((5688 : Nat) : Int) by omega) (fun r21 => ?_)
    refine z_goto (tgt := 51) (TX8_otherEnd.at 14 rfl) rfl ?_
    refine zm_iret (TX8_otherEnd.at 31 rfl) rfl hH hA (by omega) ?_
    exact ⟨by unfold oe; first | (rw [if_pos (by omega)]; done) | (rw [if_neg (by omega), if_pos (by omega)]; done) | (rw [if_neg (by omega), if_neg (by omega)]; done), hfE, hgE, rfl⟩

set_option maxHeartbeats 4000000 in
set_option maxRecDepth 100000 in
theorem m_leftBy {l : Launch} {o : Nat} {ar : Nat → Nat} {f : mF} {g j : mA} {K : Int → Int} {B : Int → Int} {Hd : Int → Int} {V : Int → Int} {S : Int} {k x : Int} {cl : List Cla} (eg2 : g 2 = K) (eg30 : g 30 = B) (eg31 : g 31 = Hd) (eg37 : g 37 = V) (ef33 : f 33 = S) (hk : zIn k) (hx : zIn x) (hS : z31 S) (k0 : 0 ≤ k) (k7 : k ≤ 7) (x0 : 0 ≤ x) (x1 : x < K 76) (hK : KOK K) (hT : TmOK K cl B Hd) (hV : LOK V) : MM l o ar MX8_leftBy 2 [.ref o, vI k, vI x] f g j (PI (fun r f' g' j' => (r = lbV K cl S V k x) ∧ eqx [] f f' ∧ eqx [] g g' ∧ j' = j)) := by
  refine MM.intro [some (.ref o), some (vI k), some (vI x), none] (by decide) (Nat.le_of_ble_eq_true rfl) rfl (fun d hd h0 h hH hA => ?_)
  have hfE : eqx [] f f := eqx.rf
  have hgE : eqx [] g g := eqx.rf
  have hn := hK.1
  have hb : 1 ≤ B x ∧ B x ≤ 99 := by rw [hT.1 x x0 x1]; exact brn_in hK x0 x1
  have hh : 0 ≤ Hd k ∧ Hd k ≤ 9 := by rw [hT.2 k k0 k7]; exact hld_in
  have ho := oe_in (k := k) hK x0 x1
  have hv2 : oe K x k ≠ -1 → 0 ≤ V (oe K x k) ∧ V (oe K x k) ≤ 1000000 := fun z => by
    rcases ho with e | e
    · exact absurd e z
    · exact hV _ e.1.1 e.1.2
  refine z_ald_0 (TX8_leftBy.at 0 rfl) ?_
  refine z_ild_2 (TX8_leftBy.at 1 rfl) ?_
  refine z_ild_1 (TX8_leftBy.at 2 rfl) ?_
  refine zm_callI2 (m_otherEnd eg2 (by omega) (by omega) (by omega) (by omega)) (TX8_leftBy.at 3 rfl) c8_405 rfl rfl hH hA (by omega) (Nat.le_of_ble_eq_true rfl) (fun x3 f3 g3 j3 h r3 q3 hH hA => ?_)
  obtain ⟨q3, xf, xg, xj⟩ := q3
  rw [xj] at hH
  have ef33 := (xf 33 (by decide)).trans ef33
  have hfE := hfE.trans xf (by decide)
  have eg2 := (xg 2 (by decide)).trans eg2
  have eg30 := (xg 30 (by decide)).trans eg30
  have eg31 := (xg 31 (by decide)).trans eg31
  have eg37 := (xg 37 (by decide)).trans eg37
  have hgE := hgE.trans xg (by decide)
  have qL := q3
  rw [qL] at r3 ⊢
  refine z_ist_3 (TX8_leftBy.at 4 rfl) (Nat.le_of_ble_eq_true rfl) rfl ?_
  refine z_ild_3 (TX8_leftBy.at 5 rfl) ?_
  refine z_iconst (TX8_leftBy.at 6 rfl) ?_
  refine z_icmp_eq (tgt := 23) (TX8_leftBy.at 7 rfl) rfl (by omega) (by omega) (fun c1 => ?_) (fun c1 => ?_)
  · skip
    refine z_ldc (v := 1000000) (TX8_leftBy.at 13 rfl) k8_169 (by decide) ?_
    refine z_goto (tgt := 53) (TX8_leftBy.at 14 rfl) rfl ?_
    refine zm_iret (TX8_leftBy.at 31 rfl) rfl hH hA (by omega) ?_
    exact ⟨by unfold lbV; first | (rw [if_pos (Or.inl (by assumption))]; done) | (rw [if_pos (Or.inr (by assumption))]; done) | (rw [if_neg (fun z => z.elim (fun q => c1 q) (fun q => q c2)), ← hT.1 x x0 x1, ← hT.2 k k0 k7]; done), hfE, hgE, rfl⟩
  · skip
    refine z_ald_0 (TX8_leftBy.at 8 rfl) ?_
    refine zm_getIE ef33 (TX8_leftBy.at 9 rfl) fl8_333 hH rfl (by decide) (fun r13 => ?_)
    refine z_ild_2 (TX8_leftBy.at 10 rfl) ?_
    refine zs_call2 (s_isIn (by omega) (by omega) (by omega)) (TX8_leftBy.at 11 rfl) c8_339 rfl (by omega) (Nat.le_of_ble_eq_true rfl) (fun r17 => ?_)
    refine z_if_neB (tgt := 28) (TX8_leftBy.at 12 rfl) rfl (fun c2 => ?_) (fun c2 => ?_)
    · skip
      have hv3 := hv2 (by assumption)
      have ho2 : 0 ≤ oe K x k ∧ oe K x k ≤ 7 := by
        rcases ho with e | e
        · exact absurd e (by assumption)
        · exact e.1
      clear ho
      refine z_ldc (v := 1000000) (TX8_leftBy.at 15 rfl) k8_169 (by decide) ?_
      refine z_ald_0 (TX8_leftBy.at 16 rfl) ?_
      refine zm_getA (TX8_leftBy.at 17 rfl) fl8_69 hH (by decide) (by decide) ?_
      refine z_ild_1 (TX8_leftBy.at 18 rfl) ?_
      refine zm_ialdE eg31 (TX8_leftBy.at 19 rfl) hH rfl (by omega) (show _ < ((8 : Nat) : Int) by omega) (fun r35 => ?_)
      refine z_ald_0 (TX8_leftBy.at 20 rfl) ?_
      refine zm_getA (TX8_leftBy.at 21 rfl) fl8_66 hH (by decide) (by decide) ?_
      refine z_ild_2 (TX8_leftBy.at 22 rfl) ?_
      refine zm_ialdE eg30 (TX8_leftBy.at 23 rfl) hH rfl (by omega) (show _ < ((10 : Nat) : Int) by omega) (fun r41 => ?_)
      refine z_iadd (TX8_leftBy.at 24 rfl) ?_
      refine z_ald_0 (TX8_leftBy.at 25 rfl) ?_
      refine zm_getA (TX8_leftBy.at 26 rfl) fl8_81 hH (by decide) (by decide) ?_
      refine z_ild_3 (TX8_leftBy.at 27 rfl) ?_
      refine zm_ialdE eg37 (TX8_leftBy.at 28 rfl) hH rfl (by omega) (show _ < ((8 : Nat) : Int) by omega) (fun r48 => ?_)
      refine z_iadd (TX8_leftBy.at 29 rfl) ?_
      refine zs_call2 (s_lesser (by omega) (by omega)) (TX8_leftBy.at 30 rfl) c8_336 rfl (by omega) (Nat.le_of_ble_eq_true rfl) (fun r50 => ?_)
      refine zm_iret (TX8_leftBy.at 31 rfl) rfl hH hA (by omega) ?_
      exact ⟨by unfold lbV; first | (rw [if_pos (Or.inl (by assumption))]; done) | (rw [if_pos (Or.inr (by assumption))]; done) | (rw [if_neg (fun z => z.elim (fun q => c1 q) (fun q => q c2)), ← hT.1 x x0 x1, ← hT.2 k k0 k7]; done), hfE, hgE, rfl⟩
    · skip
      refine z_ldc (v := 1000000) (TX8_leftBy.at 13 rfl) k8_169 (by decide) ?_
      refine z_goto (tgt := 53) (TX8_leftBy.at 14 rfl) rfl ?_
      refine zm_iret (TX8_leftBy.at 31 rfl) rfl hH hA (by omega) ?_
      exact ⟨by unfold lbV; first | (rw [if_pos (Or.inl (by assumption))]; done) | (rw [if_pos (Or.inr (by assumption))]; done) | (rw [if_neg (fun z => z.elim (fun q => c1 q) (fun q => q c2)), ← hT.1 x x0 x1, ← hT.2 k k0 k7]; done), hfE, hgE, rfl⟩

set_option maxHeartbeats 4000000 in
set_option maxRecDepth 100000 in
theorem lp_left0 {l : Launch} {o : Nat} {ar : Nat → Nat} {d : Nat} {Pz : Option Value → zH → Prop} {h0 : zH} {f0 : mF} {g0 : mA} {j : mA}  {V : Int → Int} {z : Int} (hz : zIn z) (kx : ∀ (f : mF) (g : mA) (h : zH), g 37 = cpF V (gl0 z) 0 8 → eqx [] f0 f → eqx [37] g0 g → HM o ar f g j h → zAg o ar h0 h → Z l MX8_laysLeft d 0 0 Pz 31 [some (.ref o), some (vI z), some (vI 8), none, none] [] h 0 0)  : ∀ (n : Nat) (i : Int) (f : mF) (g : mA) (h : zH) (i0 : 0 ≤ i) (i1 : i ≤ 8) (i2 : 8 < i + n) (eg37 : g 37 = cpF V (gl0 z) 0 i) (hfE : eqx [] f0 f) (hgE : eqx [37] g0 g) (hH : HM o ar f g j h) (hA : zAg o ar h0 h), Z l MX8_laysLeft d 0 0 Pz 2 [some (.ref o), some (vI z), some (vI i), none, none] [] h 0 0 := by
  intro n
  induction n with
  | zero => intro i f g h i0 i1 i2 eg37 hfE hgE hH hA; exfalso; omega
  | succ n ih =>
    intro i f g h i0 i1 i2 eg37 hfE hgE hH hA
    refine z_ild_2 (TX8_laysLeft.at 2 rfl) ?_
    refine z_bipush (by decide) (TX8_laysLeft.at 3 rfl) ?_
    refine z_icmp_ge (tgt := 31) (TX8_laysLeft.at 4 rfl) rfl (by omega) (by omega) (fun c1 => ?_) (fun c1 => ?_)
    · skip
      obtain rfl : i = 8 := by omega
      exact kx _ _ _ eg37 hfE hgE hH hA
    · skip
      refine z_ald_0 (TX8_laysLeft.at 5 rfl) ?_
      refine zm_getA (TX8_laysLeft.at 6 rfl) fl8_81 hH (by decide) (by decide) ?_
      refine z_ild_2 (TX8_laysLeft.at 7 rfl) ?_
      refine z_ild_2 (TX8_laysLeft.at 8 rfl) ?_
      refine z_ild_1 (TX8_laysLeft.at 9 rfl) ?_
      refine z_icmp_ne (tgt := 22) (TX8_laysLeft.at 10 rfl) rfl (by omega) (by omega) (fun c2 => ?_) (fun c2 => ?_)
      · skip
        refine z_ldc (v := 1000000) (TX8_laysLeft.at 13 rfl) k8_169 (by decide) ?_
        refine zm_iastE (TX8_laysLeft.at 14 rfl) hH hA rfl (by omega) (show _ < ((8 : Nat) : Int) by omega) (by omega) (fun h g24 e1 e2 hH hA => ?_)
        rw [eg37] at e2; have eg37 := e2
        have hgE := hgE.put e1 (by decide)
        refine z_iinc_2 (TX8_laysLeft.at 15 rfl) (Nat.le_of_ble_eq_true rfl) rfl ?_
        refine z_goto (tgt := 2) (TX8_laysLeft.at 16 rfl) rfl ?_
        exact ih (i + 1) _ _ _ (by omega) (by omega) (by omega) (eg37.trans (cpF_s i0 (by omega) (by unfold gl0; first | rw [if_pos (by omega)] | rw [if_neg (by omega)]))) hfE hgE hH hA
      · skip
        refine z_iconst (TX8_laysLeft.at 11 rfl) ?_
        refine z_goto (tgt := 24) (TX8_laysLeft.at 12 rfl) rfl ?_
        refine zm_iastE (TX8_laysLeft.at 14 rfl) hH hA rfl (by omega) (show _ < ((8 : Nat) : Int) by omega) (by omega) (fun h g24 e1 e2 hH hA => ?_)
        rw [eg37] at e2; have eg37 := e2
        have hgE := hgE.put e1 (by decide)
        refine z_iinc_2 (TX8_laysLeft.at 15 rfl) (Nat.le_of_ble_eq_true rfl) rfl ?_
        refine z_goto (tgt := 2) (TX8_laysLeft.at 16 rfl) rfl ?_
        exact ih (i + 1) _ _ _ (by omega) (by omega) (by omega) (eg37.trans (cpF_s i0 (by omega) (by unfold gl0; first | rw [if_pos (by omega)] | rw [if_neg (by omega)]))) hfE hgE hH hA

set_option maxHeartbeats 4000000 in
set_option maxRecDepth 100000 in
theorem lp_left1 {l : Launch} {o : Nat} {ar : Nat → Nat} {d : Nat} {Pz : Option Value → zH → Prop} {h0 : zH} {f0 : mF} {g0 : mA} {j : mA} (hd : 4 ≤ d) {K B Hd V : Int → Int} {cl : List Cla} {S z : Int} (hS : z31 S) (hK : KOK K) (hT : TmOK K cl B Hd) (hV : LOK V) {rr k : Int} (k0 : 0 ≤ k) (k7 : k ≤ 7) (kx : ∀ (o4 : Option Value) (f : mF) (g : mA) (h : zH), g 2 = K → g 30 = B → g 31 = Hd → g 37 = lfN K cl S k V (K 76).toNat → f 33 = S → eqx [] f0 f → eqx [37] g0 g → HM o ar f g j h → zAg o ar h0 h → Z l MX8_laysLeft d 0 0 Pz 87 [some (.ref o), some (vI z), some (vI rr), some (vI k), o4] [] h 0 0)  : ∀ (n : Nat) (i : Int) (f : mF) (g : mA) (h : zH) (i0 : 0 ≤ i) (i1 : i ≤ K 76) (i2 : K 76 < i + n) (eg2 : g 2 = K) (eg30 : g 30 = B) (eg31 : g 31 = Hd) (eg37 : g 37 = lfN K cl S k V i.toNat) (ef33 : f 33 = S) (hfE : eqx [] f0 f) (hgE : eqx [37] g0 g) (hH : HM o ar f g j h) (hA : zAg o ar h0 h), Z l MX8_laysLeft d 0 0 Pz 50 [some (.ref o), some (vI z), some (vI rr), some (vI k), some (vI i)] [] h 0 0 := by
  intro n
  induction n with
  | zero => intro i f g h i0 i1 i2 eg2 eg30 eg31 eg37 ef33 hfE hgE hH hA; exfalso; omega
  | succ n ih =>
    intro i f g h i0 i1 i2 eg2 eg30 eg31 eg37 ef33 hfE hgE hH hA
    have hn := hK.1
    have hVi := (lfN_ok (cl := cl) (S := S) (k := k) hK hV i.toNat (by omega)).1
    have hVk := hVi k k0 k7
    refine z_ild_4 (TX8_laysLeft.at 29 rfl) ?_
    refine z_ald_0 (TX8_laysLeft.at 30 rfl) ?_
    refine zm_callP0 (m_fuseMany) (TX8_laysLeft.at 31 rfl) c8_109 rfl rfl hH hA (by omega) (Nat.le_of_ble_eq_true rfl) (fun h r53 hH hA => ?_)
    rw [eg2] at r53 ⊢
    refine z_icmp_ge (tgt := 87) (TX8_laysLeft.at 32 rfl) rfl (by omega) (by omega) (fun c1 => ?_) (fun c1 => ?_)
    · skip
      obtain rfl : i = K 76 := by omega
      exact kx _ _ _ _ eg2 eg30 eg31 eg37 ef33 hfE hgE hH hA
    · skip
      refine z_ald_0 (TX8_laysLeft.at 33 rfl) ?_
      refine zm_getA (TX8_laysLeft.at 34 rfl) fl8_81 hH (by decide) (by decide) ?_
      refine z_ild_3 (TX8_laysLeft.at 35 rfl) ?_
      refine z_ald_0 (TX8_laysLeft.at 36 rfl) ?_
      refine zm_getA (TX8_laysLeft.at 37 rfl) fl8_81 hH (by decide) (by decide) ?_
      refine z_ild_3 (TX8_laysLeft.at 38 rfl) ?_
      refine zm_ialdE eg37 (TX8_laysLeft.at 39 rfl) hH rfl (by omega) (show _ < ((8 : Nat) : Int) by omega) (fun r69 => ?_)
      refine z_ald_0 (TX8_laysLeft.at 40 rfl) ?_
      refine z_ild_3 (TX8_laysLeft.at 41 rfl) ?_
      refine z_ild_4 (TX8_laysLeft.at 42 rfl) ?_
      refine zm_callI2 (m_leftBy eg2 eg30 eg31 eg37 ef33 (by omega) (by omega) hS (by omega) (by omega) (by omega) (by omega) hK hT hVi) (TX8_laysLeft.at 43 rfl) c8_408 rfl rfl hH hA (by omega) (Nat.le_of_ble_eq_true rfl) (fun x74 f74 g74 j74 h r74 q74 hH hA => ?_)
      obtain ⟨q74, xf, xg, xj⟩ := q74
      rw [xj] at hH
      have ef33 := (xf 33 (by decide)).trans ef33
      have hfE := hfE.trans xf (by decide)
      have eg2 := (xg 2 (by decide)).trans eg2
      have eg30 := (xg 30 (by decide)).trans eg30
      have eg31 := (xg 31 (by decide)).trans eg31
      have eg37 := (xg 37 (by decide)).trans eg37
      have hgE := hgE.trans xg (by decide)
      have qL := q74
      rw [qL] at r74 ⊢
      have hlb := lbV_in (cl := cl) (S := S) (k := k) hK hVi i0 (by omega)
      refine zs_call2 (s_lesser (by omega) (by omega)) (TX8_laysLeft.at 44 rfl) c8_336 rfl (by omega) (Nat.le_of_ble_eq_true rfl) (fun r77 => ?_)
      refine zm_iastE (TX8_laysLeft.at 45 rfl) hH hA rfl (by omega) (show _ < ((8 : Nat) : Int) by omega) (by omega) (fun h g80 e1 e2 hH hA => ?_)
      have eg2 := (e1 2 (by decide)).trans eg2
      have eg30 := (e1 30 (by decide)).trans eg30
      have eg31 := (e1 31 (by decide)).trans eg31
      rw [eg37] at e2; have eg37 := e2
      have hgE := hgE.put e1 (by decide)
      refine z_iinc_4 (TX8_laysLeft.at 46 rfl) (Nat.le_of_ble_eq_true rfl) rfl ?_
      refine z_goto (tgt := 50) (TX8_laysLeft.at 47 rfl) rfl ?_
      exact ih (i + 1) _ _ _ (by omega) (by omega) (by omega) eg2 eg30 eg31 (eg37.trans (lfN_s i0)) ef33 hfE hgE hH hA

set_option maxHeartbeats 4000000 in
set_option maxRecDepth 100000 in
theorem lp_left2 {l : Launch} {o : Nat} {ar : Nat → Nat} {d : Nat} {Pz : Option Value → zH → Prop} {h0 : zH} {f0 : mF} {g0 : mA} {j : mA} (hd : 4 ≤ d) {K B Hd V : Int → Int} {cl : List Cla} {S z : Int} (hS : z31 S) (hK : KOK K) (hT : TmOK K cl B Hd) (hV : LOK V) {rr : Int} (kx : ∀ (o4 : Option Value) (f : mF) (g : mA) (h : zH), g 2 = K → g 30 = B → g 31 = Hd → g 37 = lfK K cl S V 8 → f 33 = S → eqx [] f0 f → eqx [37] g0 g → HM o ar f g j h → zAg o ar h0 h → Z l MX8_laysLeft d 0 0 Pz 93 [some (.ref o), some (vI z), some (vI rr), some (vI 8), o4] [] h 0 0)  : ∀ (n : Nat) (k : Int) (o4 : Option Value) (f : mF) (g : mA) (h : zH) (k0 : 0 ≤ k) (k1 : k ≤ 8) (k2 : 8 < k + n) (eg2 : g 2 = K) (eg30 : g 30 = B) (eg31 : g 31 = Hd) (eg37 : g 37 = lfK K cl S V k.toNat) (ef33 : f 33 = S) (hfE : eqx [] f0 f) (hgE : eqx [37] g0 g) (hH : HM o ar f g j h) (hA : zAg o ar h0 h), Z l MX8_laysLeft d 0 0 Pz 41 [some (.ref o), some (vI z), some (vI rr), some (vI k), o4] [] h 0 0 := by
  intro n
  induction n with
  | zero => intro k o4 f g h k0 k1 k2 eg2 eg30 eg31 eg37 ef33 hfE hgE hH hA; exfalso; omega
  | succ n ih =>
    intro k o4 f g h k0 k1 k2 eg2 eg30 eg31 eg37 ef33 hfE hgE hH hA
    have hn := hK.1
    have hVi := (lfK_ok (cl := cl) (S := S) hK hV k.toNat).1
    refine z_ild_3 (TX8_laysLeft.at 24 rfl) ?_
    refine z_bipush (by decide) (TX8_laysLeft.at 25 rfl) ?_
    refine z_icmp_ge (tgt := 93) (TX8_laysLeft.at 26 rfl) rfl (by omega) (by omega) (fun c1 => ?_) (fun c1 => ?_)
    · skip
      obtain rfl : k = 8 := by omega
      exact kx _ _ _ _ eg2 eg30 eg31 eg37 ef33 hfE hgE hH hA
    · skip
      refine z_iconst (TX8_laysLeft.at 27 rfl) ?_
      refine z_ist_4 (TX8_laysLeft.at 28 rfl) (Nat.le_of_ble_eq_true rfl) rfl ?_
      refine lp_left1 (z := z) (rr := rr) hd hS hK hT hVi k0 (by omega) (fun o5 f50 g50 h eg2 eg30 eg31 eg37 ef33 xf xg hH hA => ?_) 11 0 _ _ _ (by omega) (by omega) (by omega) eg2 eg30 eg31 eg37 ef33 eqx.rf eqx.rf hH hA
      have hfE := hfE.trans xf (by decide)
      have hgE := hgE.trans xg (by decide)
      refine z_iinc_3 (TX8_laysLeft.at 48 rfl) (Nat.le_of_ble_eq_true rfl) rfl ?_
      refine z_goto (tgt := 41) (TX8_laysLeft.at 49 rfl) rfl ?_
      exact ih (k + 1) _ _ _ _ (by omega) (by omega) (by omega) eg2 eg30 eg31 (eg37.trans (lfK_s k0)) ef33 hfE hgE hH hA

set_option maxHeartbeats 4000000 in
set_option maxRecDepth 100000 in
theorem lp_left3 {l : Launch} {o : Nat} {ar : Nat → Nat} {d : Nat} {Pz : Option Value → zH → Prop} {h0 : zH} {f0 : mF} {g0 : mA} {j : mA} (hd : 4 ≤ d) {K B Hd V : Int → Int} {cl : List Cla} {S z : Int} (hS : z31 S) (hK : KOK K) (hT : TmOK K cl B Hd) (hV : LOK V) (kx : ∀ (o3 o4 : Option Value) (f : mF) (g : mA) (h : zH), g 2 = K → g 30 = B → g 31 = Hd → g 37 = lfR K cl S V 7 → f 33 = S → eqx [] f0 f → eqx [37] g0 g → HM o ar f g j h → zAg o ar h0 h → Z l MX8_laysLeft d 0 0 Pz 99 [some (.ref o), some (vI z), some (vI 8), o3, o4] [] h 0 0)  : ∀ (n : Nat) (m : Nat) (k : Int) (o3 : Option Value) (o4 : Option Value) (f : mF) (g : mA) (h : zH) (mk : k = (m : Int) + 1) (k1 : k ≤ 8) (k2 : 8 < k + n) (eg2 : g 2 = K) (eg30 : g 30 = B) (eg31 : g 31 = Hd) (eg37 : g 37 = lfR K cl S V m) (ef33 : f 33 = S) (hfE : eqx [] f0 f) (hgE : eqx [37] g0 g) (hH : HM o ar f g j h) (hA : zAg o ar h0 h), Z l MX8_laysLeft d 0 0 Pz 33 [some (.ref o), some (vI z), some (vI k), o3, o4] [] h 0 0 := by
  intro n
  induction n with
  | zero => intro m k o3 o4 f g h mk k1 k2 eg2 eg30 eg31 eg37 ef33 hfE hgE hH hA; exfalso; omega
  | succ n ih =>
    intro m k o3 o4 f g h mk k1 k2 eg2 eg30 eg31 eg37 ef33 hfE hgE hH hA
    have hn := hK.1
    have hVi := (lfR_ok (cl := cl) (S := S) hK hV m).1
    refine z_ild_2 (TX8_laysLeft.at 19 rfl) ?_
    refine z_bipush (by decide) (TX8_laysLeft.at 20 rfl) ?_
    refine z_icmp_ge (tgt := 99) (TX8_laysLeft.at 21 rfl) rfl (by omega) (by omega) (fun c1 => ?_) (fun c1 => ?_)
    · skip
      obtain rfl : k = 8 := by omega
      obtain rfl : m = 7 := by omega
      exact kx _ _ _ _ _ eg2 eg30 eg31 eg37 ef33 hfE hgE hH hA
    · skip
      refine z_iconst (TX8_laysLeft.at 22 rfl) ?_
      refine z_ist_3 (TX8_laysLeft.at 23 rfl) (Nat.le_of_ble_eq_true rfl) rfl ?_
      refine lp_left2 (z := z) (rr := k) hd hS hK hT hVi (fun o5 f41 g41 h eg2 eg30 eg31 eg37 ef33 xf xg hH hA => ?_) 9 0 _ _ _ _ (by omega) (by omega) (by omega) eg2 eg30 eg31 eg37 ef33 eqx.rf eqx.rf hH hA
      have hfE := hfE.trans xf (by decide)
      have hgE := hgE.trans xg (by decide)
      refine z_iinc_2 (TX8_laysLeft.at 50 rfl) (Nat.le_of_ble_eq_true rfl) rfl ?_
      refine z_goto (tgt := 33) (TX8_laysLeft.at 51 rfl) rfl ?_
      exact ih (m + 1) (k + 1) _ _ _ _ _ (by omega) (by omega) (by omega) eg2 eg30 eg31 eg37 ef33 hfE hgE hH hA

set_option maxHeartbeats 4000000 in
set_option maxRecDepth 100000 in
theorem m_laysLeft {l : Launch} {o : Nat} {ar : Nat → Nat} {f : mF} {g j : mA} {K : Int → Int} {B : Int → Int} {Hd : Int → Int} {V : Int → Int} {S : Int} {z : Int} {cl : List Cla} (eg2 : g 2 = K) (eg30 : g 30 = B) (eg31 : g 31 = Hd) (eg37 : g 37 = V) (ef33 : f 33 = S) (hz : zIn z) (hS : z31 S) (z0 : 0 ≤ z) (z7 : z ≤ 7) (hK : KOK K) (hT : TmOK K cl B Hd) : MM l o ar MX8_laysLeft 4 [.ref o, vI z] f g j (PV (fun f' g' j' => (∀ k : Int, 0 ≤ k → k ≤ 7 → g' 37 k = wK K cl S k z) ∧ eqx [] f f' ∧ eqx [37] g g' ∧ j' = j)) := by
  refine MM.intro [some (.ref o), some (vI z), none, none, none] (by decide) (Nat.le_of_ble_eq_true rfl) rfl (fun d hd h0 h hH hA => ?_)
  have hfE : eqx [] f f := eqx.rf
  have hgE : eqx [37] g g := eqx.rf
  refine z_iconst (TX8_laysLeft.at 0 rfl) ?_
  refine z_ist_2 (TX8_laysLeft.at 1 rfl) (Nat.le_of_ble_eq_true rfl) rfl ?_
  refine lp_left0 (z := z) hz (fun f2 g2 h eg37 xf xg hH hA => ?_) 9 0 _ _ _ (by omega) (by omega) (by omega) (eg37.trans (cpF_0 _ _ _).symm) eqx.rf eqx.rf hH hA
  have ef33 := (xf 33 (by decide)).trans ef33
  have hfE := hfE.trans xf (by decide)
  have eg2 := (xg 2 (by decide)).trans eg2
  have eg30 := (xg 30 (by decide)).trans eg30
  have eg31 := (xg 31 (by decide)).trans eg31
  have hgE := hgE.trans xg (by decide)
  have hgl : ∀ k : Int, 0 ≤ k → k ≤ 7 → cpF V (gl0 z) 0 8 k = gl0 z k := fun k h0 h7 => by unfold cpF; rw [if_pos (by omega), show k - 0 = k by omega]
  have hV2 : LOK (cpF V (gl0 z) 0 8) := fun k h0 h7 => by rw [hgl k h0 h7]; unfold gl0; split <;> omega
  refine z_iconst (TX8_laysLeft.at 17 rfl) ?_
  refine z_ist_2 (TX8_laysLeft.at 18 rfl) (Nat.le_of_ble_eq_true rfl) rfl ?_
  refine lp_left3 (z := z) hd hS hK hT hV2 (fun o5 o6 f33 g33 h eg2 eg30 eg31 eg37 ef33 xf xg hH hA => ?_) 8 0 1 _ _ _ _ _ (by omega) (by omega) (by omega) eg2 eg30 eg31 eg37 ef33 eqx.rf eqx.rf hH hA
  have hfE := hfE.trans xf (by decide)
  have hgE := hgE.trans xg (by decide)
  refine zm_vret (TX8_laysLeft.at 52 rfl) rfl hH hA ?_
  exact ⟨by rw [eg37]; exact lf_eq hK z0 z7 hgl, hfE, hgE, rfl⟩

def wayV (K : Int → Int) (cl : List Cla) (a b i : Int) : Int := if (0 ≤ a ∧ a ≤ 7) ∧ (0 ≤ b ∧ b ≤ 7) ∧ -1 ≤ i then (if wK K cl (ctS K cl) a b = 1000000 ∨ i = -1 then orN (wK K cl (ctS K cl) a b) else wayG K cl (ctS K cl) (fun t => wK K cl (ctS K cl) t b) b (i + 1).toNat a (-1)) else -1
theorem lbV_cg {K : Int → Int} {cl : List Cla} {S k x : Int} {L L' : Int → Int} (h : KOK K) (hL : ∀ t : Int, 0 ≤ t → t ≤ 7 → L t = L' t) (h0 : 0 ≤ x) (h1 : x < K 76) : lbV K cl S L k x = lbV K cl S L' k x := by
  unfold lbV
  rcases oe_in (k := k) h h0 h1 with e | e
  · rw [if_pos (Or.inl e), if_pos (Or.inl e)]
  · rw [hL _ e.1.1 e.1.2]
theorem wK_in {K : Int → Int} {cl : List Cla} {S k v : Int} (h : KOK K) (h0 : 0 ≤ v) (h7 : v ≤ 7) : 0 ≤ wK K cl S k v ∧ wK K cl S k v ≤ 1000000 := by
  have := dd_bd (S := S) (h.fr (cl := cl)) (k := k) h0 h7
  rw [wK_dd]
  omega
set_option maxHeartbeats 4000000 in
set_option maxRecDepth 100000 in
theorem lp_way1 {l : Launch} {o : Nat} {ar : Nat → Nat} {d : Nat} {Pz : Option Value → zH → Prop} {h0 : zH} {f0 : mF} {g0 : mA} {j : mA} (hd : 4 ≤ d) {K B Hd V : Int → Int} {cl : List Cla} {S a b i : Int} (hS : z31 S) (hK : KOK K) (hT : TmOK K cl B Hd) (b0 : 0 ≤ b) (b7 : b ≤ 7) (hV : ∀ k : Int, 0 ≤ k → k ≤ 7 → V k = wK K cl S k b) {k y c : Int} (k0 : 0 ≤ k) (k7 : k ≤ 7) (y1 : y < K 76) (hy : lbV K cl S (fun t => wK K cl S t b) k y = wK K cl S k b) (kx : ∀ (x : Int) (f : mF) (g : mA) (h : zH), 0 ≤ x → x < K 76 → lbV K cl S (fun t => wK K cl S t b) k x = wK K cl S k b → nxt K cl S (fun t => wK K cl S t b) k = x → g 2 = K → g 30 = B → g 31 = Hd → g 37 = V → f 33 = S → eqx [] f0 f → eqx [] g0 g → HM o ar f g j h → zAg o ar h0 h → Z l MX8_way d 0 0 Pz 106 [some (.ref o), some (vI a), some (vI b), some (vI i), some (vI k), some (vI x), some (vI c)] [] h 0 0)  : ∀ (n : Nat) (x : Int) (f : mF) (g : mA) (h : zH) (x0 : 0 ≤ x) (x1 : x ≤ y) (x2 : y < x + n) (hx : ∀ t : Int, 0 ≤ t → t < x → ¬ lbV K cl S (fun t => wK K cl S t b) k t = wK K cl S k b) (eg2 : g 2 = K) (eg30 : g 30 = B) (eg31 : g 31 = Hd) (eg37 : g 37 = V) (ef33 : f 33 = S) (hfE : eqx [] f0 f) (hgE : eqx [] g0 g) (hH : HM o ar f g j h) (hA : zAg o ar h0 h), Z l MX8_way d 0 0 Pz 82 [some (.ref o), some (vI a), some (vI b), some (vI i), some (vI k), some (vI x), some (vI c)] [] h 0 0 := by
  intro n
  induction n with
  | zero => intro x f g h x0 x1 x2 hx eg2 eg30 eg31 eg37 ef33 hfE hgE hH hA; exfalso; omega
  | succ n ih =>
    intro x f g h x0 x1 x2 hx eg2 eg30 eg31 eg37 ef33 hfE hgE hH hA
    have hn := hK.1
    have hVi : LOK V := fun t t0 t7 => by rw [hV t t0 t7]; exact wK_in hK b0 b7
    have hlb : 0 ≤ lbV K cl S (fun t => wK K cl S t b) k x ∧ lbV K cl S (fun t => wK K cl S t b) k x ≤ 1000000 := lbV_in hK (fun t t0 t7 => wK_in hK b0 b7) x0 (by omega)
    have hwk := wK_in (cl := cl) (S := S) (k := k) hK b0 b7
    refine z_ald_0 (TX8_way_1.at 7 rfl) ?_
    refine z_ild_4 (TX8_way_1.at 8 rfl) ?_
    refine z_ild_5 (TX8_way_1.at 9 rfl) ?_
    refine zm_callI2 (m_leftBy eg2 eg30 eg31 eg37 ef33 (by omega) (by omega) hS (by omega) (by omega) (by omega) (by omega) hK hT hVi) (TX8_way_1.at 10 rfl) c8_408 rfl rfl hH hA (by omega) (Nat.le_of_ble_eq_true rfl) (fun x87 f87 g87 j87 h r87 q87 hH hA => ?_)
    obtain ⟨q87, xf, xg, xj⟩ := q87
    rw [xj] at hH
    have ef33 := (xf 33 (by decide)).trans ef33
    have hfE := hfE.trans xf (by decide)
    have eg2 := (xg 2 (by decide)).trans eg2
    have eg30 := (xg 30 (by decide)).trans eg30
    have eg31 := (xg 31 (by decide)).trans eg31
    have eg37 := (xg 37 (by decide)).trans eg37
    have hgE := hgE.trans xg (by decide)
    have qL := q87
    rw [qL, lbV_cg hK hV (by omega) (by omega)] at r87 ⊢
    refine z_ald_0 (TX8_way_1.at 11 rfl) ?_
    refine zm_getA (TX8_way_1.at 12 rfl) fl8_81 hH (by decide) (by decide) ?_
    refine z_ild_4 (TX8_way_1.at 13 rfl) ?_
    refine zm_ialdE eg37 (TX8_way_1.at 14 rfl) hH rfl (by omega) (show _ < ((8 : Nat) : Int) by omega) (fun r96 => ?_)
    rw [hV k k0 k7] at r96 ⊢
    refine z_icmp_eq (tgt := 106) (TX8_way_1.at 15 rfl) rfl (by omega) (by omega) (fun c1 => ?_) (fun c1 => ?_)
    · skip
      exact kx x _ _ _ x0 (by omega) (by omega) (fstP_at x0 (decide_eq_true (by omega)) _ (fun t t0 t1 => fun z => hx t t0 t1 (of_decide_eq_true z)) (by omega)) eg2 eg30 eg31 eg37 ef33 hfE hgE hH hA
    · skip
      refine z_iinc_5 (TX8_way_1.at 16 rfl) (Nat.le_of_ble_eq_true rfl) rfl ?_
      refine z_goto (tgt := 82) (TX8_way_1.at 17 rfl) rfl ?_
      exact ih (x + 1) _ _ _ (by omega) (by have : x ≠ y := (fun z => (by omega : lbV K cl S (fun t => wK K cl S t b) k x ≠ wK K cl S k b) (z ▸ hy)); omega) (by omega) (fun t t0 t1 => by rcases (show t < x ∨ t = x by omega) with q | q; exact hx t t0 q; subst q; omega) eg2 eg30 eg31 eg37 ef33 hfE hgE hH hA

set_option maxHeartbeats 4000000 in
set_option maxRecDepth 100000 in
theorem lp_way2 {l : Launch} {o : Nat} {ar : Nat → Nat} {d : Nat} {Pz : Option Value → zH → Prop} {h0 : zH} {f0 : mF} {g0 : mA} {j : mA} (hd : 4 ≤ d) {K B Hd V : Int → Int} {cl : List Cla} {S a b i : Int} (hS : z31 S) (hK : KOK K) (hT : TmOK K cl B Hd) (b0 : 0 ≤ b) (b7 : b ≤ 7) (hV : ∀ k : Int, 0 ≤ k → k ≤ 7 → V k = wK K cl S k b) {rv : Int} (hi : zIn i) (kx1 : ∀ (o4 o5 o6 : Option Value) (f : mF) (g : mA) (h : zH), rv = -1 → eqx [] f0 f → eqx [] g0 g → HM o ar f g j h → zAg o ar h0 h → Z l MX8_way d 0 0 Pz 77 [some (.ref o), some (vI a), some (vI b), some (vI i), o4, o5, o6] [] h 0 0) (kx2 : ∀ (x : Int) (o4 o6 : Option Value) (f : mF) (g : mA) (h : zH), zIn x → rv = x → eqx [] f0 f → eqx [] g0 g → HM o ar f g j h → zAg o ar h0 h → Z l MX8_way d 0 0 Pz 122 [some (.ref o), some (vI a), some (vI b), some (vI i), o4, some (vI x), o6] [] h 0 0)  : ∀ (n : Nat) (k : Int) (x : Int) (c : Int) (f : mF) (g : mA) (h : zH) (k0 : 0 ≤ k) (k7 : k ≤ 7) (c0 : 0 ≤ c) (c1 : c ≤ i + 1) (cw : c + wK K cl S k b ≤ 1000000) (hx : zIn x) (hf : wK K cl S k b ≠ 1000000) (hm : wK K cl S k b < n) (er : rv = wayG K cl S (fun t => wK K cl S t b) b (i + 1 - c).toNat k x) (eg2 : g 2 = K) (eg30 : g 30 = B) (eg31 : g 31 = Hd) (eg37 : g 37 = V) (ef33 : f 33 = S) (hfE : eqx [] f0 f) (hgE : eqx [] g0 g) (hH : HM o ar f g j h) (hA : zAg o ar h0 h), Z l MX8_way d 0 0 Pz 65 [some (.ref o), some (vI a), some (vI b), some (vI i), some (vI k), some (vI x), some (vI c)] [] h 0 0 := by
  intro n
  induction n with
  | zero => intro k x c f g h k0 k7 c0 c1 cw hx hf hm er eg2 eg30 eg31 eg37 ef33 hfE hgE hH hA; exfalso; have := wK_in (cl := cl) (S := S) (k := k) hK b0 b7; omega
  | succ n ih =>
    intro k x c f g h k0 k7 c0 c1 cw hx hf hm er eg2 eg30 eg31 eg37 ef33 hfE hgE hH hA
    have hwk := wK_in (cl := cl) (S := S) (k := k) hK b0 b7
    refine z_ild_6 (TX8_way_0.at 37 rfl) ?_
    refine z_ild_3 (TX8_way_0.at 38 rfl) ?_
    refine z_icmp_gt (tgt := 122) (TX8_way_0.at 39 rfl) rfl (by omega) (by omega) (fun c1 => ?_) (fun c1 => ?_)
    · skip
      exact kx2 x _ _ _ _ _ hx (by rw [er, show (i + 1 - c).toNat = 0 by omega, wayG]) hfE hgE hH hA
    · skip
      refine z_ild_4 (TX8_way_1.at 0 rfl) ?_
      refine z_ild_2 (TX8_way_1.at 1 rfl) ?_
      refine z_icmp_ne (tgt := 79) (TX8_way_1.at 2 rfl) rfl (by omega) (by omega) (fun c2 => ?_) (fun c2 => ?_)
      · skip
        refine z_iconst (TX8_way_1.at 5 rfl) ?_
        refine z_ist_5 (TX8_way_1.at 6 rfl) (Nat.le_of_ble_eq_true rfl) rfl ?_
        obtain ⟨y, y0, y1, yb, yo, yf, ye, yl⟩ := nxt_ok hK b0 b7 k0 k7 (by assumption) hf
        refine lp_way1 (k := k) (y := y) (c := c) (a := a) (i := i) hd hS hK hT b0 b7 hV k0 k7 y1 yl (fun x2 f3 g3 h x20 x21 ex enx eg2 eg30 eg31 eg37 ef33 xf xg hH hA => ?_) (y.toNat + 1) 0 _ _ _ (by omega) (by omega) (by omega) (fun t t0 t1 => by omega) eg2 eg30 eg31 eg37 ef33 eqx.rf eqx.rf hH hA
        have hfE := hfE.trans xf (by decide)
        have hgE := hgE.trans xg (by decide)
        obtain ⟨-, zo, zf, ze⟩ := lbV_fin hK b0 b7 x20 x21 hf ex
        have zb := brn_in (cl := cl) hK x20 x21
        have zh := hld_in (K := K) (cl := cl) (k := k)
        have hn := hK.1
        refine z_ald_0 (TX8_way_1.at 18 rfl) ?_
        refine z_ild_5 (TX8_way_1.at 19 rfl) ?_
        refine z_ild_4 (TX8_way_1.at 20 rfl) ?_
        refine zm_callI2 (m_otherEnd eg2 (by omega) (by omega) (by omega) (by omega)) (TX8_way_1.at 21 rfl) c8_405 rfl rfl hH hA (by omega) (Nat.le_of_ble_eq_true rfl) (fun x111 f111 g111 j111 h r111 q111 hH hA => ?_)
        obtain ⟨q111, xf, xg, xj⟩ := q111
        rw [xj] at hH
        have ef33 := (xf 33 (by decide)).trans ef33
        have hfE := hfE.trans xf (by decide)
        have eg2 := (xg 2 (by decide)).trans eg2
        have eg30 := (xg 30 (by decide)).trans eg30
        have eg31 := (xg 31 (by decide)).trans eg31
        have eg37 := (xg 37 (by decide)).trans eg37
        have hgE := hgE.trans xg (by decide)
        have qL := q111
        rw [qL] at r111 ⊢
        refine z_ist_4 (TX8_way_1.at 22 rfl) (Nat.le_of_ble_eq_true rfl) rfl ?_
        refine z_iinc_6 (TX8_way_1.at 23 rfl) (Nat.le_of_ble_eq_true rfl) rfl ?_
        refine z_goto (tgt := 65) (TX8_way_1.at 24 rfl) rfl ?_
        exact ih _ _ _ _ _ _ zo.1 zo.2 (by omega) (by omega) (by omega) (by omega) zf (by omega) (by rw [er, show (i + 1 - c).toNat = (i + 1 - (c + 1)).toNat + 1 by omega, wayG, if_neg (by assumption), enx]) eg2 eg30 eg31 eg37 ef33 hfE hgE hH hA
      · skip
        obtain rfl : k = b := by omega
        exact kx1 _ _ _ _ _ _ (by rw [er, show (i + 1 - c).toNat = (i - c).toNat + 1 by omega, wayG, if_pos rfl]) hfE hgE hH hA

set_option maxHeartbeats 4000000 in
set_option maxRecDepth 100000 in
theorem m_way {l : Launch} {o : Nat} {ar : Nat → Nat} {f : mF} {g j : mA} {K : Int → Int} {a b i : Int} {cl : List Cla} (eg2 : g 2 = K) (ha : zIn a) (hb : zIn b) (hi : zIn i) (hK : KOK K) (hL : LawK K cl) : MM l o ar MX8_way 55 [.ref o, vI a, vI b, vI i] f g j (PI (fun r f' g' j' => (r = wayV K cl a b i) ∧ eqx [22, 23, 24, 25, 33] f f' ∧ eqx [26, 30, 31, 32, 37] g g' ∧ j' = j)) := by
  refine MM.intro [some (.ref o), some (vI a), some (vI b), some (vI i), none, none, none] (by decide) (Nat.le_of_ble_eq_true rfl) rfl (fun d hd h0 h hH hA => ?_)
  have hfE : eqx [22, 23, 24, 25, 33] f f := eqx.rf
  have hgE : eqx [26, 30, 31, 32, 37] g g := eqx.rf
  have hn := hK.1
  have hcs := ctS_31 (cl := cl) hK
  refine z_ild_1 (TX8_way_0.at 0 rfl) ?_
  refine zs_call1 (s_isKnot (by omega)) (TX8_way_0.at 1 rfl) c8_113 rfl (by omega) (Nat.le_of_ble_eq_true rfl) (fun r1 => ?_)
  refine z_if_eqB (tgt := 19) (TX8_way_0.at 2 rfl) rfl (fun c1 => ?_) (fun c1 => ?_)
  · skip
    refine z_iconst (TX8_way_0.at 9 rfl) ?_
    refine zm_iret (TX8_way_0.at 10 rfl) rfl hH hA (by omega) ?_
    exact ⟨by unfold wayV; rw [if_neg (by omega)], hfE, hgE, rfl⟩
  · skip
    refine z_ild_2 (TX8_way_0.at 3 rfl) ?_
    refine zs_call1 (s_isKnot (by omega)) (TX8_way_0.at 4 rfl) c8_113 rfl (by omega) (Nat.le_of_ble_eq_true rfl) (fun r8 => ?_)
    refine z_if_eqB (tgt := 19) (TX8_way_0.at 5 rfl) rfl (fun c2 => ?_) (fun c2 => ?_)
    · skip
      refine z_iconst (TX8_way_0.at 9 rfl) ?_
      refine zm_iret (TX8_way_0.at 10 rfl) rfl hH hA (by omega) ?_
      exact ⟨by unfold wayV; rw [if_neg (by omega)], hfE, hgE, rfl⟩
    · skip
      refine z_ild_3 (TX8_way_0.at 6 rfl) ?_
      refine z_iconst (TX8_way_0.at 7 rfl) ?_
      refine z_icmp_ge (tgt := 21) (TX8_way_0.at 8 rfl) rfl (by omega) (by omega) (fun c3 => ?_) (fun c3 => ?_)
      · skip
        refine z_ald_0 (TX8_way_0.at 11 rfl) ?_
        refine zm_callV0 (m_laysTimes eg2 rfl rfl rfl hK.lawH hL) (TX8_way_0.at 12 rfl) c8_348 rfl rfl hH hA (by omega) (Nat.le_of_ble_eq_true rfl) (fun f22 g22 j22 h q22 hH hA => ?_)
        obtain ⟨q22, xf, xg, xj⟩ := q22
        rw [xj] at hH
        have hfE := hfE.trans xf (by decide)
        have eg2 := (xg 2 (by decide)).trans eg2
        have hgE := hgE.trans xg (by decide)
        have qL := q22
        obtain ⟨B, eg30⟩ : ∃ z, g22 30 = z := ⟨_, rfl⟩
        obtain ⟨Hd, eg31⟩ : ∃ z, g22 31 = z := ⟨_, rfl⟩
        have ef33 := qL.2.2
        rw [show msk (fun t => decide (ctc K cl t)) (K 76).toNat = ctS K cl from rfl] at ef33
        have hT : TmOK K cl B Hd := tm_of hK (eg30.symm.trans qL.1) (eg31.symm.trans qL.2.1)
        refine z_ald_0 (TX8_way_0.at 13 rfl) ?_
        refine z_ild_2 (TX8_way_0.at 14 rfl) ?_
        refine zm_callV1 (m_laysLeft (V := g22 37) eg2 eg30 eg31 rfl ef33 (by omega) hcs (by omega) (by omega) hK hT) (TX8_way_0.at 15 rfl) c8_411 rfl rfl hH hA (by omega) (Nat.le_of_ble_eq_true rfl) (fun f27 g27 j27 h q27 hH hA => ?_)
        obtain ⟨q27, xf, xg, xj⟩ := q27
        rw [xj] at hH
        have ef33 := (xf 33 (by decide)).trans ef33
        have hfE := hfE.trans xf (by decide)
        have eg2 := (xg 2 (by decide)).trans eg2
        have eg30 := (xg 30 (by decide)).trans eg30
        have eg31 := (xg 31 (by decide)).trans eg31
        have hgE := hgE.trans xg (by decide)
        have qL := q27
        obtain ⟨V, eg37⟩ : ∃ z, g27 37 = z := ⟨_, rfl⟩
        rw [eg37] at qL
        have hV := qL
        have hwab := wK_in (cl := cl) (S := ctS K cl) (k := a) hK (show 0 ≤ b by omega) (by omega)
        refine z_ald_0 (TX8_way_0.at 16 rfl) ?_
        refine zm_getA (TX8_way_0.at 17 rfl) fl8_81 hH (by decide) (by decide) ?_
        refine z_ild_1 (TX8_way_0.at 18 rfl) ?_
        refine zm_ialdE eg37 (TX8_way_0.at 19 rfl) hH rfl (by omega) (show _ < ((8 : Nat) : Int) by omega) (fun r35 => ?_)
        rw [hV a (by omega) (by omega)] at r35 ⊢
        refine z_ldc (v := 1000000) (TX8_way_0.at 20 rfl) k8_169 (by decide) ?_
        refine z_icmp_eq (tgt := 46) (TX8_way_0.at 21 rfl) rfl (by omega) (by omega) (fun c4 => ?_) (fun c4 => ?_)
        · skip
          refine z_ald_0 (TX8_way_0.at 25 rfl) ?_
          refine zm_getA (TX8_way_0.at 26 rfl) fl8_81 hH (by decide) (by decide) ?_
          refine z_ild_1 (TX8_way_0.at 27 rfl) ?_
          refine zm_ialdE eg37 (TX8_way_0.at 28 rfl) hH rfl (by omega) (show _ < ((8 : Nat) : Int) by omega) (fun r51 => ?_)
          rw [hV a (by omega) (by omega)] at r51 ⊢
          refine zs_call1 (s_orNone (by omega)) (TX8_way_0.at 29 rfl) c8_357 rfl (by omega) (Nat.le_of_ble_eq_true rfl) (fun r52 => ?_)
          refine zm_iret (TX8_way_0.at 30 rfl) rfl hH hA (by omega) ?_
          exact ⟨by unfold wayV; rw [if_pos (show (0 ≤ a ∧ a ≤ 7) ∧ (0 ≤ b ∧ b ≤ 7) ∧ -1 ≤ i by omega), if_pos (show wK K cl (ctS K cl) a b = 1000000 ∨ i = -1 by omega)]; rfl, hfE, hgE, rfl⟩
        · skip
          refine z_ild_3 (TX8_way_0.at 22 rfl) ?_
          refine z_iconst (TX8_way_0.at 23 rfl) ?_
          refine z_icmp_ne (tgt := 56) (TX8_way_0.at 24 rfl) rfl (by omega) (by omega) (fun c5 => ?_) (fun c5 => ?_)
          · skip
            refine z_ild_1 (TX8_way_0.at 31 rfl) ?_
            refine z_ist_4 (TX8_way_0.at 32 rfl) (Nat.le_of_ble_eq_true rfl) rfl ?_
            refine z_iconst (TX8_way_0.at 33 rfl) ?_
            refine z_ist_5 (TX8_way_0.at 34 rfl) (Nat.le_of_ble_eq_true rfl) rfl ?_
            refine z_iconst (TX8_way_0.at 35 rfl) ?_
            refine z_ist_6 (TX8_way_0.at 36 rfl) (Nat.le_of_ble_eq_true rfl) rfl ?_
            refine lp_way2 (a := a) (b := b) (i := i) (V := V) (S := ctS K cl) (rv := wayV K cl a b i) (by omega) hcs hK hT (by omega) (by omega) hV hi (fun o4 o5 o6 f3 g3 h3 er xf xg hH hA => ?_) (fun x2 o4 o6 f3 g3 h3 hx2 er xf xg hH hA => ?_) 1000001 a (-1) 0 _ _ _ (by omega) (by omega) (by omega) (by omega) (by omega) (by decide) (by omega) (by omega) (by unfold wayV; rw [if_pos (by omega), if_neg (by omega), show i + 1 - 0 = i + 1 by omega]) eg2 eg30 eg31 eg37 ef33 eqx.rf eqx.rf hH hA
            · refine z_iconst (TX8_way_1.at 3 rfl) ?_
              refine zm_iret (TX8_way_1.at 4 rfl) rfl hH hA (by omega) ?_
              exact ⟨er.symm, hfE.trans xf (by decide), hgE.trans xg (by decide), rfl⟩
            · refine z_ild_5 (TX8_way_1.at 25 rfl) ?_
              refine zm_iret (TX8_way_1.at 26 rfl) rfl hH hA (by omega) ?_
              exact ⟨er.symm, hfE.trans xf (by decide), hgE.trans xg (by decide), rfl⟩
          · skip
            refine z_ald_0 (TX8_way_0.at 25 rfl) ?_
            refine zm_getA (TX8_way_0.at 26 rfl) fl8_81 hH (by decide) (by decide) ?_
            refine z_ild_1 (TX8_way_0.at 27 rfl) ?_
            refine zm_ialdE eg37 (TX8_way_0.at 28 rfl) hH rfl (by omega) (show _ < ((8 : Nat) : Int) by omega) (fun r51 => ?_)
            rw [hV a (by omega) (by omega)] at r51 ⊢
            refine zs_call1 (s_orNone (by omega)) (TX8_way_0.at 29 rfl) c8_357 rfl (by omega) (Nat.le_of_ble_eq_true rfl) (fun r52 => ?_)
            refine zm_iret (TX8_way_0.at 30 rfl) rfl hH hA (by omega) ?_
            exact ⟨by unfold wayV; rw [if_pos (show (0 ≤ a ∧ a ≤ 7) ∧ (0 ≤ b ∧ b ≤ 7) ∧ -1 ≤ i by omega), if_pos (show wK K cl (ctS K cl) a b = 1000000 ∨ i = -1 by omega)]; rfl, hfE, hgE, rfl⟩
      · skip
        refine z_iconst (TX8_way_0.at 9 rfl) ?_
        refine zm_iret (TX8_way_0.at 10 rfl) rfl hH hA (by omega) ?_
        exact ⟨by unfold wayV; rw [if_neg (by omega)], hfE, hgE, rfl⟩

def cutN (K : Int → Int) (cl : List Cla) (S a b : Int) : Nat → Int
  | 0 => S
  | m + 1 => if zand m (zxor S (-1)) = 0 ∧ cnt m 10 < cnt (cutN K cl S a b m) 10 ∧ dK K cl (zand S (zxor m (-1))) (src (zshl 1 a)) b = 1000000 then (m : Int) else cutN K cl S a b m
theorem cutN_in {K : Int → Int} {cl : List Cla} {S a b : Int} (hS : 0 ≤ S) : ∀ m : Nat, (m : Int) ≤ S → 0 ≤ cutN K cl S a b m ∧ cutN K cl S a b m ≤ S := by
  intro m
  induction m with
  | zero => intro _; simp only [cutN]; omega
  | succ m ih => intro hm; simp only [cutN]; split; omega; exact ih (by omega)
theorem cutN_t {K : Int → Int} {cl : List Cla} {S a b i v : Int} (h0 : 0 ≤ i) (ev : v = cutN K cl S a b i.toNat) (h1 : zand i (zxor S (-1)) = 0) (h2 : cnt i 10 < cnt v 10) (h3 : dK K cl (zand S (zxor i (-1))) (src (zshl 1 a)) b = 1000000) : i = cutN K cl S a b (i + 1).toNat := by
  rw [show (i + 1).toNat = i.toNat + 1 by omega, cutN, ← ev, show ((i.toNat : Nat) : Int) = i by omega, if_pos ⟨h1, h2, h3⟩]
theorem cutN_f {K : Int → Int} {cl : List Cla} {S a b i v : Int} (h0 : 0 ≤ i) (ev : v = cutN K cl S a b i.toNat) (h : ¬ (zand i (zxor S (-1)) = 0 ∧ cnt i 10 < cnt v 10 ∧ dK K cl (zand S (zxor i (-1))) (src (zshl 1 a)) b = 1000000)) : v = cutN K cl S a b (i + 1).toNat := by
  rw [show (i + 1).toNat = i.toNat + 1 by omega, cutN, ← ev, show ((i.toNat : Nat) : Int) = i by omega, if_neg h]
def cutV (K : Int → Int) (cl : List Cla) (a b w : Int) : Int := if (0 ≤ a ∧ a ≤ 7) ∧ (0 ≤ b ∧ b ≤ 7) ∧ a ≠ b ∧ 0 ≤ w ∧ w ≤ 1 then (if w = 0 then cnt (cutN K cl (ctS K cl) a b (ctS K cl).toNat) 10 else cutN K cl (ctS K cl) a b (ctS K cl).toNat) else -1
set_option maxHeartbeats 4000000 in
set_option maxRecDepth 100000 in
theorem lp_cut {l : Launch} {o : Nat} {ar : Nat → Nat} {d : Nat} {Pz : Option Value → zH → Prop} {h0 : zH} {f0 : mF} {g0 : mA} {j : mA} (hd : 60 ≤ d) {K B Hd : Int → Int} {cl : List Cla} {a b w : Int} (a0 : 0 ≤ a) (a7 : a ≤ 7) (b0 : 0 ≤ b) (b7 : b ≤ 7) (hK : KOK K) (hT : TmOK K cl B Hd) (kx : ∀  (C : Int → Int) (f : mF) (g : mA) (h : zH), g 2 = K → g 30 = B → g 31 = Hd → g 32 = C → f 33 = ctS K cl → eqx [] f0 f → eqx [32] g0 g → HM o ar f g j h → zAg o ar h0 h → Z l MX8_cut d 0 0 Pz 122 [some (.ref o), some (vI a), some (vI b), some (vI w), some (vI (cutN K cl (ctS K cl) a b (ctS K cl).toNat)), some (vI (ctS K cl))] [] h 0 0)  : ∀ (n : Nat) (i : Int) (v : Int) (C : Int → Int) (f : mF) (g : mA) (h : zH) (i0 : 0 ≤ i) (i1 : i ≤ ctS K cl) (i2 : ctS K cl < i + n) (ev : v = cutN K cl (ctS K cl) a b i.toNat) (eg2 : g 2 = K) (eg30 : g 30 = B) (eg31 : g 31 = Hd) (eg32 : g 32 = C) (ef33 : f 33 = ctS K cl) (hfE : eqx [] f0 f) (hgE : eqx [32] g0 g) (hH : HM o ar f g j h) (hA : zAg o ar h0 h), Z l MX8_cut d 0 0 Pz 43 [some (.ref o), some (vI a), some (vI b), some (vI w), some (vI v), some (vI i)] [] h 0 0 := by
  intro n
  induction n with
  | zero => intro i v C f g h i0 i1 i2 ev eg2 eg30 eg31 eg32 ef33 hfE hgE hH hA; exfalso; omega
  | succ n ih =>
    intro i v C f g h i0 i1 i2 ev eg2 eg30 eg31 eg32 ef33 hfE hgE hH hA
    have hn := hK.1
    have hcs := ctS_31 (cl := cl) hK
    have hci := ctS_in (cl := cl) hK
    have hv := cutN_in (K := K) (cl := cl) (S := ctS K cl) (a := a) (b := b) hci.1 i.toNat (by omega)
    rw [← ev] at hv
    have hz0 := zandn_le (s := i) (t := ctS K cl) ⟨i0, by omega⟩ hcs
    refine z_ild_5 (TX8_cut_0.at 23 rfl) ?_
    refine z_ald_0 (TX8_cut_0.at 24 rfl) ?_
    refine zm_getIE ef33 (TX8_cut_0.at 25 rfl) fl8_333 hH rfl (by decide) (fun r46 => ?_)
    refine z_icmp_ge (tgt := 122) (TX8_cut_0.at 26 rfl) rfl (by omega) (by omega) (fun c1 => ?_) (fun c1 => ?_)
    · skip
      obtain rfl : i = ctS K cl := by omega
      rw [ev]
      exact kx _ _ _ _ eg2 eg30 eg31 eg32 ef33 hfE hgE hH hA
    · skip
      refine z_ild_5 (TX8_cut_0.at 27 rfl) ?_
      refine z_ald_0 (TX8_cut_0.at 28 rfl) ?_
      refine zm_getIE ef33 (TX8_cut_0.at 29 rfl) fl8_333 hH rfl (by decide) (fun r55 => ?_)
      refine z_iconst (TX8_cut_0.at 30 rfl) ?_
      refine z_ixor (TX8_cut_0.at 31 rfl) ?_
      refine z_iand (TX8_cut_0.at 32 rfl) ?_
      refine z_if_ne (tgt := 116) (TX8_cut_0.at 33 rfl) rfl (by omega) (fun c2 => ?_) (fun c2 => ?_)
      · skip
        refine z_iinc_5 (TX8_cut_1.at 21 rfl) (Nat.le_of_ble_eq_true rfl) rfl ?_
        refine z_goto (tgt := 43) (TX8_cut_1.at 22 rfl) rfl ?_
        exact ih (i + 1) _ _ _ _ _ (by omega) (by omega) (by omega) (by first | exact cutN_t i0 ev (by omega) (by omega) (by rw [← hD b b0 b7]; omega) | exact cutN_f i0 ev (fun z => absurd z.1 (by omega)) | exact cutN_f i0 ev (fun z => absurd z.2.1 (by omega)) | exact cutN_f i0 ev (fun z => absurd z.2.2 (by rw [← hD b b0 b7]; omega))) eg2 eg30 eg31 eg32 ef33 hfE hgE hH hA
      · skip
        refine z_ild_5 (TX8_cut_0.at 34 rfl) ?_
        refine zs_call1 (s_ones (by omega)) (TX8_cut_0.at 35 rfl) c8_396 rfl (by omega) (Nat.le_of_ble_eq_true rfl) (fun r66 => ?_)
        refine z_ild_4 (TX8_cut_0.at 36 rfl) ?_
        refine zs_call1 (s_ones (by omega)) (TX8_cut_0.at 37 rfl) c8_396 rfl (by omega) (Nat.le_of_ble_eq_true rfl) (fun r71 => ?_)
        refine z_icmp_lt (tgt := 80) (TX8_cut_0.at 38 rfl) rfl (by omega) (by omega) (fun c3 => ?_) (fun c3 => ?_)
        · skip
          refine z_ald_0 (TX8_cut_1.at 0 rfl) ?_
          refine z_iconst (TX8_cut_1.at 1 rfl) ?_
          refine z_ild_1 (TX8_cut_1.at 2 rfl) ?_
          have hsh := shl_in (i := a) a0 (by omega)
          refine z_ishl (TX8_cut_1.at 3 rfl) ?_
          refine z_ald_0 (TX8_cut_1.at 4 rfl) ?_
          refine zm_getIE ef33 (TX8_cut_1.at 5 rfl) fl8_333 hH rfl (by decide) (fun r85 => ?_)
          refine z_ild_5 (TX8_cut_1.at 6 rfl) ?_
          refine z_iconst (TX8_cut_1.at 7 rfl) ?_
          refine z_ixor (TX8_cut_1.at 8 rfl) ?_
          have hzz := zandn_le (s := ctS K cl) (t := i) hcs ⟨i0, by omega⟩
          refine z_iand (TX8_cut_1.at 9 rfl) ?_
          refine zm_callV2 (m_firesFrom eg2 eg30 eg31 rfl (by omega) (by omega) (by omega) (by omega) hn.1 hn.2 (hT.fr hK)) (TX8_cut_1.at 10 rfl) c8_387 rfl rfl hH hA (by omega) (Nat.le_of_ble_eq_true rfl) (fun f93 g93 j93 h q93 hH hA => ?_)
          obtain ⟨q93, xf, xg, xj⟩ := q93
          rw [xj] at hH
          have ef33 := (xf 33 (by decide)).trans ef33
          have hfE := hfE.trans xf (by decide)
          have eg2 := (xg 2 (by decide)).trans eg2
          have eg30 := (xg 30 (by decide)).trans eg30
          have eg31 := (xg 31 (by decide)).trans eg31
          have hgE := hgE.trans xg (by decide)
          have qL := q93
          obtain ⟨C, eg32⟩ : ∃ z, g93 32 = z := ⟨_, rfl⟩
          rw [eg32, hT.dist hK] at qL
          have hD := qL
          refine z_ald_0 (TX8_cut_1.at 11 rfl) ?_
          refine zm_getA (TX8_cut_1.at 12 rfl) fl8_72 hH (by decide) (by decide) ?_
          refine z_ild_2 (TX8_cut_1.at 13 rfl) ?_
          refine zm_ialdE eg32 (TX8_cut_1.at 14 rfl) hH rfl (by omega) (show _ < ((8 : Nat) : Int) by omega) (fun r101 => ?_)
          refine z_ldc (v := 1000000) (TX8_cut_1.at 15 rfl) k8_169 (by decide) ?_
          refine z_icmp_ne (tgt := 112) (TX8_cut_1.at 16 rfl) rfl (by omega) (by omega) (fun c4 => ?_) (fun c4 => ?_)
          · skip
            refine z_ild_4 (TX8_cut_1.at 19 rfl) ?_
            refine z_ist_4 (TX8_cut_1.at 20 rfl) (Nat.le_of_ble_eq_true rfl) rfl ?_
            refine z_iinc_5 (TX8_cut_1.at 21 rfl) (Nat.le_of_ble_eq_true rfl) rfl ?_
            refine z_goto (tgt := 43) (TX8_cut_1.at 22 rfl) rfl ?_
            exact ih (i + 1) _ _ _ _ _ (by omega) (by omega) (by omega) (by first | exact cutN_t i0 ev (by omega) (by omega) (by rw [← hD b b0 b7]; omega) | exact cutN_f i0 ev (fun z => absurd z.1 (by omega)) | exact cutN_f i0 ev (fun z => absurd z.2.1 (by omega)) | exact cutN_f i0 ev (fun z => absurd z.2.2 (by rw [← hD b b0 b7]; omega))) eg2 eg30 eg31 eg32 ef33 hfE hgE hH hA
          · skip
            refine z_ild_5 (TX8_cut_1.at 17 rfl) ?_
            refine z_goto (tgt := 114) (TX8_cut_1.at 18 rfl) rfl ?_
            refine z_ist_4 (TX8_cut_1.at 20 rfl) (Nat.le_of_ble_eq_true rfl) rfl ?_
            refine z_iinc_5 (TX8_cut_1.at 21 rfl) (Nat.le_of_ble_eq_true rfl) rfl ?_
            refine z_goto (tgt := 43) (TX8_cut_1.at 22 rfl) rfl ?_
            exact ih (i + 1) _ _ _ _ _ (by omega) (by omega) (by omega) (by first | exact cutN_t i0 ev (by omega) (by omega) (by rw [← hD b b0 b7]; omega) | exact cutN_f i0 ev (fun z => absurd z.1 (by omega)) | exact cutN_f i0 ev (fun z => absurd z.2.1 (by omega)) | exact cutN_f i0 ev (fun z => absurd z.2.2 (by rw [← hD b b0 b7]; omega))) eg2 eg30 eg31 eg32 ef33 hfE hgE hH hA
        · skip
          refine z_goto (tgt := 116) (TX8_cut_0.at 39 rfl) rfl ?_
          refine z_iinc_5 (TX8_cut_1.at 21 rfl) (Nat.le_of_ble_eq_true rfl) rfl ?_
          refine z_goto (tgt := 43) (TX8_cut_1.at 22 rfl) rfl ?_
          exact ih (i + 1) _ _ _ _ _ (by omega) (by omega) (by omega) (by first | exact cutN_t i0 ev (by omega) (by omega) (by rw [← hD b b0 b7]; omega) | exact cutN_f i0 ev (fun z => absurd z.1 (by omega)) | exact cutN_f i0 ev (fun z => absurd z.2.1 (by omega)) | exact cutN_f i0 ev (fun z => absurd z.2.2 (by rw [← hD b b0 b7]; omega))) eg2 eg30 eg31 eg32 ef33 hfE hgE hH hA

set_option maxHeartbeats 4000000 in
set_option maxRecDepth 100000 in
theorem m_cut {l : Launch} {o : Nat} {ar : Nat → Nat} {f : mF} {g j : mA} {K : Int → Int} {a b w : Int} {cl : List Cla} (eg2 : g 2 = K) (ha : zIn a) (hb : zIn b) (hw : zIn w) (hK : KOK K) (hL : LawK K cl) : MM l o ar MX8_cut 61 [.ref o, vI a, vI b, vI w] f g j (PI (fun r f' g' j' => (r = cutV K cl a b w) ∧ eqx [22, 23, 24, 25, 33] f f' ∧ eqx [26, 30, 31, 32] g g' ∧ j' = j)) := by
  refine MM.intro [some (.ref o), some (vI a), some (vI b), some (vI w), none, none] (by decide) (Nat.le_of_ble_eq_true rfl) rfl (fun d hd h0 h hH hA => ?_)
  have hfE : eqx [22, 23, 24, 25, 33] f f := eqx.rf
  have hgE : eqx [26, 30, 31, 32] g g := eqx.rf
  have hn := hK.1
  have hcs := ctS_31 (cl := cl) hK
  have hci := ctS_in (cl := cl) hK
  have hv := cutN_in (K := K) (cl := cl) (S := ctS K cl) (a := a) (b := b) hci.1 (ctS K cl).toNat (by omega)
  refine z_ild_1 (TX8_cut_0.at 0 rfl) ?_
  refine zs_call1 (s_isKnot (by omega)) (TX8_cut_0.at 1 rfl) c8_113 rfl (by omega) (Nat.le_of_ble_eq_true rfl) (fun r1 => ?_)
  refine z_if_eqB (tgt := 28) (TX8_cut_0.at 2 rfl) rfl (fun c1 => ?_) (fun c1 => ?_)
  · skip
    refine z_iconst (TX8_cut_0.at 14 rfl) ?_
    refine zm_iret (TX8_cut_0.at 15 rfl) rfl hH hA (by omega) ?_
    exact ⟨by unfold cutV; rw [if_neg (by omega)], hfE, hgE, rfl⟩
  · skip
    refine z_ild_2 (TX8_cut_0.at 3 rfl) ?_
    refine zs_call1 (s_isKnot (by omega)) (TX8_cut_0.at 4 rfl) c8_113 rfl (by omega) (Nat.le_of_ble_eq_true rfl) (fun r8 => ?_)
    refine z_if_eqB (tgt := 28) (TX8_cut_0.at 5 rfl) rfl (fun c2 => ?_) (fun c2 => ?_)
    · skip
      refine z_iconst (TX8_cut_0.at 14 rfl) ?_
      refine zm_iret (TX8_cut_0.at 15 rfl) rfl hH hA (by omega) ?_
      exact ⟨by unfold cutV; rw [if_neg (by omega)], hfE, hgE, rfl⟩
    · skip
      refine z_ild_1 (TX8_cut_0.at 6 rfl) ?_
      refine z_ild_2 (TX8_cut_0.at 7 rfl) ?_
      refine z_icmp_eq (tgt := 28) (TX8_cut_0.at 8 rfl) rfl (by omega) (by omega) (fun c3 => ?_) (fun c3 => ?_)
      · skip
        refine z_iconst (TX8_cut_0.at 14 rfl) ?_
        refine zm_iret (TX8_cut_0.at 15 rfl) rfl hH hA (by omega) ?_
        exact ⟨by unfold cutV; rw [if_neg (by omega)], hfE, hgE, rfl⟩
      · skip
        refine z_ild_3 (TX8_cut_0.at 9 rfl) ?_
        refine z_iconst (TX8_cut_0.at 10 rfl) ?_
        refine z_iconst (TX8_cut_0.at 11 rfl) ?_
        refine zs_call3 (s_lies (by omega) (by omega) (by omega)) (TX8_cut_0.at 12 rfl) c8_18 rfl (by omega) (Nat.le_of_ble_eq_true rfl) (fun r22 => ?_)
        refine z_if_neB (tgt := 30) (TX8_cut_0.at 13 rfl) rfl (fun c4 => ?_) (fun c4 => ?_)
        · skip
          refine z_ald_0 (TX8_cut_0.at 16 rfl) ?_
          refine zm_callV0 (m_laysTimes eg2 rfl rfl rfl hK.lawH hL) (TX8_cut_0.at 17 rfl) c8_348 rfl rfl hH hA (by omega) (Nat.le_of_ble_eq_true rfl) (fun f31 g31 j31 h q31 hH hA => ?_)
          obtain ⟨q31, xf, xg, xj⟩ := q31
          rw [xj] at hH
          have hfE := hfE.trans xf (by decide)
          have eg2 := (xg 2 (by decide)).trans eg2
          have hgE := hgE.trans xg (by decide)
          have qL := q31
          obtain ⟨B, eg30⟩ : ∃ z, g31 30 = z := ⟨_, rfl⟩
          obtain ⟨Hd, eg31⟩ : ∃ z, g31 31 = z := ⟨_, rfl⟩
          have ef33 := qL.2.2
          rw [show msk (fun t => decide (ctc K cl t)) (K 76).toNat = ctS K cl from rfl] at ef33
          have hT : TmOK K cl B Hd := tm_of hK (eg30.symm.trans qL.1) (eg31.symm.trans qL.2.1)
          refine z_ald_0 (TX8_cut_0.at 18 rfl) ?_
          refine zm_getIE ef33 (TX8_cut_0.at 19 rfl) fl8_333 hH rfl (by decide) (fun r35 => ?_)
          refine z_ist_4 (TX8_cut_0.at 20 rfl) (Nat.le_of_ble_eq_true rfl) rfl ?_
          refine z_iconst (TX8_cut_0.at 21 rfl) ?_
          refine z_ist_5 (TX8_cut_0.at 22 rfl) (Nat.le_of_ble_eq_true rfl) rfl ?_
          refine lp_cut (by omega) (a := a) (b := b) (w := w) (by omega) (by omega) (by omega) (by omega) hK hT (fun C f43 g43 h eg2 eg30 eg31 eg32 ef33 xf xg hH hA => ?_) 1024 0 _ _ _ _ _ (by omega) (by omega) (by omega) rfl eg2 eg30 eg31 rfl ef33 eqx.rf eqx.rf hH hA
          have hfE := hfE.trans xf (by decide)
          have hgE := hgE.trans xg (by decide)
          refine z_ild_3 (TX8_cut_1.at 23 rfl) ?_
          refine z_if_ne (tgt := 134) (TX8_cut_1.at 24 rfl) rfl (by omega) (fun c5 => ?_) (fun c5 => ?_)
          · skip
            refine z_ild_4 (TX8_cut_1.at 28 rfl) ?_
            refine zm_iret (TX8_cut_1.at 29 rfl) rfl hH hA (by omega) ?_
            exact ⟨by unfold cutV; rw [if_pos (by omega)]; first | (rw [if_pos (by omega)]; done) | (rw [if_neg (by omega)]; done), hfE, hgE, rfl⟩
          · skip
            refine z_ild_4 (TX8_cut_1.at 25 rfl) ?_
            refine zs_call1 (s_ones (by omega)) (TX8_cut_1.at 26 rfl) c8_396 rfl (by omega) (Nat.le_of_ble_eq_true rfl) (fun r128 => ?_)
            refine z_goto (tgt := 136) (TX8_cut_1.at 27 rfl) rfl ?_
            refine zm_iret (TX8_cut_1.at 29 rfl) rfl hH hA (by omega) ?_
            exact ⟨by unfold cutV; rw [if_pos (by omega)]; first | (rw [if_pos (by omega)]; done) | (rw [if_neg (by omega)]; done), hfE, hgE, rfl⟩
        · skip
          refine z_iconst (TX8_cut_0.at 14 rfl) ?_
          refine zm_iret (TX8_cut_0.at 15 rfl) rfl hH hA (by omega) ?_
          exact ⟨by unfold cutV; rw [if_neg (by omega)], hfE, hgE, rfl⟩

