/-! ===== times and fires by matches ===== -/
def msk (p : Int → Bool) : Nat → Int
  | 0 => 0
  | n + 1 => zor (msk p n) (if p n = true then zshl 1 n else 0)
theorem msk_in {p : Int → Bool} : ∀ {n : Nat}, n ≤ 30 → 0 ≤ msk p n ∧ msk p n < (2 ^ n : Nat) := by
  intro n
  induction n with
  | zero => intro _; exact ⟨Int.le_refl 0, show (0 : Int) < ((2 ^ 0 : Nat) : Int) by decide⟩
  | succ n ih =>
    intro hn
    obtain ⟨h0, h1⟩ := ih (by omega)
    have h2 : (2 ^ n : Nat) ≤ 2 ^ 29 := Nat.pow_le_pow_right (by decide) (by omega)
    have h3 : (2 ^ (n + 1) : Nat) = 2 * 2 ^ n := by rw [Nat.pow_succ]; omega
    have h4 : (2 ^ 29 : Nat) = 536870912 := by decide
    have h5 : 0 < (2 ^ n : Nat) := Nat.pow_pos (by decide)
    have hs : z31 (msk p n) := ⟨h0, by omega⟩
    have e : zshl 1 (n : Int) = ((2 ^ n : Nat) : Int) := by
      have := zshl_one (k := (n : Int)) (by omega) (by omega)
      rw [this]; rfl
    have ht : z31 (if p n = true then zshl 1 n else 0) ∧ (if p n = true then zshl 1 (n : Int) else 0) < (2 ^ (n + 1) : Nat) := by
      split
      · rw [e]; exact ⟨⟨by omega, by omega⟩, by omega⟩
      · exact ⟨⟨by omega, by omega⟩, by omega⟩
    exact ⟨(zor_31 hs ht.1).1, zor_lt hs ht.1 (by omega) ht.2⟩
theorem msk_31 {p : Int → Bool} {n : Nat} (hn : n ≤ 30) : z31 (msk p n) := by
  have h := msk_in (p := p) hn
  have h2 : (2 ^ n : Nat) ≤ 2 ^ 30 := Nat.pow_le_pow_right (by decide) (by omega)
  have h4 : (2 ^ 30 : Nat) = 1073741824 := by decide
  exact ⟨h.1, by omega⟩
theorem bt_msk {p : Int → Bool} {k : Int} (hk : 0 ≤ k) : ∀ {n : Nat}, n ≤ 30 → (bt (msk p n) k ↔ k < n ∧ p k = true) := by
  intro n
  induction n with
  | zero => intro _; exact ⟨fun h => absurd h (bt_zero k), fun h => by omega⟩
  | succ n ih =>
    intro hn
    have hs := msk_31 (p := p) (n := n) (by omega)
    have i1 := ih (by omega)
    by_cases hp : p n = true
    · have e : msk p (n + 1) = zor (msk p n) (zshl 1 n) := by show zor _ (if p n = true then zshl 1 n else 0) = _; rw [if_pos hp]
      have ht : z31 (zshl 1 (n : Int)) := by
        rw [zshl_one (k := (n : Int)) (by omega) (by omega)]
        have h2 : (2 ^ (n : Int).toNat : Nat) ≤ 2 ^ 29 := Nat.pow_le_pow_right (by decide) (by omega)
        have h4 : (2 ^ 29 : Nat) = 536870912 := by decide
        exact ⟨Int.natCast_nonneg _, by omega⟩
      rw [e, bt_or hs ht, bt_shl (by omega) (by omega) hk, i1]
      constructor
      · rintro (⟨h1, h2⟩ | h1)
        · exact ⟨by omega, h2⟩
        · exact ⟨by omega, by rw [h1]; exact hp⟩
      · rintro ⟨h1, h2⟩
        by_cases hkn : k = n
        · exact Or.inr hkn
        · exact Or.inl ⟨by omega, h2⟩
    · have e : msk p (n + 1) = zor (msk p n) 0 := by show zor _ (if p n = true then zshl 1 n else 0) = _; rw [if_neg hp]
      rw [e, bt_or hs (by decide), i1]
      constructor
      · rintro (⟨h1, h2⟩ | h1)
        · exact ⟨by omega, h2⟩
        · exact absurd h1 (bt_zero k)
      · rintro ⟨h1, h2⟩
        by_cases hkn : k = n
        · rw [hkn] at h2; exact absurd h2 hp
        · exact Or.inl ⟨by omega, h2⟩
theorem shl_31 {i : Int} (h0 : 0 ≤ i) (h1 : i ≤ 29) : z31 (zshl 1 i) := by
  rw [zshl_one h0 (by omega)]
  have h2 : (2 ^ i.toNat : Nat) ≤ 2 ^ 29 := Nat.pow_le_pow_right (by decide) (by omega)
  have h4 : (2 ^ 29 : Nat) = 536870912 := by decide
  exact ⟨Int.natCast_nonneg _, by omega⟩
theorem msk_s {p : Int → Bool} {i : Int} (h : 0 ≤ i) : msk p (i + 1).toNat = zor (msk p i.toNat) (if p i = true then zshl 1 i else 0) := by
  have e : (i + 1).toNat = i.toNat + 1 := by omega
  rw [e]
  show zor _ (if p ((i.toNat : Nat) : Int) = true then zshl 1 ((i.toNat : Nat) : Int) else 0) = _
  rw [Int.toNat_of_nonneg h]
theorem msk_1 {p : Int → Bool} {i x : Int} (h : 0 ≤ i) (hp : p i = true) (hx : x = zor (msk p i.toNat) (zshl 1 i)) : x = msk p (i + 1).toNat := by rw [msk_s h, if_pos hp, hx]
theorem msk_0 {p : Int → Bool} {i x : Int} (h : 0 ≤ i) (hp : ¬ p i = true) (hx : x = zor (msk p i.toNat) 0) : x = msk p (i + 1).toNat := by rw [msk_s h, if_neg hp, hx]
set_option maxHeartbeats 4000000 in
set_option maxRecDepth 100000 in
theorem lp_lays1 {l : Launch} {o : Nat} {ar : Nat → Nat} {d : Nat} {Pz : Option Value → zH → Prop} {h0 : zH} {f0 : mF} {g0 : mA} {j : mA} (hd : 48 ≤ d) {K B : Int → Int} {cl : List Cla} (hK : LawH K) (hL : LawK K cl) (kx : ∀ (f : mF) (g : mA) (h : zH), g 2 = K → g 30 = cpF B (brn K cl) 0 (K 76) → f 33 = msk (fun t => decide (ctc K cl t)) (K 76).toNat → eqx [22, 23, 24, 25, 33] f0 f → eqx [26, 30] g0 g → HM o ar f g j h → zAg o ar h0 h → Z l MX8_laysTimes d 0 0 Pz 56 [some (.ref o), some (vI (K 76))] [] h 0 0)  : ∀ (n : Nat) (i : Int) (f : mF) (g : mA) (h : zH) (i0 : 0 ≤ i) (i1 : i ≤ K 76) (i2 : K 76 < i + n) (eg2 : g 2 = K) (eg30 : g 30 = cpF B (brn K cl) 0 i) (ef33 : f 33 = msk (fun t => decide (ctc K cl t)) i.toNat) (hfE : eqx [22, 23, 24, 25, 33] f0 f) (hgE : eqx [26, 30] g0 g) (hH : HM o ar f g j h) (hA : zAg o ar h0 h), Z l MX8_laysTimes d 0 0 Pz 7 [some (.ref o), some (vI i)] [] h 0 0 := by
  intro n
  induction n with
  | zero => intro i f g h i0 i1 i2 eg2 eg30 ef33 hfE hgE hH hA; exfalso; omega
  | succ n ih =>
    intro i f g h i0 i1 i2 eg2 eg30 ef33 hfE hgE hH hA
    have n0 := hK.1
    have n1 := hK.2.1
    refine z_ild_1 (TX8_laysTimes.at 5 rfl) ?_
    refine z_ald_0 (TX8_laysTimes.at 6 rfl) ?_
    refine zm_callP0 (m_fuseMany ) (TX8_laysTimes.at 7 rfl) c8_109 rfl rfl hH hA (by omega) (Nat.le_of_ble_eq_true rfl) (fun h r9 hH hA => ?_)
    rw [eg2]
    refine z_icmp_ge (tgt := 56) (TX8_laysTimes.at 8 rfl) rfl (by omega) (by omega) (fun c1 => ?_) (fun c1 => ?_)
    · skip
      have hi : i = K 76 := (by omega)
      subst hi
      exact kx _ _ _ eg2 eg30 ef33 hfE hgE hH hA
    · skip
      refine z_ald_0 (TX8_laysTimes.at 9 rfl) ?_
      refine zm_getA (TX8_laysTimes.at 10 rfl) fl8_66 hH (by decide) (by decide) ?_
      refine z_ild_1 (TX8_laysTimes.at 11 rfl) ?_
      refine z_ald_0 (TX8_laysTimes.at 12 rfl) ?_
      refine z_ild_1 (TX8_laysTimes.at 13 rfl) ?_
      refine zm_callI1 (m_burnsFor eg2 (by omega) i0 (by omega) hK hL) (TX8_laysTimes.at 14 rfl) c8_128 rfl rfl hH hA (by omega) (Nat.le_of_ble_eq_true rfl) (fun x22 f22 g22 j22 h r22 q22 hH hA => ?_)
      obtain ⟨q22, xf, xg, xj⟩ := q22
      rw [xj] at hH
      have ef33 := (xf 33 (by decide)).trans ef33
      have hfE := hfE.trans xf (by decide)
      have eg2 := (xg 2 (by decide)).trans eg2
      have eg30 := (xg 30 (by decide)).trans eg30
      have hgE := hgE.trans xg (by decide)
      have qL := q22
      refine zm_iastE (TX8_laysTimes.at 15 rfl) hH hA rfl (by omega) (show _ < ((10 : Nat) : Int) by omega) (by omega) (fun h g25 e1 e2 hH hA => ?_)
      have eg2 := (e1 2 (by decide)).trans eg2
      rw [eg30] at e2; have eg30 := e2
      have hgE := hgE.put e1 (by decide)
      refine z_ald_0 (TX8_laysTimes.at 16 rfl) ?_
      refine z_dup rfl (TX8_laysTimes.at 17 rfl) ?_
      refine zm_getIE ef33 (TX8_laysTimes.at 18 rfl) fl8_333 hH rfl (by decide) (fun r28 => ?_)
      refine z_ald_0 (TX8_laysTimes.at 19 rfl) ?_
      refine z_ild_1 (TX8_laysTimes.at 20 rfl) ?_
      refine zm_callI1 (m_catchesNow eg2 (by omega) i0 (by omega) hK hL) (TX8_laysTimes.at 21 rfl) c8_131 rfl rfl hH hA (by omega) (Nat.le_of_ble_eq_true rfl) (fun x33 f33 g33 j33 h r33 q33 hH hA => ?_)
      obtain ⟨q33, xf, xg, xj⟩ := q33
      rw [xj] at hH
      have ef33 := (xf 33 (by decide)).trans ef33
      have hfE := hfE.trans xf (by decide)
      have eg2 := (xg 2 (by decide)).trans eg2
      have eg30 := (xg 30 (by decide)).trans eg30
      have hgE := hgE.trans xg (by decide)
      have qL := q33
      refine z_if_eq (tgt := 45) (TX8_laysTimes.at 22 rfl) rfl (by omega) (fun c2 => ?_) (fun c2 => ?_)
      · skip
        refine z_iconst (TX8_laysTimes.at 27 rfl) ?_
        refine z_ior (TX8_laysTimes.at 28 rfl) ?_
        have zz := zor_31 (msk_31 (p := (fun t => decide (ctc K cl t))) (n := i.toNat) (by omega)) (show z31 0 by decide)
        refine zm_putIE (TX8_laysTimes.at 29 rfl) fp8_333 hH hA rfl (by decide) (by first | omega | exact b2i_01 _) (fun h f47 e1 e2 hH hA => ?_)
        have ef33 := e2
        have hfE := hfE.put e1 (by decide)
        refine z_iinc_1 (TX8_laysTimes.at 30 rfl) (Nat.le_of_ble_eq_true rfl) rfl ?_
        refine z_goto (tgt := 7) (TX8_laysTimes.at 31 rfl) rfl ?_
        exact ih (i + 1) _ _ _ (by omega) (by omega) (by omega) eg2 (eg30.trans (cpF_s i0 (by omega) q22)) (by first | exact msk_1 i0 (decide_eq_true (b2i_ne.mp (by rw [← q33]; assumption))) ef33 | exact msk_0 i0 (fun hc => absurd (b2i_t (of_decide_eq_true hc)) (by rw [← q33]; omega)) ef33) hfE hgE hH hA
      · skip
        refine z_iconst (TX8_laysTimes.at 23 rfl) ?_
        refine z_ild_1 (TX8_laysTimes.at 24 rfl) ?_
        refine z_ishl (TX8_laysTimes.at 25 rfl) ?_
        refine z_goto (tgt := 46) (TX8_laysTimes.at 26 rfl) rfl ?_
        refine z_ior (TX8_laysTimes.at 28 rfl) ?_
        have zz := zor_31 (msk_31 (p := (fun t => decide (ctc K cl t))) (n := i.toNat) (by omega)) (shl_31 i0 (by omega))
        refine zm_putIE (TX8_laysTimes.at 29 rfl) fp8_333 hH hA rfl (by decide) (by first | omega | exact b2i_01 _) (fun h f47 e1 e2 hH hA => ?_)
        have ef33 := e2
        have hfE := hfE.put e1 (by decide)
        refine z_iinc_1 (TX8_laysTimes.at 30 rfl) (Nat.le_of_ble_eq_true rfl) rfl ?_
        refine z_goto (tgt := 7) (TX8_laysTimes.at 31 rfl) rfl ?_
        exact ih (i + 1) _ _ _ (by omega) (by omega) (by omega) eg2 (eg30.trans (cpF_s i0 (by omega) q22)) (by first | exact msk_1 i0 (decide_eq_true (b2i_ne.mp (by rw [← q33]; assumption))) ef33 | exact msk_0 i0 (fun hc => absurd (b2i_t (of_decide_eq_true hc)) (by rw [← q33]; omega)) ef33) hfE hgE hH hA

set_option maxHeartbeats 4000000 in
set_option maxRecDepth 100000 in
theorem lp_lays2 {l : Launch} {o : Nat} {ar : Nat → Nat} {d : Nat} {Pz : Option Value → zH → Prop} {h0 : zH} {f0 : mF} {g0 : mA} {j : mA} (hd : 48 ≤ d) {K Hd : Int → Int} {cl : List Cla} (hK : LawH K) (hL : LawK K cl) (kx : ∀ (f : mF) (g : mA) (h : zH), g 2 = K → g 31 = cpF Hd (hld K cl) 0 8 → eqx [22, 23, 24, 25] f0 f → eqx [26, 31] g0 g → HM o ar f g j h → zAg o ar h0 h → Z l MX8_laysTimes d 0 0 Pz 81 [some (.ref o), some (vI 8)] [] h 0 0)  : ∀ (n : Nat) (i : Int) (f : mF) (g : mA) (h : zH) (i0 : 0 ≤ i) (i1 : i ≤ 8) (i2 : 8 < i + n) (eg2 : g 2 = K) (eg31 : g 31 = cpF Hd (hld K cl) 0 i) (hfE : eqx [22, 23, 24, 25] f0 f) (hgE : eqx [26, 31] g0 g) (hH : HM o ar f g j h) (hA : zAg o ar h0 h), Z l MX8_laysTimes d 0 0 Pz 58 [some (.ref o), some (vI i)] [] h 0 0 := by
  intro n
  induction n with
  | zero => intro i f g h i0 i1 i2 eg2 eg31 hfE hgE hH hA; exfalso; omega
  | succ n ih =>
    intro i f g h i0 i1 i2 eg2 eg31 hfE hgE hH hA
    refine z_ild_1 (TX8_laysTimes.at 34 rfl) ?_
    refine z_bipush (by decide) (TX8_laysTimes.at 35 rfl) ?_
    refine z_icmp_ge (tgt := 81) (TX8_laysTimes.at 36 rfl) rfl (by omega) (by omega) (fun c1 => ?_) (fun c1 => ?_)
    · skip
      have hi : i = 8 := (by omega)
      subst hi
      exact kx _ _ _ eg2 eg31 hfE hgE hH hA
    · skip
      refine z_ald_0 (TX8_laysTimes.at 37 rfl) ?_
      refine zm_getA (TX8_laysTimes.at 38 rfl) fl8_69 hH (by decide) (by decide) ?_
      refine z_ild_1 (TX8_laysTimes.at 39 rfl) ?_
      refine z_ald_0 (TX8_laysTimes.at 40 rfl) ?_
      refine z_ild_1 (TX8_laysTimes.at 41 rfl) ?_
      refine zm_callI1 (m_holdsFor eg2 (by omega) hK hL) (TX8_laysTimes.at 42 rfl) c8_137 rfl rfl hH hA (by omega) (Nat.le_of_ble_eq_true rfl) (fun x71 f71 g71 j71 h r71 q71 hH hA => ?_)
      obtain ⟨q71, xf, xg, xj⟩ := q71
      rw [xj] at hH
      have hfE := hfE.trans xf (by decide)
      have eg2 := (xg 2 (by decide)).trans eg2
      have eg31 := (xg 31 (by decide)).trans eg31
      have hgE := hgE.trans xg (by decide)
      have qL := q71
      refine zm_iastE (TX8_laysTimes.at 43 rfl) hH hA rfl (by omega) (show _ < ((8 : Nat) : Int) by omega) (by omega) (fun h g74 e1 e2 hH hA => ?_)
      have eg2 := (e1 2 (by decide)).trans eg2
      rw [eg31] at e2; have eg31 := e2
      have hgE := hgE.put e1 (by decide)
      refine z_iinc_1 (TX8_laysTimes.at 44 rfl) (Nat.le_of_ble_eq_true rfl) rfl ?_
      refine z_goto (tgt := 58) (TX8_laysTimes.at 45 rfl) rfl ?_
      exact ih (i + 1) _ _ _ (by omega) (by omega) (by omega) eg2 (eg31.trans (cpF_s i0 (by omega) q71)) hfE hgE hH hA

set_option maxHeartbeats 4000000 in
set_option maxRecDepth 100000 in
theorem m_laysTimes {l : Launch} {o : Nat} {ar : Nat → Nat} {f : mF} {g j : mA} {K : Int → Int} {B : Int → Int} {Hd : Int → Int} {y33 : Int} {cl : List Cla} (eg2 : g 2 = K) (eg30 : g 30 = B) (eg31 : g 31 = Hd) (ef33 : f 33 = y33) (hK : LawH K) (hL : LawK K cl) : MM l o ar MX8_laysTimes 48 [.ref o] f g j (PV (fun f' g' j' => (g' 30 = cpF B (brn K cl) 0 (K 76) ∧ g' 31 = cpF Hd (hld K cl) 0 8 ∧ f' 33 = msk (fun t => decide (ctc K cl t)) (K 76).toNat) ∧ eqx [22, 23, 24, 25, 33] f f' ∧ eqx [26, 30, 31] g g' ∧ j' = j)) := by
  refine MM.intro [some (.ref o), none] (by decide) (Nat.le_of_ble_eq_true rfl) rfl (fun d hd h0 h hH hA => ?_)
  have hfE : eqx [22, 23, 24, 25, 33] f f := eqx.rf
  have hgE : eqx [26, 30, 31] g g := eqx.rf
  have n0 := hK.1
  have n1 := hK.2.1
  refine z_ald_0 (TX8_laysTimes.at 0 rfl) ?_
  refine z_iconst (TX8_laysTimes.at 1 rfl) ?_
  refine zm_putIE (TX8_laysTimes.at 2 rfl) fp8_333 hH hA rfl (by decide) (by first | omega | exact b2i_01 _) (fun h f2 e1 e2 hH hA => ?_)
  have ef33 := e2
  have hfE := hfE.put e1 (by decide)
  refine z_iconst (TX8_laysTimes.at 3 rfl) ?_
  refine z_ist_1 (TX8_laysTimes.at 4 rfl) (Nat.le_of_ble_eq_true rfl) rfl ?_
  refine lp_lays1 hd hK hL (fun f7 g7 h eg2 eg30 ef33 xf xg hH hA => ?_) ((K 76).toNat + 1) 0 _ _ _ (by omega) (by omega) (by omega) eg2 (eg30.trans (cpF_0 _ _ _).symm) ef33 eqx.rf eqx.rf hH hA
  have hfE := hfE.trans xf (by decide)
  have eg31 := (xg 31 (by decide)).trans eg31
  have hgE := hgE.trans xg (by decide)
  refine z_iconst (TX8_laysTimes.at 32 rfl) ?_
  refine z_ist_1 (TX8_laysTimes.at 33 rfl) (Nat.le_of_ble_eq_true rfl) rfl ?_
  refine lp_lays2 hd hK hL (fun f58 g58 h eg2 eg31 xf xg hH hA => ?_) 9 0 _ _ _ (by omega) (by omega) (by omega) eg2 (eg31.trans (cpF_0 _ _ _).symm) eqx.rf eqx.rf hH hA
  have ef33 := (xf 33 (by decide)).trans ef33
  have hfE := hfE.trans xf (by decide)
  have eg30 := (xg 30 (by decide)).trans eg30
  have hgE := hgE.trans xg (by decide)
  refine zm_vret (TX8_laysTimes.at 46 rfl) rfl hH hA ?_
  exact ⟨⟨eg30, eg31, ef33⟩, hfE, hgE, rfl⟩

