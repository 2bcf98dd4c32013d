/-! ===== the reference: copies, the frame's own words, what is kept ===== -/
def cpy (D S : Int → Int) (a b i : Int) : Int → Int := fun t => if a ≤ t ∧ t < a + i then S (t - a + b) else D t
theorem cpy_0 (D S : Int → Int) (a b : Int) : cpy D S a b 0 = D := by funext t; unfold cpy; rw [if_neg (by omega)]
theorem cpy_s {D S : Int → Int} {a b i x y : Int} (h0 : 0 ≤ i) (hx : x = a + i) (hy : y = b + i) : iu (cpy D S a b i) x (S y) = cpy D S a b (i + 1) := by
  subst hx; subst hy
  funext t
  unfold iu cpy
  by_cases e : t = a + i
  · rw [if_pos e, if_pos (by omega)]; congr 1; omega
  · rw [if_neg e]
    by_cases e2 : a ≤ t ∧ t < a + i
    · rw [if_pos e2, if_pos (by omega)]
    · rw [if_neg e2, if_neg (by omega)]
/-- a row moved down by w, its first i places -/
def shd (D : Int → Int) (w i : Int) : Int → Int := fun t => if 0 ≤ t ∧ t < i then D (t + w) else D t
theorem shd_0 (D : Int → Int) (w : Int) : shd D w 0 = D := by funext t; unfold shd; rw [if_neg (by omega)]
theorem shd_s {D : Int → Int} {w i y : Int} (h0 : 0 ≤ i) (hw : 0 ≤ w) (hy : y = i + w) : iu (shd D w i) i (shd D w i y) = shd D w (i + 1) := by
  subst hy
  funext t
  unfold iu shd
  by_cases e : t = i
  · subst e; rw [if_pos rfl, if_neg (by omega), if_pos (by omega)]
  · rw [if_neg e]
    by_cases e2 : 0 ≤ t ∧ t < i
    · rw [if_pos e2, if_pos (by omega)]
    · rw [if_neg e2, if_neg (by omega)]
def addK (K : Int → Int) (a b c e : Int) : Int → Int := iu (iu (iu (iu (iu (iu K (29 + K 76) a) (39 + K 76) b) (10 + K 76) c) (49 + K 76) e) (0 + K 76) 0) 76 (K 76 + 1)
set_option maxHeartbeats 4000000 in
set_option maxRecDepth 100000 in
theorem lp_laysAside {l : Launch} {o : Nat} {ar : Nat → Nat} {d : Nat} {Pz : Option Value → zH → Prop} {h0 : zH} {f0 : mF} {g0 : mA} {j : mA} {X5 K : Int → Int} {k : Int} (k0 : 0 ≤ k) (k1 : k ≤ 1) (kx : ∀ (f : mF) (g : mA) (h : zH), g 5 = cpy X5 K (29 * k) 0 29 → g 2 = K → eqx [] f0 f → eqx [5] g0 g → HM o ar f g j h → zAg o ar h0 h → Z l MX8_laysAside d 0 0 Pz 31 [some (.ref o), some (vI k), some (vI 29)] [] h 0 0)   : ∀ (n : Nat) (i : Int) (f : mF) (g : mA) (h : zH) (i0 : 0 ≤ i) (i1 : i ≤ 29) (i2 : 29 < i + n) (eg5 : g 5 = cpy X5 K (29 * k) 0 i) (eg2 : g 2 = K) (hfE : eqx [] f0 f) (hgE : eqx [5] g0 g) (hH : HM o ar f g j h) (hA : zAg o ar h0 h), Z l MX8_laysAside d 0 0 Pz 2 [some (.ref o), some (vI k), some (vI i)] [] h 0 0 := by
  intro n
  induction n with
  | zero => intro i f g h i0 i1 i2 eg5 eg2 hfE hgE hH hA; exfalso; omega
  | succ n ih =>
    intro i f g h i0 i1 i2 eg5 eg2 hfE hgE hH hA
    refine z_ild_2 (TX8_laysAside.at 2 rfl) ?_
    refine z_bipush (by decide) (TX8_laysAside.at 3 rfl) ?_
    refine z_icmp_ge (tgt := 31) (TX8_laysAside.at 4 rfl) rfl (by omega) (by omega) (fun c1 => ?_) (fun c1 => ?_)
    · skip
      obtain rfl : i = 29 := by omega
      exact kx _ _ _ eg5 eg2  hfE hgE hH hA
    · skip
      refine z_ald_0 (TX8_laysAside.at 5 rfl) ?_
      refine zm_getA (TX8_laysAside.at 6 rfl) fl8_38 hH (by decide) (by decide) ?_
      refine z_bipush (by decide) (TX8_laysAside.at 7 rfl) ?_
      refine z_ild_1 (TX8_laysAside.at 8 rfl) ?_
      refine z_imul (TX8_laysAside.at 9 rfl) ?_
      refine z_ild_2 (TX8_laysAside.at 10 rfl) ?_
      refine z_iadd (TX8_laysAside.at 11 rfl) ?_
      refine z_ald_0 (TX8_laysAside.at 12 rfl) ?_
      refine zm_getA (TX8_laysAside.at 13 rfl) fl8_28 hH (by decide) (by decide) ?_
      refine z_ild_2 (TX8_laysAside.at 14 rfl) ?_
      refine zm_ialdE eg2 (TX8_laysAside.at 15 rfl) hH rfl (by omega) (show _ < ((5688 : Nat) : Int) by omega) (fun r23 => ?_)
      refine zm_iastE (TX8_laysAside.at 16 rfl) hH hA rfl (by omega) (show _ < ((58 : Nat) : Int) by omega) (by omega) (fun h g24 e1 e2 hH hA => ?_)
      rw [eg5] at e2; have eg5 := e2
      have eg2 := (e1 2 (by decide)).trans eg2
      have hgE := hgE.put e1 (by decide)
      refine z_iinc_2 (TX8_laysAside.at 17 rfl) (Nat.le_of_ble_eq_true rfl) rfl ?_
      refine z_goto (tgt := 2) (TX8_laysAside.at 18 rfl) rfl ?_
      exact ih (i + 1) _ _ _ (by omega) (by omega) (by omega) (by rw [cpy_s (by omega) (by omega) (by omega)] at eg5; exact eg5) eg2 hfE hgE hH hA

set_option maxHeartbeats 4000000 in
set_option maxRecDepth 100000 in
theorem m_laysAside {l : Launch} {o : Nat} {ar : Nat → Nat} {f : mF} {g j : mA} {K : Int → Int} {X5 : Int → Int} {k : Int}  (eg2 : g 2 = K) (eg5 : g 5 = X5) (hk : zIn k) (k0 : 0 ≤ k) (k1 : k ≤ 1) : MM l o ar MX8_laysAside 0 [.ref o, vI k] f g j (PV (fun f' g' j' => (g' 5 = cpy X5 K (29 * k) 0 29) ∧ eqx [] f f' ∧ eqx [5] g g' ∧ j' = j)) := by
  refine MM.intro [some (.ref o), some (vI k), none] (by decide) (Nat.le_of_ble_eq_true rfl) rfl (fun d hd h0 h hH hA => ?_)
  have hfE : eqx [] f f := eqx.rf
  have hgE : eqx [5] g g := eqx.rf
  refine z_iconst (TX8_laysAside.at 0 rfl) ?_
  refine z_ist_2 (TX8_laysAside.at 1 rfl) (Nat.le_of_ble_eq_true rfl) rfl ?_
  exact lp_laysAside k0 k1 (fun f g h e1 e2 hfE hgE hH hA => by
      refine zm_vret (TX8_laysAside.at 19 rfl) rfl hH hA ?_
      exact ⟨e1, hfE, hgE, rfl⟩) 30 0 _ _ _ (by omega) (by omega) (by omega) (by rw [cpy_0]; exact eg5) eg2 hfE hgE hH hA

set_option maxHeartbeats 4000000 in
set_option maxRecDepth 100000 in
theorem lp_takesBack {l : Launch} {o : Nat} {ar : Nat → Nat} {d : Nat} {Pz : Option Value → zH → Prop} {h0 : zH} {f0 : mF} {g0 : mA} {j : mA} {K X5 : Int → Int} {k : Int} (k0 : 0 ≤ k) (k1 : k ≤ 1) (kx : ∀ (f : mF) (g : mA) (h : zH), g 2 = cpy K X5 0 (29 * k) 29 → g 5 = X5 → eqx [] f0 f → eqx [2] g0 g → HM o ar f g j h → zAg o ar h0 h → Z l MX8_takesBack d 0 0 Pz 31 [some (.ref o), some (vI k), some (vI 29)] [] h 0 0)   : ∀ (n : Nat) (i : Int) (f : mF) (g : mA) (h : zH) (i0 : 0 ≤ i) (i1 : i ≤ 29) (i2 : 29 < i + n) (eg2 : g 2 = cpy K X5 0 (29 * k) i) (eg5 : g 5 = X5) (hfE : eqx [] f0 f) (hgE : eqx [2] g0 g) (hH : HM o ar f g j h) (hA : zAg o ar h0 h), Z l MX8_takesBack d 0 0 Pz 2 [some (.ref o), some (vI k), some (vI i)] [] h 0 0 := by
  intro n
  induction n with
  | zero => intro i f g h i0 i1 i2 eg2 eg5 hfE hgE hH hA; exfalso; omega
  | succ n ih =>
    intro i f g h i0 i1 i2 eg2 eg5 hfE hgE hH hA
    refine z_ild_2 (TX8_takesBack.at 2 rfl) ?_
    refine z_bipush (by decide) (TX8_takesBack.at 3 rfl) ?_
    refine z_icmp_ge (tgt := 31) (TX8_takesBack.at 4 rfl) rfl (by omega) (by omega) (fun c1 => ?_) (fun c1 => ?_)
    · skip
      obtain rfl : i = 29 := by omega
      exact kx _ _ _ eg2 eg5  hfE hgE hH hA
    · skip
      refine z_ald_0 (TX8_takesBack.at 5 rfl) ?_
      refine zm_getA (TX8_takesBack.at 6 rfl) fl8_28 hH (by decide) (by decide) ?_
      refine z_ild_2 (TX8_takesBack.at 7 rfl) ?_
      refine z_ald_0 (TX8_takesBack.at 8 rfl) ?_
      refine zm_getA (TX8_takesBack.at 9 rfl) fl8_38 hH (by decide) (by decide) ?_
      refine z_bipush (by decide) (TX8_takesBack.at 10 rfl) ?_
      refine z_ild_1 (TX8_takesBack.at 11 rfl) ?_
      refine z_imul (TX8_takesBack.at 12 rfl) ?_
      refine z_ild_2 (TX8_takesBack.at 13 rfl) ?_
      refine z_iadd (TX8_takesBack.at 14 rfl) ?_
      refine zm_ialdE eg5 (TX8_takesBack.at 15 rfl) hH rfl (by omega) (show _ < ((58 : Nat) : Int) by omega) (fun r23 => ?_)
      refine zm_iastE (TX8_takesBack.at 16 rfl) hH hA rfl (by omega) (show _ < ((5688 : Nat) : Int) by omega) (by omega) (fun h g24 e1 e2 hH hA => ?_)
      rw [eg2] at e2; have eg2 := e2
      have eg5 := (e1 5 (by decide)).trans eg5
      have hgE := hgE.put e1 (by decide)
      refine z_iinc_2 (TX8_takesBack.at 17 rfl) (Nat.le_of_ble_eq_true rfl) rfl ?_
      refine z_goto (tgt := 2) (TX8_takesBack.at 18 rfl) rfl ?_
      exact ih (i + 1) _ _ _ (by omega) (by omega) (by omega) (by rw [cpy_s (by omega) (by omega) (by omega)] at eg2; exact eg2) eg5 hfE hgE hH hA

set_option maxHeartbeats 4000000 in
set_option maxRecDepth 100000 in
theorem m_takesBack {l : Launch} {o : Nat} {ar : Nat → Nat} {f : mF} {g j : mA} {K : Int → Int} {X5 : Int → Int} {k : Int}  (eg2 : g 2 = K) (eg5 : g 5 = X5) (hk : zIn k) (k0 : 0 ≤ k) (k1 : k ≤ 1) : MM l o ar MX8_takesBack 0 [.ref o, vI k] f g j (PV (fun f' g' j' => (g' 2 = cpy K X5 0 (29 * k) 29) ∧ eqx [] f f' ∧ eqx [2] g g' ∧ j' = j)) := by
  refine MM.intro [some (.ref o), some (vI k), none] (by decide) (Nat.le_of_ble_eq_true rfl) rfl (fun d hd h0 h hH hA => ?_)
  have hfE : eqx [] f f := eqx.rf
  have hgE : eqx [2] g g := eqx.rf
  refine z_iconst (TX8_takesBack.at 0 rfl) ?_
  refine z_ist_2 (TX8_takesBack.at 1 rfl) (Nat.le_of_ble_eq_true rfl) rfl ?_
  exact lp_takesBack k0 k1 (fun f g h e1 e2 hfE hgE hH hA => by
      refine zm_vret (TX8_takesBack.at 19 rfl) rfl hH hA ?_
      exact ⟨e1, hfE, hgE, rfl⟩) 30 0 _ _ _ (by omega) (by omega) (by omega) (by rw [cpy_0]; exact eg2) eg5 hfE hgE hH hA

set_option maxHeartbeats 4000000 in
set_option maxRecDepth 100000 in
theorem m_adds {l : Launch} {o : Nat} {ar : Nat → Nat} {f : mF} {g j : mA} {K : Int → Int} {a b c e : Int}  (eg2 : g 2 = K) (ha : zIn a) (hb : zIn b) (hc : zIn c) (he : zIn e) (n0 : 0 ≤ K 76) (n1 : K 76 < 10) : MM l o ar MX8_adds 1 [.ref o, vI a, vI b, vI c, vI e] f g j (PV (fun f' g' j' => (g' 2 = addK K a b c e) ∧ eqx [] f f' ∧ eqx [2] g g' ∧ j' = j)) := by
  refine MM.intro [some (.ref o), some (vI a), some (vI b), some (vI c), some (vI e), none] (by decide) (Nat.le_of_ble_eq_true rfl) rfl (fun d hd h0 h hH hA => ?_)
  have hfE : eqx [] f f := eqx.rf
  have hgE : eqx [2] g g := eqx.rf
  refine z_ald_0 (TX8_adds.at 0 rfl) ?_
  refine zm_callP0 (m_fuseMany) (TX8_adds.at 1 rfl) c8_109 rfl rfl hH hA (by omega) (Nat.le_of_ble_eq_true rfl) (fun h r1 hH hA => ?_)
  rw [eg2] at r1 ⊢
  refine z_ist_5 (TX8_adds.at 2 rfl) (Nat.le_of_ble_eq_true rfl) rfl ?_
  refine z_ald_0 (TX8_adds.at 3 rfl) ?_
  refine zm_getA (TX8_adds.at 4 rfl) fl8_28 hH (by decide) (by decide) ?_
  refine z_bipush (by decide) (TX8_adds.at 5 rfl) ?_
  refine z_ild_5 (TX8_adds.at 6 rfl) ?_
  refine z_iadd (TX8_adds.at 7 rfl) ?_
  refine z_ild_1 (TX8_adds.at 8 rfl) ?_
  refine zm_iastE (TX8_adds.at 9 rfl) hH hA rfl (by omega) (show _ < ((5688 : Nat) : Int) by omega) (by omega) (fun h g16 e1 e2 hH hA => ?_)
  rw [eg2] at e2; have eg2 := e2
  have hgE := hgE.put e1 (by decide)
  refine z_ald_0 (TX8_adds.at 10 rfl) ?_
  refine zm_getA (TX8_adds.at 11 rfl) fl8_28 hH (by decide) (by decide) ?_
  refine z_bipush (by decide) (TX8_adds.at 12 rfl) ?_
  refine z_ild_5 (TX8_adds.at 13 rfl) ?_
  refine z_iadd (TX8_adds.at 14 rfl) ?_
  refine z_ild_2 (TX8_adds.at 15 rfl) ?_
  refine zm_iastE (TX8_adds.at 16 rfl) hH hA rfl (by omega) (show _ < ((5688 : Nat) : Int) by omega) (by omega) (fun h g27 e1 e2 hH hA => ?_)
  rw [eg2] at e2; have eg2 := e2
  have hgE := hgE.put e1 (by decide)
  refine z_ald_0 (TX8_adds.at 17 rfl) ?_
  refine zm_getA (TX8_adds.at 18 rfl) fl8_28 hH (by decide) (by decide) ?_
  refine z_bipush (by decide) (TX8_adds.at 19 rfl) ?_
  refine z_ild_5 (TX8_adds.at 20 rfl) ?_
  refine z_iadd (TX8_adds.at 21 rfl) ?_
  refine z_ild_3 (TX8_adds.at 22 rfl) ?_
  refine zm_iastE (TX8_adds.at 23 rfl) hH hA rfl (by omega) (show _ < ((5688 : Nat) : Int) by omega) (by omega) (fun h g38 e1 e2 hH hA => ?_)
  rw [eg2] at e2; have eg2 := e2
  have hgE := hgE.put e1 (by decide)
  refine z_ald_0 (TX8_adds.at 24 rfl) ?_
  refine zm_getA (TX8_adds.at 25 rfl) fl8_28 hH (by decide) (by decide) ?_
  refine z_bipush (by decide) (TX8_adds.at 26 rfl) ?_
  refine z_ild_5 (TX8_adds.at 27 rfl) ?_
  refine z_iadd (TX8_adds.at 28 rfl) ?_
  refine z_ild_4 (TX8_adds.at 29 rfl) ?_
  refine zm_iastE (TX8_adds.at 30 rfl) hH hA rfl (by omega) (show _ < ((5688 : Nat) : Int) by omega) (by omega) (fun h g50 e1 e2 hH hA => ?_)
  rw [eg2] at e2; have eg2 := e2
  have hgE := hgE.put e1 (by decide)
  refine z_ald_0 (TX8_adds.at 31 rfl) ?_
  refine zm_getA (TX8_adds.at 32 rfl) fl8_28 hH (by decide) (by decide) ?_
  refine z_iconst (TX8_adds.at 33 rfl) ?_
  refine z_ild_5 (TX8_adds.at 34 rfl) ?_
  refine z_iadd (TX8_adds.at 35 rfl) ?_
  refine z_iconst (TX8_adds.at 36 rfl) ?_
  refine zm_iastE (TX8_adds.at 37 rfl) hH hA rfl (by omega) (show _ < ((5688 : Nat) : Int) by omega) (by omega) (fun h g60 e1 e2 hH hA => ?_)
  rw [eg2] at e2; have eg2 := e2
  have hgE := hgE.put e1 (by decide)
  refine z_ald_0 (TX8_adds.at 38 rfl) ?_
  refine zm_getA (TX8_adds.at 39 rfl) fl8_28 hH (by decide) (by decide) ?_
  refine z_bipush (by decide) (TX8_adds.at 40 rfl) ?_
  refine z_dup2 rfl rfl (TX8_adds.at 41 rfl) ?_
  refine zm_ialdE eg2 (TX8_adds.at 42 rfl) hH rfl (by omega) (show _ < ((5688 : Nat) : Int) by omega) (fun r68 => ?_)
  simp (disch := omega) only [iu_ne] at r68 ⊢
  refine z_iconst (TX8_adds.at 43 rfl) ?_
  refine z_iadd (TX8_adds.at 44 rfl) ?_
  refine zm_iastE (TX8_adds.at 45 rfl) hH hA rfl (by omega) (show _ < ((5688 : Nat) : Int) by omega) (by omega) (fun h g71 e1 e2 hH hA => ?_)
  rw [eg2] at e2; have eg2 := e2
  have hgE := hgE.put e1 (by decide)
  refine zm_vret (TX8_adds.at 46 rfl) rfl hH hA ?_
  exact ⟨by rw [eg2]; rfl, hfE, hgE, rfl⟩

set_option maxHeartbeats 4000000 in
set_option maxRecDepth 100000 in
theorem m_ash {l : Launch} {o : Nat} {ar : Nat → Nat} {f : mF} {g j : mA} {x6 : Int}  (ef6 : f 6 = x6)  : MM l o ar MX8_ash 0 [.ref o] f g j (PI (fun r f' g' j' => (r = x6) ∧ eqx [] f f' ∧ eqx [] g g' ∧ j' = j)) := by
  refine MM.intro [some (.ref o)] (by decide) (Nat.le_of_ble_eq_true rfl) rfl (fun d hd h0 h hH hA => ?_)
  have hfE : eqx [] f f := eqx.rf
  have hgE : eqx [] g g := eqx.rf
  refine z_ald_0 (TX8_ash.at 0 rfl) ?_
  refine zm_getIE ef6 (TX8_ash.at 1 rfl) fl8_153 hH rfl (by decide) (fun r1 => ?_)
  refine zm_iret (TX8_ash.at 2 rfl) rfl hH hA (by omega) ?_
  exact ⟨rfl, hfE, hgE, rfl⟩

set_option maxHeartbeats 4000000 in
set_option maxRecDepth 100000 in
theorem m_fault {l : Launch} {o : Nat} {ar : Nat → Nat} {f : mF} {g j : mA} {x14 : Int}  (ef14 : f 14 = x14)  : MM l o ar MX8_fault 0 [.ref o] f g j (PI (fun r f' g' j' => (r = x14) ∧ eqx [] f f' ∧ eqx [] g g' ∧ j' = j)) := by
  refine MM.intro [some (.ref o)] (by decide) (Nat.le_of_ble_eq_true rfl) rfl (fun d hd h0 h hH hA => ?_)
  have hfE : eqx [] f f := eqx.rf
  have hgE : eqx [] g g := eqx.rf
  refine z_ald_0 (TX8_fault.at 0 rfl) ?_
  refine zm_getIE ef14 (TX8_fault.at 1 rfl) fl8_51 hH rfl (by decide) (fun r1 => ?_)
  refine zm_iret (TX8_fault.at 2 rfl) rfl hH hA (by omega) ?_
  exact ⟨rfl, hfE, hgE, rfl⟩

set_option maxHeartbeats 4000000 in
set_option maxRecDepth 100000 in
theorem m_stopped {l : Launch} {o : Nat} {ar : Nat → Nat} {f : mF} {g j : mA} {x40 : Int}  (ef40 : f 40 = x40)  : MM l o ar MX8_stopped 0 [.ref o] f g j (PI (fun r f' g' j' => (r = x40) ∧ eqx [] f f' ∧ eqx [] g g' ∧ j' = j)) := by
  refine MM.intro [some (.ref o)] (by decide) (Nat.le_of_ble_eq_true rfl) rfl (fun d hd h0 h hH hA => ?_)
  have hfE : eqx [] f f := eqx.rf
  have hgE : eqx [] g g := eqx.rf
  refine z_ald_0 (TX8_stopped.at 0 rfl) ?_
  refine zm_getIE ef40 (TX8_stopped.at 1 rfl) fl8_91 hH rfl (by decide) (fun r1 => ?_)
  refine zm_iret (TX8_stopped.at 2 rfl) rfl hH hA (by omega) ?_
  exact ⟨rfl, hfE, hgE, rfl⟩

set_option maxHeartbeats 4000000 in
set_option maxRecDepth 100000 in
theorem m_status {l : Launch} {o : Nat} {ar : Nat → Nat} {f : mF} {g j : mA} {x0 : Int}  (ef0 : f 0 = x0)  : MM l o ar MX8_status 0 [.ref o] f g j (PI (fun r f' g' j' => (r = x0) ∧ eqx [] f f' ∧ eqx [] g g' ∧ j' = j)) := by
  refine MM.intro [some (.ref o)] (by decide) (Nat.le_of_ble_eq_true rfl) rfl (fun d hd h0 h hH hA => ?_)
  have hfE : eqx [] f f := eqx.rf
  have hgE : eqx [] g g := eqx.rf
  refine z_ald_0 (TX8_status.at 0 rfl) ?_
  refine zm_getIE ef0 (TX8_status.at 1 rfl) fl8_3 hH rfl (by decide) (fun r1 => ?_)
  refine zm_iret (TX8_status.at 2 rfl) rfl hH hA (by omega) ?_
  exact ⟨rfl, hfE, hgE, rfl⟩

set_option maxHeartbeats 4000000 in
set_option maxRecDepth 100000 in
theorem m_end {l : Launch} {o : Nat} {ar : Nat → Nat} {f : mF} {g j : mA} {x13 : Int} {n : Int}  (ef13 : f 13 = x13) (hn : zIn n) : MM l o ar MX8_end 1 [.ref o, vI n] f g j (PI (fun r f' g' j' => (r = (if 0 ≤ n ∧ n ≤ x13 then n else -1) ∧ f' 13 = (if 0 ≤ n ∧ n ≤ x13 then n else x13)) ∧ eqx [13] f f' ∧ eqx [] g g' ∧ j' = j)) := by
  refine MM.intro [some (.ref o), some (vI n)] (by decide) (Nat.le_of_ble_eq_true rfl) rfl (fun d hd h0 h hH hA => ?_)
  have hfE : eqx [13] f f := eqx.rf
  have hgE : eqx [] g g := eqx.rf
  refine z_ild_1 (TX8_end.at 0 rfl) ?_
  refine z_iconst (TX8_end.at 1 rfl) ?_
  refine z_ald_0 (TX8_end.at 2 rfl) ?_
  refine zm_getIE ef13 (TX8_end.at 3 rfl) fl8_150 hH rfl (by decide) (fun r3 => ?_)
  refine zs_call3 (s_lies (by omega) (by omega) (by omega)) (TX8_end.at 4 rfl) c8_18 rfl (by omega) (Nat.le_of_ble_eq_true rfl) (fun r6 => ?_)
  refine z_if_neB (tgt := 14) (TX8_end.at 5 rfl) rfl (fun c1 => ?_) (fun c1 => ?_)
  · skip
    refine z_ald_0 (TX8_end.at 8 rfl) ?_
    refine z_ild_1 (TX8_end.at 9 rfl) ?_
    refine zm_putIE (TX8_end.at 10 rfl) fp8_150 hH hA rfl (by decide) (by first | omega | exact b2i_01 _) (fun h f16 e1 e2 hH hA => ?_)
    have ef13 := e2
    have hfE := hfE.put e1 (by decide)
    refine z_ild_1 (TX8_end.at 11 rfl) ?_
    refine zm_iret (TX8_end.at 12 rfl) rfl hH hA (by omega) ?_
    exact ⟨⟨by rw [if_pos (by omega)], by rw [ef13, if_pos (by omega)]⟩, hfE, hgE, rfl⟩
  · skip
    refine z_iconst (TX8_end.at 6 rfl) ?_
    refine zm_iret (TX8_end.at 7 rfl) rfl hH hA (by omega) ?_
    exact ⟨⟨by rw [if_neg (by omega)], by rw [ef13, if_neg (by omega)]⟩, hfE, hgE, rfl⟩

