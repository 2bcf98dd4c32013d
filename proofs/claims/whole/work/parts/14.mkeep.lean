/-! ===== the reference: copies, the frame's own words, what is kept ===== -/
def cpy (D S : Int → Int) (a b i : Int) : Int → Int := fun t => if a ≤ t ∧ t < a + i then S (t - a + b) else D t
theorem cpy_0 (D S : Int → Int) (a b : Int) : cpy D S a b 0 = D := by funext t; unfold cpy; rw [if_neg (by omega)]
theorem cpy_s {D S : Int → Int} {a b i x y : Int} (h0 : 0 ≤ i) (hx : x = a + i) (hy : y = b + i) : iu (cpy D S a b i) x (S y) = cpy D S a b (i + 1) := by
  subst hx; subst hy
  funext t
  unfold iu cpy
  by_cases e : t = a + i
  · rw [if_pos e, if_pos (by omega)]; congr 1; omega
  · rw [if_neg e]
    by_cases e2 : a ≤ t ∧ t < a + i
    · rw [if_pos e2, if_pos (by omega)]
    · rw [if_neg e2, if_neg (by omega)]
/-- a row moved down by w, its first i places -/
def shd (D : Int → Int) (w i : Int) : Int → Int := fun t => if 0 ≤ t ∧ t < i then D (t + w) else D t
theorem shd_0 (D : Int → Int) (w : Int) : shd D w 0 = D := by funext t; unfold shd; rw [if_neg (by omega)]
theorem shd_s {D : Int → Int} {w i y : Int} (h0 : 0 ≤ i) (hw : 0 ≤ w) (hy : y = i + w) : iu (shd D w i) i (shd D w i y) = shd D w (i + 1) := by
  subst hy
  funext t
  unfold iu shd
  by_cases e : t = i
  · subst e; rw [if_pos rfl, if_neg (by omega), if_pos (by omega)]
  · rw [if_neg e]
    by_cases e2 : 0 ≤ t ∧ t < i
    · rw [if_pos e2, if_pos (by omega)]
    · rw [if_neg e2, if_neg (by omega)]
def addK (K : Int → Int) (a b c e : Int) : Int → Int := iu (iu (iu (iu (iu (iu K (29 + K 76) a) (39 + K 76) b) (10 + K 76) c) (49 + K 76) e) (0 + K 76) 0) 76 (K 76 + 1)
set_option maxHeartbeats 4000000 in
set_option maxRecDepth 100000 in
theorem lp_laysAside {l : Launch} {o : Nat} {ar : Nat → Nat} {d : Nat} {Pz : Option Value → zH → Prop} {h0 : zH} {f0 : mF} {g0 : mA} {j : mA}  {X5 K : Int → Int} {k : Int} (k0 : 0 ≤ k) (k1 : k ≤ 1) (kx : ∀ (f : mF) (g : mA) (h : zH), g 5 = cpy X5 K (29 * k) 0 29 → g 2 = K → eqx [] f0 f → eqx [5] g0 g → HM o ar f g j h → zAg o ar h0 h → Z l MX8_laysAside d 0 0 Pz 31 [some (.ref o), some (vI k), some (vI 29)] [] h 0 0)  : ∀ (n : Nat) (i : Int) (f : mF) (g : mA) (h : zH) (i0 : 0 ≤ i) (i1 : i ≤ 29) (i2 : 29 < i + n) (eg5 : g 5 = cpy X5 K (29 * k) 0 i) (eg2 : g 2 = K) (hfE : eqx [] f0 f) (hgE : eqx [5] g0 g) (hH : HM o ar f g j h) (hA : zAg o ar h0 h), Z l MX8_laysAside d 0 0 Pz 2 [some (.ref o), some (vI k), some (vI i)] [] h 0 0 := by
  intro n
  induction n with
  | zero => intro i f g h i0 i1 i2 eg5 eg2 hfE hgE hH hA; exfalso; omega
  | succ n ih =>
    intro i f g h i0 i1 i2 eg5 eg2 hfE hgE hH hA
    refine z_ild_2 (TX8_laysAside.at 2 rfl) ?_
    refine z_bipush (by decide) (TX8_laysAside.at 3 rfl) ?_
    refine z_icmp_ge (tgt := 31) (TX8_laysAside.at 4 rfl) rfl (by omega) (by omega) (fun c1 => ?_) (fun c1 => ?_)
    · skip
      obtain rfl : i = 29 := by omega
      exact kx _ _ _ eg5 eg2  hfE hgE hH hA
    · skip
      refine z_ald_0 (TX8_laysAside.at 5 rfl) ?_
      refine zm_getA (TX8_laysAside.at 6 rfl) fl8_38 hH (by decide) (by decide) ?_
      refine z_bipush (by decide) (TX8_laysAside.at 7 rfl) ?_
      refine z_ild_1 (TX8_laysAside.at 8 rfl) ?_
      refine z_imul (TX8_laysAside.at 9 rfl) ?_
      refine z_ild_2 (TX8_laysAside.at 10 rfl) ?_
      refine z_iadd (TX8_laysAside.at 11 rfl) ?_
      refine z_ald_0 (TX8_laysAside.at 12 rfl) ?_
      refine zm_getA (TX8_laysAside.at 13 rfl) fl8_28 hH (by decide) (by decide) ?_
      refine z_ild_2 (TX8_laysAside.at 14 rfl) ?_
      refine zm_ialdE eg2 (TX8_laysAside.at 15 rfl) hH rfl (by omega) (show _ < ((5688 : Nat) : Int) by omega) (fun r23 => ?_)
      refine zm_iastE (TX8_laysAside.at 16 rfl) hH hA rfl (by omega) (show _ < ((58 : Nat) : Int) by omega) (by omega) (fun h g24 e1 e2 hH hA => ?_)
      rw [eg5] at e2; have eg5 := e2
      have eg2 := (e1 2 (by decide)).trans eg2
      have hgE := hgE.put e1 (by decide)
      refine z_iinc_2 (TX8_laysAside.at 17 rfl) (Nat.le_of_ble_eq_true rfl) rfl ?_
      refine z_goto (tgt := 2) (TX8_laysAside.at 18 rfl) rfl ?_
      exact ih (i + 1) _ _ _ (by omega) (by omega) (by omega) (by rw [cpy_s (by omega) (by omega) (by omega)] at eg5; exact eg5) eg2 hfE hgE hH hA

set_option maxHeartbeats 4000000 in
set_option maxRecDepth 100000 in
theorem m_laysAside {l : Launch} {o : Nat} {ar : Nat → Nat} {f : mF} {g j : mA} {K : Int → Int} {X5 : Int → Int} {k : Int}  (eg2 : g 2 = K) (eg5 : g 5 = X5) (hk : zIn k) (k0 : 0 ≤ k) (k1 : k ≤ 1) : MM l o ar MX8_laysAside 0 [.ref o, vI k] f g j (PV (fun f' g' j' => (g' 5 = cpy X5 K (29 * k) 0 29) ∧ eqx [] f f' ∧ eqx [5] g g' ∧ j' = j)) := by
  refine MM.intro [some (.ref o), some (vI k), none] (by decide) (Nat.le_of_ble_eq_true rfl) rfl (fun d hd h0 h hH hA => ?_)
  have hfE : eqx [] f f := eqx.rf
  have hgE : eqx [5] g g := eqx.rf
  refine z_iconst (TX8_laysAside.at 0 rfl) ?_
  refine z_ist_2 (TX8_laysAside.at 1 rfl) (Nat.le_of_ble_eq_true rfl) rfl ?_
  exact lp_laysAside k0 k1 (fun f g h e1 e2 hfE hgE hH hA => by
      refine zm_vret (TX8_laysAside.at 19 rfl) rfl hH hA ?_
      exact ⟨e1, hfE, hgE, rfl⟩) 30 0 _ _ _ (by omega) (by omega) (by omega) (by rw [cpy_0]; exact eg5) eg2 hfE hgE hH hA

set_option maxHeartbeats 4000000 in
set_option maxRecDepth 100000 in
theorem lp_takesBack {l : Launch} {o : Nat} {ar : Nat → Nat} {d : Nat} {Pz : Option Value → zH → Prop} {h0 : zH} {f0 : mF} {g0 : mA} {j : mA}  {K X5 : Int → Int} {k : Int} (k0 : 0 ≤ k) (k1 : k ≤ 1) (kx : ∀ (f : mF) (g : mA) (h : zH), g 2 = cpy K X5 0 (29 * k) 29 → g 5 = X5 → eqx [] f0 f → eqx [2] g0 g → HM o ar f g j h → zAg o ar h0 h → Z l MX8_takesBack d 0 0 Pz 31 [some (.ref o), some (vI k), some (vI 29)] [] h 0 0)  : ∀ (n : Nat) (i : Int) (f : mF) (g : mA) (h : zH) (i0 : 0 ≤ i) (i1 : i ≤ 29) (i2 : 29 < i + n) (eg2 : g 2 = cpy K X5 0 (29 * k) i) (eg5 : g 5 = X5) (hfE : eqx [] f0 f) (hgE : eqx [2] g0 g) (hH : HM o ar f g j h) (hA : zAg o ar h0 h), Z l MX8_takesBack d 0 0 Pz 2 [some (.ref o), some (vI k), some (vI i)] [] h 0 0 := by
  intro n
  induction n with
  | zero => intro i f g h i0 i1 i2 eg2 eg5 hfE hgE hH hA; exfalso; omega
  | succ n ih =>
    intro i f g h i0 i1 i2 eg2 eg5 hfE hgE hH hA
    refine z_ild_2 (TX8_takesBack.at 2 rfl) ?_
    refine z_bipush (by decide) (TX8_takesBack.at 3 rfl) ?_
    refine z_icmp_ge (tgt := 31) (TX8_takesBack.at 4 rfl) rfl (by omega) (by omega) (fun c1 => ?_) (fun c1 => ?_)
    · skip
      obtain rfl : i = 29 := by omega
      exact kx _ _ _ eg2 eg5  hfE hgE hH hA
    · skip
      refine z_ald_0 (TX8_takesBack.at 5 rfl) ?_
      refine zm_getA (TX8_takesBack.at 6 rfl) fl8_28 hH (by decide) (by decide) ?_
      refine z_ild_2 (TX8_takesBack.at 7 rfl) ?_
      refine z_ald_0 (TX8_takesBack.at 8 rfl) ?_
      refine zm_getA (TX8_takesBack.at 9 rfl) fl8_38 hH (by decide) (by decide) ?_
      refine z_bipush (by decide) (TX8_takesBack.at 10 rfl) ?_
      refine z_ild_1 (TX8_takesBack.at 11 rfl) ?_
      refine z_imul (TX8_takesBack.at 12 rfl) ?_
      refine z_ild_2 (TX8_takesBack.at 13 rfl) ?_
      refine z_iadd (TX8_takesBack.at 14 rfl) ?_
      refine zm_ialdE eg5 (TX8_takesBack.at 15 rfl) hH rfl (by omega) (show _ < ((58 : Nat) : Int) by omega) (fun r23 => ?_)
      refine zm_iastE (TX8_takesBack.at 16 rfl) hH hA rfl (by omega) (show _ < ((5688 : Nat) : Int) by omega) (by omega) (fun h g24 e1 e2 hH hA => ?_)
      rw [eg2] at e2; have eg2 := e2
      have eg5 := (e1 5 (by decide)).trans eg5
      have hgE := hgE.put e1 (by decide)
      refine z_iinc_2 (TX8_takesBack.at 17 rfl) (Nat.le_of_ble_eq_true rfl) rfl ?_
      refine z_goto (tgt := 2) (TX8_takesBack.at 18 rfl) rfl ?_
      exact ih (i + 1) _ _ _ (by omega) (by omega) (by omega) (by rw [cpy_s (by omega) (by omega) (by omega)] at eg2; exact eg2) eg5 hfE hgE hH hA

set_option maxHeartbeats 4000000 in
set_option maxRecDepth 100000 in
theorem m_takesBack {l : Launch} {o : Nat} {ar : Nat → Nat} {f : mF} {g j : mA} {K : Int → Int} {X5 : Int → Int} {k : Int}  (eg2 : g 2 = K) (eg5 : g 5 = X5) (hk : zIn k) (k0 : 0 ≤ k) (k1 : k ≤ 1) : MM l o ar MX8_takesBack 0 [.ref o, vI k] f g j (PV (fun f' g' j' => (g' 2 = cpy K X5 0 (29 * k) 29) ∧ eqx [] f f' ∧ eqx [2] g g' ∧ j' = j)) := by
  refine MM.intro [some (.ref o), some (vI k), none] (by decide) (Nat.le_of_ble_eq_true rfl) rfl (fun d hd h0 h hH hA => ?_)
  have hfE : eqx [] f f := eqx.rf
  have hgE : eqx [2] g g := eqx.rf
  refine z_iconst (TX8_takesBack.at 0 rfl) ?_
  refine z_ist_2 (TX8_takesBack.at 1 rfl) (Nat.le_of_ble_eq_true rfl) rfl ?_
  exact lp_takesBack k0 k1 (fun f g h e1 e2 hfE hgE hH hA => by
      refine zm_vret (TX8_takesBack.at 19 rfl) rfl hH hA ?_
      exact ⟨e1, hfE, hgE, rfl⟩) 30 0 _ _ _ (by omega) (by omega) (by omega) (by rw [cpy_0]; exact eg2) eg5 hfE hgE hH hA

set_option maxHeartbeats 4000000 in
set_option maxRecDepth 100000 in
theorem m_adds {l : Launch} {o : Nat} {ar : Nat → Nat} {f : mF} {g j : mA} {K : Int → Int} {a b c e : Int}  (eg2 : g 2 = K) (ha : zIn a) (hb : zIn b) (hc : zIn c) (he : zIn e) (n0 : 0 ≤ K 76) (n1 : K 76 < 10) : MM l o ar MX8_adds 1 [.ref o, vI a, vI b, vI c, vI e] f g j (PV (fun f' g' j' => (g' 2 = addK K a b c e) ∧ eqx [] f f' ∧ eqx [2] g g' ∧ j' = j)) := by
  refine MM.intro [some (.ref o), some (vI a), some (vI b), some (vI c), some (vI e), none] (by decide) (Nat.le_of_ble_eq_true rfl) rfl (fun d hd h0 h hH hA => ?_)
  have hfE : eqx [] f f := eqx.rf
  have hgE : eqx [2] g g := eqx.rf
  refine z_ald_0 (TX8_adds.at 0 rfl) ?_
  refine zm_callP0 (m_fuseMany) (TX8_adds.at 1 rfl) c8_109 rfl rfl hH hA (by omega) (Nat.le_of_ble_eq_true rfl) (fun h r1 hH hA => ?_)
  rw [eg2] at r1 ⊢
  refine z_ist_5 (TX8_adds.at 2 rfl) (Nat.le_of_ble_eq_true rfl) rfl ?_
  refine z_ald_0 (TX8_adds.at 3 rfl) ?_
  refine zm_getA (TX8_adds.at 4 rfl) fl8_28 hH (by decide) (by decide) ?_
  refine z_bipush (by decide) (TX8_adds.at 5 rfl) ?_
  refine z_ild_5 (TX8_adds.at 6 rfl) ?_
  refine z_iadd (TX8_adds.at 7 rfl) ?_
  refine z_ild_1 (TX8_adds.at 8 rfl) ?_
  refine zm_iastE (TX8_adds.at 9 rfl) hH hA rfl (by omega) (show _ < ((5688 : Nat) : Int) by omega) (by omega) (fun h g16 e1 e2 hH hA => ?_)
  rw [eg2] at e2; have eg2 := e2
  have hgE := hgE.put e1 (by decide)
  refine z_ald_0 (TX8_adds.at 10 rfl) ?_
  refine zm_getA (TX8_adds.at 11 rfl) fl8_28 hH (by decide) (by decide) ?_
  refine z_bipush (by decide) (TX8_adds.at 12 rfl) ?_
  refine z_ild_5 (TX8_adds.at 13 rfl) ?_
  refine z_iadd (TX8_adds.at 14 rfl) ?_
  refine z_ild_2 (TX8_adds.at 15 rfl) ?_
  refine zm_iastE (TX8_adds.at 16 rfl) hH hA rfl (by omega) (show _ < ((5688 : Nat) : Int) by omega) (by omega) (fun h g27 e1 e2 hH hA => ?_)
  rw [eg2] at e2; have eg2 := e2
  have hgE := hgE.put e1 (by decide)
  refine z_ald_0 (TX8_adds.at 17 rfl) ?_
  refine zm_getA (TX8_adds.at 18 rfl) fl8_28 hH (by decide) (by decide) ?_
  refine z_bipush (by decide) (TX8_adds.at 19 rfl) ?_
  refine z_ild_5 (TX8_adds.at 20 rfl) ?_
  refine z_iadd (TX8_adds.at 21 rfl) ?_
  refine z_ild_3 (TX8_adds.at 22 rfl) ?_
  refine zm_iastE (TX8_adds.at 23 rfl) hH hA rfl (by omega) (show _ < ((5688 : Nat) : Int) by omega) (by omega) (fun h g38 e1 e2 hH hA => ?_)
  rw [eg2] at e2; have eg2 := e2
  have hgE := hgE.put e1 (by decide)
  refine z_ald_0 (TX8_adds.at 24 rfl) ?_
  refine zm_getA (TX8_adds.at 25 rfl) fl8_28 hH (by decide) (by decide) ?_
  refine z_bipush (by decide) (TX8_adds.at 26 rfl) ?_
  refine z_ild_5 (TX8_adds.at 27 rfl) ?_
  refine z_iadd (TX8_adds.at 28 rfl) ?_
  refine z_ild_4 (TX8_adds.at 29 rfl) ?_
  refine zm_iastE (TX8_adds.at 30 rfl) hH hA rfl (by omega) (show _ < ((5688 : Nat) : Int) by omega) (by omega) (fun h g50 e1 e2 hH hA => ?_)
  rw [eg2] at e2; have eg2 := e2
  have hgE := hgE.put e1 (by decide)
  refine z_ald_0 (TX8_adds.at 31 rfl) ?_
  refine zm_getA (TX8_adds.at 32 rfl) fl8_28 hH (by decide) (by decide) ?_
  refine z_iconst (TX8_adds.at 33 rfl) ?_
  refine z_ild_5 (TX8_adds.at 34 rfl) ?_
  refine z_iadd (TX8_adds.at 35 rfl) ?_
  refine z_iconst (TX8_adds.at 36 rfl) ?_
  refine zm_iastE (TX8_adds.at 37 rfl) hH hA rfl (by omega) (show _ < ((5688 : Nat) : Int) by omega) (by omega) (fun h g60 e1 e2 hH hA => ?_)
  rw [eg2] at e2; have eg2 := e2
  have hgE := hgE.put e1 (by decide)
  refine z_ald_0 (TX8_adds.at 38 rfl) ?_
  refine zm_getA (TX8_adds.at 39 rfl) fl8_28 hH (by decide) (by decide) ?_
  refine z_bipush (by decide) (TX8_adds.at 40 rfl) ?_
  refine z_dup2 rfl rfl (TX8_adds.at 41 rfl) ?_
  refine zm_ialdE eg2 (TX8_adds.at 42 rfl) hH rfl (by omega) (show _ < ((5688 : Nat) : Int) by omega) (fun r68 => ?_)
  simp (disch := omega) only [iu_ne] at r68 ⊢
  refine z_iconst (TX8_adds.at 43 rfl) ?_
  refine z_iadd (TX8_adds.at 44 rfl) ?_
  refine zm_iastE (TX8_adds.at 45 rfl) hH hA rfl (by omega) (show _ < ((5688 : Nat) : Int) by omega) (by omega) (fun h g71 e1 e2 hH hA => ?_)
  rw [eg2] at e2; have eg2 := e2
  have hgE := hgE.put e1 (by decide)
  refine zm_vret (TX8_adds.at 46 rfl) rfl hH hA ?_
  exact ⟨by rw [eg2]; rfl, hfE, hgE, rfl⟩

set_option maxHeartbeats 4000000 in
set_option maxRecDepth 100000 in
theorem m_ash {l : Launch} {o : Nat} {ar : Nat → Nat} {f : mF} {g j : mA} {x6 : Int}  (ef6 : f 6 = x6)  : MM l o ar MX8_ash 0 [.ref o] f g j (PI (fun r f' g' j' => (r = x6) ∧ eqx [] f f' ∧ eqx [] g g' ∧ j' = j)) := by
  refine MM.intro [some (.ref o)] (by decide) (Nat.le_of_ble_eq_true rfl) rfl (fun d hd h0 h hH hA => ?_)
  have hfE : eqx [] f f := eqx.rf
  have hgE : eqx [] g g := eqx.rf
  refine z_ald_0 (TX8_ash.at 0 rfl) ?_
  refine zm_getIE ef6 (TX8_ash.at 1 rfl) fl8_153 hH rfl (by decide) (fun r1 => ?_)
  refine zm_iret (TX8_ash.at 2 rfl) rfl hH hA (by omega) ?_
  exact ⟨rfl, hfE, hgE, rfl⟩

set_option maxHeartbeats 4000000 in
set_option maxRecDepth 100000 in
theorem m_fault {l : Launch} {o : Nat} {ar : Nat → Nat} {f : mF} {g j : mA} {x14 : Int}  (ef14 : f 14 = x14)  : MM l o ar MX8_fault 0 [.ref o] f g j (PI (fun r f' g' j' => (r = x14) ∧ eqx [] f f' ∧ eqx [] g g' ∧ j' = j)) := by
  refine MM.intro [some (.ref o)] (by decide) (Nat.le_of_ble_eq_true rfl) rfl (fun d hd h0 h hH hA => ?_)
  have hfE : eqx [] f f := eqx.rf
  have hgE : eqx [] g g := eqx.rf
  refine z_ald_0 (TX8_fault.at 0 rfl) ?_
  refine zm_getIE ef14 (TX8_fault.at 1 rfl) fl8_51 hH rfl (by decide) (fun r1 => ?_)
  refine zm_iret (TX8_fault.at 2 rfl) rfl hH hA (by omega) ?_
  exact ⟨rfl, hfE, hgE, rfl⟩

set_option maxHeartbeats 4000000 in
set_option maxRecDepth 100000 in
theorem m_stopped {l : Launch} {o : Nat} {ar : Nat → Nat} {f : mF} {g j : mA} {x40 : Int}  (ef40 : f 40 = x40)  : MM l o ar MX8_stopped 0 [.ref o] f g j (PI (fun r f' g' j' => (r = x40) ∧ eqx [] f f' ∧ eqx [] g g' ∧ j' = j)) := by
  refine MM.intro [some (.ref o)] (by decide) (Nat.le_of_ble_eq_true rfl) rfl (fun d hd h0 h hH hA => ?_)
  have hfE : eqx [] f f := eqx.rf
  have hgE : eqx [] g g := eqx.rf
  refine z_ald_0 (TX8_stopped.at 0 rfl) ?_
  refine zm_getIE ef40 (TX8_stopped.at 1 rfl) fl8_91 hH rfl (by decide) (fun r1 => ?_)
  refine zm_iret (TX8_stopped.at 2 rfl) rfl hH hA (by omega) ?_
  exact ⟨rfl, hfE, hgE, rfl⟩

set_option maxHeartbeats 4000000 in
set_option maxRecDepth 100000 in
theorem m_status {l : Launch} {o : Nat} {ar : Nat → Nat} {f : mF} {g j : mA} {x0 : Int}  (ef0 : f 0 = x0)  : MM l o ar MX8_status 0 [.ref o] f g j (PI (fun r f' g' j' => (r = x0) ∧ eqx [] f f' ∧ eqx [] g g' ∧ j' = j)) := by
  refine MM.intro [some (.ref o)] (by decide) (Nat.le_of_ble_eq_true rfl) rfl (fun d hd h0 h hH hA => ?_)
  have hfE : eqx [] f f := eqx.rf
  have hgE : eqx [] g g := eqx.rf
  refine z_ald_0 (TX8_status.at 0 rfl) ?_
  refine zm_getIE ef0 (TX8_status.at 1 rfl) fl8_3 hH rfl (by decide) (fun r1 => ?_)
  refine zm_iret (TX8_status.at 2 rfl) rfl hH hA (by omega) ?_
  exact ⟨rfl, hfE, hgE, rfl⟩

set_option maxHeartbeats 4000000 in
set_option maxRecDepth 100000 in
theorem m_end {l : Launch} {o : Nat} {ar : Nat → Nat} {f : mF} {g j : mA} {x13 : Int} {n : Int}  (ef13 : f 13 = x13) (hn : zIn n) : MM l o ar MX8_end 1 [.ref o, vI n] f g j (PI (fun r f' g' j' => (r = (if 0 ≤ n ∧ n ≤ x13 then n else -1) ∧ f' 13 = (if 0 ≤ n ∧ n ≤ x13 then n else x13)) ∧ eqx [13] f f' ∧ eqx [] g g' ∧ j' = j)) := by
  refine MM.intro [some (.ref o), some (vI n)] (by decide) (Nat.le_of_ble_eq_true rfl) rfl (fun d hd h0 h hH hA => ?_)
  have hfE : eqx [13] f f := eqx.rf
  have hgE : eqx [] g g := eqx.rf
  refine z_ild_1 (TX8_end.at 0 rfl) ?_
  refine z_iconst (TX8_end.at 1 rfl) ?_
  refine z_ald_0 (TX8_end.at 2 rfl) ?_
  refine zm_getIE ef13 (TX8_end.at 3 rfl) fl8_150 hH rfl (by decide) (fun r3 => ?_)
  refine zs_call3 (s_lies (by omega) (by omega) (by omega)) (TX8_end.at 4 rfl) c8_18 rfl (by omega) (Nat.le_of_ble_eq_true rfl) (fun r6 => ?_)
  refine z_if_neB (tgt := 14) (TX8_end.at 5 rfl) rfl (fun c1 => ?_) (fun c1 => ?_)
  · skip
    refine z_ald_0 (TX8_end.at 8 rfl) ?_
    refine z_ild_1 (TX8_end.at 9 rfl) ?_
    refine zm_putIE (TX8_end.at 10 rfl) fp8_150 hH hA rfl (by decide) (by first | omega | exact b2i_01 _) (fun h f16 e1 e2 hH hA => ?_)
    have ef13 := e2
    have hfE := hfE.put e1 (by decide)
    refine z_ild_1 (TX8_end.at 11 rfl) ?_
    refine zm_iret (TX8_end.at 12 rfl) rfl hH hA (by omega) ?_
    exact ⟨⟨by rw [if_pos (by omega)], by rw [ef13, if_pos (by omega)]⟩, hfE, hgE, rfl⟩
  · skip
    refine z_iconst (TX8_end.at 6 rfl) ?_
    refine zm_iret (TX8_end.at 7 rfl) rfl hH hA (by omega) ?_
    exact ⟨⟨by rw [if_neg (by omega)], by rw [ef13, if_neg (by omega)]⟩, hfE, hgE, rfl⟩

def bump (X : Int → Int) (k : Int) : Int → Int := iu X (-k) (X (-k) + 1)
def mRef (k r : Int) (f' : mF) (g' : mA) (X1 : Int → Int) : Prop := r = k ∧ f' 0 = k ∧ g' 1 = bump X1 k
def mOk (v r : Int) (f' : mF) (g' : mA) (X1 : Int → Int) : Prop := r = v ∧ f' 0 = 0 ∧ g' 1 = X1
set_option maxHeartbeats 4000000 in
set_option maxRecDepth 100000 in
theorem t_good {l : Launch} {o : Nat} {ar : Nat → Nat} {f : mF} {g j : mA} {v : Int}   (hv : zIn v) : MM l o ar MX8_good 0 [.ref o, vI v] f g j (PI (fun r f' g' j' => (r = v ∧ f' 0 = 0) ∧ eqx [0] f f' ∧ eqx [] g g' ∧ j' = j)) := by
  refine MM.intro [some (.ref o), some (vI v)] (by decide) (Nat.le_of_ble_eq_true rfl) rfl (fun d hd h0 h hH hA => ?_)
  have hfE : eqx [0] f f := eqx.rf
  have hgE : eqx [] g g := eqx.rf
  have ef0 := True.intro
  refine z_ald_0 (TX8_good.at 0 rfl) ?_
  refine z_iconst (TX8_good.at 1 rfl) ?_
  refine zm_putIE (TX8_good.at 2 rfl) fp8_3 hH hA rfl (by decide) (by first | omega | exact b2i_01 _) (fun h f2 e1 e2 hH hA => ?_)
  have ef0 := e2
  have hfE := hfE.put e1 (by decide)
  refine z_ild_1 (TX8_good.at 3 rfl) ?_
  refine zm_iret (TX8_good.at 4 rfl) rfl hH hA (by omega) ?_
  exact ⟨⟨rfl, ef0⟩, hfE, hgE, rfl⟩

set_option maxHeartbeats 4000000 in
set_option maxRecDepth 100000 in
theorem t_settled {l : Launch} {o : Nat} {ar : Nat → Nat} {f : mF} {g j : mA} {v : Int}   (hv : zIn v) : MM l o ar MX8_settled 1 [.ref o, vI v] f g j (PI (fun r f' g' j' => (r = v ∧ f' 0 = 0 ∧ f' 36 = 0) ∧ eqx [0, 36] f f' ∧ eqx [] g g' ∧ j' = j)) := by
  refine MM.intro [some (.ref o), some (vI v)] (by decide) (Nat.le_of_ble_eq_true rfl) rfl (fun d hd h0 h hH hA => ?_)
  have hfE : eqx [0, 36] f f := eqx.rf
  have hgE : eqx [] g g := eqx.rf
  refine z_ald_0 (TX8_settled.at 0 rfl) ?_
  refine z_iconst (TX8_settled.at 1 rfl) ?_
  refine zm_putIE (TX8_settled.at 2 rfl) fp8_11 hH hA rfl (by decide) (by first | omega | exact b2i_01 _) (fun h f2 e1 e2 hH hA => ?_)
  have ef36 := e2
  have hfE := hfE.put e1 (by decide)
  refine z_ald_0 (TX8_settled.at 3 rfl) ?_
  refine z_ild_1 (TX8_settled.at 4 rfl) ?_
  refine zm_callI1 (t_good (by omega)) (TX8_settled.at 5 rfl) c8_14 rfl rfl hH hA (by omega) (Nat.le_of_ble_eq_true rfl) (fun x7 f7 g7 j7 h r7 q7 hH hA => ?_)
  obtain ⟨q7, xf, xg, xj⟩ := q7
  rw [xj] at hH
  have ef36 := (xf 36 (by decide)).trans ef36
  have hfE := hfE.trans xf (by decide)
  have hgE := hgE.trans xg (by decide)
  have qL := q7
  refine zm_iret (TX8_settled.at 6 rfl) rfl hH hA (by omega) ?_
  exact ⟨⟨q7.1, q7.2, ef36⟩, hfE, hgE, rfl⟩

set_option maxHeartbeats 4000000 in
set_option maxRecDepth 100000 in
theorem t_refuses {l : Launch} {o : Nat} {ar : Nat → Nat} {f : mF} {g j : mA} {X1 : Int → Int} {k : Int}  (eg1 : g 1 = X1) (hk : zIn k) (k0 : -6 ≤ k) (k1 : k ≤ 0) (hb : ∀ i, X1 i ≤ 100000) : MM l o ar MX8_refuses 0 [.ref o, vI k] f g j (PI (fun r f' g' j' => (r = k ∧ f' 0 = k ∧ g' 1 = bump X1 k) ∧ eqx [0] f f' ∧ eqx [1] g g' ∧ j' = j)) := by
  refine MM.intro [some (.ref o), some (vI k)] (by decide) (Nat.le_of_ble_eq_true rfl) rfl (fun d hd h0 h hH hA => ?_)
  have hfE : eqx [0] f f := eqx.rf
  have hgE : eqx [1] g g := eqx.rf
  have hb0 := hb (-k)
  refine z_ald_0 (TX8_refuses.at 0 rfl) ?_
  refine z_ild_1 (TX8_refuses.at 1 rfl) ?_
  refine zm_putIE (TX8_refuses.at 2 rfl) fp8_3 hH hA rfl (by decide) (by first | omega | exact b2i_01 _) (fun h f2 e1 e2 hH hA => ?_)
  have ef0 := e2
  have hfE := hfE.put e1 (by decide)
  refine z_ald_0 (TX8_refuses.at 3 rfl) ?_
  refine zm_getA (TX8_refuses.at 4 rfl) fl8_7 hH (by decide) (by decide) ?_
  refine z_ild_1 (TX8_refuses.at 5 rfl) ?_
  refine z_ineg (TX8_refuses.at 6 rfl) ?_
  refine z_dup2 rfl rfl (TX8_refuses.at 7 rfl) ?_
  refine zm_ialdE eg1 (TX8_refuses.at 8 rfl) hH rfl (by omega) (show _ < ((7 : Nat) : Int) by omega) (fun r12 => ?_)
  refine z_iconst (TX8_refuses.at 9 rfl) ?_
  refine z_iadd (TX8_refuses.at 10 rfl) ?_
  refine zm_iastE (TX8_refuses.at 11 rfl) hH hA rfl (by omega) (show _ < ((7 : Nat) : Int) by omega) (by omega) (fun h g15 e1 e2 hH hA => ?_)
  rw [eg1] at e2; have eg1 := e2
  have hgE := hgE.put e1 (by decide)
  refine z_ild_1 (TX8_refuses.at 12 rfl) ?_
  refine zm_iret (TX8_refuses.at 13 rfl) rfl hH hA (by omega) ?_
  exact ⟨⟨rfl, ef0, eg1⟩, hfE, hgE, rfl⟩

set_option maxHeartbeats 4000000 in
set_option maxRecDepth 100000 in
theorem lp_image {l : Launch} {o : Nat} {ar : Nat → Nat} {d : Nat} {Pz : Option Value → zH → Prop} {h0 : zH} {f0 : mF} {g0 : mA} {j : mA}  {X3 K : Int → Int} {k : Int} (k0 : 0 ≤ k) (k1 : k ≤ 1) (kx : ∀ (f : mF) (g : mA) (h : zH), g 3 = cpy X3 K (5688 * k) 0 5688 → g 2 = K → eqx [] f0 f → eqx [3] g0 g → HM o ar f g j h → zAg o ar h0 h → Z l MX8_image d 0 0 Pz 48 [some (.ref o), some (vI k), some (vI 5688)] [] h 0 0)  : ∀ (n : Nat) (i : Int) (f : mF) (g : mA) (h : zH) (i0 : 0 ≤ i) (i1 : i ≤ 5688) (i2 : 5688 < i + n) (eg3 : g 3 = cpy X3 K (5688 * k) 0 i) (eg2 : g 2 = K) (hfE : eqx [] f0 f) (hgE : eqx [3] g0 g) (hH : HM o ar f g j h) (hA : zAg o ar h0 h), Z l MX8_image d 0 0 Pz 17 [some (.ref o), some (vI k), some (vI i)] [] h 0 0 := by
  intro n
  induction n with
  | zero => intro i f g h i0 i1 i2 eg3 eg2 hfE hgE hH hA; exfalso; omega
  | succ n ih =>
    intro i f g h i0 i1 i2 eg3 eg2 hfE hgE hH hA
    refine z_ild_2 (TX8_image.at 11 rfl) ?_
    refine z_sipush (by decide) (TX8_image.at 12 rfl) ?_
    refine z_icmp_ge (tgt := 48) (TX8_image.at 13 rfl) rfl (by omega) (by omega) (fun c1 => ?_) (fun c1 => ?_)
    · skip
      obtain rfl : i = 5688 := by omega
      exact kx _ _ _ eg3 eg2  hfE hgE hH hA
    · skip
      refine z_ald_0 (TX8_image.at 14 rfl) ?_
      refine zm_getA (TX8_image.at 15 rfl) fl8_31 hH (by decide) (by decide) ?_
      refine z_sipush (by decide) (TX8_image.at 16 rfl) ?_
      refine z_ild_1 (TX8_image.at 17 rfl) ?_
      refine z_imul (TX8_image.at 18 rfl) ?_
      refine z_ild_2 (TX8_image.at 19 rfl) ?_
      refine z_iadd (TX8_image.at 20 rfl) ?_
      refine z_ald_0 (TX8_image.at 21 rfl) ?_
      refine zm_getA (TX8_image.at 22 rfl) fl8_28 hH (by decide) (by decide) ?_
      refine z_ild_2 (TX8_image.at 23 rfl) ?_
      refine zm_ialdE eg2 (TX8_image.at 24 rfl) hH rfl (by omega) (show _ < ((5688 : Nat) : Int) by omega) (fun r40 => ?_)
      refine zm_iastE (TX8_image.at 25 rfl) hH hA rfl (by omega) (show _ < ((11376 : Nat) : Int) by omega) (by omega) (fun h g41 e1 e2 hH hA => ?_)
      rw [eg3] at e2; have eg3 := e2
      have eg2 := (e1 2 (by decide)).trans eg2
      have hgE := hgE.put e1 (by decide)
      refine z_iinc_2 (TX8_image.at 26 rfl) (Nat.le_of_ble_eq_true rfl) rfl ?_
      refine z_goto (tgt := 17) (TX8_image.at 27 rfl) rfl ?_
      exact ih (i + 1) _ _ _ (by omega) (by omega) (by omega) (by rw [cpy_s (by omega) (by omega) (by omega)] at eg3; exact eg3) eg2 hfE hgE hH hA

set_option maxHeartbeats 4000000 in
set_option maxRecDepth 100000 in
theorem m_image {l : Launch} {o : Nat} {ar : Nat → Nat} {f : mF} {g j : mA} {X1 : Int → Int} {K : Int → Int} {X3 : Int → Int} {X4 : Int → Int} {k : Int}  (eg1 : g 1 = X1) (eg2 : g 2 = K) (eg3 : g 3 = X3) (eg4 : g 4 = X4) (hk : zIn k) (hb : ∀ i, X1 i ≤ 100000) : MM l o ar MX8_image 1 [.ref o, vI k] f g j (PI (fun r f' g' j' => ((¬ (0 ≤ k ∧ k ≤ 1) ∧ mRef (-1) r f' g' X1 ∧ g' 3 = X3 ∧ g' 4 = X4) ∨ ((0 ≤ k ∧ k ≤ 1) ∧ mOk 0 r f' g' X1 ∧ g' 3 = cpy X3 K (5688 * k) 0 5688 ∧ g' 4 = iu X4 k 1)) ∧ eqx [0] f f' ∧ eqx [1, 3, 4] g g' ∧ j' = j)) := by
  refine MM.intro [some (.ref o), some (vI k), none] (by decide) (Nat.le_of_ble_eq_true rfl) rfl (fun d hd h0 h hH hA => ?_)
  have hfE : eqx [0] f f := eqx.rf
  have hgE : eqx [1, 3, 4] g g := eqx.rf
  refine z_ild_1 (TX8_image.at 0 rfl) ?_
  refine z_iconst (TX8_image.at 1 rfl) ?_
  refine z_iconst (TX8_image.at 2 rfl) ?_
  refine zs_call3 (s_lies (by omega) (by omega) (by omega)) (TX8_image.at 3 rfl) c8_18 rfl (by omega) (Nat.le_of_ble_eq_true rfl) (fun r3 => ?_)
  refine z_if_neB (tgt := 15) (TX8_image.at 4 rfl) rfl (fun c1 => ?_) (fun c1 => ?_)
  · skip
    refine z_iconst (TX8_image.at 9 rfl) ?_
    refine z_ist_2 (TX8_image.at 10 rfl) (Nat.le_of_ble_eq_true rfl) rfl ?_
    refine lp_image (k := k) (by omega) (by omega) (fun f17 g17 h eg3 eg2 xf xg hH hA => ?_) 5689 0 _ _ _ (by omega) (by omega) (by omega) (eg3.trans (cpy_0 _ _ _ _).symm) eg2 eqx.rf eqx.rf hH hA
    have hfE := hfE.trans xf (by decide)
    have eg1 := (xg 1 (by decide)).trans eg1
    have eg4 := (xg 4 (by decide)).trans eg4
    have hgE := hgE.trans xg (by decide)
    refine z_ald_0 (TX8_image.at 28 rfl) ?_
    refine zm_getA (TX8_image.at 29 rfl) fl8_34 hH (by decide) (by decide) ?_
    refine z_ild_1 (TX8_image.at 30 rfl) ?_
    refine z_iconst (TX8_image.at 31 rfl) ?_
    refine zm_zastE (TX8_image.at 32 rfl) hH hA rfl (by omega) (show _ < ((2 : Nat) : Int) by omega) (by omega) (fun h g54 e1 e2 hH hA => ?_)
    have eg1 := (e1 1 (by decide)).trans eg1
    have eg2 := (e1 2 (by decide)).trans eg2
    have eg3 := (e1 3 (by decide)).trans eg3
    rw [eg4] at e2; have eg4 := e2
    have hgE := hgE.put e1 (by decide)
    refine z_ald_0 (TX8_image.at 33 rfl) ?_
    refine z_iconst (TX8_image.at 34 rfl) ?_
    refine zm_callI1 (t_good (by omega)) (TX8_image.at 35 rfl) c8_14 rfl rfl hH hA (by omega) (Nat.le_of_ble_eq_true rfl) (fun x57 f57 g57 j57 h r57 q57 hH hA => ?_)
    obtain ⟨q57, xf, xg, xj⟩ := q57
    rw [xj] at hH
    have hfE := hfE.trans xf (by decide)
    have eg1 := (xg 1 (by decide)).trans eg1
    have eg2 := (xg 2 (by decide)).trans eg2
    have eg3 := (xg 3 (by decide)).trans eg3
    have eg4 := (xg 4 (by decide)).trans eg4
    have hgE := hgE.trans xg (by decide)
    have qL := q57
    refine zm_iret (TX8_image.at 36 rfl) rfl hH hA (by omega) ?_
    exact ⟨Or.inr ⟨by omega, ⟨qL.1, qL.2, eg1⟩, eg3, eg4⟩, hfE, hgE, rfl⟩
  · skip
    refine z_ald_0 (TX8_image.at 5 rfl) ?_
    refine z_iconst (TX8_image.at 6 rfl) ?_
    refine zm_callI1 (t_refuses eg1 (by omega) (by omega) (by omega) hb) (TX8_image.at 7 rfl) c8_103 rfl rfl hH hA (by omega) (Nat.le_of_ble_eq_true rfl) (fun x11 f11 g11 j11 h r11 q11 hH hA => ?_)
    obtain ⟨q11, xf, xg, xj⟩ := q11
    rw [xj] at hH
    have hfE := hfE.trans xf (by decide)
    have eg2 := (xg 2 (by decide)).trans eg2
    have eg3 := (xg 3 (by decide)).trans eg3
    have eg4 := (xg 4 (by decide)).trans eg4
    have hgE := hgE.trans xg (by decide)
    have qL := q11
    refine zm_iret (TX8_image.at 8 rfl) rfl hH hA (by omega) ?_
    exact ⟨Or.inl ⟨by omega, ⟨qL.1, qL.2.1, qL.2.2⟩, eg3, eg4⟩, hfE, hgE, rfl⟩

set_option maxHeartbeats 4000000 in
set_option maxRecDepth 100000 in
theorem lp_back {l : Launch} {o : Nat} {ar : Nat → Nat} {d : Nat} {Pz : Option Value → zH → Prop} {h0 : zH} {f0 : mF} {g0 : mA} {j : mA}  {K X3 : Int → Int} {k : Int} (k0 : 0 ≤ k) (k1 : k ≤ 1) (kx : ∀ (f : mF) (g : mA) (h : zH), g 2 = cpy K X3 0 (5688 * k) 5688 → g 3 = X3 → eqx [] f0 f → eqx [2] g0 g → HM o ar f g j h → zAg o ar h0 h → Z l MX8_back d 0 0 Pz 64 [some (.ref o), some (vI k), some (vI 5688)] [] h 0 0)  : ∀ (n : Nat) (i : Int) (f : mF) (g : mA) (h : zH) (i0 : 0 ≤ i) (i1 : i ≤ 5688) (i2 : 5688 < i + n) (eg2 : g 2 = cpy K X3 0 (5688 * k) i) (eg3 : g 3 = X3) (hfE : eqx [] f0 f) (hgE : eqx [2] g0 g) (hH : HM o ar f g j h) (hA : zAg o ar h0 h), Z l MX8_back d 0 0 Pz 33 [some (.ref o), some (vI k), some (vI i)] [] h 0 0 := by
  intro n
  induction n with
  | zero => intro i f g h i0 i1 i2 eg2 eg3 hfE hgE hH hA; exfalso; omega
  | succ n ih =>
    intro i f g h i0 i1 i2 eg2 eg3 hfE hgE hH hA
    refine z_ild_2 (TX8_back.at 20 rfl) ?_
    refine z_sipush (by decide) (TX8_back.at 21 rfl) ?_
    refine z_icmp_ge (tgt := 64) (TX8_back.at 22 rfl) rfl (by omega) (by omega) (fun c1 => ?_) (fun c1 => ?_)
    · skip
      obtain rfl : i = 5688 := by omega
      exact kx _ _ _ eg2 eg3  hfE hgE hH hA
    · skip
      refine z_ald_0 (TX8_back.at 23 rfl) ?_
      refine zm_getA (TX8_back.at 24 rfl) fl8_28 hH (by decide) (by decide) ?_
      refine z_ild_2 (TX8_back.at 25 rfl) ?_
      refine z_ald_0 (TX8_back.at 26 rfl) ?_
      refine zm_getA (TX8_back.at 27 rfl) fl8_31 hH (by decide) (by decide) ?_
      refine z_sipush (by decide) (TX8_back.at 28 rfl) ?_
      refine z_ild_1 (TX8_back.at 29 rfl) ?_
      refine z_imul (TX8_back.at 30 rfl) ?_
      refine z_ild_2 (TX8_back.at 31 rfl) ?_
      refine z_iadd (TX8_back.at 32 rfl) ?_
      refine zm_ialdE eg3 (TX8_back.at 33 rfl) hH rfl (by omega) (show _ < ((11376 : Nat) : Int) by omega) (fun r56 => ?_)
      refine zm_iastE (TX8_back.at 34 rfl) hH hA rfl (by omega) (show _ < ((5688 : Nat) : Int) by omega) (by omega) (fun h g57 e1 e2 hH hA => ?_)
      rw [eg2] at e2; have eg2 := e2
      have eg3 := (e1 3 (by decide)).trans eg3
      have hgE := hgE.put e1 (by decide)
      refine z_iinc_2 (TX8_back.at 35 rfl) (Nat.le_of_ble_eq_true rfl) rfl ?_
      refine z_goto (tgt := 33) (TX8_back.at 36 rfl) rfl ?_
      exact ih (i + 1) _ _ _ (by omega) (by omega) (by omega) (by rw [cpy_s (by omega) (by omega) (by omega)] at eg2; exact eg2) eg3 hfE hgE hH hA

set_option maxHeartbeats 4000000 in
set_option maxRecDepth 100000 in
theorem m_back {l : Launch} {o : Nat} {ar : Nat → Nat} {f : mF} {g j : mA} {X1 : Int → Int} {K : Int → Int} {X3 : Int → Int} {X4 : Int → Int} {x36 : Int} {k : Int}  (eg1 : g 1 = X1) (eg2 : g 2 = K) (eg3 : g 3 = X3) (eg4 : g 4 = X4) (ef36 : f 36 = x36) (hk : zIn k) (hb : ∀ i, X1 i ≤ 100000) : MM l o ar MX8_back 2 [.ref o, vI k] f g j (PI (fun r f' g' j' => ((¬ (0 ≤ k ∧ k ≤ 1) ∧ mRef (-1) r f' g' X1 ∧ g' 2 = K ∧ f' 36 = x36) ∨ ((0 ≤ k ∧ k ≤ 1) ∧ X4 k = 0 ∧ mRef (-2) r f' g' X1 ∧ g' 2 = K ∧ f' 36 = x36) ∨ ((0 ≤ k ∧ k ≤ 1) ∧ X4 k ≠ 0 ∧ mOk 0 r f' g' X1 ∧ g' 2 = cpy K X3 0 (5688 * k) 5688 ∧ f' 36 = 0)) ∧ eqx [0, 36] f f' ∧ eqx [1, 2] g g' ∧ j' = j)) := by
  refine MM.intro [some (.ref o), some (vI k), none] (by decide) (Nat.le_of_ble_eq_true rfl) rfl (fun d hd h0 h hH hA => ?_)
  have hfE : eqx [0, 36] f f := eqx.rf
  have hgE : eqx [1, 2] g g := eqx.rf
  refine z_ild_1 (TX8_back.at 0 rfl) ?_
  refine z_iconst (TX8_back.at 1 rfl) ?_
  refine z_iconst (TX8_back.at 2 rfl) ?_
  refine zs_call3 (s_lies (by omega) (by omega) (by omega)) (TX8_back.at 3 rfl) c8_18 rfl (by omega) (Nat.le_of_ble_eq_true rfl) (fun r3 => ?_)
  refine z_if_neB (tgt := 15) (TX8_back.at 4 rfl) rfl (fun c1 => ?_) (fun c1 => ?_)
  · skip
    refine z_ald_0 (TX8_back.at 9 rfl) ?_
    refine zm_getA (TX8_back.at 10 rfl) fl8_34 hH (by decide) (by decide) ?_
    refine z_ild_1 (TX8_back.at 11 rfl) ?_
    refine zm_zaldE eg4 (TX8_back.at 12 rfl) hH rfl (by omega) (show _ < ((2 : Nat) : Int) by omega) (fun r20 => ?_)
    refine z_if_ne (tgt := 31) (TX8_back.at 13 rfl) rfl (by omega) (fun c2 => ?_) (fun c2 => ?_)
    · skip
      refine z_iconst (TX8_back.at 18 rfl) ?_
      refine z_ist_2 (TX8_back.at 19 rfl) (Nat.le_of_ble_eq_true rfl) rfl ?_
      refine lp_back (k := k) (by omega) (by omega) (fun f33 g33 h eg2 eg3 xf xg hH hA => ?_) 5689 0 _ _ _ (by omega) (by omega) (by omega) (eg2.trans (cpy_0 _ _ _ _).symm) eg3 eqx.rf eqx.rf hH hA
      have ef36 := (xf 36 (by decide)).trans ef36
      have hfE := hfE.trans xf (by decide)
      have eg1 := (xg 1 (by decide)).trans eg1
      have eg4 := (xg 4 (by decide)).trans eg4
      have hgE := hgE.trans xg (by decide)
      refine z_ald_0 (TX8_back.at 37 rfl) ?_
      refine z_iconst (TX8_back.at 38 rfl) ?_
      refine zm_callI1 (t_settled (by omega)) (TX8_back.at 39 rfl) c8_106 rfl rfl hH hA (by omega) (Nat.le_of_ble_eq_true rfl) (fun x66 f66 g66 j66 h r66 q66 hH hA => ?_)
      obtain ⟨q66, xf, xg, xj⟩ := q66
      rw [xj] at hH
      have hfE := hfE.trans xf (by decide)
      have eg1 := (xg 1 (by decide)).trans eg1
      have eg2 := (xg 2 (by decide)).trans eg2
      have eg3 := (xg 3 (by decide)).trans eg3
      have eg4 := (xg 4 (by decide)).trans eg4
      have hgE := hgE.trans xg (by decide)
      have qL := q66
      refine zm_iret (TX8_back.at 40 rfl) rfl hH hA (by omega) ?_
      exact ⟨Or.inr (Or.inr ⟨by omega, by omega, ⟨qL.1, qL.2.1, eg1⟩, eg2, qL.2.2⟩), hfE, hgE, rfl⟩
    · skip
      refine z_ald_0 (TX8_back.at 14 rfl) ?_
      refine z_bipush (by decide) (TX8_back.at 15 rfl) ?_
      refine zm_callI1 (t_refuses eg1 (by omega) (by omega) (by omega) hb) (TX8_back.at 16 rfl) c8_103 rfl rfl hH hA (by omega) (Nat.le_of_ble_eq_true rfl) (fun x27 f27 g27 j27 h r27 q27 hH hA => ?_)
      obtain ⟨q27, xf, xg, xj⟩ := q27
      rw [xj] at hH
      have ef36 := (xf 36 (by decide)).trans ef36
      have hfE := hfE.trans xf (by decide)
      have eg2 := (xg 2 (by decide)).trans eg2
      have eg3 := (xg 3 (by decide)).trans eg3
      have eg4 := (xg 4 (by decide)).trans eg4
      have hgE := hgE.trans xg (by decide)
      have qL := q27
      refine zm_iret (TX8_back.at 17 rfl) rfl hH hA (by omega) ?_
      exact ⟨Or.inr (Or.inl ⟨by omega, by omega, ⟨qL.1, qL.2.1, qL.2.2⟩, eg2, ef36⟩), hfE, hgE, rfl⟩
  · skip
    refine z_ald_0 (TX8_back.at 5 rfl) ?_
    refine z_iconst (TX8_back.at 6 rfl) ?_
    refine zm_callI1 (t_refuses eg1 (by omega) (by omega) (by omega) hb) (TX8_back.at 7 rfl) c8_103 rfl rfl hH hA (by omega) (Nat.le_of_ble_eq_true rfl) (fun x11 f11 g11 j11 h r11 q11 hH hA => ?_)
    obtain ⟨q11, xf, xg, xj⟩ := q11
    rw [xj] at hH
    have ef36 := (xf 36 (by decide)).trans ef36
    have hfE := hfE.trans xf (by decide)
    have eg2 := (xg 2 (by decide)).trans eg2
    have eg3 := (xg 3 (by decide)).trans eg3
    have eg4 := (xg 4 (by decide)).trans eg4
    have hgE := hgE.trans xg (by decide)
    have qL := q11
    refine zm_iret (TX8_back.at 8 rfl) rfl hH hA (by omega) ?_
    exact ⟨Or.inl ⟨by omega, ⟨qL.1, qL.2.1, qL.2.2⟩, eg2, ef36⟩, hfE, hgE, rfl⟩

abbrev canF (a b c e : Int) : Prop := ((0 ≤ a ∧ a ≤ 7) ∧ (0 ≤ b ∧ b ≤ 7) ∧ a ≠ b ∧ (1 ≤ c ∧ c ≤ 60) ∧ (0 ≤ e ∧ e ≤ 3))
set_option maxHeartbeats 4000000 in
set_option maxRecDepth 100000 in
theorem m_fuse {l : Launch} {o : Nat} {ar : Nat → Nat} {f : mF} {g j : mA} {X1 : Int → Int} {K : Int → Int} {x36 : Int} {a b c e : Int}  (eg1 : g 1 = X1) (eg2 : g 2 = K) (ef36 : f 36 = x36) (ha : zIn a) (hb : zIn b) (hc : zIn c) (he : zIn e) (hb : ∀ i, X1 i ≤ 100000) (n0 : 0 ≤ K 76) (n1 : K 76 ≤ 10) : MM l o ar MX8_fuse 3 [.ref o, vI a, vI b, vI c, vI e] f g j (PI (fun r f' g' j' => ((¬ canF a b c e ∧ mRef (-1) r f' g' X1 ∧ g' 2 = K ∧ f' 36 = x36) ∨ (canF a b c e ∧ K 76 = 10 ∧ mRef (-5) r f' g' X1 ∧ g' 2 = K ∧ f' 36 = x36) ∨ (canF a b c e ∧ K 76 < 10 ∧ mOk (K 76) r f' g' X1 ∧ g' 2 = addK K a b c e ∧ f' 36 = 0)) ∧ eqx [0, 36] f f' ∧ eqx [1, 2] g g' ∧ j' = j)) := by
  refine MM.intro [some (.ref o), some (vI a), some (vI b), some (vI c), some (vI e)] (by decide) (Nat.le_of_ble_eq_true rfl) rfl (fun d hd h0 h hH hA => ?_)
  have hfE : eqx [0, 36] f f := eqx.rf
  have hgE : eqx [1, 2] g g := eqx.rf
  refine z_ild_1 (TX8_fuse.at 0 rfl) ?_
  refine z_ild_2 (TX8_fuse.at 1 rfl) ?_
  refine z_ild_3 (TX8_fuse.at 2 rfl) ?_
  refine z_ild_4 (TX8_fuse.at 3 rfl) ?_
  refine zs_call4 (s_canFuse (by omega) (by omega) (by omega) (by omega)) (TX8_fuse.at 4 rfl) c8_117 rfl (by omega) (Nat.le_of_ble_eq_true rfl) (fun r5 => ?_)
  refine z_if_neB (tgt := 17) (TX8_fuse.at 5 rfl) rfl (fun c1 => ?_) (fun c1 => ?_)
  · skip
    refine z_ald_0 (TX8_fuse.at 10 rfl) ?_
    refine zm_callP0 (m_fuseMany) (TX8_fuse.at 11 rfl) c8_109 rfl rfl hH hA (by omega) (Nat.le_of_ble_eq_true rfl) (fun h r18 hH hA => ?_)
    rw [eg2] at r18 ⊢
    refine z_bipush (by decide) (TX8_fuse.at 12 rfl) ?_
    refine z_icmp_ne (tgt := 33) (TX8_fuse.at 13 rfl) rfl (by omega) (by omega) (fun c2 => ?_) (fun c2 => ?_)
    · skip
      refine z_ald_0 (TX8_fuse.at 18 rfl) ?_
      refine z_ild_1 (TX8_fuse.at 19 rfl) ?_
      refine z_ild_2 (TX8_fuse.at 20 rfl) ?_
      refine z_ild_3 (TX8_fuse.at 21 rfl) ?_
      refine z_ild_4 (TX8_fuse.at 22 rfl) ?_
      refine zm_callV4 (m_adds eg2 (by omega) (by omega) (by omega) (by omega) n0 (by omega)) (TX8_fuse.at 23 rfl) c8_121 rfl rfl hH hA (by omega) (Nat.le_of_ble_eq_true rfl) (fun f39 g39 j39 h q39 hH hA => ?_)
      obtain ⟨q39, xf, xg, xj⟩ := q39
      rw [xj] at hH
      have ef36 := (xf 36 (by decide)).trans ef36
      have hfE := hfE.trans xf (by decide)
      have eg1 := (xg 1 (by decide)).trans eg1
      have hgE := hgE.trans xg (by decide)
      have qL := q39
      have eg2 := q39
      refine z_ald_0 (TX8_fuse.at 24 rfl) ?_
      refine z_ald_0 (TX8_fuse.at 25 rfl) ?_
      refine zm_callP0 (m_fuseMany) (TX8_fuse.at 26 rfl) c8_109 rfl rfl hH hA (by omega) (Nat.le_of_ble_eq_true rfl) (fun h r44 hH hA => ?_)
      rw [eg2, show addK K a b c e 76 = K 76 + 1 from by simp [addK, iu]] at r44 ⊢
      refine z_iconst (TX8_fuse.at 27 rfl) ?_
      refine z_isub (TX8_fuse.at 28 rfl) ?_
      refine zm_callI1 (t_settled (by omega)) (TX8_fuse.at 29 rfl) c8_106 rfl rfl hH hA (by omega) (Nat.le_of_ble_eq_true rfl) (fun x49 f49 g49 j49 h r49 q49 hH hA => ?_)
      obtain ⟨q49, xf, xg, xj⟩ := q49
      rw [xj] at hH
      have hfE := hfE.trans xf (by decide)
      have eg1 := (xg 1 (by decide)).trans eg1
      have eg2 := (xg 2 (by decide)).trans eg2
      have hgE := hgE.trans xg (by decide)
      have qL := q49
      refine zm_iret (TX8_fuse.at 30 rfl) rfl hH hA (by omega) ?_
      exact ⟨Or.inr (Or.inr ⟨c1, by omega, ⟨qL.1.trans (by omega), qL.2.1, eg1⟩, eg2, qL.2.2⟩), hfE, hgE, rfl⟩
    · skip
      refine z_ald_0 (TX8_fuse.at 14 rfl) ?_
      refine z_bipush (by decide) (TX8_fuse.at 15 rfl) ?_
      refine zm_callI1 (t_refuses eg1 (by omega) (by omega) (by omega) hb) (TX8_fuse.at 16 rfl) c8_103 rfl rfl hH hA (by omega) (Nat.le_of_ble_eq_true rfl) (fun x29 f29 g29 j29 h r29 q29 hH hA => ?_)
      obtain ⟨q29, xf, xg, xj⟩ := q29
      rw [xj] at hH
      have ef36 := (xf 36 (by decide)).trans ef36
      have hfE := hfE.trans xf (by decide)
      have eg2 := (xg 2 (by decide)).trans eg2
      have hgE := hgE.trans xg (by decide)
      have qL := q29
      refine zm_iret (TX8_fuse.at 17 rfl) rfl hH hA (by omega) ?_
      exact ⟨Or.inr (Or.inl ⟨c1, by omega, ⟨qL.1, qL.2.1, qL.2.2⟩, eg2, ef36⟩), hfE, hgE, rfl⟩
  · skip
    refine z_ald_0 (TX8_fuse.at 6 rfl) ?_
    refine z_iconst (TX8_fuse.at 7 rfl) ?_
    refine zm_callI1 (t_refuses eg1 (by omega) (by omega) (by omega) hb) (TX8_fuse.at 8 rfl) c8_103 rfl rfl hH hA (by omega) (Nat.le_of_ble_eq_true rfl) (fun x13 f13 g13 j13 h r13 q13 hH hA => ?_)
    obtain ⟨q13, xf, xg, xj⟩ := q13
    rw [xj] at hH
    have ef36 := (xf 36 (by decide)).trans ef36
    have hfE := hfE.trans xf (by decide)
    have eg2 := (xg 2 (by decide)).trans eg2
    have hgE := hgE.trans xg (by decide)
    have qL := q13
    refine zm_iret (TX8_fuse.at 9 rfl) rfl hH hA (by omega) ?_
    exact ⟨Or.inl ⟨c1, ⟨qL.1, qL.2.1, qL.2.2⟩, eg2, ef36⟩, hfE, hgE, rfl⟩

set_option maxHeartbeats 4000000 in
set_option maxRecDepth 100000 in
theorem m_letter {l : Launch} {o : Nat} {ar : Nat → Nat} {f : mF} {g j : mA} {X1 : Int → Int} {K : Int → Int} {s : Int}  (eg1 : g 1 = X1) (eg2 : g 2 = K) (hs : zIn s) (hb : ∀ i, X1 i ≤ 100000) (n0 : 0 ≤ K 77) (n1 : K 77 ≤ 3) : MM l o ar MX8_letter 1 [.ref o, vI s] f g j (PI (fun r f' g' j' => ((¬ (0 ≤ s ∧ s ≤ 1023) ∧ mRef (-1) r f' g' X1 ∧ g' 2 = K) ∨ ((0 ≤ s ∧ s ≤ 1023) ∧ K 77 = 3 ∧ mRef (-5) r f' g' X1 ∧ g' 2 = K) ∨ ((0 ≤ s ∧ s ≤ 1023) ∧ K 77 < 3 ∧ mOk (K 77) r f' g' X1 ∧ g' 2 = iu (iu K (59 + K 77) s) 77 (K 77 + 1))) ∧ eqx [0] f f' ∧ eqx [1, 2] g g' ∧ j' = j)) := by
  refine MM.intro [some (.ref o), some (vI s), none] (by decide) (Nat.le_of_ble_eq_true rfl) rfl (fun d hd h0 h hH hA => ?_)
  have hfE : eqx [0] f f := eqx.rf
  have hgE : eqx [1, 2] g g := eqx.rf
  refine z_ild_1 (TX8_letter.at 0 rfl) ?_
  refine z_iconst (TX8_letter.at 1 rfl) ?_
  refine z_sipush (by decide) (TX8_letter.at 2 rfl) ?_
  refine zs_call3 (s_lies (by omega) (by omega) (by omega)) (TX8_letter.at 3 rfl) c8_18 rfl (by omega) (Nat.le_of_ble_eq_true rfl) (fun r5 => ?_)
  refine z_if_neB (tgt := 17) (TX8_letter.at 4 rfl) rfl (fun c1 => ?_) (fun c1 => ?_)
  · skip
    refine z_ald_0 (TX8_letter.at 9 rfl) ?_
    refine zm_getA (TX8_letter.at 10 rfl) fl8_28 hH (by decide) (by decide) ?_
    refine z_bipush (by decide) (TX8_letter.at 11 rfl) ?_
    refine zm_ialdE eg2 (TX8_letter.at 12 rfl) hH rfl (by omega) (show _ < ((5688 : Nat) : Int) by omega) (fun r23 => ?_)
    refine z_ist_2 (TX8_letter.at 13 rfl) (Nat.le_of_ble_eq_true rfl) rfl ?_
    refine z_ild_2 (TX8_letter.at 14 rfl) ?_
    refine z_iconst (TX8_letter.at 15 rfl) ?_
    refine z_icmp_ne (tgt := 37) (TX8_letter.at 16 rfl) rfl (by omega) (by omega) (fun c2 => ?_) (fun c2 => ?_)
    · skip
      refine z_ald_0 (TX8_letter.at 21 rfl) ?_
      refine zm_getA (TX8_letter.at 22 rfl) fl8_28 hH (by decide) (by decide) ?_
      refine z_bipush (by decide) (TX8_letter.at 23 rfl) ?_
      refine z_ild_2 (TX8_letter.at 24 rfl) ?_
      refine z_iadd (TX8_letter.at 25 rfl) ?_
      refine z_ild_1 (TX8_letter.at 26 rfl) ?_
      refine zm_iastE (TX8_letter.at 27 rfl) hH hA rfl (by omega) (show _ < ((5688 : Nat) : Int) by omega) (by omega) (fun h g46 e1 e2 hH hA => ?_)
      have eg1 := (e1 1 (by decide)).trans eg1
      rw [eg2] at e2; have eg2 := e2
      have hgE := hgE.put e1 (by decide)
      refine z_ald_0 (TX8_letter.at 28 rfl) ?_
      refine zm_getA (TX8_letter.at 29 rfl) fl8_28 hH (by decide) (by decide) ?_
      refine z_bipush (by decide) (TX8_letter.at 30 rfl) ?_
      refine z_dup2 rfl rfl (TX8_letter.at 31 rfl) ?_
      refine zm_ialdE eg2 (TX8_letter.at 32 rfl) hH rfl (by omega) (show _ < ((5688 : Nat) : Int) by omega) (fun r54 => ?_)
      simp (disch := omega) only [iu_ne] at r54 ⊢
      refine z_iconst (TX8_letter.at 33 rfl) ?_
      refine z_iadd (TX8_letter.at 34 rfl) ?_
      refine zm_iastE (TX8_letter.at 35 rfl) hH hA rfl (by omega) (show _ < ((5688 : Nat) : Int) by omega) (by omega) (fun h g57 e1 e2 hH hA => ?_)
      have eg1 := (e1 1 (by decide)).trans eg1
      rw [eg2] at e2; have eg2 := e2
      have hgE := hgE.put e1 (by decide)
      refine z_ald_0 (TX8_letter.at 36 rfl) ?_
      refine z_ild_2 (TX8_letter.at 37 rfl) ?_
      refine zm_callI1 (t_good (by omega)) (TX8_letter.at 38 rfl) c8_14 rfl rfl hH hA (by omega) (Nat.le_of_ble_eq_true rfl) (fun x60 f60 g60 j60 h r60 q60 hH hA => ?_)
      obtain ⟨q60, xf, xg, xj⟩ := q60
      rw [xj] at hH
      have hfE := hfE.trans xf (by decide)
      have eg1 := (xg 1 (by decide)).trans eg1
      have eg2 := (xg 2 (by decide)).trans eg2
      have hgE := hgE.trans xg (by decide)
      have qL := q60
      refine zm_iret (TX8_letter.at 39 rfl) rfl hH hA (by omega) ?_
      exact ⟨Or.inr (Or.inr ⟨by omega, by omega, ⟨qL.1, qL.2, eg1⟩, eg2⟩), hfE, hgE, rfl⟩
    · skip
      refine z_ald_0 (TX8_letter.at 17 rfl) ?_
      refine z_bipush (by decide) (TX8_letter.at 18 rfl) ?_
      refine zm_callI1 (t_refuses eg1 (by omega) (by omega) (by omega) hb) (TX8_letter.at 19 rfl) c8_103 rfl rfl hH hA (by omega) (Nat.le_of_ble_eq_true rfl) (fun x33 f33 g33 j33 h r33 q33 hH hA => ?_)
      obtain ⟨q33, xf, xg, xj⟩ := q33
      rw [xj] at hH
      have hfE := hfE.trans xf (by decide)
      have eg2 := (xg 2 (by decide)).trans eg2
      have hgE := hgE.trans xg (by decide)
      have qL := q33
      refine zm_iret (TX8_letter.at 20 rfl) rfl hH hA (by omega) ?_
      exact ⟨Or.inr (Or.inl ⟨by omega, by omega, ⟨qL.1, qL.2.1, qL.2.2⟩, eg2⟩), hfE, hgE, rfl⟩
  · skip
    refine z_ald_0 (TX8_letter.at 5 rfl) ?_
    refine z_iconst (TX8_letter.at 6 rfl) ?_
    refine zm_callI1 (t_refuses eg1 (by omega) (by omega) (by omega) hb) (TX8_letter.at 7 rfl) c8_103 rfl rfl hH hA (by omega) (Nat.le_of_ble_eq_true rfl) (fun x13 f13 g13 j13 h r13 q13 hH hA => ?_)
    obtain ⟨q13, xf, xg, xj⟩ := q13
    rw [xj] at hH
    have hfE := hfE.trans xf (by decide)
    have eg2 := (xg 2 (by decide)).trans eg2
    have hgE := hgE.trans xg (by decide)
    have qL := q13
    refine zm_iret (TX8_letter.at 8 rfl) rfl hH hA (by omega) ?_
    exact ⟨Or.inl ⟨by omega, ⟨qL.1, qL.2.1, qL.2.2⟩, eg2⟩, hfE, hgE, rfl⟩

abbrev isT (w v : Int) : Prop := (w = 0 ∧ 0 ≤ v ∧ v ≤ 999) ∨ (w = 1 ∧ 0 ≤ v ∧ v ≤ 10) ∨ (w = 2 ∧ 0 ≤ v ∧ v ≤ 9)
set_option maxHeartbeats 4000000 in
set_option maxRecDepth 100000 in
theorem s_isTerm {l : Launch} {w v : Int} (hw : zIn w) (hv : zIn v) : SI l MX8_isTerm 1 [vI w, vI v] (b2i ((w = 0 ∧ 0 ≤ v ∧ v ≤ 999) ∨ (w = 1 ∧ 0 ≤ v ∧ v ≤ 10) ∨ (w = 2 ∧ 0 ≤ v ∧ v ≤ 9))) := by
  refine SI.intro [some (vI w), some (vI v)] (by first | omega | (split <;> omega) | (unfold b2i; split <;> omega)) (by decide) (Nat.le_of_ble_eq_true rfl) rfl (fun d hd h => ?_)
  refine z_ild_0 (TX8_isTerm.at 0 rfl) ?_
  rcases (show w = 0 ∨ w = 1 ∨ w = 2 ∨ (w < 0 ∨ 2 < w) by omega) with sw0 | sw1 | sw2 | sw3
  · refine z_swIn (off := 27) (tgt := 28) (TX8_isTerm.at 1 rfl) (by omega) (by omega) (by omega) (by rw [sw0]; rfl) rfl ?_
    refine z_ild_1 (TX8_isTerm.at 2 rfl) ?_
    refine z_iconst (TX8_isTerm.at 3 rfl) ?_
    refine z_sipush (by decide) (TX8_isTerm.at 4 rfl) ?_
    refine zs_call3 (s_lies (by omega) (by omega) (by omega)) (TX8_isTerm.at 5 rfl) c8_18 rfl (by omega) (Nat.le_of_ble_eq_true rfl) (fun r33 => ?_)
    exact zs_zret (TX8_isTerm.at 6 rfl) rfl (by first | omega | exact b2i_01 _) (by unfold b2i; (repeat split) <;> omega)
  · refine z_swIn (off := 36) (tgt := 37) (TX8_isTerm.at 1 rfl) (by omega) (by omega) (by omega) (by rw [sw1]; rfl) rfl ?_
    refine z_ild_1 (TX8_isTerm.at 7 rfl) ?_
    refine z_iconst (TX8_isTerm.at 8 rfl) ?_
    refine z_bipush (by decide) (TX8_isTerm.at 9 rfl) ?_
    refine zs_call3 (s_lies (by omega) (by omega) (by omega)) (TX8_isTerm.at 10 rfl) c8_18 rfl (by omega) (Nat.le_of_ble_eq_true rfl) (fun r41 => ?_)
    exact zs_zret (TX8_isTerm.at 11 rfl) rfl (by first | omega | exact b2i_01 _) (by unfold b2i; (repeat split) <;> omega)
  · refine z_swIn (off := 44) (tgt := 45) (TX8_isTerm.at 1 rfl) (by omega) (by omega) (by omega) (by rw [sw2]; rfl) rfl ?_
    refine z_ild_1 (TX8_isTerm.at 12 rfl) ?_
    refine z_iconst (TX8_isTerm.at 13 rfl) ?_
    refine z_bipush (by decide) (TX8_isTerm.at 14 rfl) ?_
    refine zs_call3 (s_lies (by omega) (by omega) (by omega)) (TX8_isTerm.at 15 rfl) c8_18 rfl (by omega) (Nat.le_of_ble_eq_true rfl) (fun r49 => ?_)
    exact zs_zret (TX8_isTerm.at 16 rfl) rfl (by first | omega | exact b2i_01 _) (by unfold b2i; (repeat split) <;> omega)
  · refine z_swOut (tgt := 53) (TX8_isTerm.at 1 rfl) (by omega) sw3 rfl ?_
    refine z_iconst (TX8_isTerm.at 17 rfl) ?_
    exact zs_zret (TX8_isTerm.at 18 rfl) rfl (by first | omega | exact b2i_01 _) (by unfold b2i; (repeat split) <;> omega)

def tAt (w : Int) : Int := if w = 0 then 28 else if w = 1 then 74 else 75
theorem tAt_or (w : Int) : tAt w = 28 ∨ tAt w = 74 ∨ tAt w = 75 := by unfold tAt; by_cases h : w = 0 <;> by_cases h1 : w = 1 <;> simp [h, h1]
set_option maxHeartbeats 4000000 in
set_option maxRecDepth 100000 in
theorem m_terms {l : Launch} {o : Nat} {ar : Nat → Nat} {f : mF} {g j : mA} {X1 : Int → Int} {K : Int → Int} {x36 : Int} {w v : Int}  (eg1 : g 1 = X1) (eg2 : g 2 = K) (ef36 : f 36 = x36) (hw : zIn w) (hv : zIn v) (hb : ∀ i, X1 i ≤ 100000) : MM l o ar MX8_terms 2 [.ref o, vI w, vI v] f g j (PI (fun r f' g' j' => ((¬ isT w v ∧ mRef (-1) r f' g' X1 ∧ g' 2 = K ∧ f' 36 = x36) ∨ (isT w v ∧ mOk (K (tAt w)) r f' g' X1 ∧ g' 2 = iu K (tAt w) v ∧ f' 36 = 0)) ∧ eqx [0, 36] f f' ∧ eqx [1, 2] g g' ∧ j' = j)) := by
  refine MM.intro [some (.ref o), some (vI w), some (vI v), none] (by decide) (Nat.le_of_ble_eq_true rfl) rfl (fun d hd h0 h hH hA => ?_)
  have hfE : eqx [0, 36] f f := eqx.rf
  have hgE : eqx [1, 2] g g := eqx.rf
  refine z_ild_1 (TX8_terms.at 0 rfl) ?_
  refine z_ild_2 (TX8_terms.at 1 rfl) ?_
  refine zs_call2 (s_isTerm (by omega) (by omega)) (TX8_terms.at 2 rfl) c8_143 rfl (by omega) (Nat.le_of_ble_eq_true rfl) (fun r2 => ?_)
  refine z_if_neB (tgt := 14) (TX8_terms.at 3 rfl) rfl (fun c1 => ?_) (fun c1 => ?_)
  · skip
    refine z_ald_0 (TX8_terms.at 8 rfl) ?_
    refine zm_getA (TX8_terms.at 9 rfl) fl8_28 hH (by decide) (by decide) ?_
    refine z_ild_1 (TX8_terms.at 10 rfl) ?_
    refine zs_call1 (s_termAt (by omega)) (TX8_terms.at 11 rfl) c8_147 rfl (by omega) (Nat.le_of_ble_eq_true rfl) (fun r19 => ?_)
    rw [show (if w = 0 then (28 : Int) else if w = 1 then 74 else 75) = tAt w from rfl] at r19 ⊢
    have ht := tAt_or w
    refine zm_ialdE eg2 (TX8_terms.at 12 rfl) hH rfl (by omega) (show _ < ((5688 : Nat) : Int) by omega) (fun r22 => ?_)
    refine z_ist_3 (TX8_terms.at 13 rfl) (Nat.le_of_ble_eq_true rfl) rfl ?_
    refine z_ald_0 (TX8_terms.at 14 rfl) ?_
    refine zm_getA (TX8_terms.at 15 rfl) fl8_28 hH (by decide) (by decide) ?_
    refine z_ild_1 (TX8_terms.at 16 rfl) ?_
    refine zs_call1 (s_termAt (by omega)) (TX8_terms.at 17 rfl) c8_147 rfl (by omega) (Nat.le_of_ble_eq_true rfl) (fun r29 => ?_)
    rw [show (if w = 0 then (28 : Int) else if w = 1 then 74 else 75) = tAt w from rfl] at r29 ⊢
    have ht := tAt_or w
    refine z_ild_2 (TX8_terms.at 18 rfl) ?_
    refine zm_iastE (TX8_terms.at 19 rfl) hH hA rfl (by omega) (show _ < ((5688 : Nat) : Int) by omega) (by omega) (fun h g33 e1 e2 hH hA => ?_)
    have eg1 := (e1 1 (by decide)).trans eg1
    rw [eg2] at e2; have eg2 := e2
    have hgE := hgE.put e1 (by decide)
    refine z_ald_0 (TX8_terms.at 20 rfl) ?_
    refine z_ild_3 (TX8_terms.at 21 rfl) ?_
    refine zm_callI1 (t_settled (by omega)) (TX8_terms.at 22 rfl) c8_106 rfl rfl hH hA (by omega) (Nat.le_of_ble_eq_true rfl) (fun x36 f36 g36 j36 h r36 q36 hH hA => ?_)
    obtain ⟨q36, xf, xg, xj⟩ := q36
    rw [xj] at hH
    have hfE := hfE.trans xf (by decide)
    have eg1 := (xg 1 (by decide)).trans eg1
    have eg2 := (xg 2 (by decide)).trans eg2
    have hgE := hgE.trans xg (by decide)
    have qL := q36
    refine zm_iret (TX8_terms.at 23 rfl) rfl hH hA (by omega) ?_
    exact ⟨Or.inr ⟨c1, ⟨qL.1, qL.2.1, eg1⟩, eg2, qL.2.2⟩, hfE, hgE, rfl⟩
  · skip
    refine z_ald_0 (TX8_terms.at 4 rfl) ?_
    refine z_iconst (TX8_terms.at 5 rfl) ?_
    refine zm_callI1 (t_refuses eg1 (by omega) (by omega) (by omega) hb) (TX8_terms.at 6 rfl) c8_103 rfl rfl hH hA (by omega) (Nat.le_of_ble_eq_true rfl) (fun x10 f10 g10 j10 h r10 q10 hH hA => ?_)
    obtain ⟨q10, xf, xg, xj⟩ := q10
    rw [xj] at hH
    have ef36 := (xf 36 (by decide)).trans ef36
    have hfE := hfE.trans xf (by decide)
    have eg2 := (xg 2 (by decide)).trans eg2
    have hgE := hgE.trans xg (by decide)
    have qL := q10
    refine zm_iret (TX8_terms.at 7 rfl) rfl hH hA (by omega) ?_
    exact ⟨Or.inl ⟨c1, ⟨qL.1, qL.2.1, qL.2.2⟩, eg2, ef36⟩, hfE, hgE, rfl⟩

