def smN (p : Int → Int) : Nat → Int
  | 0 => 0
  | n + 1 => smN p n + p n
def sm (p : Int → Int) (i : Int) : Int := smN p i.toNat
theorem sm_0 (p : Int → Int) : sm p 0 = 0 := rfl
theorem sm_s {p : Int → Int} {i : Int} (h : 0 ≤ i) : sm p (i + 1) = sm p i + p i := by
  unfold sm
  rw [show (i + 1).toNat = i.toNat + 1 by omega, smN, show ((i.toNat : Nat) : Int) = i by omega]
theorem smN_in {p : Int → Int} : ∀ n : Nat, (∀ t : Int, 0 ≤ t → t < n → 0 ≤ p t ∧ p t ≤ 1) → 0 ≤ smN p n ∧ smN p n ≤ n := by
  intro n
  induction n with
  | zero => intro _; simp [smN]
  | succ n ih => intro h; have a := ih (fun t h1 h2 => h t h1 (by omega)); have b := h n (by omega) (by omega); simp only [smN]; omega
theorem sm_in {p : Int → Int} {i : Int} (h0 : 0 ≤ i) (h : ∀ t : Int, 0 ≤ t → t < i → 0 ≤ p t ∧ p t ≤ 1) : 0 ≤ sm p i ∧ sm p i ≤ i := by
  have := smN_in (p := p) i.toNat (fun t h1 h2 => h t h1 (by omega))
  unfold sm; omega
theorem smN_cg {p q : Int → Int} : ∀ n : Nat, (∀ t : Int, 0 ≤ t → t < n → p t = q t) → smN p n = smN q n := by
  intro n
  induction n with
  | zero => intro _; rfl
  | succ n ih => intro h; simp only [smN]; rw [ih (fun t h1 h2 => h t h1 (by omega)), h n (by omega) (by omega)]
theorem sm_cg {p q : Int → Int} {i : Int} (h : ∀ t : Int, 0 ≤ t → t < i → p t = q t) : sm p i = sm q i := smN_cg _ (fun t h1 h2 => h t h1 (by omega))
def cpF (D p : Int → Int) (a i : Int) : Int → Int := fun t => if a ≤ t ∧ t < a + i then p (t - a) else D t
theorem cpF_0 (D p : Int → Int) (a : Int) : cpF D p a 0 = D := by funext t; unfold cpF; rw [if_neg (by omega)]
theorem cpF_s {D p : Int → Int} {a i x v : Int} (h0 : 0 ≤ i) (hx : x = a + i) (hv : v = p i) : iu (cpF D p a i) x v = cpF D p a (i + 1) := by
  subst hx; subst hv
  funext t
  unfold iu cpF
  by_cases e : t = a + i
  · rw [if_pos e, if_pos (by omega)]; congr 1; omega
  · rw [if_neg e]
    by_cases e2 : a ≤ t ∧ t < a + i
    · rw [if_pos e2, if_pos (by omega)]
    · rw [if_neg e2, if_neg (by omega)]
theorem zi2b_2 (x : Int) : zi2b (zi2b x) = zi2b x := by
  unfold zi2b
  rw [Int32.ofInt_toInt, Int8.toInt8_toInt32]
def fdB (V : Int → Int) (k : Int) : Int := zi2b (zshr (V (zdiv k 4)) (24 - 8 * zrem k 4))
def five (a b c e w : Int) : Int → Int := iu (iu (iu (iu (iu (fun _ => 0) 0 a) 1 b) 2 c) 3 e) 4 w
def rowStep (tp : Int → Int) (a : Int) (s : (Int → Int) × Int × Int) : (Int → Int) × Int × Int := if s.1 76 < 10 ∧ canF (tp a) (tp (a + 1)) (tp (a + 2)) (tp (a + 3)) then (addK s.1 (tp a) (tp (a + 1)) (tp (a + 2)) (tp (a + 3)), s.2.1 + 1, s.2.2) else (s.1, s.2.1, s.2.2 + 1)
def rowN (tp : Int → Int) (s : (Int → Int) × Int × Int) : Nat → (Int → Int) × Int × Int
  | 0 => s
  | n + 1 => rowStep tp (4 * (n : Int)) (rowN tp s n)
theorem addK_76 (K : Int → Int) (a b c e : Int) : addK K a b c e 76 = K 76 + 1 := by simp [addK, iu]
theorem rowN_in (tp : Int → Int) (s : (Int → Int) × Int × Int) (h0 : 0 ≤ s.1 76) (h1 : s.1 76 ≤ 10) (h2 : s.2.1 = 0) (h3 : 0 ≤ s.2.2 ∧ s.2.2 ≤ 1) : ∀ n : Nat, (0 ≤ (rowN tp s n).1 76 ∧ (rowN tp s n).1 76 ≤ 10) ∧ (0 ≤ (rowN tp s n).2.1 ∧ (rowN tp s n).2.1 ≤ n) ∧ 0 ≤ (rowN tp s n).2.2 ∧ (rowN tp s n).2.2 ≤ n + 1 := by
  intro n
  induction n with
  | zero => simp only [rowN]; omega
  | succ n ih =>
    simp only [rowN, rowStep]
    split
    · simp only [addK_76]; omega
    · simp only; omega
set_option maxHeartbeats 4000000 in
set_option maxRecDepth 100000 in
theorem lp_dampMany {l : Launch} {o : Nat} {ar : Nat → Nat} {d : Nat} {Pz : Option Value → zH → Prop} {h0 : zH} {f0 : mF} {g0 : mA} {j : mA} (hd : 1 ≤ d) {K : Int → Int} (n1 : K 76 ≤ 10) (hd0 : ∀ i, 0 ≤ i → i < K 76 → K i = 0 ∨ K i = 1) (kx : ∀ (f : mF) (g : mA) (h : zH), g 2 = K → eqx [] f0 f → eqx [] g0 g → HM o ar f g j h → zAg o ar h0 h → Z l MX8_dampMany d 0 0 Pz 29 [some (.ref o), some (vI (sm K (K 76))), some (vI (K 76))] [] h 0 0)  : ∀ (n : Nat) (i : Int) (s : Int) (f : mF) (g : mA) (h : zH) (i0 : 0 ≤ i) (i1 : i ≤ K 76) (i2 : K 76 < i + n) (is : s = sm K i) (eg2 : g 2 = K) (hfE : eqx [] f0 f) (hgE : eqx [] g0 g) (hH : HM o ar f g j h) (hA : zAg o ar h0 h), Z l MX8_dampMany d 0 0 Pz 4 [some (.ref o), some (vI s), some (vI i)] [] h 0 0 := by
  intro n
  induction n with
  | zero => intro i s f g h i0 i1 i2 is eg2 hfE hgE hH hA; exfalso; omega
  | succ n ih =>
    intro i s f g h i0 i1 i2 is eg2 hfE hgE hH hA
    have hs := sm_in (p := K) i0 (fun t h1 h2 => by have := hd0 t h1 (by omega); omega)
    refine z_ild_2 (TX8_dampMany.at 4 rfl) ?_
    refine z_ald_0 (TX8_dampMany.at 5 rfl) ?_
    refine zm_callP0 (m_fuseMany) (TX8_dampMany.at 6 rfl) c8_109 rfl rfl hH hA (by omega) (Nat.le_of_ble_eq_true rfl) (fun h r6 hH hA => ?_)
    rw [eg2] at r6 ⊢
    refine z_icmp_ge (tgt := 29) (TX8_dampMany.at 7 rfl) rfl (by omega) (by omega) (fun c1 => ?_) (fun c1 => ?_)
    · skip
      obtain rfl : i = K 76 := by omega
      rw [is]
      exact kx _ _ _ eg2 hfE hgE hH hA
    · skip
      refine z_ild_1 (TX8_dampMany.at 8 rfl) ?_
      refine z_ald_0 (TX8_dampMany.at 9 rfl) ?_
      refine zm_getA (TX8_dampMany.at 10 rfl) fl8_28 hH (by decide) (by decide) ?_
      refine z_iconst (TX8_dampMany.at 11 rfl) ?_
      refine z_ild_2 (TX8_dampMany.at 12 rfl) ?_
      refine z_iadd (TX8_dampMany.at 13 rfl) ?_
      refine zm_ialdE eg2 (TX8_dampMany.at 14 rfl) hH rfl (by omega) (show _ < ((5688 : Nat) : Int) by omega) (fun r20 => ?_)
      refine z_iadd (TX8_dampMany.at 15 rfl) ?_
      refine z_ist_1 (TX8_dampMany.at 16 rfl) (Nat.le_of_ble_eq_true rfl) rfl ?_
      refine z_iinc_2 (TX8_dampMany.at 17 rfl) (Nat.le_of_ble_eq_true rfl) rfl ?_
      refine z_goto (tgt := 4) (TX8_dampMany.at 18 rfl) rfl ?_
      exact ih (i + 1) _ _ _ _ (by omega) (by omega) (by omega) (by rw [is, show (0 : Int) + i = i by omega, sm_s i0]) eg2 hfE hgE hH hA

set_option maxHeartbeats 4000000 in
set_option maxRecDepth 100000 in
theorem m_dampMany {l : Launch} {o : Nat} {ar : Nat → Nat} {f : mF} {g j : mA} {K : Int → Int}  (eg2 : g 2 = K) (n0 : 0 ≤ K 76) (n1 : K 76 ≤ 10) (hd0 : ∀ i, 0 ≤ i → i < K 76 → K i = 0 ∨ K i = 1) : MM l o ar MX8_dampMany 1 [.ref o] f g j (PI (fun r f' g' j' => (r = sm K (K 76)) ∧ eqx [] f f' ∧ eqx [] g g' ∧ j' = j)) := by
  refine MM.intro [some (.ref o), none, none] (by decide) (Nat.le_of_ble_eq_true rfl) rfl (fun d hd h0 h hH hA => ?_)
  have hfE : eqx [] f f := eqx.rf
  have hgE : eqx [] g g := eqx.rf
  have hs := sm_in (p := K) n0 (fun t h1 h2 => by have := hd0 t h1 (by omega); omega)
  refine z_iconst (TX8_dampMany.at 0 rfl) ?_
  refine z_ist_1 (TX8_dampMany.at 1 rfl) (Nat.le_of_ble_eq_true rfl) rfl ?_
  refine z_iconst (TX8_dampMany.at 2 rfl) ?_
  refine z_ist_2 (TX8_dampMany.at 3 rfl) (Nat.le_of_ble_eq_true rfl) rfl ?_
  refine lp_dampMany (by omega) n1 hd0 (fun f4 g4 h eg2 xf xg hH hA => ?_) 12 0 0 _ _ _ (by omega) (by omega) (by omega) (sm_0 K).symm eg2 eqx.rf eqx.rf hH hA
  have hfE := hfE.trans xf (by decide)
  have hgE := hgE.trans xg (by decide)
  refine z_ild_1 (TX8_dampMany.at 19 rfl) ?_
  refine zm_iret (TX8_dampMany.at 20 rfl) rfl hH hA (by omega) ?_
  exact ⟨rfl, hfE, hgE, rfl⟩

set_option maxHeartbeats 4000000 in
set_option maxRecDepth 100000 in
theorem lp_matchMany {l : Launch} {o : Nat} {ar : Nat → Nat} {d : Nat} {Pz : Option Value → zH → Prop} {h0 : zH} {f0 : mF} {g0 : mA} {j : mA}  {K : Int → Int} (kx : ∀ (f : mF) (g : mA) (h : zH), g 2 = K → eqx [] f0 f → eqx [] g0 g → HM o ar f g j h → zAg o ar h0 h → Z l MX8_matchMany d 0 0 Pz 37 [some (.ref o), some (vI (sm (fun k => b2i (K (20 + k) ≠ -1)) 8)), some (vI 8)] [] h 0 0)  : ∀ (n : Nat) (i : Int) (s : Int) (f : mF) (g : mA) (h : zH) (i0 : 0 ≤ i) (i1 : i ≤ 8) (i2 : 8 < i + n) (is : s = sm (fun k => b2i (K (20 + k) ≠ -1)) i) (eg2 : g 2 = K) (hfE : eqx [] f0 f) (hgE : eqx [] g0 g) (hH : HM o ar f g j h) (hA : zAg o ar h0 h), Z l MX8_matchMany d 0 0 Pz 4 [some (.ref o), some (vI s), some (vI i)] [] h 0 0 := by
  intro n
  induction n with
  | zero => intro i s f g h i0 i1 i2 is eg2 hfE hgE hH hA; exfalso; omega
  | succ n ih =>
    intro i s f g h i0 i1 i2 is eg2 hfE hgE hH hA
    have hs := sm_in (p := fun k => b2i (K (20 + k) ≠ -1)) i0 (fun t h1 h2 => by have := b2i_01 (K (20 + t) ≠ -1); omega)
    refine z_ild_2 (TX8_matchMany.at 4 rfl) ?_
    refine z_bipush (by decide) (TX8_matchMany.at 5 rfl) ?_
    refine z_icmp_ge (tgt := 37) (TX8_matchMany.at 6 rfl) rfl (by omega) (by omega) (fun c1 => ?_) (fun c1 => ?_)
    · skip
      obtain rfl : i = 8 := by omega
      rw [is]
      exact kx _ _ _ eg2 hfE hgE hH hA
    · skip
      refine z_ild_1 (TX8_matchMany.at 7 rfl) ?_
      refine z_ald_0 (TX8_matchMany.at 8 rfl) ?_
      refine zm_getA (TX8_matchMany.at 9 rfl) fl8_28 hH (by decide) (by decide) ?_
      refine z_bipush (by decide) (TX8_matchMany.at 10 rfl) ?_
      refine z_ild_2 (TX8_matchMany.at 11 rfl) ?_
      refine z_iadd (TX8_matchMany.at 12 rfl) ?_
      refine zm_ialdE eg2 (TX8_matchMany.at 13 rfl) hH rfl (by omega) (show _ < ((5688 : Nat) : Int) by omega) (fun r19 => ?_)
      refine z_iconst (TX8_matchMany.at 14 rfl) ?_
      refine z_icmp_ne (tgt := 28) (TX8_matchMany.at 15 rfl) rfl (by omega) (by omega) (fun c2 => ?_) (fun c2 => ?_)
      · skip
        refine z_iconst (TX8_matchMany.at 18 rfl) ?_
        refine z_iadd (TX8_matchMany.at 19 rfl) ?_
        refine z_ist_1 (TX8_matchMany.at 20 rfl) (Nat.le_of_ble_eq_true rfl) rfl ?_
        refine z_iinc_2 (TX8_matchMany.at 21 rfl) (Nat.le_of_ble_eq_true rfl) rfl ?_
        refine z_goto (tgt := 4) (TX8_matchMany.at 22 rfl) rfl ?_
        exact ih (i + 1) _ _ _ _ (by omega) (by omega) (by omega) (by rw [is, sm_s i0]; first | rw [b2i_t (by omega)] | rw [b2i_f (by omega)]) eg2 hfE hgE hH hA
      · skip
        refine z_iconst (TX8_matchMany.at 16 rfl) ?_
        refine z_goto (tgt := 29) (TX8_matchMany.at 17 rfl) rfl ?_
        refine z_iadd (TX8_matchMany.at 19 rfl) ?_
        refine z_ist_1 (TX8_matchMany.at 20 rfl) (Nat.le_of_ble_eq_true rfl) rfl ?_
        refine z_iinc_2 (TX8_matchMany.at 21 rfl) (Nat.le_of_ble_eq_true rfl) rfl ?_
        refine z_goto (tgt := 4) (TX8_matchMany.at 22 rfl) rfl ?_
        exact ih (i + 1) _ _ _ _ (by omega) (by omega) (by omega) (by rw [is, sm_s i0]; first | rw [b2i_t (by omega)] | rw [b2i_f (by omega)]) eg2 hfE hgE hH hA

set_option maxHeartbeats 4000000 in
set_option maxRecDepth 100000 in
theorem m_matchMany {l : Launch} {o : Nat} {ar : Nat → Nat} {f : mF} {g j : mA} {K : Int → Int}  (eg2 : g 2 = K)  : MM l o ar MX8_matchMany 0 [.ref o] f g j (PI (fun r f' g' j' => (r = sm (fun k => b2i (K (20 + k) ≠ -1)) 8) ∧ eqx [] f f' ∧ eqx [] g g' ∧ j' = j)) := by
  refine MM.intro [some (.ref o), none, none] (by decide) (Nat.le_of_ble_eq_true rfl) rfl (fun d hd h0 h hH hA => ?_)
  have hfE : eqx [] f f := eqx.rf
  have hgE : eqx [] g g := eqx.rf
  have hs := sm_in (p := fun k => b2i (K (20 + k) ≠ -1)) (i := 8) (by omega) (fun t h1 h2 => by have := b2i_01 (K (20 + t) ≠ -1); omega)
  refine z_iconst (TX8_matchMany.at 0 rfl) ?_
  refine z_ist_1 (TX8_matchMany.at 1 rfl) (Nat.le_of_ble_eq_true rfl) rfl ?_
  refine z_iconst (TX8_matchMany.at 2 rfl) ?_
  refine z_ist_2 (TX8_matchMany.at 3 rfl) (Nat.le_of_ble_eq_true rfl) rfl ?_
  refine lp_matchMany (fun f4 g4 h eg2 xf xg hH hA => ?_) 9 0 0 _ _ _ (by omega) (by omega) (by omega) (sm_0 _).symm eg2 eqx.rf eqx.rf hH hA
  have hfE := hfE.trans xf (by decide)
  have hgE := hgE.trans xg (by decide)
  refine z_ild_1 (TX8_matchMany.at 23 rfl) ?_
  refine zm_iret (TX8_matchMany.at 24 rfl) rfl hH hA (by omega) ?_
  exact ⟨rfl, hfE, hgE, rfl⟩

set_option maxHeartbeats 4000000 in
set_option maxRecDepth 100000 in
theorem m_drawn {l : Launch} {o : Nat} {ar : Nat → Nat} {f : mF} {g j : mA} {X47 : Int → Int} {x48 : Int} {k w : Int}  (eg47 : g 47 = X47) (ef48 : f 48 = x48) (hk : zIn k) (hw : zIn w) (w48 : x48 ≤ 10) (w49 : -1 ≤ x48) : MM l o ar MX8_drawn 1 [.ref o, vI k, vI w] f g j (PI (fun r f' g' j' => (r = (if x48 ≠ -1 ∧ w = 0 ∧ 0 ≤ k ∧ k ≤ x48 - 1 then X47 k else if x48 ≠ -1 ∧ w = 1 ∧ 0 ≤ k ∧ k ≤ 7 then X47 (20 + k) else -1)) ∧ eqx [] f f' ∧ eqx [] g g' ∧ j' = j)) := by
  refine MM.intro [some (.ref o), some (vI k), some (vI w)] (by decide) (Nat.le_of_ble_eq_true rfl) rfl (fun d hd h0 h hH hA => ?_)
  have hfE : eqx [] f f := eqx.rf
  have hgE : eqx [] g g := eqx.rf
  refine z_ald_0 (TX8_drawn.at 0 rfl) ?_
  refine zm_getIE ef48 (TX8_drawn.at 1 rfl) fl8_100 hH rfl (by decide) (fun r1 => ?_)
  refine z_iconst (TX8_drawn.at 2 rfl) ?_
  refine z_icmp_eq (tgt := 40) (TX8_drawn.at 3 rfl) rfl (by omega) (by omega) (fun c1 => ?_) (fun c1 => ?_)
  · skip
    refine z_iconst (TX8_drawn.at 21 rfl) ?_
    refine zm_iret (TX8_drawn.at 22 rfl) rfl hH hA (by omega) ?_
    exact ⟨by first | (exfalso; omega) | rw [if_neg (by omega), if_neg (by omega)] | (rw [if_pos (by omega)]; done) | (rw [if_pos (by omega)]; congr 1; omega) | (rw [if_neg (by omega), if_pos (by omega)]), hfE, hgE, rfl⟩
  · skip
    refine z_ild_2 (TX8_drawn.at 4 rfl) ?_
    refine z_iconst (TX8_drawn.at 5 rfl) ?_
    refine z_iconst (TX8_drawn.at 6 rfl) ?_
    refine zs_call3 (s_lies (by omega) (by omega) (by omega)) (TX8_drawn.at 7 rfl) c8_18 rfl (by omega) (Nat.le_of_ble_eq_true rfl) (fun r11 => ?_)
    refine z_if_eqB (tgt := 40) (TX8_drawn.at 8 rfl) rfl (fun c2 => ?_) (fun c2 => ?_)
    · skip
      refine z_iconst (TX8_drawn.at 21 rfl) ?_
      refine zm_iret (TX8_drawn.at 22 rfl) rfl hH hA (by omega) ?_
      exact ⟨by first | (exfalso; omega) | rw [if_neg (by omega), if_neg (by omega)] | (rw [if_pos (by omega)]; done) | (rw [if_pos (by omega)]; congr 1; omega) | (rw [if_neg (by omega), if_pos (by omega)]), hfE, hgE, rfl⟩
    · skip
      refine z_ild_1 (TX8_drawn.at 9 rfl) ?_
      refine z_iconst (TX8_drawn.at 10 rfl) ?_
      refine z_ild_2 (TX8_drawn.at 11 rfl) ?_
      refine z_if_ne (tgt := 30) (TX8_drawn.at 12 rfl) rfl (by omega) (fun c3 => ?_) (fun c3 => ?_)
      · skip
        refine z_bipush (by decide) (TX8_drawn.at 16 rfl) ?_
        refine z_iconst (TX8_drawn.at 17 rfl) ?_
        refine z_isub (TX8_drawn.at 18 rfl) ?_
        refine zs_call3 (s_lies (by omega) (by omega) (by omega)) (TX8_drawn.at 19 rfl) c8_18 rfl (by omega) (Nat.le_of_ble_eq_true rfl) (fun r34 => ?_)
        refine z_if_neB (tgt := 42) (TX8_drawn.at 20 rfl) rfl (fun c4 => ?_) (fun c4 => ?_)
        · skip
          refine z_ald_0 (TX8_drawn.at 23 rfl) ?_
          refine zm_getA (TX8_drawn.at 24 rfl) fl8_97 hH (by decide) (by decide) ?_
          refine z_ild_2 (TX8_drawn.at 25 rfl) ?_
          refine z_if_ne (tgt := 54) (TX8_drawn.at 26 rfl) rfl (by omega) (fun c5 => ?_) (fun c5 => ?_)
          · skip
            refine z_bipush (by decide) (TX8_drawn.at 29 rfl) ?_
            refine z_ild_1 (TX8_drawn.at 30 rfl) ?_
            refine z_iadd (TX8_drawn.at 31 rfl) ?_
            refine zm_ialdE eg47 (TX8_drawn.at 32 rfl) hH rfl (by omega) (show _ < ((29 : Nat) : Int) by omega) (fun r58 => ?_)
            refine zm_iret (TX8_drawn.at 33 rfl) rfl hH hA (by omega) ?_
            exact ⟨by first | (exfalso; omega) | rw [if_neg (by omega), if_neg (by omega)] | (rw [if_pos (by omega)]; done) | (rw [if_pos (by omega)]; congr 1; omega) | (rw [if_neg (by omega), if_pos (by omega)]), hfE, hgE, rfl⟩
          · skip
            refine z_iconst (TX8_drawn.at 27 rfl) ?_
            refine z_goto (tgt := 56) (TX8_drawn.at 28 rfl) rfl ?_
            refine z_ild_1 (TX8_drawn.at 30 rfl) ?_
            refine z_iadd (TX8_drawn.at 31 rfl) ?_
            refine zm_ialdE eg47 (TX8_drawn.at 32 rfl) hH rfl (by omega) (show _ < ((29 : Nat) : Int) by omega) (fun r58 => ?_)
            refine zm_iret (TX8_drawn.at 33 rfl) rfl hH hA (by omega) ?_
            exact ⟨by first | (exfalso; omega) | rw [if_neg (by omega), if_neg (by omega)] | (rw [if_pos (by omega)]; done) | (rw [if_pos (by omega)]; congr 1; omega) | (rw [if_neg (by omega), if_pos (by omega)]), hfE, hgE, rfl⟩
        · skip
          refine z_iconst (TX8_drawn.at 21 rfl) ?_
          refine zm_iret (TX8_drawn.at 22 rfl) rfl hH hA (by omega) ?_
          exact ⟨by first | (exfalso; omega) | rw [if_neg (by omega), if_neg (by omega)] | (rw [if_pos (by omega)]; done) | (rw [if_pos (by omega)]; congr 1; omega) | (rw [if_neg (by omega), if_pos (by omega)]), hfE, hgE, rfl⟩
      · skip
        refine z_ald_0 (TX8_drawn.at 13 rfl) ?_
        refine zm_getIE ef48 (TX8_drawn.at 14 rfl) fl8_100 hH rfl (by decide) (fun r24 => ?_)
        refine z_goto (tgt := 32) (TX8_drawn.at 15 rfl) rfl ?_
        refine z_iconst (TX8_drawn.at 17 rfl) ?_
        refine z_isub (TX8_drawn.at 18 rfl) ?_
        refine zs_call3 (s_lies (by omega) (by omega) (by omega)) (TX8_drawn.at 19 rfl) c8_18 rfl (by omega) (Nat.le_of_ble_eq_true rfl) (fun r34 => ?_)
        refine z_if_neB (tgt := 42) (TX8_drawn.at 20 rfl) rfl (fun c6 => ?_) (fun c6 => ?_)
        · skip
          refine z_ald_0 (TX8_drawn.at 23 rfl) ?_
          refine zm_getA (TX8_drawn.at 24 rfl) fl8_97 hH (by decide) (by decide) ?_
          refine z_ild_2 (TX8_drawn.at 25 rfl) ?_
          refine z_if_ne (tgt := 54) (TX8_drawn.at 26 rfl) rfl (by omega) (fun c7 => ?_) (fun c7 => ?_)
          · skip
            refine z_bipush (by decide) (TX8_drawn.at 29 rfl) ?_
            refine z_ild_1 (TX8_drawn.at 30 rfl) ?_
            refine z_iadd (TX8_drawn.at 31 rfl) ?_
            refine zm_ialdE eg47 (TX8_drawn.at 32 rfl) hH rfl (by omega) (show _ < ((29 : Nat) : Int) by omega) (fun r58 => ?_)
            refine zm_iret (TX8_drawn.at 33 rfl) rfl hH hA (by omega) ?_
            exact ⟨by first | (exfalso; omega) | rw [if_neg (by omega), if_neg (by omega)] | (rw [if_pos (by omega)]; done) | (rw [if_pos (by omega)]; congr 1; omega) | (rw [if_neg (by omega), if_pos (by omega)]), hfE, hgE, rfl⟩
          · skip
            refine z_iconst (TX8_drawn.at 27 rfl) ?_
            refine z_goto (tgt := 56) (TX8_drawn.at 28 rfl) rfl ?_
            refine z_ild_1 (TX8_drawn.at 30 rfl) ?_
            refine z_iadd (TX8_drawn.at 31 rfl) ?_
            refine zm_ialdE eg47 (TX8_drawn.at 32 rfl) hH rfl (by omega) (show _ < ((29 : Nat) : Int) by omega) (fun r58 => ?_)
            refine zm_iret (TX8_drawn.at 33 rfl) rfl hH hA (by omega) ?_
            exact ⟨by first | (exfalso; omega) | rw [if_neg (by omega), if_neg (by omega)] | (rw [if_pos (by omega)]; done) | (rw [if_pos (by omega)]; congr 1; omega) | (rw [if_neg (by omega), if_pos (by omega)]), hfE, hgE, rfl⟩
        · skip
          refine z_iconst (TX8_drawn.at 21 rfl) ?_
          refine zm_iret (TX8_drawn.at 22 rfl) rfl hH hA (by omega) ?_
          exact ⟨by first | (exfalso; omega) | rw [if_neg (by omega), if_neg (by omega)] | (rw [if_pos (by omega)]; done) | (rw [if_pos (by omega)]; congr 1; omega) | (rw [if_neg (by omega), if_pos (by omega)]), hfE, hgE, rfl⟩

set_option maxHeartbeats 4000000 in
set_option maxRecDepth 100000 in
theorem lp_feed {l : Launch} {o : Nat} {ar : Nat → Nat} {d : Nat} {Pz : Option Value → zH → Prop} {h0 : zH} {f0 : mF} {g0 : mA} {j : mA}  {X11 V : Int → Int} {x13 a b c e w : Int} (x0 : 0 ≤ x13) (x1 : x13 ≤ 380) (kx : ∀ (f : mF) (g : mA) (h : zH), g 11 = cpF X11 (fdB V) x13 20 → f 13 = x13 → eqx [] f0 f → eqx [11] g0 g → HM o ar f g j h → zAg o ar h0 h → Z l MX8_feed d 0 0 Pz 101 [some (.ref o), some (vI a), some (vI b), some (vI c), some (vI e), some (vI w), some (vI 20)] [] h 0 0)  : ∀ (n : Nat) (i : Int) (f : mF) (g : mA) (h : zH) (i0 : 0 ≤ i) (i1 : i ≤ 20) (i2 : 20 < i + n) (eg11 : g 11 = cpF X11 (fdB V) x13 i) (eg12 : g 12 = V) (ef13 : f 13 = x13) (hfE : eqx [] f0 f) (hgE : eqx [11] g0 g) (hH : HM o ar f g j h) (hA : zAg o ar h0 h), Z l MX8_feed d 0 0 Pz 55 [some (.ref o), some (vI a), some (vI b), some (vI c), some (vI e), some (vI w), some (vI i)] [] h 0 0 := by
  intro n
  induction n with
  | zero => intro i f g h i0 i1 i2 eg11 eg12 ef13 hfE hgE hH hA; exfalso; omega
  | succ n ih =>
    intro i f g h i0 i1 i2 eg11 eg12 ef13 hfE hgE hH hA
    have hdv := zdiv_nat (x := i) (y := 4) (by omega) (by omega) (by omega)
    have hrm := zrem_nat (x := i) (y := 4) (by omega) (by omega) (by omega)
    refine z_ild_6 (TX8_feed_0.at 35 rfl) ?_
    refine z_bipush (by decide) (TX8_feed_0.at 36 rfl) ?_
    refine z_icmp_ge (tgt := 101) (TX8_feed_0.at 37 rfl) rfl (by omega) (by omega) (fun c1 => ?_) (fun c1 => ?_)
    · skip
      obtain rfl : i = 20 := by omega
      exact kx _ _ _ eg11 ef13 hfE hgE hH hA
    · skip
      refine z_ald_0 (TX8_feed_0.at 38 rfl) ?_
      refine zm_getA (TX8_feed_0.at 39 rfl) fl8_45 hH (by decide) (by decide) ?_
      refine z_ald_0 (TX8_feed_1.at 0 rfl) ?_
      refine zm_getIE ef13 (TX8_feed_1.at 1 rfl) fl8_150 hH rfl (by decide) (fun r67 => ?_)
      refine z_ild_6 (TX8_feed_1.at 2 rfl) ?_
      refine z_iadd (TX8_feed_1.at 3 rfl) ?_
      refine z_ald_0 (TX8_feed_1.at 4 rfl) ?_
      refine zm_getA (TX8_feed_1.at 5 rfl) fl8_48 hH (by decide) (by decide) ?_
      refine z_ild_6 (TX8_feed_1.at 6 rfl) ?_
      refine z_iconst (TX8_feed_1.at 7 rfl) ?_
      refine z_idiv (by omega) (by omega) (TX8_feed_1.at 8 rfl) ?_
      refine zm_ialdE eg12 (TX8_feed_1.at 9 rfl) hH rfl (by omega) (show _ < ((5 : Nat) : Int) by omega) (fun r81 => ?_)
      refine z_bipush (by decide) (TX8_feed_1.at 10 rfl) ?_
      refine z_bipush (by decide) (TX8_feed_1.at 11 rfl) ?_
      refine z_ild_6 (TX8_feed_1.at 12 rfl) ?_
      refine z_iconst (TX8_feed_1.at 13 rfl) ?_
      refine z_irem (by omega) (by omega) (TX8_feed_1.at 14 rfl) ?_
      refine z_imul (TX8_feed_1.at 15 rfl) ?_
      refine z_isub (TX8_feed_1.at 16 rfl) ?_
      refine z_ishr (TX8_feed_1.at 17 rfl) ?_
      refine z_i2b (TX8_feed_1.at 18 rfl) ?_
      refine zm_bastE (TX8_feed_1.at 19 rfl) hH hA rfl (by omega) (show _ < ((400 : Nat) : Int) by omega) (fun h g94 e1 e2 hH hA => ?_)
      rw [eg11] at e2; have eg11 := e2
      have eg12 := (e1 12 (by decide)).trans eg12
      have hgE := hgE.put e1 (by decide)
      refine z_iinc_6 (TX8_feed_1.at 20 rfl) (Nat.le_of_ble_eq_true rfl) rfl ?_
      refine z_goto (tgt := 55) (TX8_feed_1.at 21 rfl) rfl ?_
      exact ih (i + 1) _ _ _ (by omega) (by omega) (by omega) (by rw [zi2b_2] at eg11; exact eg11.trans (cpF_s i0 rfl rfl)) eg12 ef13 hfE hgE hH hA

set_option maxHeartbeats 4000000 in
set_option maxRecDepth 100000 in
theorem m_feed {l : Launch} {o : Nat} {ar : Nat → Nat} {f : mF} {g j : mA} {X11 : Int → Int} {X12 : Int → Int} {x13 : Int} {a b c e w : Int}  (eg11 : g 11 = X11) (eg12 : g 12 = X12) (ef13 : f 13 = x13) (ha : zIn a) (hb : zIn b) (hc : zIn c) (he : zIn e) (hw : zIn w) (x0 : 0 ≤ x13) (x1 : x13 ≤ 400) : MM l o ar MX8_feed 0 [.ref o, vI a, vI b, vI c, vI e, vI w] f g j (PI (fun r f' g' j' => ((x13 > 380 ∧ r = -1 ∧ f' 13 = x13 ∧ g' 11 = X11) ∨ (x13 ≤ 380 ∧ r = x13 + 20 ∧ f' 13 = x13 + 20 ∧ g' 11 = cpF X11 (fdB (iu (iu (iu (iu (iu X12 0 a) 1 b) 2 c) 3 e) 4 w)) x13 20)) ∧ eqx [13] f f' ∧ eqx [11, 12] g g' ∧ j' = j)) := by
  refine MM.intro [some (.ref o), some (vI a), some (vI b), some (vI c), some (vI e), some (vI w), none] (by decide) (Nat.le_of_ble_eq_true rfl) rfl (fun d hd h0 h hH hA => ?_)
  have hfE : eqx [13] f f := eqx.rf
  have hgE : eqx [11, 12] g g := eqx.rf
  refine z_ald_0 (TX8_feed_0.at 0 rfl) ?_
  refine zm_getIE ef13 (TX8_feed_0.at 1 rfl) fl8_150 hH rfl (by decide) (fun r1 => ?_)
  refine z_bipush (by decide) (TX8_feed_0.at 2 rfl) ?_
  refine z_iadd (TX8_feed_0.at 3 rfl) ?_
  refine z_sipush (by decide) (TX8_feed_0.at 4 rfl) ?_
  refine z_icmp_le (tgt := 15) (TX8_feed_0.at 5 rfl) rfl (by omega) (by omega) (fun c1 => ?_) (fun c1 => ?_)
  · skip
    refine z_ald_0 (TX8_feed_0.at 8 rfl) ?_
    refine zm_getA (TX8_feed_0.at 9 rfl) fl8_48 hH (by decide) (by decide) ?_
    refine z_iconst (TX8_feed_0.at 10 rfl) ?_
    refine z_ild_1 (TX8_feed_0.at 11 rfl) ?_
    refine zm_iastE (TX8_feed_0.at 12 rfl) hH hA rfl (by omega) (show _ < ((5 : Nat) : Int) by omega) (by omega) (fun h g21 e1 e2 hH hA => ?_)
    have eg11 := (e1 11 (by decide)).trans eg11
    rw [eg12] at e2; have eg12 := e2
    have hgE := hgE.put e1 (by decide)
    refine z_ald_0 (TX8_feed_0.at 13 rfl) ?_
    refine zm_getA (TX8_feed_0.at 14 rfl) fl8_48 hH (by decide) (by decide) ?_
    refine z_iconst (TX8_feed_0.at 15 rfl) ?_
    refine z_ild_2 (TX8_feed_0.at 16 rfl) ?_
    refine zm_iastE (TX8_feed_0.at 17 rfl) hH hA rfl (by omega) (show _ < ((5 : Nat) : Int) by omega) (by omega) (fun h g28 e1 e2 hH hA => ?_)
    have eg11 := (e1 11 (by decide)).trans eg11
    rw [eg12] at e2; have eg12 := e2
    have hgE := hgE.put e1 (by decide)
    refine z_ald_0 (TX8_feed_0.at 18 rfl) ?_
    refine zm_getA (TX8_feed_0.at 19 rfl) fl8_48 hH (by decide) (by decide) ?_
    refine z_iconst (TX8_feed_0.at 20 rfl) ?_
    refine z_ild_3 (TX8_feed_0.at 21 rfl) ?_
    refine zm_iastE (TX8_feed_0.at 22 rfl) hH hA rfl (by omega) (show _ < ((5 : Nat) : Int) by omega) (by omega) (fun h g35 e1 e2 hH hA => ?_)
    have eg11 := (e1 11 (by decide)).trans eg11
    rw [eg12] at e2; have eg12 := e2
    have hgE := hgE.put e1 (by decide)
    refine z_ald_0 (TX8_feed_0.at 23 rfl) ?_
    refine zm_getA (TX8_feed_0.at 24 rfl) fl8_48 hH (by decide) (by decide) ?_
    refine z_iconst (TX8_feed_0.at 25 rfl) ?_
    refine z_ild_4 (TX8_feed_0.at 26 rfl) ?_
    refine zm_iastE (TX8_feed_0.at 27 rfl) hH hA rfl (by omega) (show _ < ((5 : Nat) : Int) by omega) (by omega) (fun h g43 e1 e2 hH hA => ?_)
    have eg11 := (e1 11 (by decide)).trans eg11
    rw [eg12] at e2; have eg12 := e2
    have hgE := hgE.put e1 (by decide)
    refine z_ald_0 (TX8_feed_0.at 28 rfl) ?_
    refine zm_getA (TX8_feed_0.at 29 rfl) fl8_48 hH (by decide) (by decide) ?_
    refine z_iconst (TX8_feed_0.at 30 rfl) ?_
    refine z_ild_5 (TX8_feed_0.at 31 rfl) ?_
    refine zm_iastE (TX8_feed_0.at 32 rfl) hH hA rfl (by omega) (show _ < ((5 : Nat) : Int) by omega) (by omega) (fun h g51 e1 e2 hH hA => ?_)
    have eg11 := (e1 11 (by decide)).trans eg11
    rw [eg12] at e2; have eg12 := e2
    have hgE := hgE.put e1 (by decide)
    refine z_iconst (TX8_feed_0.at 33 rfl) ?_
    refine z_ist_6 (TX8_feed_0.at 34 rfl) (Nat.le_of_ble_eq_true rfl) rfl ?_
    refine lp_feed (by omega) (by omega) (fun f55 g55 h eg11 ef13 xf xg hH hA => ?_) 21 0 _ _ _ (by omega) (by omega) (by omega) (eg11.trans (cpF_0 _ _ _).symm) eg12 ef13 eqx.rf eqx.rf hH hA
    have hfE := hfE.trans xf (by decide)
    have eg12 := (xg 12 (by decide)).trans eg12
    have hgE := hgE.trans xg (by decide)
    refine z_ald_0 (TX8_feed_1.at 22 rfl) ?_
    refine z_dup rfl (TX8_feed_1.at 23 rfl) ?_
    refine zm_getIE ef13 (TX8_feed_1.at 24 rfl) fl8_150 hH rfl (by decide) (fun r103 => ?_)
    refine z_bipush (by decide) (TX8_feed_1.at 25 rfl) ?_
    refine z_iadd (TX8_feed_1.at 26 rfl) ?_
    refine zm_putIE (TX8_feed_1.at 27 rfl) fp8_150 hH hA rfl (by decide) (by first | omega | exact b2i_01 _) (fun h f109 e1 e2 hH hA => ?_)
    have ef13 := e2
    have hfE := hfE.put e1 (by decide)
    refine z_ald_0 (TX8_feed_1.at 28 rfl) ?_
    refine zm_getIE ef13 (TX8_feed_1.at 29 rfl) fl8_150 hH rfl (by decide) (fun r113 => ?_)
    refine zm_iret (TX8_feed_1.at 30 rfl) rfl hH hA (by omega) ?_
    exact ⟨Or.inr ⟨by omega, rfl, ef13, eg11⟩, hfE, hgE, rfl⟩
  · skip
    refine z_iconst (TX8_feed_0.at 6 rfl) ?_
    refine zm_iret (TX8_feed_0.at 7 rfl) rfl hH hA (by omega) ?_
    exact ⟨Or.inl ⟨by omega, rfl, ef13, eg11⟩, hfE, hgE, rfl⟩

theorem row_t {tp K K0 : Int → Int} {s y y0 a : Int} {m : Nat} (e : (K, s, y) = rowN tp (K0, 0, y0) m) (ha : a = 4 * (m : Int)) (hc : K 76 < 10 ∧ canF (tp a) (tp (a + 1)) (tp (a + 2)) (tp (a + 3))) : (addK K (tp a) (tp (a + 1)) (tp (a + 2)) (tp (a + 3)), s + 1, y + 0) = rowN tp (K0, 0, y0) (m + 1) := by
  subst ha
  rw [rowN, ← e, rowStep, if_pos hc, Int.add_zero]
theorem row_f {tp K K0 : Int → Int} {s y y0 a : Int} {m : Nat} (e : (K, s, y) = rowN tp (K0, 0, y0) m) (ha : a = 4 * (m : Int)) (hc : ¬ (K 76 < 10 ∧ canF (tp a) (tp (a + 1)) (tp (a + 2)) (tp (a + 3)))) : (K, s + 0, y + 1) = rowN tp (K0, 0, y0) (m + 1) := by
  subst ha
  rw [rowN, ← e, rowStep, if_neg hc, Int.add_zero]
set_option maxHeartbeats 4000000 in
set_option maxRecDepth 100000 in
theorem lp_row {l : Launch} {o : Nat} {ar : Nat → Nat} {d : Nat} {Pz : Option Value → zH → Prop} {h0 : zH} {f0 : mF} {g0 : mA} {j : mA} (hd : 3 ≤ d) {K0 X11 : Int → Int} {z y0 : Int} (z0 : 0 ≤ z) (z1 : z ≤ 400) (n0 : 0 ≤ K0 76) (n1 : K0 76 ≤ 10) (hy : 0 ≤ y0 ∧ y0 ≤ 1) (kx : ∀ (m : Nat) (K : Int → Int) (s y : Int) (o4 : Option Value) (f : mF) (g : mA) (h : zH), m = (z / 4).toNat → (K, s, y) = rowN X11 (K0, 0, y0) m → g 2 = K → f 6 = y → eqx [6] f0 f → eqx [2] g0 g → HM o ar f g j h → zAg o ar h0 h → Z l MX8_row d 0 0 Pz 176 [some (.ref o), some (vI z), some (vI s), some (vI (4 * (m : Int))), o4] [] h 0 0)  : ∀ (n : Nat) (m : Nat) (a : Int) (s : Int) (K : Int → Int) (y : Int) (o4 : Option Value) (f : mF) (g : mA) (h : zH) (a0 : a = 4 * (m : Int)) (a1 : a ≤ z) (a2 : z < a + 4 * n) (es : (K, s, y) = rowN X11 (K0, 0, y0) m) (eg2 : g 2 = K) (eg11 : g 11 = X11) (ef6 : f 6 = y) (hfE : eqx [6] f0 f) (hgE : eqx [2] g0 g) (hH : HM o ar f g j h) (hA : zAg o ar h0 h), Z l MX8_row d 0 0 Pz 40 [some (.ref o), some (vI z), some (vI s), some (vI a), o4] [] h 0 0 := by
  intro n
  induction n with
  | zero => intro m a s K y o4 f g h a0 a1 a2 es eg2 eg11 ef6 hfE hgE hH hA; exfalso; omega
  | succ n ih =>
    intro m a s K y o4 f g h a0 a1 a2 es eg2 eg11 ef6 hfE hgE hH hA
    have hin := rowN_in X11 (K0, 0, y0) n0 n1 rfl hy m
    rw [← es] at hin
    simp only at hin
    refine z_ild_3 (TX8_row_0.at 25 rfl) ?_
    refine z_iconst (TX8_row_0.at 26 rfl) ?_
    refine z_iadd (TX8_row_0.at 27 rfl) ?_
    refine z_ild_1 (TX8_row_0.at 28 rfl) ?_
    refine z_icmp_gt (tgt := 176) (TX8_row_0.at 29 rfl) rfl (by omega) (by omega) (fun c1 => ?_) (fun c1 => ?_)
    · skip
      rw [a0]
      exact kx m K s y _ _ _ _ (by omega) es eg2 ef6 hfE hgE hH hA
    · skip
      refine z_ald_0 (TX8_row_0.at 30 rfl) ?_
      refine zm_callP0 (m_fuseMany) (TX8_row_0.at 31 rfl) c8_109 rfl rfl hH hA (by omega) (Nat.le_of_ble_eq_true rfl) (fun h r48 hH hA => ?_)
      rw [eg2] at r48 ⊢
      refine z_bipush (by decide) (TX8_row_0.at 32 rfl) ?_
      refine z_icmp_ge (tgt := 96) (TX8_row_0.at 33 rfl) rfl (by omega) (by omega) (fun c2 => ?_) (fun c2 => ?_)
      · skip
        refine z_iconst (TX8_row_1.at 20 rfl) ?_
        refine z_ist_4 (TX8_row_1.at 21 rfl) (Nat.le_of_ble_eq_true rfl) rfl ?_
        refine z_ild_4 (TX8_row_1.at 22 rfl) ?_
        refine z_if_eq (tgt := 138) (TX8_row_1.at 23 rfl) rfl (by decide) (fun c3 => ?_) (fun c3 => absurd c3 (by decide))
        refine z_ild_2 (TX8_row_2.at 8 rfl) ?_
        refine z_ild_4 (TX8_row_2.at 9 rfl) ?_
        refine z_if_eq (tgt := 148) (TX8_row_2.at 10 rfl) rfl (by decide) (fun c4 => ?_) (fun c4 => absurd c4 (by decide))
        refine z_iconst (TX8_row_2.at 13 rfl) ?_
        refine z_iadd (TX8_row_2.at 14 rfl) ?_
        refine z_ist_2 (TX8_row_2.at 15 rfl) (Nat.le_of_ble_eq_true rfl) rfl ?_
        refine z_ald_0 (TX8_row_2.at 16 rfl) ?_
        refine z_dup rfl (TX8_row_2.at 17 rfl) ?_
        refine zm_getIE ef6 (TX8_row_2.at 18 rfl) fl8_153 hH rfl (by decide) (fun r153 => ?_)
        refine z_ild_4 (TX8_row_2.at 19 rfl) ?_
        refine z_if_eq (tgt := 165) (TX8_row_2.at 20 rfl) rfl (by decide) (fun c5 => ?_) (fun c5 => absurd c5 (by decide))
        refine z_iconst (TX8_row_2.at 23 rfl) ?_
        refine z_iadd (TX8_row_2.at 24 rfl) ?_
        refine zm_putIE (TX8_row_2.at 25 rfl) fp8_153 hH hA rfl (by decide) (by first | omega | exact b2i_01 _) (fun h f167 e1 e2 hH hA => ?_)
        have ef6 := e2
        have hfE := hfE.put e1 (by decide)
        refine z_iinc_3 (TX8_row_2.at 26 rfl) (Nat.le_of_ble_eq_true rfl) rfl ?_
        refine z_goto (tgt := 40) (TX8_row_2.at 27 rfl) rfl ?_
        exact ih (m + 1) _ _ _ _ _ _ _ _ (by omega) (by omega) (by omega) (by first | exact row_t es a0 (by assumption) | exact row_f es a0 (by omega)) eg2 eg11 ef6 hfE hgE hH hA
      · skip
        refine z_ald_0 (TX8_row_0.at 34 rfl) ?_
        refine zm_getA (TX8_row_0.at 35 rfl) fl8_45 hH (by decide) (by decide) ?_
        refine z_ild_3 (TX8_row_0.at 36 rfl) ?_
        refine zm_baldE eg11 (TX8_row_0.at 37 rfl) hH rfl (by omega) (show _ < ((400 : Nat) : Int) by omega) (fun r61 => ?_)
        refine z_ald_0 (TX8_row_0.at 38 rfl) ?_
        refine zm_getA (TX8_row_0.at 39 rfl) fl8_45 hH (by decide) (by decide) ?_
        refine z_ild_3 (TX8_row_1.at 0 rfl) ?_
        refine z_iconst (TX8_row_1.at 1 rfl) ?_
        refine z_iadd (TX8_row_1.at 2 rfl) ?_
        refine zm_baldE eg11 (TX8_row_1.at 3 rfl) hH rfl (by omega) (show _ < ((400 : Nat) : Int) by omega) (fun r69 => ?_)
        refine z_ald_0 (TX8_row_1.at 4 rfl) ?_
        refine zm_getA (TX8_row_1.at 5 rfl) fl8_45 hH (by decide) (by decide) ?_
        refine z_ild_3 (TX8_row_1.at 6 rfl) ?_
        refine z_iconst (TX8_row_1.at 7 rfl) ?_
        refine z_iadd (TX8_row_1.at 8 rfl) ?_
        refine zm_baldE eg11 (TX8_row_1.at 9 rfl) hH rfl (by omega) (show _ < ((400 : Nat) : Int) by omega) (fun r77 => ?_)
        refine z_ald_0 (TX8_row_1.at 10 rfl) ?_
        refine zm_getA (TX8_row_1.at 11 rfl) fl8_45 hH (by decide) (by decide) ?_
        refine z_ild_3 (TX8_row_1.at 12 rfl) ?_
        refine z_iconst (TX8_row_1.at 13 rfl) ?_
        refine z_iadd (TX8_row_1.at 14 rfl) ?_
        refine zm_baldE eg11 (TX8_row_1.at 15 rfl) hH rfl (by omega) (show _ < ((400 : Nat) : Int) by omega) (fun r85 => ?_)
        refine zs_call4 (s_canFuse (by omega) (by omega) (by omega) (by omega)) (TX8_row_1.at 16 rfl) c8_117 rfl (by omega) (Nat.le_of_ble_eq_true rfl) (fun r86 => ?_)
        refine z_if_eqB (tgt := 96) (TX8_row_1.at 17 rfl) rfl (fun c6 => ?_) (fun c6 => ?_)
        · skip
          refine z_iconst (TX8_row_1.at 20 rfl) ?_
          refine z_ist_4 (TX8_row_1.at 21 rfl) (Nat.le_of_ble_eq_true rfl) rfl ?_
          refine z_ild_4 (TX8_row_1.at 22 rfl) ?_
          refine z_if_eq (tgt := 138) (TX8_row_1.at 23 rfl) rfl (by decide) (fun c7 => ?_) (fun c7 => absurd c7 (by decide))
          refine z_ild_2 (TX8_row_2.at 8 rfl) ?_
          refine z_ild_4 (TX8_row_2.at 9 rfl) ?_
          refine z_if_eq (tgt := 148) (TX8_row_2.at 10 rfl) rfl (by decide) (fun c8 => ?_) (fun c8 => absurd c8 (by decide))
          refine z_iconst (TX8_row_2.at 13 rfl) ?_
          refine z_iadd (TX8_row_2.at 14 rfl) ?_
          refine z_ist_2 (TX8_row_2.at 15 rfl) (Nat.le_of_ble_eq_true rfl) rfl ?_
          refine z_ald_0 (TX8_row_2.at 16 rfl) ?_
          refine z_dup rfl (TX8_row_2.at 17 rfl) ?_
          refine zm_getIE ef6 (TX8_row_2.at 18 rfl) fl8_153 hH rfl (by decide) (fun r153 => ?_)
          refine z_ild_4 (TX8_row_2.at 19 rfl) ?_
          refine z_if_eq (tgt := 165) (TX8_row_2.at 20 rfl) rfl (by decide) (fun c9 => ?_) (fun c9 => absurd c9 (by decide))
          refine z_iconst (TX8_row_2.at 23 rfl) ?_
          refine z_iadd (TX8_row_2.at 24 rfl) ?_
          refine zm_putIE (TX8_row_2.at 25 rfl) fp8_153 hH hA rfl (by decide) (by first | omega | exact b2i_01 _) (fun h f167 e1 e2 hH hA => ?_)
          have ef6 := e2
          have hfE := hfE.put e1 (by decide)
          refine z_iinc_3 (TX8_row_2.at 26 rfl) (Nat.le_of_ble_eq_true rfl) rfl ?_
          refine z_goto (tgt := 40) (TX8_row_2.at 27 rfl) rfl ?_
          exact ih (m + 1) _ _ _ _ _ _ _ _ (by omega) (by omega) (by omega) (by first | exact row_t es a0 (by assumption) | exact row_f es a0 (by omega)) eg2 eg11 ef6 hfE hgE hH hA
        · skip
          refine z_iconst (TX8_row_1.at 18 rfl) ?_
          refine z_goto (tgt := 97) (TX8_row_1.at 19 rfl) rfl ?_
          refine z_ist_4 (TX8_row_1.at 21 rfl) (Nat.le_of_ble_eq_true rfl) rfl ?_
          refine z_ild_4 (TX8_row_1.at 22 rfl) ?_
          refine z_if_eq (tgt := 138) (TX8_row_1.at 23 rfl) rfl (by decide) (fun c10 => absurd c10 (by decide)) (fun c10 => ?_)
          refine z_ald_0 (TX8_row_1.at 24 rfl) ?_
          refine z_ald_0 (TX8_row_1.at 25 rfl) ?_
          refine zm_getA (TX8_row_1.at 26 rfl) fl8_45 hH (by decide) (by decide) ?_
          refine z_ild_3 (TX8_row_1.at 27 rfl) ?_
          refine zm_baldE eg11 (TX8_row_1.at 28 rfl) hH rfl (by omega) (show _ < ((400 : Nat) : Int) by omega) (fun r110 => ?_)
          refine z_ald_0 (TX8_row_1.at 29 rfl) ?_
          refine zm_getA (TX8_row_1.at 30 rfl) fl8_45 hH (by decide) (by decide) ?_
          refine z_ild_3 (TX8_row_1.at 31 rfl) ?_
          refine z_iconst (TX8_row_1.at 32 rfl) ?_
          refine z_iadd (TX8_row_1.at 33 rfl) ?_
          refine zm_baldE eg11 (TX8_row_1.at 34 rfl) hH rfl (by omega) (show _ < ((400 : Nat) : Int) by omega) (fun r118 => ?_)
          refine z_ald_0 (TX8_row_1.at 35 rfl) ?_
          refine zm_getA (TX8_row_1.at 36 rfl) fl8_45 hH (by decide) (by decide) ?_
          refine z_ild_3 (TX8_row_1.at 37 rfl) ?_
          refine z_iconst (TX8_row_1.at 38 rfl) ?_
          refine z_iadd (TX8_row_1.at 39 rfl) ?_
          refine zm_baldE eg11 (TX8_row_2.at 0 rfl) hH rfl (by omega) (show _ < ((400 : Nat) : Int) by omega) (fun r126 => ?_)
          refine z_ald_0 (TX8_row_2.at 1 rfl) ?_
          refine zm_getA (TX8_row_2.at 2 rfl) fl8_45 hH (by decide) (by decide) ?_
          refine z_ild_3 (TX8_row_2.at 3 rfl) ?_
          refine z_iconst (TX8_row_2.at 4 rfl) ?_
          refine z_iadd (TX8_row_2.at 5 rfl) ?_
          refine zm_baldE eg11 (TX8_row_2.at 6 rfl) hH rfl (by omega) (show _ < ((400 : Nat) : Int) by omega) (fun r134 => ?_)
          refine zm_callV4 (m_adds eg2 (by omega) (by omega) (by omega) (by omega) (by omega) (by omega)) (TX8_row_2.at 7 rfl) c8_121 rfl rfl hH hA (by omega) (Nat.le_of_ble_eq_true rfl) (fun f135 g135 j135 h q135 hH hA => ?_)
          obtain ⟨q135, xf, xg, xj⟩ := q135
          rw [xj] at hH
          have ef6 := (xf 6 (by decide)).trans ef6
          have hfE := hfE.trans xf (by decide)
          have eg11 := (xg 11 (by decide)).trans eg11
          have hgE := hgE.trans xg (by decide)
          have qL := q135
          have eg2 := q135
          have hcc : K 76 < 10 ∧ canF (X11 a) (X11 (a + 1)) (X11 (a + 2)) (X11 (a + 3)) := ⟨by omega, by assumption⟩
          refine z_ild_2 (TX8_row_2.at 8 rfl) ?_
          refine z_ild_4 (TX8_row_2.at 9 rfl) ?_
          refine z_if_eq (tgt := 148) (TX8_row_2.at 10 rfl) rfl (by decide) (fun c11 => absurd c11 (by decide)) (fun c11 => ?_)
          refine z_iconst (TX8_row_2.at 11 rfl) ?_
          refine z_goto (tgt := 149) (TX8_row_2.at 12 rfl) rfl ?_
          refine z_iadd (TX8_row_2.at 14 rfl) ?_
          refine z_ist_2 (TX8_row_2.at 15 rfl) (Nat.le_of_ble_eq_true rfl) rfl ?_
          refine z_ald_0 (TX8_row_2.at 16 rfl) ?_
          refine z_dup rfl (TX8_row_2.at 17 rfl) ?_
          refine zm_getIE ef6 (TX8_row_2.at 18 rfl) fl8_153 hH rfl (by decide) (fun r153 => ?_)
          refine z_ild_4 (TX8_row_2.at 19 rfl) ?_
          refine z_if_eq (tgt := 165) (TX8_row_2.at 20 rfl) rfl (by decide) (fun c12 => absurd c12 (by decide)) (fun c12 => ?_)
          refine z_iconst (TX8_row_2.at 21 rfl) ?_
          refine z_goto (tgt := 166) (TX8_row_2.at 22 rfl) rfl ?_
          refine z_iadd (TX8_row_2.at 24 rfl) ?_
          refine zm_putIE (TX8_row_2.at 25 rfl) fp8_153 hH hA rfl (by decide) (by first | omega | exact b2i_01 _) (fun h f167 e1 e2 hH hA => ?_)
          have ef6 := e2
          have hfE := hfE.put e1 (by decide)
          refine z_iinc_3 (TX8_row_2.at 26 rfl) (Nat.le_of_ble_eq_true rfl) rfl ?_
          refine z_goto (tgt := 40) (TX8_row_2.at 27 rfl) rfl ?_
          exact ih (m + 1) _ _ _ _ _ _ _ _ (by omega) (by omega) (by omega) (by first | exact row_t es a0 (by assumption) | exact row_f es a0 (by omega)) eg2 eg11 ef6 hfE hgE hH hA

set_option maxHeartbeats 4000000 in
set_option maxRecDepth 100000 in
theorem m_row {l : Launch} {o : Nat} {ar : Nat → Nat} {f : mF} {g j : mA} {X1 : Int → Int} {K : Int → Int} {X11 : Int → Int} {x6 : Int} {x13 : Int} {x36 : Int}  (eg1 : g 1 = X1) (eg2 : g 2 = K) (eg11 : g 11 = X11) (ef6 : f 6 = x6) (ef13 : f 13 = x13) (ef36 : f 36 = x36) (hb : ∀ i, X1 i ≤ 100000) (n0 : 0 ≤ K 76) (n1 : K 76 ≤ 10) (z0 : 0 ≤ x13) (z1 : x13 ≤ 400) : MM l o ar MX8_row 3 [.ref o] f g j (PI (fun r f' g' j' => ((x13 = 0 ∧ mRef (-6) r f' g' X1 ∧ f' 13 = 0 ∧ g' 2 = K ∧ f' 6 = x6 ∧ f' 36 = x36) ∨ (x13 ≠ 0 ∧ f' 13 = 0 ∧ f' 36 = 0 ∧ mOk (rowN X11 (K, 0, if x13 % 4 = 0 then 0 else 1) (x13 / 4).toNat).2.1 r f' g' X1 ∧ g' 2 = (rowN X11 (K, 0, if x13 % 4 = 0 then 0 else 1) (x13 / 4).toNat).1 ∧ f' 6 = (rowN X11 (K, 0, if x13 % 4 = 0 then 0 else 1) (x13 / 4).toNat).2.2)) ∧ eqx [0, 6, 13, 36] f f' ∧ eqx [1, 2] g g' ∧ j' = j)) := by
  refine MM.intro [some (.ref o), none, none, none, none] (by decide) (Nat.le_of_ble_eq_true rfl) rfl (fun d hd h0 h hH hA => ?_)
  have hfE : eqx [0, 6, 13, 36] f f := eqx.rf
  have hgE : eqx [1, 2] g g := eqx.rf
  refine z_ald_0 (TX8_row_0.at 0 rfl) ?_
  refine zm_getIE ef13 (TX8_row_0.at 1 rfl) fl8_150 hH rfl (by decide) (fun r1 => ?_)
  refine z_ist_1 (TX8_row_0.at 2 rfl) (Nat.le_of_ble_eq_true rfl) rfl ?_
  refine z_ald_0 (TX8_row_0.at 3 rfl) ?_
  refine z_iconst (TX8_row_0.at 4 rfl) ?_
  refine zm_putIE (TX8_row_0.at 5 rfl) fp8_150 hH hA rfl (by decide) (by first | omega | exact b2i_01 _) (fun h f7 e1 e2 hH hA => ?_)
  have ef6 := (e1 6 (by decide)).trans ef6
  have ef13 := e2
  have ef36 := (e1 36 (by decide)).trans ef36
  have hfE := hfE.put e1 (by decide)
  refine z_ild_1 (TX8_row_0.at 6 rfl) ?_
  refine z_if_ne (tgt := 21) (TX8_row_0.at 7 rfl) rfl (by omega) (fun c1 => ?_) (fun c1 => ?_)
  · skip
    refine z_iconst (TX8_row_0.at 12 rfl) ?_
    refine z_ist_2 (TX8_row_0.at 13 rfl) (Nat.le_of_ble_eq_true rfl) rfl ?_
    refine z_ald_0 (TX8_row_0.at 14 rfl) ?_
    refine z_ild_1 (TX8_row_0.at 15 rfl) ?_
    refine z_iconst (TX8_row_0.at 16 rfl) ?_
    refine z_irem (by omega) (by omega) (TX8_row_0.at 17 rfl) ?_
    rw [zrem_nat (by omega) (by omega) (by omega)]
    refine z_if_ne (tgt := 34) (TX8_row_0.at 18 rfl) rfl (by omega) (fun c2 => ?_) (fun c2 => ?_)
    · skip
      refine z_iconst (TX8_row_0.at 21 rfl) ?_
      refine zm_putIE (TX8_row_0.at 22 rfl) fp8_153 hH hA rfl (by decide) (by first | omega | exact b2i_01 _) (fun h f35 e1 e2 hH hA => ?_)
      have ef6 := e2
      have ef13 := (e1 13 (by decide)).trans ef13
      have ef36 := (e1 36 (by decide)).trans ef36
      have hfE := hfE.put e1 (by decide)
      refine z_iconst (TX8_row_0.at 23 rfl) ?_
      refine z_ist_3 (TX8_row_0.at 24 rfl) (Nat.le_of_ble_eq_true rfl) rfl ?_
      refine lp_row (by omega) z0 z1 n0 n1 (by omega) (fun m K2 s y o4 f40 g40 h hm es eg2 ef6 xf xg hH hA => ?_) 102 0 0 0 K _ none _ _ _ (by omega) (by omega) (by omega) rfl eg2 eg11 ef6 eqx.rf eqx.rf hH hA
      have ef13 := (xf 13 (by decide)).trans ef13
      have ef36 := (xf 36 (by decide)).trans ef36
      have hfE := hfE.trans xf (by decide)
      have eg1 := (xg 1 (by decide)).trans eg1
      have eg11 := (xg 11 (by decide)).trans eg11
      have hgE := hgE.trans xg (by decide)
      have hin : 0 ≤ s ∧ s ≤ m := by first | (have q := rowN_in X11 (K, 0, 0) n0 n1 rfl (show (0:Int) ≤ 0 ∧ (0:Int) ≤ 1 by omega) m; rw [← es] at q; exact q.2.1) | (have q := rowN_in X11 (K, 0, 1) n0 n1 rfl (show (0:Int) ≤ 1 ∧ (1:Int) ≤ 1 by omega) m; rw [← es] at q; exact q.2.1)
      refine z_ald_0 (TX8_row_2.at 28 rfl) ?_
      refine z_ild_2 (TX8_row_2.at 29 rfl) ?_
      refine zm_callI1 (t_settled (by omega)) (TX8_row_2.at 30 rfl) c8_106 rfl rfl hH hA (by omega) (Nat.le_of_ble_eq_true rfl) (fun x178 f178 g178 j178 h r178 q178 hH hA => ?_)
      obtain ⟨q178, xf, xg, xj⟩ := q178
      rw [xj] at hH
      have ef6 := (xf 6 (by decide)).trans ef6
      have ef13 := (xf 13 (by decide)).trans ef13
      have hfE := hfE.trans xf (by decide)
      have eg1 := (xg 1 (by decide)).trans eg1
      have eg2 := (xg 2 (by decide)).trans eg2
      have eg11 := (xg 11 (by decide)).trans eg11
      have hgE := hgE.trans xg (by decide)
      have qL := q178
      refine zm_iret (TX8_row_2.at 31 rfl) rfl hH hA (by omega) ?_
      exact ⟨Or.inr ⟨by omega, ef13, qL.2.2, by subst hm; first | (rw [if_pos (by omega), ← es]; exact ⟨⟨qL.1, qL.2.1, eg1⟩, eg2, ef6⟩) | (rw [if_neg (by omega), ← es]; exact ⟨⟨qL.1, qL.2.1, eg1⟩, eg2, ef6⟩)⟩, hfE, hgE, rfl⟩
    · skip
      refine z_iconst (TX8_row_0.at 19 rfl) ?_
      refine z_goto (tgt := 35) (TX8_row_0.at 20 rfl) rfl ?_
      refine zm_putIE (TX8_row_0.at 22 rfl) fp8_153 hH hA rfl (by decide) (by first | omega | exact b2i_01 _) (fun h f35 e1 e2 hH hA => ?_)
      have ef6 := e2
      have ef13 := (e1 13 (by decide)).trans ef13
      have ef36 := (e1 36 (by decide)).trans ef36
      have hfE := hfE.put e1 (by decide)
      refine z_iconst (TX8_row_0.at 23 rfl) ?_
      refine z_ist_3 (TX8_row_0.at 24 rfl) (Nat.le_of_ble_eq_true rfl) rfl ?_
      refine lp_row (by omega) z0 z1 n0 n1 (by omega) (fun m K2 s y o4 f40 g40 h hm es eg2 ef6 xf xg hH hA => ?_) 102 0 0 0 K _ none _ _ _ (by omega) (by omega) (by omega) rfl eg2 eg11 ef6 eqx.rf eqx.rf hH hA
      have ef13 := (xf 13 (by decide)).trans ef13
      have ef36 := (xf 36 (by decide)).trans ef36
      have hfE := hfE.trans xf (by decide)
      have eg1 := (xg 1 (by decide)).trans eg1
      have eg11 := (xg 11 (by decide)).trans eg11
      have hgE := hgE.trans xg (by decide)
      have hin : 0 ≤ s ∧ s ≤ m := by first | (have q := rowN_in X11 (K, 0, 0) n0 n1 rfl (show (0:Int) ≤ 0 ∧ (0:Int) ≤ 1 by omega) m; rw [← es] at q; exact q.2.1) | (have q := rowN_in X11 (K, 0, 1) n0 n1 rfl (show (0:Int) ≤ 1 ∧ (1:Int) ≤ 1 by omega) m; rw [← es] at q; exact q.2.1)
      refine z_ald_0 (TX8_row_2.at 28 rfl) ?_
      refine z_ild_2 (TX8_row_2.at 29 rfl) ?_
      refine zm_callI1 (t_settled (by omega)) (TX8_row_2.at 30 rfl) c8_106 rfl rfl hH hA (by omega) (Nat.le_of_ble_eq_true rfl) (fun x178 f178 g178 j178 h r178 q178 hH hA => ?_)
      obtain ⟨q178, xf, xg, xj⟩ := q178
      rw [xj] at hH
      have ef6 := (xf 6 (by decide)).trans ef6
      have ef13 := (xf 13 (by decide)).trans ef13
      have hfE := hfE.trans xf (by decide)
      have eg1 := (xg 1 (by decide)).trans eg1
      have eg2 := (xg 2 (by decide)).trans eg2
      have eg11 := (xg 11 (by decide)).trans eg11
      have hgE := hgE.trans xg (by decide)
      have qL := q178
      refine zm_iret (TX8_row_2.at 31 rfl) rfl hH hA (by omega) ?_
      exact ⟨Or.inr ⟨by omega, ef13, qL.2.2, by subst hm; first | (rw [if_pos (by omega), ← es]; exact ⟨⟨qL.1, qL.2.1, eg1⟩, eg2, ef6⟩) | (rw [if_neg (by omega), ← es]; exact ⟨⟨qL.1, qL.2.1, eg1⟩, eg2, ef6⟩)⟩, hfE, hgE, rfl⟩
  · skip
    refine z_ald_0 (TX8_row_0.at 8 rfl) ?_
    refine z_bipush (by decide) (TX8_row_0.at 9 rfl) ?_
    refine zm_callI1 (t_refuses eg1 (by omega) (by omega) (by omega) hb) (TX8_row_0.at 10 rfl) c8_103 rfl rfl hH hA (by omega) (Nat.le_of_ble_eq_true rfl) (fun x17 f17 g17 j17 h r17 q17 hH hA => ?_)
    obtain ⟨q17, xf, xg, xj⟩ := q17
    rw [xj] at hH
    have ef6 := (xf 6 (by decide)).trans ef6
    have ef13 := (xf 13 (by decide)).trans ef13
    have ef36 := (xf 36 (by decide)).trans ef36
    have hfE := hfE.trans xf (by decide)
    have eg2 := (xg 2 (by decide)).trans eg2
    have eg11 := (xg 11 (by decide)).trans eg11
    have hgE := hgE.trans xg (by decide)
    have qL := q17
    refine zm_iret (TX8_row_0.at 11 rfl) rfl hH hA (by omega) ?_
    exact ⟨Or.inl ⟨by omega, ⟨qL.1, qL.2.1, qL.2.2⟩, ef13, eg2, ef6, ef36⟩, hfE, hgE, rfl⟩

