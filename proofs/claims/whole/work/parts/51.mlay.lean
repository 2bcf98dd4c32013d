/-! ===== the reference: lays, law ===== -/
def layN (K : Int → Int) (t N : Int) (X15 X16 : Int → Int) (m : Int) : Int → Int := cpy (cpy (iu K (81 + t) N) X15 (88 + 400 * t) 0 m) X16 (2888 + 400 * t) 0 m
theorem layN_0 {K : Int → Int} {t N : Int} {X15 X16 : Int → Int} : layN K t N X15 X16 0 = iu K (81 + t) N := by unfold layN; rw [cpy_0, cpy_0]
theorem layN_s {K : Int → Int} {t N m : Int} {X15 X16 : Int → Int} (t0 : 0 ≤ t) (t6 : t ≤ 6) (m0 : 0 ≤ m) (m4 : m < 400) : iu (iu (layN K t N X15 X16 m) (88 + 400 * t + m) (X15 m)) (2888 + 400 * t + m) (X16 m) = layN K t N X15 X16 (m + 1) := by
  funext i
  unfold layN
  by_cases e1 : i = 2888 + 400 * t + m
  · subst e1
    rw [iu_self]
    unfold cpy
    rw [if_pos (by omega)]
    congr 1; omega
  · rw [iu_ne e1]
    by_cases e2 : i = 88 + 400 * t + m
    · subst e2
      rw [iu_self]
      unfold cpy
      rw [if_neg (by omega), if_pos (by omega)]
      congr 1; omega
    · rw [iu_ne e2]
      unfold cpy
      by_cases e3 : 2888 + 400 * t ≤ i ∧ i < 2888 + 400 * t + m
      · rw [if_pos e3, if_pos (show 2888 + 400 * t ≤ i ∧ i < 2888 + 400 * t + (m + 1) by omega)]
      · rw [if_neg e3, if_neg (show ¬ (2888 + 400 * t ≤ i ∧ i < 2888 + 400 * t + (m + 1)) by omega)]
        by_cases e4 : 88 + 400 * t ≤ i ∧ i < 88 + 400 * t + m
        · rw [if_pos e4, if_pos (show 88 + 400 * t ≤ i ∧ i < 88 + 400 * t + (m + 1) by omega)]
        · rw [if_neg e4, if_neg (show ¬ (88 + 400 * t ≤ i ∧ i < 88 + 400 * t + (m + 1)) by omega)]
theorem layN_c {K : Int → Int} {t N i : Int} {X15 X16 : Int → Int} (t0 : 0 ≤ t) (t6 : t ≤ 6) (i0 : 0 ≤ i) (i1 : i < N) (N4 : N ≤ 400) : layN K t N X15 X16 N (88 + (400 * t + i)) = X15 i := by
  unfold layN cpy
  rw [if_neg (by omega), if_pos (by omega)]
  congr 1; omega
theorem layN_v {K : Int → Int} {t N i : Int} {X15 X16 : Int → Int} (t0 : 0 ≤ t) (t6 : t ≤ 6) (i0 : 0 ≤ i) (i1 : i < N) (N4 : N ≤ 400) : layN K t N X15 X16 N (2888 + (400 * t + i)) = X16 i := by
  unfold layN cpy
  rw [if_pos (by omega)]
  congr 1; omega
theorem layN_n {K : Int → Int} {t N : Int} {X15 X16 : Int → Int} (t0 : 0 ≤ t) (t6 : t ≤ 6) (N0 : 0 ≤ N) (N4 : N ≤ 400) : layN K t N X15 X16 N (81 + t) = N := by
  unfold layN cpy
  rw [if_neg (by omega), if_neg (by omega), iu_self]
theorem layN_far {K : Int → Int} {t N i : Int} {X15 X16 : Int → Int} (h1 : i ≠ 81 + t) (h2 : ¬ (88 + 400 * t ≤ i ∧ i < 88 + 400 * t + N)) (h3 : ¬ (2888 + 400 * t ≤ i ∧ i < 2888 + 400 * t + N)) : layN K t N X15 X16 N i = K i := by
  unfold layN cpy
  rw [if_neg h3, if_neg h2, iu_ne h1]
def LawAt (K : Int → Int) (t : Int) (cl : List Cla) : Prop := ∃ nN : Nat, K (81 + t) = (nN : Int) ∧ nN ≤ 400 ∧ pText true (cK K (400 * t) nN) (vK K (400 * t)) nN 12 0 0 = .ok cl
theorem LawAt_cg {K K' : Int → Int} {t : Int} {cl : List Cla} (h : LawAt K t cl) (e0 : K' (81 + t) = K (81 + t)) (e1 : ∀ i : Int, 0 ≤ i → i < 400 → K' (88 + (400 * t + i)) = K (88 + (400 * t + i)) ∧ K' (2888 + (400 * t + i)) = K (2888 + (400 * t + i))) : LawAt K' t cl := by
  obtain ⟨n, h1, h2, h3⟩ := h
  refine ⟨n, e0.trans h1, h2, ?_⟩
  have a : ∀ i : Int, 0 ≤ i → cK K' (400 * t) n i = cK K (400 * t) n i := by
    intro i hi
    unfold cK
    by_cases q : i < n
    · rw [if_pos q, if_pos q, (e1 i hi (by omega)).1]
    · rw [if_neg q, if_neg q]
  rw [pText_cg2 a (fun i hi hc => ?_)]
  · exact h3
  · have q : i < n := by
      rcases Int.lt_or_le i n with z | z
      · exact z
      · unfold cK at hc; rw [if_neg (by omega)] at hc; omega
    unfold vK
    rw [(e1 i hi (by omega)).2]
theorem LawK_at {K : Int → Int} {cl : List Cla} : LawK K cl ↔ (K 80 = -1 ∧ cl = []) ∨ (0 ≤ K 80 ∧ K 80 ≤ 6 ∧ LawAt K (K 80) cl) := Iff.rfl
/-- a text laid down is the text that was read -/
theorem lay_text {lw : Bool} {K : Int → Int} {t z : Int} {U X15 X16 X17 : Int → Int} (hR : RdH (tN U z) (cT U z) (vT U z) (pT U z) X15 X16 X17) (t0 : 0 ≤ t) (t6 : t ≤ 6) : pText lw (cK (layN K t (tN U z) X15 X16 (tN U z)) (400 * t) (tN U z)) (vK (layN K t (tN U z) X15 X16 (tN U z)) (400 * t)) (tN U z).toNat 12 0 0 = txtS lw U z := by
  have hN := hR.1
  have a : ∀ i : Int, 0 ≤ i → cK (layN K t (tN U z) X15 X16 (tN U z)) (400 * t) (tN U z) i = cT U z i := by
    intro i hi
    unfold cK
    by_cases q : i < tN U z
    · rw [if_pos q, layN_c t0 t6 hi q hN.2]; exact (hR.2.1 i hi (by omega)).1
    · rw [if_neg q, hR.2.2 i (by omega)]
  unfold txtS
  refine pText_cg2 a (fun i hi hc => ?_) _ 12 0 0
  have q : i < tN U z := by
    rcases Int.lt_or_le i (tN U z) with z | z
    · exact z
    · unfold cK at hc; rw [if_neg (by omega)] at hc; omega
  unfold vK
  rw [layN_v t0 t6 hi q hN.2]
  exact (hR.2.1 i hi (by omega)).2.1
theorem lay_keep {K : Int → Int} {t t' N : Int} {X15 X16 : Int → Int} {cl : List Cla} (h : LawAt K t' cl) (t0 : 0 ≤ t) (t6 : t ≤ 6) (q0 : 0 ≤ t') (q6 : t' ≤ 6) (hne : t' ≠ t) (N0 : 0 ≤ N) (N4 : N ≤ 400) : LawAt (layN K t N X15 X16 N) t' cl := by
  refine LawAt_cg h (layN_far (by omega) (by omega) (by omega)) (fun i i0 i1 => ⟨layN_far (by omega) ?_ (by omega), layN_far (by omega) (by omega) ?_⟩)
  · rcases (show t' < t ∨ t < t' by omega) with z | z <;> omega
  · rcases (show t' < t ∨ t < t' by omega) with z | z <;> omega
set_option maxHeartbeats 4000000 in
set_option maxRecDepth 100000 in
theorem lp_lays3 {l : Launch} {o : Nat} {ar : Nat → Nat} {d : Nat} {Pz : Option Value → zH → Prop} {h0 : zH} {f0 : mF} {g0 : mA} {j : mA}  {K X15 X16 : Int → Int} {t N : Int} (t0 : 0 ≤ t) (t6 : t ≤ 6) (N4 : N ≤ 400) (kx : ∀ (f : mF) (g : mA) (h : zH), g 2 = layN K t N X15 X16 N → eqx [] f0 f → eqx [2] g0 g → HM o ar f g j h → zAg o ar h0 h → Z l MX8_lays d 0 0 Pz 72 [some (.ref o), some (vI t), some (vI N)] [] h 0 0)  : ∀ (n : Nat) (i : Int) (f : mF) (g : mA) (h : zH) (i0 : 0 ≤ i) (i1 : i ≤ N) (i2 : N < i + n) (eg2 : g 2 = layN K t N X15 X16 i) (eg15 : g 15 = X15) (eg16 : g 16 = X16) (ef18 : f 18 = N) (hfE : eqx [] f0 f) (hgE : eqx [2] g0 g) (hH : HM o ar f g j h) (hA : zAg o ar h0 h), Z l MX8_lays d 0 0 Pz 15 [some (.ref o), some (vI t), some (vI i)] [] h 0 0 := by
  intro n
  induction n with
  | zero => intro i f g h i0 i1 i2 eg2 eg15 eg16 ef18 hfE hgE hH hA; exfalso; omega
  | succ n ih =>
    intro i f g h i0 i1 i2 eg2 eg15 eg16 ef18 hfE hgE hH hA
    refine z_ild_2 (TX8_lays.at 10 rfl) ?_
    refine z_ald_0 (TX8_lays.at 11 rfl) ?_
    refine zm_getIE ef18 (TX8_lays.at 12 rfl) fl8_156 hH rfl (by decide) (fun r17 => ?_)
    refine z_icmp_ge (tgt := 72) (TX8_lays.at 13 rfl) rfl (by omega) (by omega) (fun c1 => ?_) (fun c1 => ?_)
    · skip
      obtain rfl : i = N := by omega
      exact kx _ _ _ eg2 hfE hgE hH hA
    · skip
      refine z_ald_0 (TX8_lays.at 14 rfl) ?_
      refine zm_getA (TX8_lays.at 15 rfl) fl8_28 hH (by decide) (by decide) ?_
      refine z_bipush (by decide) (TX8_lays.at 16 rfl) ?_
      refine z_sipush (by decide) (TX8_lays.at 17 rfl) ?_
      refine z_ild_1 (TX8_lays.at 18 rfl) ?_
      refine z_imul (TX8_lays.at 19 rfl) ?_
      refine z_iadd (TX8_lays.at 20 rfl) ?_
      refine z_ild_2 (TX8_lays.at 21 rfl) ?_
      refine z_iadd (TX8_lays.at 22 rfl) ?_
      refine z_ald_0 (TX8_lays.at 23 rfl) ?_
      refine zm_getA (TX8_lays.at 24 rfl) fl8_54 hH (by decide) (by decide) ?_
      refine z_ild_2 (TX8_lays.at 25 rfl) ?_
      refine zm_ialdE eg15 (TX8_lays.at 26 rfl) hH rfl (by omega) (show _ < ((401 : Nat) : Int) by omega) (fun r42 => ?_)
      refine zm_iastE (TX8_lays.at 27 rfl) hH hA rfl (by omega) (show _ < ((5688 : Nat) : Int) by omega) (by omega) (fun h g43 e1 e2 hH hA => ?_)
      rw [eg2] at e2; have eg2 := e2
      have eg15 := (e1 15 (by decide)).trans eg15
      have eg16 := (e1 16 (by decide)).trans eg16
      have hgE := hgE.put e1 (by decide)
      refine z_ald_0 (TX8_lays.at 28 rfl) ?_
      refine zm_getA (TX8_lays.at 29 rfl) fl8_28 hH (by decide) (by decide) ?_
      refine z_sipush (by decide) (TX8_lays.at 30 rfl) ?_
      refine z_sipush (by decide) (TX8_lays.at 31 rfl) ?_
      refine z_ild_1 (TX8_lays.at 32 rfl) ?_
      refine z_imul (TX8_lays.at 33 rfl) ?_
      refine z_iadd (TX8_lays.at 34 rfl) ?_
      refine z_ild_2 (TX8_lays.at 35 rfl) ?_
      refine z_iadd (TX8_lays.at 36 rfl) ?_
      refine z_ald_0 (TX8_lays.at 37 rfl) ?_
      refine zm_getA (TX8_lays.at 38 rfl) fl8_57 hH (by decide) (by decide) ?_
      refine z_ild_2 (TX8_lays.at 39 rfl) ?_
      refine zm_ialdE eg16 (TX8_lays.at 40 rfl) hH rfl (by omega) (show _ < ((401 : Nat) : Int) by omega) (fun r64 => ?_)
      refine zm_iastE (TX8_lays.at 41 rfl) hH hA rfl (by omega) (show _ < ((5688 : Nat) : Int) by omega) (by omega) (fun h g65 e1 e2 hH hA => ?_)
      rw [eg2] at e2; have eg2 := e2
      have eg15 := (e1 15 (by decide)).trans eg15
      have eg16 := (e1 16 (by decide)).trans eg16
      have hgE := hgE.put e1 (by decide)
      refine z_iinc_2 (TX8_lays.at 42 rfl) (Nat.le_of_ble_eq_true rfl) rfl ?_
      refine z_goto (tgt := 15) (TX8_lays.at 43 rfl) rfl ?_
      exact ih (i + 1) _ _ _ (by omega) (by omega) (by omega) (eg2.trans (layN_s t0 t6 i0 (by omega))) eg15 eg16 ef18 hfE hgE hH hA

set_option maxHeartbeats 4000000 in
set_option maxRecDepth 100000 in
theorem m_lays {l : Launch} {o : Nat} {ar : Nat → Nat} {f : mF} {g j : mA} {K : Int → Int} {X15 : Int → Int} {X16 : Int → Int} {N : Int} {t : Int}  (eg2 : g 2 = K) (eg15 : g 15 = X15) (eg16 : g 16 = X16) (ef18 : f 18 = N) (ht : zIn t) (t0 : 0 ≤ t) (t6 : t ≤ 6) (N0 : 0 ≤ N) (N4 : N ≤ 400) : MM l o ar MX8_lays 0 [.ref o, vI t] f g j (PV (fun f' g' j' => (g' 2 = layN K t N X15 X16 N) ∧ eqx [] f f' ∧ eqx [2] g g' ∧ j' = j)) := by
  refine MM.intro [some (.ref o), some (vI t), none] (by decide) (Nat.le_of_ble_eq_true rfl) rfl (fun d hd h0 h hH hA => ?_)
  have hfE : eqx [] f f := eqx.rf
  have hgE : eqx [2] g g := eqx.rf
  refine z_ald_0 (TX8_lays.at 0 rfl) ?_
  refine zm_getA (TX8_lays.at 1 rfl) fl8_28 hH (by decide) (by decide) ?_
  refine z_bipush (by decide) (TX8_lays.at 2 rfl) ?_
  refine z_ild_1 (TX8_lays.at 3 rfl) ?_
  refine z_iadd (TX8_lays.at 4 rfl) ?_
  refine z_ald_0 (TX8_lays.at 5 rfl) ?_
  refine zm_getIE ef18 (TX8_lays.at 6 rfl) fl8_156 hH rfl (by decide) (fun r9 => ?_)
  refine zm_iastE (TX8_lays.at 7 rfl) hH hA rfl (by omega) (show _ < ((5688 : Nat) : Int) by omega) (by omega) (fun h g12 e1 e2 hH hA => ?_)
  rw [eg2] at e2; have eg2 := e2
  have eg15 := (e1 15 (by decide)).trans eg15
  have eg16 := (e1 16 (by decide)).trans eg16
  have hgE := hgE.put e1 (by decide)
  refine z_iconst (TX8_lays.at 8 rfl) ?_
  refine z_ist_2 (TX8_lays.at 9 rfl) (Nat.le_of_ble_eq_true rfl) rfl ?_
  refine lp_lays3 (K := K) t0 t6 N4 (fun f15 g15 h eg2 xf xg hH hA => ?_) 401 0 _ _ _ (by omega) (by omega) (by omega) (eg2.trans layN_0.symm) eg15 eg16 ef18 eqx.rf eqx.rf hH hA
  have ef18 := (xf 18 (by decide)).trans ef18
  have hfE := hfE.trans xf (by decide)
  have eg15 := (xg 15 (by decide)).trans eg15
  have eg16 := (xg 16 (by decide)).trans eg16
  have hgE := hgE.trans xg (by decide)
  refine zm_vret (TX8_lays.at 44 rfl) rfl hH hA ?_
  exact ⟨eg2, hfE, hgE, rfl⟩

def lawP (K K' : Int → Int) (cl : List Cla) : Prop := (∀ i, i < 79 → K' i = K i) ∧ K' 79 = K 79 + 1 ∧ K' 80 = K 80 ∧ LawAt K' (K 79) cl ∧ ∀ t c, 0 ≤ t → t ≤ 6 → t ≠ K 79 → LawAt K t c → LawAt K' t c
theorem lawP_of {K U X15 X16 X17 : Int → Int} {z : Int} {cl : List Cla} (hR : RdH (tN U z) (cT U z) (vT U z) (pT U z) X15 X16 X17) (t0 : 0 ≤ K 79) (t6 : K 79 ≤ 6) (h : txtS true U z = .ok cl) : lawP K (iu (layN K (K 79) (tN U z) X15 X16 (tN U z)) 79 (K 79 + 1)) cl := by
  have hN := hR.1
  have far : ∀ i, i < 81 → layN K (K 79) (tN U z) X15 X16 (tN U z) i = K i := fun i hi => layN_far (by omega) (by omega) (by omega)
  have up : ∀ t c, 0 ≤ t → t ≤ 6 → LawAt (layN K (K 79) (tN U z) X15 X16 (tN U z)) t c → LawAt (iu (layN K (K 79) (tN U z) X15 X16 (tN U z)) 79 (K 79 + 1)) t c := fun t c q0 q6 q => LawAt_cg q (iu_ne (by omega)) (fun i i0 i1 => ⟨iu_ne (by omega), iu_ne (by omega)⟩)
  refine ⟨fun i hi => by rw [iu_ne (by omega)]; exact far i (by omega), iu_self _ _ _, by rw [iu_ne (by omega)]; exact far 80 (by omega), up _ _ t0 t6 ?_, fun t c q0 q6 hne q => up t c q0 q6 (lay_keep q t0 t6 q0 q6 hne hN.1 hN.2)⟩
  refine ⟨(tN U z).toNat, by rw [layN_n t0 t6 hN.1 hN.2]; omega, by omega, ?_⟩
  rw [show (((tN U z).toNat : Nat) : Int) = tN U z by omega]
  exact (lay_text hR t0 t6).trans h
def lawQ (K X1 U : Int → Int) (z x14 r : Int) (f' : mF) (g' : mA) : Prop := f' 13 = 0 ∧ ((K 79 = 6 ∧ mRef (-5) r f' g' X1 ∧ g' 2 = K ∧ f' 14 = x14) ∨ (K 79 < 6 ∧ ∃ e, txtS true U z = .error e ∧ mRef (-6) r f' g' X1 ∧ g' 2 = K ∧ f' 14 = pT U z e) ∨ (K 79 < 6 ∧ ∃ cl, txtS true U z = .ok cl ∧ mOk (K 79) r f' g' X1 ∧ f' 14 = -1 ∧ lawP K (g' 2) cl))
theorem rdQ_e {lw : Bool} {U : Int → Int} {z r x : Int} (h : rdQ (bdT (pT U z) (txtS lw U z)) r x) : (r = 0 ∧ ∃ e, txtS lw U z = .error e ∧ x = pT U z e) ∨ (r = 1 ∧ ∃ l, txtS lw U z = .ok l ∧ x = -1) := by
  cases hg : txtS lw U z with
  | error e => rw [hg] at h; exact Or.inl ⟨h.1, e, rfl, h.2⟩
  | ok l => rw [hg] at h; exact Or.inr ⟨h.1, l, rfl, h.2⟩
set_option maxHeartbeats 4000000 in
set_option maxRecDepth 100000 in
theorem m_law {l : Launch} {o : Nat} {ar : Nat → Nat} {f : mF} {g j : mA} {X1 : Int → Int} {K : Int → Int} {X7 : Int → Int} {X11 : Int → Int} {z : Int} {x14 : Int} {U : Int → Int} (eg1 : g 1 = X1) (eg2 : g 2 = K) (eg7 : g 7 = X7) (eg11 : g 11 = X11) (ef13 : f 13 = z) (ef14 : f 14 = x14) (hb : ∀ i, X1 i ≤ 100000) (hK : KOK K) (hW : WdH X7) (hU : TpU X11 U) (z0 : 0 ≤ z) (z4 : z ≤ 400) : MM l o ar MX8_law 67 [.ref o] f g j (PI (fun r f' g' j' => (lawQ K X1 U z x14 r f' g') ∧ eqx [0, 8, 9, 10, 13, 14, 18, 19, 20, 21] f f' ∧ eqx [1, 2, 15, 16, 17] g g' ∧ j' = j)) := by
  refine MM.intro [some (.ref o)] (by decide) (Nat.le_of_ble_eq_true rfl) rfl (fun d hd h0 h hH hA => ?_)
  have hfE : eqx [0, 8, 9, 10, 13, 14, 18, 19, 20, 21] f f := eqx.rf
  have hgE : eqx [1, 2, 15, 16, 17] g g := eqx.rf
  have h79 := hK.2.2.2.2.2.2.2.2.2.2.1
  refine z_ald_0 (TX8_law.at 0 rfl) ?_
  refine zm_getA (TX8_law.at 1 rfl) fl8_28 hH (by decide) (by decide) ?_
  refine z_bipush (by decide) (TX8_law.at 2 rfl) ?_
  refine zm_ialdE eg2 (TX8_law.at 3 rfl) hH rfl (by omega) (show _ < ((5688 : Nat) : Int) by omega) (fun r6 => ?_)
  refine z_bipush (by decide) (TX8_law.at 4 rfl) ?_
  refine z_icmp_ne (tgt := 24) (TX8_law.at 5 rfl) rfl (by omega) (by omega) (fun c1 => ?_) (fun c1 => ?_)
  · skip
    refine z_ald_0 (TX8_law.at 13 rfl) ?_
    refine z_iconst (TX8_law.at 14 rfl) ?_
    refine zm_callI1 (m_readsAs (U := U) (lw := true) eg7 eg11 ef13 (by decide) hW hU z0 z4 rfl) (TX8_law.at 15 rfl) c8_247 rfl rfl hH hA (by omega) (Nat.le_of_ble_eq_true rfl) (fun x26 f26 g26 j26 h r26 q26 hH hA => ?_)
    obtain ⟨q26, xf, xg, xj⟩ := q26
    rw [xj] at hH
    have hfE := hfE.trans xf (by decide)
    have eg1 := (xg 1 (by decide)).trans eg1
    have eg2 := (xg 2 (by decide)).trans eg2
    have eg7 := (xg 7 (by decide)).trans eg7
    have eg11 := (xg 11 (by decide)).trans eg11
    have hgE := hgE.trans xg (by decide)
    have qL := q26
    obtain ⟨X15, eg15⟩ : ∃ q, g26 15 = q := ⟨_, rfl⟩
    obtain ⟨X16, eg16⟩ : ∃ q, g26 16 = q := ⟨_, rfl⟩
    obtain ⟨X17, eg17⟩ : ∃ q, g26 17 = q := ⟨_, rfl⟩
    rw [eg15, eg16, eg17] at qL
    obtain ⟨hrd, ef13, ef18, hR⟩ := qL
    have hre := rdQ_e hrd
    have hNN := hR.1
    obtain ⟨y14, ef14⟩ : ∃ q, f26 14 = q := ⟨_, rfl⟩
    rw [ef14] at hre
    refine z_if_ne (tgt := 39) (TX8_law.at 16 rfl) rfl (by omega) (fun c2 => ?_) (fun c2 => ?_)
    · skip
      refine z_ald_0 (TX8_law.at 21 rfl) ?_
      refine z_ald_0 (TX8_law.at 22 rfl) ?_
      refine zm_getA (TX8_law.at 23 rfl) fl8_28 hH (by decide) (by decide) ?_
      refine z_bipush (by decide) (TX8_law.at 24 rfl) ?_
      refine zm_ialdE eg2 (TX8_law.at 25 rfl) hH rfl (by omega) (show _ < ((5688 : Nat) : Int) by omega) (fun r46 => ?_)
      refine zm_callV1 (m_lays eg2 eg15 eg16 ef18 (by omega) (by omega) (by omega) hNN.1 hNN.2) (TX8_law.at 26 rfl) c8_251 rfl rfl hH hA (by omega) (Nat.le_of_ble_eq_true rfl) (fun f47 g47 j47 h q47 hH hA => ?_)
      obtain ⟨q47, xf, xg, xj⟩ := q47
      rw [xj] at hH
      have ef13 := (xf 13 (by decide)).trans ef13
      have ef14 := (xf 14 (by decide)).trans ef14
      have ef18 := (xf 18 (by decide)).trans ef18
      have hfE := hfE.trans xf (by decide)
      have eg1 := (xg 1 (by decide)).trans eg1
      have eg7 := (xg 7 (by decide)).trans eg7
      have eg11 := (xg 11 (by decide)).trans eg11
      have eg15 := (xg 15 (by decide)).trans eg15
      have eg16 := (xg 16 (by decide)).trans eg16
      have eg17 := (xg 17 (by decide)).trans eg17
      have hgE := hgE.trans xg (by decide)
      have qL := q47
      have eg2 := qL
      have hk79 : layN K (K 79) (tN U z) X15 X16 (tN U z) 79 = K 79 := layN_far (by omega) (by omega) (by omega)
      refine z_ald_0 (TX8_law.at 27 rfl) ?_
      refine zm_getA (TX8_law.at 28 rfl) fl8_28 hH (by decide) (by decide) ?_
      refine z_bipush (by decide) (TX8_law.at 29 rfl) ?_
      refine z_dup2 rfl rfl (TX8_law.at 30 rfl) ?_
      refine zm_ialdE eg2 (TX8_law.at 31 rfl) hH rfl (by omega) (show _ < ((5688 : Nat) : Int) by omega) (fun r57 => ?_)
      rw [hk79] at r57 ⊢
      refine z_iconst (TX8_law.at 32 rfl) ?_
      refine z_iadd (TX8_law.at 33 rfl) ?_
      refine zm_iastE (TX8_law.at 34 rfl) hH hA rfl (by omega) (show _ < ((5688 : Nat) : Int) by omega) (by omega) (fun h g60 e1 e2 hH hA => ?_)
      have eg1 := (e1 1 (by decide)).trans eg1
      rw [eg2] at e2; have eg2 := e2
      have eg7 := (e1 7 (by decide)).trans eg7
      have eg11 := (e1 11 (by decide)).trans eg11
      have eg15 := (e1 15 (by decide)).trans eg15
      have eg16 := (e1 16 (by decide)).trans eg16
      have eg17 := (e1 17 (by decide)).trans eg17
      have hgE := hgE.put e1 (by decide)
      refine z_ald_0 (TX8_law.at 35 rfl) ?_
      refine z_ald_0 (TX8_law.at 36 rfl) ?_
      refine zm_getA (TX8_law.at 37 rfl) fl8_28 hH (by decide) (by decide) ?_
      refine z_bipush (by decide) (TX8_law.at 38 rfl) ?_
      refine zm_ialdE eg2 (TX8_law.at 39 rfl) hH rfl (by omega) (show _ < ((5688 : Nat) : Int) by omega) (fun r68 => ?_)
      rw [iu_self] at r68 ⊢
      refine z_iconst (TX8_law.at 40 rfl) ?_
      refine z_isub (TX8_law.at 41 rfl) ?_
      refine zm_callI1 (t_good (by omega)) (TX8_law.at 42 rfl) c8_14 rfl rfl hH hA (by omega) (Nat.le_of_ble_eq_true rfl) (fun x71 f71 g71 j71 h r71 q71 hH hA => ?_)
      obtain ⟨q71, xf, xg, xj⟩ := q71
      rw [xj] at hH
      have ef13 := (xf 13 (by decide)).trans ef13
      have ef14 := (xf 14 (by decide)).trans ef14
      have ef18 := (xf 18 (by decide)).trans ef18
      have hfE := hfE.trans xf (by decide)
      have eg1 := (xg 1 (by decide)).trans eg1
      have eg2 := (xg 2 (by decide)).trans eg2
      have eg7 := (xg 7 (by decide)).trans eg7
      have eg11 := (xg 11 (by decide)).trans eg11
      have eg15 := (xg 15 (by decide)).trans eg15
      have eg16 := (xg 16 (by decide)).trans eg16
      have eg17 := (xg 17 (by decide)).trans eg17
      have hgE := hgE.trans xg (by decide)
      have qL := q71
      refine zm_iret (TX8_law.at 43 rfl) rfl hH hA (by omega) ?_
      exact ⟨⟨ef13, Or.inr (Or.inr ⟨by omega, by rcases hre with ⟨h1, -⟩ | ⟨-, l2, h1, h2⟩; omega; exact ⟨l2, h1, ⟨qL.1.trans (by omega), qL.2, eg1⟩, ef14.trans h2, by rw [eg2]; exact lawP_of hR h79.1 (by omega) h1⟩⟩)⟩, hfE, hgE, rfl⟩
    · skip
      refine z_ald_0 (TX8_law.at 17 rfl) ?_
      refine z_bipush (by decide) (TX8_law.at 18 rfl) ?_
      refine zm_callI1 (t_refuses eg1 (by omega) (by omega) (by omega) hb) (TX8_law.at 19 rfl) c8_103 rfl rfl hH hA (by omega) (Nat.le_of_ble_eq_true rfl) (fun x35 f35 g35 j35 h r35 q35 hH hA => ?_)
      obtain ⟨q35, xf, xg, xj⟩ := q35
      rw [xj] at hH
      have ef13 := (xf 13 (by decide)).trans ef13
      have ef14 := (xf 14 (by decide)).trans ef14
      have ef18 := (xf 18 (by decide)).trans ef18
      have hfE := hfE.trans xf (by decide)
      have eg2 := (xg 2 (by decide)).trans eg2
      have eg7 := (xg 7 (by decide)).trans eg7
      have eg11 := (xg 11 (by decide)).trans eg11
      have eg15 := (xg 15 (by decide)).trans eg15
      have eg16 := (xg 16 (by decide)).trans eg16
      have eg17 := (xg 17 (by decide)).trans eg17
      have hgE := hgE.trans xg (by decide)
      have qL := q35
      refine zm_iret (TX8_law.at 20 rfl) rfl hH hA (by omega) ?_
      exact ⟨⟨ef13, Or.inr (Or.inl ⟨by omega, by rcases hre with ⟨-, e, h1, h2⟩ | ⟨h1, -⟩; exact ⟨e, h1, ⟨qL.1, qL.2.1, qL.2.2⟩, eg2, ef14.trans h2⟩; omega⟩)⟩, hfE, hgE, rfl⟩
  · skip
    refine z_ald_0 (TX8_law.at 6 rfl) ?_
    refine z_iconst (TX8_law.at 7 rfl) ?_
    refine zm_putIE (TX8_law.at 8 rfl) fp8_150 hH hA rfl (by decide) (by first | omega | exact b2i_01 _) (fun h f14 e1 e2 hH hA => ?_)
    have ef13 := e2
    have ef14 := (e1 14 (by decide)).trans ef14
    have hfE := hfE.put e1 (by decide)
    refine z_ald_0 (TX8_law.at 9 rfl) ?_
    refine z_bipush (by decide) (TX8_law.at 10 rfl) ?_
    refine zm_callI1 (t_refuses eg1 (by omega) (by omega) (by omega) hb) (TX8_law.at 11 rfl) c8_103 rfl rfl hH hA (by omega) (Nat.le_of_ble_eq_true rfl) (fun x20 f20 g20 j20 h r20 q20 hH hA => ?_)
    obtain ⟨q20, xf, xg, xj⟩ := q20
    rw [xj] at hH
    have ef13 := (xf 13 (by decide)).trans ef13
    have ef14 := (xf 14 (by decide)).trans ef14
    have hfE := hfE.trans xf (by decide)
    have eg2 := (xg 2 (by decide)).trans eg2
    have eg7 := (xg 7 (by decide)).trans eg7
    have eg11 := (xg 11 (by decide)).trans eg11
    have hgE := hgE.trans xg (by decide)
    have qL := q20
    refine zm_iret (TX8_law.at 12 rfl) rfl hH hA (by omega) ?_
    exact ⟨⟨ef13, Or.inl ⟨by omega, ⟨qL.1, qL.2.1, qL.2.2⟩, eg2, ef14⟩⟩, hfE, hgE, rfl⟩

