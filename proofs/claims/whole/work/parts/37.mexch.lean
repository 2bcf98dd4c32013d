/-! ===== the reference: exchanged, compare, measured, was, look, wet ===== -/
theorem KOK_mv {K K' : Int → Int} (h : KOK K) (e : ∀ i, 29 ≤ i → K' i = K i) (h1 : ∀ i, 0 ≤ i → i < K 76 → (K' i = 0 ∨ K' i = 1) ∧ 1 ≤ K' (10 + i) ∧ K' (10 + i) ≤ 60) (h2 : ∀ k, 0 ≤ k → k ≤ 7 → -1 ≤ K' (20 + k) ∧ K' (20 + k) ≤ 999) (h3 : 0 ≤ K' 28 ∧ K' 28 ≤ 999) : KOK K' := by
  obtain ⟨a1, a2, a3, a4, a5, a6, a7, a8, a9, a10, a11, a12⟩ := h
  refine ⟨by rw [e 76 (by decide)]; exact a1, fun i q0 q1 => ?_, h2, h3, by rw [e 77 (by decide)]; exact a5, fun i q0 q1 => ?_, by rw [e 78 (by decide)]; exact a7, fun i q0 q1 => ?_, by rw [e 74 (by decide)]; exact a9, by rw [e 75 (by decide)]; exact a10, by rw [e 79 (by decide)]; exact a11, by rw [e 79 (by decide), e 80 (by decide)]; exact a12⟩
  · rw [e 76 (by decide)] at q1
    have q := a2 i q0 q1
    have r := h1 i q0 q1
    rw [e (29 + i) (by omega), e (39 + i) (by omega), e (49 + i) (by omega)]
    exact ⟨r.1, r.2, q.2.2⟩
  · rw [e 77 (by decide)] at q1
    rw [e (59 + i) (by omega)]; exact a6 i q0 q1
  · rw [e 78 (by decide)] at q1
    rw [e (62 + 2 * i) (by omega), e (62 + 2 * i + 1) (by omega)]; exact a8 i q0 q1
theorem LawK_cg {K K' : Int → Int} {cl : List Cla} (hL : LawK K cl) (e80 : K' 80 = K 80) (e : ∀ i, 81 ≤ i → K' i = K i) : LawK K' cl := by
  rcases hL with ⟨h1, h2⟩ | ⟨h1, h2, nN, h3, h4, h5⟩
  · exact Or.inl ⟨by rw [e80]; exact h1, h2⟩
  · refine Or.inr ⟨by rw [e80]; exact h1, by rw [e80]; exact h2, nN, by rw [e80, e _ (by omega)]; exact h3, h4, ?_⟩
    have e1 : ∀ i : Int, 0 ≤ i → cK K' (400 * K 80) nN i = cK K (400 * K 80) nN i := by
      intro i hi
      unfold cK
      rw [e _ (by omega)]
    have e2 : ∀ i : Int, 0 ≤ i → vK K' (400 * K 80) i = vK K (400 * K 80) i := by
      intro i hi
      unfold vK
      rw [e _ (by omega)]
    rw [e80]
    exact (pText_cg e1 e2 nN 12 0 0).trans h5
def exchK (K : Int → Int) (a b : Int) : Int → Int := iu (iu K (10 + a) (K (10 + b))) (10 + b) (K (10 + a))
theorem exchK_far {K : Int → Int} {a b i : Int} (h1 : i ≠ 10 + a) (h2 : i ≠ 10 + b) : exchK K a b i = K i := by unfold exchK; rw [iu_ne h2, iu_ne h1]
theorem exchK_a {K : Int → Int} {a b : Int} : exchK K a b (10 + a) = K (10 + b) := by
  unfold exchK
  by_cases e : a = b
  · subst e; rw [iu_self]
  · rw [iu_ne (by omega), iu_self]
theorem exchK_b {K : Int → Int} {a b : Int} : exchK K a b (10 + b) = K (10 + a) := by unfold exchK; rw [iu_self]
theorem exchK_2 {K : Int → Int} {a b : Int} : exchK (exchK K a b) a b = K := by
  funext t
  by_cases h2 : t = 10 + b
  · subst h2; rw [exchK_b, exchK_a]
  · by_cases h1 : t = 10 + a
    · subst h1; rw [exchK_a, exchK_b]
    · rw [exchK_far h1 h2, exchK_far h1 h2]
theorem KOK_exch {K : Int → Int} {a b : Int} (h : KOK K) (a0 : 0 ≤ a) (a1 : a < K 76) (b0 : 0 ≤ b) (b1 : b < K 76) : KOK (exchK K a b) := by
  have hn := h.1
  refine KOK_mv h (fun i hi => exchK_far (by omega) (by omega)) (fun i q0 q1 => ?_) (fun k q0 q1 => ?_) ?_
  · have q := h.2.1 i q0 q1
    refine ⟨by rw [exchK_far (by omega) (by omega)]; exact q.1, ?_⟩
    by_cases e2 : i = b
    · subst e2; rw [exchK_b]; exact (h.2.1 a a0 a1).2.1
    · by_cases e1 : i = a
      · subst e1; rw [exchK_a]; exact (h.2.1 b b0 b1).2.1
      · rw [exchK_far (by omega) (by omega)]; exact q.2.1
  · rw [exchK_far (by omega) (by omega)]; exact h.2.2.1 k q0 q1
  · rw [exchK_far (by omega) (by omega)]; exact h.2.2.2.1
theorem LawK_exch {K : Int → Int} {cl : List Cla} {a b : Int} (hL : LawK K cl) (a1 : a ≤ 9) (b1 : b ≤ 9) : LawK (exchK K a b) cl := LawK_cg hL (exchK_far (by omega) (by omega)) (fun i hi => exchK_far (by omega) (by omega))
def lasF (K : Int → Int) (cl : List Cla) (k : Int) : Int := laP K cl (zshl 1 k) 1023
def exS (K : Int → Int) (cl : List Cla) (k a b : Int) (s : Int × Int) : Int × Int := if lasF (exchK K a b) cl k < s.1 then (lasF (exchK K a b) cl k, 10 * a + b) else s
def exI (K : Int → Int) (cl : List Cla) (k a : Int) (s : Int × Int) : Nat → Int × Int
  | 0 => s
  | m + 1 => exS K cl k a (a + 1 + m) (exI K cl k a s m)
def exO (K : Int → Int) (cl : List Cla) (k : Int) (s : Int × Int) : Nat → Int × Int
  | 0 => s
  | m + 1 => exI K cl k m (exO K cl k s m) ((K 76).toNat - 1 - m)
def exV (K : Int → Int) (cl : List Cla) (k w : Int) : Int := if (0 ≤ k ∧ k ≤ 7) ∧ 0 ≤ w ∧ w ≤ 1 then (if lasF K cl k = 1000000 then -1 else srchR (exO K cl k (lasF K cl k, -1) (K 76).toNat) (w = 0)) else -1
theorem exI_t {K : Int → Int} {cl : List Cla} {k a b x y : Int} {s : Int × Int} (hb : a < b) (e : (x, y) = exI K cl k a s (b - a - 1).toNat) (hl : lasF (exchK K a b) cl k < x) : (lasF (exchK K a b) cl k, 10 * a + b) = exI K cl k a s (b + 1 - a - 1).toNat := by
  rw [show (b + 1 - a - 1).toNat = (b - a - 1).toNat + 1 by omega, exI, ← e, exS, show a + 1 + (((b - a - 1).toNat : Nat) : Int) = b by omega, if_pos hl]
theorem exI_f {K : Int → Int} {cl : List Cla} {k a b x y : Int} {s : Int × Int} (hb : a < b) (e : (x, y) = exI K cl k a s (b - a - 1).toNat) (hl : ¬ lasF (exchK K a b) cl k < x) : (x, y) = exI K cl k a s (b + 1 - a - 1).toNat := by
  rw [show (b + 1 - a - 1).toNat = (b - a - 1).toNat + 1 by omega, exI, ← e, exS, show a + 1 + (((b - a - 1).toNat : Nat) : Int) = b by omega, if_neg hl]
theorem exO_s {K : Int → Int} {cl : List Cla} {k a x y : Int} {s : Int × Int} (ha : 0 ≤ a) (h1 : a < K 76) (e : (x, y) = exI K cl k a (exO K cl k s a.toNat) (K 76 - a - 1).toNat) : (x, y) = exO K cl k s (a + 1).toNat := by
  rw [show (a + 1).toNat = a.toNat + 1 by omega, exO, e, show ((a.toNat : Nat) : Int) = a by omega, show (K 76 - a - 1).toNat = (K 76).toNat - 1 - a.toNat by omega]
set_option maxHeartbeats 4000000 in
set_option maxRecDepth 100000 in
theorem m_lastFrom {l : Launch} {o : Nat} {ar : Nat → Nat} {f : mF} {g j : mA} {K : Int → Int} {k : Int} {cl : List Cla} (eg2 : g 2 = K) (hk : zIn k) (k0 : 0 ≤ k) (k7 : k ≤ 7) (hK : KOK K) (hL : LawK K cl) : MM l o ar MX8_lastFrom 55 [.ref o, vI k] f g j (PI (fun r f' g' j' => (r = lasF K cl k) ∧ eqx [22, 23, 24, 25, 33] f f' ∧ eqx [26, 30, 31, 32] g g' ∧ j' = j)) := by
  refine MM.intro [some (.ref o), some (vI k)] (by decide) (Nat.le_of_ble_eq_true rfl) rfl (fun d hd h0 h hH hA => ?_)
  have hfE : eqx [22, 23, 24, 25, 33] f f := eqx.rf
  have hgE : eqx [26, 30, 31, 32] g g := eqx.rf
  have hn := hK.1
  have hcs := ctS_31 (cl := cl) hK
  have hsh := shl_in (i := k) k0 (by omega)
  refine z_ald_0 (TX8_lastFrom.at 0 rfl) ?_
  refine zm_callV0 (m_laysTimes eg2 rfl rfl rfl hK.lawH hL) (TX8_lastFrom.at 1 rfl) c8_348 rfl rfl hH hA (by omega) (Nat.le_of_ble_eq_true rfl) (fun f1 g1 j1 h q1 hH hA => ?_)
  obtain ⟨q1, xf, xg, xj⟩ := q1
  rw [xj] at hH
  have hfE := hfE.trans xf (by decide)
  have eg2 := (xg 2 (by decide)).trans eg2
  have hgE := hgE.trans xg (by decide)
  have qL := q1
  obtain ⟨B, eg30⟩ : ∃ z, g1 30 = z := ⟨_, rfl⟩
  obtain ⟨Hd, eg31⟩ : ∃ z, g1 31 = z := ⟨_, rfl⟩
  have ef33 := qL.2.2
  rw [show msk (fun t => decide (ctc K cl t)) (K 76).toNat = ctS K cl from rfl] at ef33
  have hT : TmOK K cl B Hd := tm_of hK (eg30.symm.trans qL.1) (eg31.symm.trans qL.2.1)
  refine z_ald_0 (TX8_lastFrom.at 2 rfl) ?_
  refine z_iconst (TX8_lastFrom.at 3 rfl) ?_
  refine z_ild_1 (TX8_lastFrom.at 4 rfl) ?_
  refine z_ishl (TX8_lastFrom.at 5 rfl) ?_
  refine z_ald_0 (TX8_lastFrom.at 6 rfl) ?_
  refine zm_getIE ef33 (TX8_lastFrom.at 7 rfl) fl8_333 hH rfl (by decide) (fun r9 => ?_)
  refine zm_callV2 (m_firesFrom eg2 eg30 eg31 rfl (by omega) (by omega) (by omega) hcs hn.1 hn.2 (hT.fr hK)) (TX8_lastFrom.at 8 rfl) c8_387 rfl rfl hH hA (by omega) (Nat.le_of_ble_eq_true rfl) (fun f12 g12 j12 h q12 hH hA => ?_)
  obtain ⟨q12, xf, xg, xj⟩ := q12
  rw [xj] at hH
  have ef33 := (xf 33 (by decide)).trans ef33
  have hfE := hfE.trans xf (by decide)
  have eg2 := (xg 2 (by decide)).trans eg2
  have eg30 := (xg 30 (by decide)).trans eg30
  have eg31 := (xg 31 (by decide)).trans eg31
  have hgE := hgE.trans xg (by decide)
  have qL := q12
  obtain ⟨C, eg32⟩ : ∃ z, g12 32 = z := ⟨_, rfl⟩
  rw [eg32, hT.dist hK] at qL
  have hD : ag8 C (cmP K cl (zshl 1 k)) := qL
  have hCD : COK (cmP K cl (zshl 1 k)) := cmP_ok hK
  refine z_ald_0 (TX8_lastFrom.at 9 rfl) ?_
  refine z_ald_0 (TX8_lastFrom.at 10 rfl) ?_
  refine zm_callP0 (m_allFuses (by rw [eg2]; exact hn)) (TX8_lastFrom.at 11 rfl) c8_399 rfl rfl hH hA (by omega) (Nat.le_of_ble_eq_true rfl) (fun h r17 hH hA => ?_)
  rw [eg2] at r17 ⊢
  refine zm_callI1 (m_lastOf (cl := cl) (D := cmP K cl (zshl 1 k)) eg2 eg30 eg31 eg32 ef33 (by omega) hcs (all_31 hn.1 hn.2) hK hT hD hCD) (TX8_lastFrom.at 12 rfl) c8_393 rfl rfl hH hA (by omega) (Nat.le_of_ble_eq_true rfl) (fun x20 f20 g20 j20 h r20 q20 hH hA => ?_)
  obtain ⟨q20, xf, xg, xj⟩ := q20
  rw [xj] at hH
  have ef33 := (xf 33 (by decide)).trans ef33
  have hfE := hfE.trans xf (by decide)
  have eg2 := (xg 2 (by decide)).trans eg2
  have eg30 := (xg 30 (by decide)).trans eg30
  have eg31 := (xg 31 (by decide)).trans eg31
  have eg32 := (xg 32 (by decide)).trans eg32
  have hgE := hgE.trans xg (by decide)
  have qL := q20
  rw [qL, show lastN (oK K cl (ctS K cl) (cmP K cl (zshl 1 k))) (zshl 1 (K 76) - 1) (K 76).toNat = laP K cl (zshl 1 k) (zshl 1 (K 76) - 1) from rfl, laP_all hK] at r20 ⊢
  refine zm_iret (TX8_lastFrom.at 13 rfl) rfl hH hA (by omega) ?_
  exact ⟨rfl, hfE, hgE, rfl⟩

set_option maxHeartbeats 4000000 in
set_option maxRecDepth 100000 in
theorem lp_ex1 {l : Launch} {o : Nat} {ar : Nat → Nat} {d : Nat} {Pz : Option Value → zH → Prop} {h0 : zH} {f0 : mF} {g0 : mA} {j : mA} (hd : 60 ≤ d) {K : Int → Int} {cl : List Cla} {k w a : Int} {s0 : Int × Int} (k0 : 0 ≤ k) (k7 : k ≤ 7) (a0 : 0 ≤ a) (a1 : a < K 76) (hK : KOK K) (hL : LawK K cl) (kx : ∀ (x y : Int) (o7 : Option Value) (f : mF) (g : mA) (h : zH), (0 ≤ x ∧ x ≤ 1001000) → (-1 ≤ y ∧ y ≤ 1000) → (x, y) = exI K cl k a s0 (K 76 - a - 1).toNat → g 2 = K → eqx [22, 23, 24, 25, 33] f0 f → eqx [2, 26, 30, 31, 32] g0 g → HM o ar f g j h → zAg o ar h0 h → Z l MX8_exchanged d 0 0 Pz 113 [some (.ref o), some (vI k), some (vI w), some (vI x), some (vI y), some (vI a), some (vI (K 76)), o7] [] h 0 0)  : ∀ (n : Nat) (b : Int) (x : Int) (y : Int) (o7 : Option Value) (f : mF) (g : mA) (h : zH) (b0 : a < b) (b1 : b ≤ K 76) (b2 : K 76 < b + n) (hx : 0 ≤ x ∧ x ≤ 1001000) (hy : -1 ≤ y ∧ y ≤ 1000) (es : (x, y) = exI K cl k a s0 (b - a - 1).toNat) (eg2 : g 2 = K) (hfE : eqx [22, 23, 24, 25, 33] f0 f) (hgE : eqx [2, 26, 30, 31, 32] g0 g) (hH : HM o ar f g j h) (hA : zAg o ar h0 h), Z l MX8_exchanged d 0 0 Pz 53 [some (.ref o), some (vI k), some (vI w), some (vI x), some (vI y), some (vI a), some (vI b), o7] [] h 0 0 := by
  intro n
  induction n with
  | zero => intro b x y o7 f g h b0 b1 b2 hx hy es eg2 hfE hgE hH hA; exfalso; omega
  | succ n ih =>
    intro b x y o7 f g h b0 b1 b2 hx hy es eg2 hfE hgE hH hA
    have hn := hK.1
    refine z_ild_6 (TX8_exchanged_0.at 31 rfl) ?_
    refine z_ald_0 (TX8_exchanged_0.at 32 rfl) ?_
    refine zm_callP0 (m_fuseMany) (TX8_exchanged_0.at 33 rfl) c8_109 rfl rfl hH hA (by omega) (Nat.le_of_ble_eq_true rfl) (fun h r56 hH hA => ?_)
    rw [eg2] at r56 ⊢
    refine z_icmp_ge (tgt := 113) (TX8_exchanged_0.at 34 rfl) rfl (by omega) (by omega) (fun c1 => ?_) (fun c1 => ?_)
    · skip
      obtain rfl : b = K 76 := by omega
      exact kx x y _ _ _ _ hx hy es eg2 hfE hgE hH hA
    · skip
      refine z_ald_0 (TX8_exchanged_0.at 35 rfl) ?_
      refine z_ild_5 (TX8_exchanged_0.at 36 rfl) ?_
      refine z_ild_6 (TX8_exchanged_0.at 37 rfl) ?_
      refine zm_callV2 (m_exchanges eg2 (by omega) (by omega) (by omega) (by omega) (by omega) (by omega)) (TX8_exchanged_0.at 38 rfl) c8_363 rfl rfl hH hA (by omega) (Nat.le_of_ble_eq_true rfl) (fun f67 g67 j67 h q67 hH hA => ?_)
      obtain ⟨q67, xf, xg, xj⟩ := q67
      rw [xj] at hH
      have hfE := hfE.trans xf (by decide)
      have hgE := hgE.trans xg (by decide)
      have qL := q67
      have eg2 := qL
      rw [show iu (iu K (10 + a) (K (10 + b))) (10 + b) (K (10 + a)) = exchK K a b from rfl] at eg2
      have hKx := KOK_exch (a := a) (b := b) hK (by omega) (by omega) (by omega) (by omega)
      have hLx := LawK_exch (a := a) (b := b) hL (by omega) (by omega)
      refine z_ald_0 (TX8_exchanged_0.at 39 rfl) ?_
      refine z_ild_1 (TX8_exchanged_1.at 0 rfl) ?_
      refine zm_callI1 (m_lastFrom (cl := cl) eg2 (by omega) (by omega) (by omega) hKx hLx) (TX8_exchanged_1.at 1 rfl) c8_414 rfl rfl hH hA (by omega) (Nat.le_of_ble_eq_true rfl) (fun x72 f72 g72 j72 h r72 q72 hH hA => ?_)
      obtain ⟨q72, xf, xg, xj⟩ := q72
      rw [xj] at hH
      have hfE := hfE.trans xf (by decide)
      have eg2 := (xg 2 (by decide)).trans eg2
      have hgE := hgE.trans xg (by decide)
      have qL := q72
      rw [qL] at r72 ⊢
      have hla := laP_in (cl := cl) (q := zshl 1 k) (s := 1023) hKx
      rw [show laP (exchK K a b) cl (zshl 1 k) 1023 = lasF (exchK K a b) cl k from rfl] at hla
      refine z_ist_7 (TX8_exchanged_1.at 2 rfl) (Nat.le_of_ble_eq_true rfl) rfl ?_
      refine z_ald_0 (TX8_exchanged_1.at 3 rfl) ?_
      refine z_ild_5 (TX8_exchanged_1.at 4 rfl) ?_
      refine z_ild_6 (TX8_exchanged_1.at 5 rfl) ?_
      refine zm_callV2 (m_exchanges eg2 (by omega) (by omega) (by omega) (by omega) (by omega) (by omega)) (TX8_exchanged_1.at 6 rfl) c8_363 rfl rfl hH hA (by omega) (Nat.le_of_ble_eq_true rfl) (fun f82 g82 j82 h q82 hH hA => ?_)
      obtain ⟨q82, xf, xg, xj⟩ := q82
      rw [xj] at hH
      have hfE := hfE.trans xf (by decide)
      have hgE := hgE.trans xg (by decide)
      have qL := q82
      have eg2 := qL.trans (exchK_2 (K := K) (a := a) (b := b))
      refine z_ild_7 (TX8_exchanged_1.at 7 rfl) ?_
      refine z_ild_3 (TX8_exchanged_1.at 8 rfl) ?_
      refine z_icmp_lt (tgt := 94) (TX8_exchanged_1.at 9 rfl) rfl (by omega) (by omega) (fun c2 => ?_) (fun c2 => ?_)
      · skip
        refine z_ild_7 (TX8_exchanged_1.at 11 rfl) ?_
        refine z_ist_3 (TX8_exchanged_1.at 12 rfl) (Nat.le_of_ble_eq_true rfl) rfl ?_
        refine z_bipush (by decide) (TX8_exchanged_1.at 13 rfl) ?_
        refine z_ild_5 (TX8_exchanged_1.at 14 rfl) ?_
        refine z_imul (TX8_exchanged_1.at 15 rfl) ?_
        refine z_ild_6 (TX8_exchanged_1.at 16 rfl) ?_
        refine z_iadd (TX8_exchanged_1.at 17 rfl) ?_
        refine z_ist_4 (TX8_exchanged_1.at 18 rfl) (Nat.le_of_ble_eq_true rfl) rfl ?_
        refine z_iinc_6 (TX8_exchanged_1.at 19 rfl) (Nat.le_of_ble_eq_true rfl) rfl ?_
        refine z_goto (tgt := 53) (TX8_exchanged_1.at 20 rfl) rfl ?_
        exact ih (b + 1) _ _ _ _ _ _ (by omega) (by omega) (by omega) (by omega) (by omega) (by first | exact exI_t b0 es (by omega) | exact exI_f b0 es (by omega)) eg2 hfE hgE hH hA
      · skip
        refine z_goto (tgt := 107) (TX8_exchanged_1.at 10 rfl) rfl ?_
        refine z_iinc_6 (TX8_exchanged_1.at 19 rfl) (Nat.le_of_ble_eq_true rfl) rfl ?_
        refine z_goto (tgt := 53) (TX8_exchanged_1.at 20 rfl) rfl ?_
        exact ih (b + 1) _ _ _ _ _ _ (by omega) (by omega) (by omega) (by omega) (by omega) (by first | exact exI_t b0 es (by omega) | exact exI_f b0 es (by omega)) eg2 hfE hgE hH hA

set_option maxHeartbeats 4000000 in
set_option maxRecDepth 100000 in
theorem lp_ex2 {l : Launch} {o : Nat} {ar : Nat → Nat} {d : Nat} {Pz : Option Value → zH → Prop} {h0 : zH} {f0 : mF} {g0 : mA} {j : mA} (hd : 60 ≤ d) {K : Int → Int} {cl : List Cla} {k w : Int} {s0 : Int × Int} (k0 : 0 ≤ k) (k7 : k ≤ 7) (hK : KOK K) (hL : LawK K cl) (kx : ∀ (x y : Int) (o6 o7 : Option Value) (f : mF) (g : mA) (h : zH), (0 ≤ x ∧ x ≤ 1001000) → (-1 ≤ y ∧ y ≤ 1000) → (x, y) = exO K cl k s0 (K 76).toNat → g 2 = K → eqx [22, 23, 24, 25, 33] f0 f → eqx [2, 26, 30, 31, 32] g0 g → HM o ar f g j h → zAg o ar h0 h → Z l MX8_exchanged d 0 0 Pz 119 [some (.ref o), some (vI k), some (vI w), some (vI x), some (vI y), some (vI (K 76)), o6, o7] [] h 0 0)  : ∀ (n : Nat) (a : Int) (x : Int) (y : Int) (o6 : Option Value) (o7 : Option Value) (f : mF) (g : mA) (h : zH) (a0 : 0 ≤ a) (a1 : a ≤ K 76) (a2 : K 76 < a + n) (hx : 0 ≤ x ∧ x ≤ 1001000) (hy : -1 ≤ y ∧ y ≤ 1000) (es : (x, y) = exO K cl k s0 a.toNat) (eg2 : g 2 = K) (hfE : eqx [22, 23, 24, 25, 33] f0 f) (hgE : eqx [2, 26, 30, 31, 32] g0 g) (hH : HM o ar f g j h) (hA : zAg o ar h0 h), Z l MX8_exchanged d 0 0 Pz 38 [some (.ref o), some (vI k), some (vI w), some (vI x), some (vI y), some (vI a), o6, o7] [] h 0 0 := by
  intro n
  induction n with
  | zero => intro a x y o6 o7 f g h a0 a1 a2 hx hy es eg2 hfE hgE hH hA; exfalso; omega
  | succ n ih =>
    intro a x y o6 o7 f g h a0 a1 a2 hx hy es eg2 hfE hgE hH hA
    have hn := hK.1
    refine z_ild_5 (TX8_exchanged_0.at 23 rfl) ?_
    refine z_ald_0 (TX8_exchanged_0.at 24 rfl) ?_
    refine zm_callP0 (m_fuseMany) (TX8_exchanged_0.at 25 rfl) c8_109 rfl rfl hH hA (by omega) (Nat.le_of_ble_eq_true rfl) (fun h r41 hH hA => ?_)
    rw [eg2] at r41 ⊢
    refine z_icmp_ge (tgt := 119) (TX8_exchanged_0.at 26 rfl) rfl (by omega) (by omega) (fun c1 => ?_) (fun c1 => ?_)
    · skip
      obtain rfl : a = K 76 := by omega
      exact kx x y _ _ _ _ _ hx hy es eg2 hfE hgE hH hA
    · skip
      refine z_ild_5 (TX8_exchanged_0.at 27 rfl) ?_
      refine z_iconst (TX8_exchanged_0.at 28 rfl) ?_
      refine z_iadd (TX8_exchanged_0.at 29 rfl) ?_
      refine z_ist_6 (TX8_exchanged_0.at 30 rfl) (Nat.le_of_ble_eq_true rfl) rfl ?_
      refine lp_ex1 (w := w) (s0 := (x, y)) hd k0 k7 a0 (by omega) hK hL (fun x2 y2 o7 f53 g53 h hx2 hy2 es2 eg2 xf xg hH hA => ?_) (K 76).toNat (a + 1) x y _ _ _ _ (by omega) (by omega) (by omega) hx hy (by rw [show (a + 1 - a - 1).toNat = 0 by omega]; rfl) eg2 eqx.rf eqx.rf hH hA
      have hfE := hfE.trans xf (by decide)
      have hgE := hgE.trans xg (by decide)
      refine z_iinc_5 (TX8_exchanged_1.at 21 rfl) (Nat.le_of_ble_eq_true rfl) rfl ?_
      refine z_goto (tgt := 38) (TX8_exchanged_1.at 22 rfl) rfl ?_
      exact ih (a + 1) _ _ _ _ _ _ _ (by omega) (by omega) (by omega) hx2 hy2 (exO_s a0 (by omega) (es ▸ es2)) eg2 hfE hgE hH hA

set_option maxHeartbeats 4000000 in
set_option maxRecDepth 100000 in
theorem m_exchanged {l : Launch} {o : Nat} {ar : Nat → Nat} {f : mF} {g j : mA} {K : Int → Int} {k w : Int} {cl : List Cla} (eg2 : g 2 = K) (hk : zIn k) (hw : zIn w) (hK : KOK K) (hL : LawK K cl) : MM l o ar MX8_exchanged 61 [.ref o, vI k, vI w] f g j (PI (fun r f' g' j' => (r = exV K cl k w ∧ g' 2 = K) ∧ eqx [22, 23, 24, 25, 33] f f' ∧ eqx [2, 26, 30, 31, 32] g g' ∧ j' = j)) := by
  refine MM.intro [some (.ref o), some (vI k), some (vI w), none, none, none, none, none] (by decide) (Nat.le_of_ble_eq_true rfl) rfl (fun d hd h0 h hH hA => ?_)
  have hfE : eqx [22, 23, 24, 25, 33] f f := eqx.rf
  have hgE : eqx [2, 26, 30, 31, 32] g g := eqx.rf
  have hn := hK.1
  refine z_ild_1 (TX8_exchanged_0.at 0 rfl) ?_
  refine zs_call1 (s_isKnot (by omega)) (TX8_exchanged_0.at 1 rfl) c8_113 rfl (by omega) (Nat.le_of_ble_eq_true rfl) (fun r1 => ?_)
  refine z_if_eqB (tgt := 16) (TX8_exchanged_0.at 2 rfl) rfl (fun c1 => ?_) (fun c1 => ?_)
  · skip
    refine z_iconst (TX8_exchanged_0.at 8 rfl) ?_
    refine zm_iret (TX8_exchanged_0.at 9 rfl) rfl hH hA (by omega) ?_
    exact ⟨⟨by unfold exV; rw [if_neg (by omega)], eg2⟩, hfE, hgE, rfl⟩
  · skip
    refine z_ild_2 (TX8_exchanged_0.at 3 rfl) ?_
    refine z_iconst (TX8_exchanged_0.at 4 rfl) ?_
    refine z_iconst (TX8_exchanged_0.at 5 rfl) ?_
    refine zs_call3 (s_lies (by omega) (by omega) (by omega)) (TX8_exchanged_0.at 6 rfl) c8_18 rfl (by omega) (Nat.le_of_ble_eq_true rfl) (fun r10 => ?_)
    refine z_if_neB (tgt := 18) (TX8_exchanged_0.at 7 rfl) rfl (fun c2 => ?_) (fun c2 => ?_)
    · skip
      refine z_ald_0 (TX8_exchanged_0.at 10 rfl) ?_
      refine z_ild_1 (TX8_exchanged_0.at 11 rfl) ?_
      refine zm_callI1 (m_lastFrom (cl := cl) eg2 (by omega) (by omega) (by omega) hK hL) (TX8_exchanged_0.at 12 rfl) c8_414 rfl rfl hH hA (by omega) (Nat.le_of_ble_eq_true rfl) (fun x20 f20 g20 j20 h r20 q20 hH hA => ?_)
      obtain ⟨q20, xf, xg, xj⟩ := q20
      rw [xj] at hH
      have hfE := hfE.trans xf (by decide)
      have eg2 := (xg 2 (by decide)).trans eg2
      have hgE := hgE.trans xg (by decide)
      have qL := q20
      rw [qL] at r20 ⊢
      have hla := laP_in (cl := cl) (q := zshl 1 k) (s := 1023) hK
      rw [show laP K cl (zshl 1 k) 1023 = lasF K cl k from rfl] at hla
      refine z_ist_3 (TX8_exchanged_0.at 13 rfl) (Nat.le_of_ble_eq_true rfl) rfl ?_
      refine z_iconst (TX8_exchanged_0.at 14 rfl) ?_
      refine z_ist_4 (TX8_exchanged_0.at 15 rfl) (Nat.le_of_ble_eq_true rfl) rfl ?_
      refine z_ild_3 (TX8_exchanged_0.at 16 rfl) ?_
      refine z_ldc (v := 1000000) (TX8_exchanged_0.at 17 rfl) k8_169 (by decide) ?_
      refine z_icmp_ne (tgt := 35) (TX8_exchanged_0.at 18 rfl) rfl (by omega) (by omega) (fun c3 => ?_) (fun c3 => ?_)
      · skip
        refine z_iconst (TX8_exchanged_0.at 21 rfl) ?_
        refine z_ist_5 (TX8_exchanged_0.at 22 rfl) (Nat.le_of_ble_eq_true rfl) rfl ?_
        refine lp_ex2 (w := w) (s0 := (lasF K cl k, -1)) (by omega) (by omega) (by omega) hK hL (fun x2 y2 o6 o7 f38 g38 h hx2 hy2 es eg2 xf xg hH hA => ?_) ((K 76).toNat + 1) 0 _ _ _ _ _ _ _ (by omega) (by omega) (by omega) hla (by omega) rfl eg2 eqx.rf eqx.rf hH hA
        have hfE := hfE.trans xf (by decide)
        have hgE := hgE.trans xg (by decide)
        refine z_ild_4 (TX8_exchanged_1.at 23 rfl) ?_
        refine z_iconst (TX8_exchanged_1.at 24 rfl) ?_
        refine z_icmp_eq (tgt := 129) (TX8_exchanged_1.at 25 rfl) rfl (by omega) (by omega) (fun c4 => ?_) (fun c4 => ?_)
        · skip
          refine z_ild_4 (TX8_exchanged_1.at 28 rfl) ?_
          refine z_goto (tgt := 135) (TX8_exchanged_1.at 29 rfl) rfl ?_
          refine zm_iret (TX8_exchanged_1.at 31 rfl) rfl hH hA (by omega) ?_
          exact ⟨⟨by unfold exV srchR; rw [if_pos (by omega), if_neg (by omega), ← es]; simp only; first | (rw [if_pos (by omega)]; done) | (rw [if_neg (by omega)]; done), eg2⟩, hfE, hgE, rfl⟩
        · skip
          refine z_ild_2 (TX8_exchanged_1.at 26 rfl) ?_
          refine z_if_ne (tgt := 134) (TX8_exchanged_1.at 27 rfl) rfl (by omega) (fun c5 => ?_) (fun c5 => ?_)
          · skip
            refine z_ild_3 (TX8_exchanged_1.at 30 rfl) ?_
            refine zm_iret (TX8_exchanged_1.at 31 rfl) rfl hH hA (by omega) ?_
            exact ⟨⟨by unfold exV srchR; rw [if_pos (by omega), if_neg (by omega), ← es]; simp only; first | (rw [if_pos (by omega)]; done) | (rw [if_neg (by omega)]; done), eg2⟩, hfE, hgE, rfl⟩
          · skip
            refine z_ild_4 (TX8_exchanged_1.at 28 rfl) ?_
            refine z_goto (tgt := 135) (TX8_exchanged_1.at 29 rfl) rfl ?_
            refine zm_iret (TX8_exchanged_1.at 31 rfl) rfl hH hA (by omega) ?_
            exact ⟨⟨by unfold exV srchR; rw [if_pos (by omega), if_neg (by omega), ← es]; simp only; first | (rw [if_pos (by omega)]; done) | (rw [if_neg (by omega)]; done), eg2⟩, hfE, hgE, rfl⟩
      · skip
        refine z_iconst (TX8_exchanged_0.at 19 rfl) ?_
        refine zm_iret (TX8_exchanged_0.at 20 rfl) rfl hH hA (by omega) ?_
        exact ⟨⟨by unfold exV; rw [if_pos (by omega), if_pos (by omega)], eg2⟩, hfE, hgE, rfl⟩
    · skip
      refine z_iconst (TX8_exchanged_0.at 8 rfl) ?_
      refine zm_iret (TX8_exchanged_0.at 9 rfl) rfl hH hA (by omega) ?_
      exact ⟨⟨by unfold exV; rw [if_neg (by omega)], eg2⟩, hfE, hgE, rfl⟩

def cmpV (K : Int → Int) (cl2 : List Cla) (x k : Int) : Int := if (-1 ≤ x ∧ x ≤ K 79 - 1) ∧ 0 ≤ k ∧ k ≤ 7 then orN (lasF (iu K 80 x) cl2 k) else -1
theorem KOK_80 {K : Int → Int} {x : Int} (h : KOK K) (h0 : -1 ≤ x) (h1 : x ≤ K 79 - 1) : KOK (iu K 80 x) := by
  obtain ⟨a1, a2, a3, a4, a5, a6, a7, a8, a9, a10, a11, a12⟩ := h
  have e : ∀ i, i ≠ 80 → iu K 80 x i = K i := fun i hi => iu_ne hi
  refine ⟨by rw [e 76 (by decide)]; exact a1, fun i h0 h1 => ?_, fun k h0 h1 => ?_, by rw [e 28 (by decide)]; exact a4, by rw [e 77 (by decide)]; exact a5, fun i h0 h1 => ?_, by rw [e 78 (by decide)]; exact a7, fun i h0 h1 => ?_, by rw [e 74 (by decide)]; exact a9, by rw [e 75 (by decide)]; exact a10, by rw [e 79 (by decide)]; exact a11, by rw [e 79 (by decide), iu_self]; omega⟩
  · rw [e 76 (by decide)] at h1
    rw [e i (by omega), e (10 + i) (by omega), e (29 + i) (by omega), e (39 + i) (by omega), e (49 + i) (by omega)]
    exact a2 i h0 h1
  · rw [e (20 + k) (by omega)]; exact a3 k h0 h1
  · rw [e 77 (by decide)] at h1
    rw [e (59 + i) (by omega)]; exact a6 i h0 h1
  · rw [e 78 (by decide)] at h1
    rw [e (62 + 2 * i) (by omega), e (62 + 2 * i + 1) (by omega)]; exact a8 i h0 h1
theorem iu_2 {K : Int → Int} {a x : Int} : iu (iu K a x) a (K a) = K := by
  funext t
  unfold iu
  split
  · rename_i e; rw [e]
  · rfl
set_option maxHeartbeats 4000000 in
set_option maxRecDepth 100000 in
theorem m_compare {l : Launch} {o : Nat} {ar : Nat → Nat} {f : mF} {g j : mA} {K : Int → Int} {x k : Int} {cl : List Cla} (eg2 : g 2 = K) (hx : zIn x) (hk : zIn k) (hK : KOK K) (hL : (-1 ≤ x ∧ x ≤ K 79 - 1) → LawK (iu K 80 x) cl) : MM l o ar MX8_compare 58 [.ref o, vI x, vI k] f g j (PI (fun r f' g' j' => (r = cmpV K cl x k ∧ g' 2 = K) ∧ eqx [22, 23, 24, 25, 33] f f' ∧ eqx [2, 26, 30, 31, 32] g g' ∧ j' = j)) := by
  refine MM.intro [some (.ref o), some (vI x), some (vI k), none, none] (by decide) (Nat.le_of_ble_eq_true rfl) rfl (fun d hd h0 h hH hA => ?_)
  have hfE : eqx [22, 23, 24, 25, 33] f f := eqx.rf
  have hgE : eqx [2, 26, 30, 31, 32] g g := eqx.rf
  have hn := hK.1
  have h79 := hK.2.2.2.2.2.2.2.2.2.2.1
  have h80 := hK.2.2.2.2.2.2.2.2.2.2.2
  refine z_ald_0 (TX8_compare.at 0 rfl) ?_
  refine z_ild_1 (TX8_compare.at 1 rfl) ?_
  refine zm_callI1 (m_isLaw eg2 (by omega) h79.1) (TX8_compare.at 2 rfl) c8_254 rfl rfl hH hA (by omega) (Nat.le_of_ble_eq_true rfl) (fun x2 f2 g2 j2 h r2 q2 hH hA => ?_)
  obtain ⟨q2, xf, xg, xj⟩ := q2
  rw [xj] at hH
  have hfE := hfE.trans xf (by decide)
  have eg2 := (xg 2 (by decide)).trans eg2
  have hgE := hgE.trans xg (by decide)
  have qL := q2
  obtain rfl := qL
  refine z_if_eqB (tgt := 15) (TX8_compare.at 3 rfl) rfl (fun c1 => ?_) (fun c1 => ?_)
  · skip
    refine z_iconst (TX8_compare.at 7 rfl) ?_
    refine zm_iret (TX8_compare.at 8 rfl) rfl hH hA (by omega) ?_
    exact ⟨⟨by unfold cmpV; rw [if_neg (by omega)], eg2⟩, hfE, hgE, rfl⟩
  · skip
    refine z_ild_2 (TX8_compare.at 4 rfl) ?_
    refine zs_call1 (s_isKnot (by omega)) (TX8_compare.at 5 rfl) c8_113 rfl (by omega) (Nat.le_of_ble_eq_true rfl) (fun r9 => ?_)
    refine z_if_neB (tgt := 17) (TX8_compare.at 6 rfl) rfl (fun c2 => ?_) (fun c2 => ?_)
    · skip
      refine z_ald_0 (TX8_compare.at 9 rfl) ?_
      refine zm_getA (TX8_compare.at 10 rfl) fl8_28 hH (by decide) (by decide) ?_
      refine z_bipush (by decide) (TX8_compare.at 11 rfl) ?_
      refine zm_ialdE eg2 (TX8_compare.at 12 rfl) hH rfl (by omega) (show _ < ((5688 : Nat) : Int) by omega) (fun r23 => ?_)
      refine z_ist_3 (TX8_compare.at 13 rfl) (Nat.le_of_ble_eq_true rfl) rfl ?_
      refine z_ald_0 (TX8_compare.at 14 rfl) ?_
      refine zm_getA (TX8_compare.at 15 rfl) fl8_28 hH (by decide) (by decide) ?_
      refine z_bipush (by decide) (TX8_compare.at 16 rfl) ?_
      refine z_ild_1 (TX8_compare.at 17 rfl) ?_
      refine zm_iastE (TX8_compare.at 18 rfl) hH hA rfl (by omega) (show _ < ((5688 : Nat) : Int) by omega) (by omega) (fun h g32 e1 e2 hH hA => ?_)
      rw [eg2] at e2; have eg2 := e2
      have hgE := hgE.put e1 (by decide)
      refine z_ald_0 (TX8_compare.at 19 rfl) ?_
      refine z_ild_2 (TX8_compare.at 20 rfl) ?_
      refine zm_callI1 (m_lastFrom (cl := cl) eg2 (by omega) (by omega) (by omega) (KOK_80 hK (by omega) (by omega)) (hL (by omega))) (TX8_compare.at 21 rfl) c8_414 rfl rfl hH hA (by omega) (Nat.le_of_ble_eq_true rfl) (fun x35 f35 g35 j35 h r35 q35 hH hA => ?_)
      obtain ⟨q35, xf, xg, xj⟩ := q35
      rw [xj] at hH
      have hfE := hfE.trans xf (by decide)
      have eg2 := (xg 2 (by decide)).trans eg2
      have hgE := hgE.trans xg (by decide)
      have qL := q35
      rw [qL] at r35 ⊢
      refine z_ist_4 (TX8_compare.at 22 rfl) (Nat.le_of_ble_eq_true rfl) rfl ?_
      refine z_ald_0 (TX8_compare.at 23 rfl) ?_
      refine zm_getA (TX8_compare.at 24 rfl) fl8_28 hH (by decide) (by decide) ?_
      refine z_bipush (by decide) (TX8_compare.at 25 rfl) ?_
      refine z_ild_3 (TX8_compare.at 26 rfl) ?_
      refine zm_iastE (TX8_compare.at 27 rfl) hH hA rfl (by omega) (show _ < ((5688 : Nat) : Int) by omega) (by omega) (fun h g47 e1 e2 hH hA => ?_)
      rw [eg2] at e2; have eg2 := e2
      have hgE := hgE.put e1 (by decide)
      refine z_ild_4 (TX8_compare.at 28 rfl) ?_
      refine zs_call1 (s_orNone (by omega)) (TX8_compare.at 29 rfl) c8_357 rfl (by omega) (Nat.le_of_ble_eq_true rfl) (fun r50 => ?_)
      refine zm_iret (TX8_compare.at 30 rfl) rfl hH hA (by omega) ?_
      exact ⟨⟨by unfold cmpV; rw [if_pos (show (-1 ≤ x ∧ x ≤ K 79 - 1) ∧ 0 ≤ k ∧ k ≤ 7 by omega)]; rfl, eg2.trans iu_2⟩, hfE, hgE, rfl⟩
    · skip
      refine z_iconst (TX8_compare.at 7 rfl) ?_
      refine zm_iret (TX8_compare.at 8 rfl) rfl hH hA (by omega) ?_
      exact ⟨⟨by unfold cmpV; rw [if_neg (by omega)], eg2⟩, hfE, hgE, rfl⟩

def aprt (a b : Int) : Int := if a > b then a - b else b - a
set_option maxHeartbeats 4000000 in
set_option maxRecDepth 100000 in
theorem s_apart {l : Launch} {a b : Int} (ha : 0 ≤ a ∧ a ≤ 2000000) (hb : 0 ≤ b ∧ b ≤ 2000000) : SI l MX8_apart 0 [vI a, vI b] (aprt a b) := by
  refine SI.intro [some (vI a), some (vI b)] (by unfold aprt; split <;> omega) (by decide) (Nat.le_of_ble_eq_true rfl) rfl (fun d hd h => ?_)
  refine z_ild_0 (TX8_apart.at 0 rfl) ?_
  refine z_ild_1 (TX8_apart.at 1 rfl) ?_
  refine z_icmp_le (tgt := 11) (TX8_apart.at 2 rfl) rfl (by omega) (by omega) (fun c1 => ?_) (fun c1 => ?_)
  · skip
    refine z_ild_1 (TX8_apart.at 7 rfl) ?_
    refine z_ild_0 (TX8_apart.at 8 rfl) ?_
    refine z_isub (TX8_apart.at 9 rfl) ?_
    exact zs_iret (TX8_apart.at 10 rfl) rfl (by unfold aprt; first | (rw [if_pos (by omega)]; done) | (rw [if_neg (by omega)]; done))
  · skip
    refine z_ild_0 (TX8_apart.at 3 rfl) ?_
    refine z_ild_1 (TX8_apart.at 4 rfl) ?_
    refine z_isub (TX8_apart.at 5 rfl) ?_
    refine z_goto (tgt := 14) (TX8_apart.at 6 rfl) rfl ?_
    exact zs_iret (TX8_apart.at 10 rfl) rfl (by unfold aprt; first | (rw [if_pos (by omega)]; done) | (rw [if_neg (by omega)]; done))

def twI (v : Int → Int) (h a s : Int) : Nat → Int
  | 0 => s
  | m + 1 => twI v h a s m + b2i (v (a + 1 + m) < 1000000 ∧ aprt (v a) (v (a + 1 + m)) = h)
def twO (v : Int → Int) (h : Int) (n : Nat) : Nat → Int
  | 0 => 0
  | m + 1 => if v m = 1000000 then twO v h n m else twI v h m (twO v h n m + b2i (v m = h)) (n - 1 - m)
theorem twI_s {v : Int → Int} {h a s b x : Int} (hb : a < b) (e : x = twI v h a s (b - a - 1).toNat) : x + b2i (v b < 1000000 ∧ aprt (v a) (v b) = h) = twI v h a s (b + 1 - a - 1).toNat := by
  rw [show (b + 1 - a - 1).toNat = (b - a - 1).toNat + 1 by omega, twI, ← e, show a + 1 + (((b - a - 1).toNat : Nat) : Int) = b by omega]
theorem twO_0 {v : Int → Int} {h a x : Int} {n : Nat} (ha : 0 ≤ a) (e : x = twO v h n a.toNat) (hv : v a = 1000000) : x = twO v h n (a + 1).toNat := by
  rw [show (a + 1).toNat = a.toNat + 1 by omega, twO, show ((a.toNat : Nat) : Int) = a by omega, if_pos hv, e]
theorem twO_1 {v : Int → Int} {h a x y N : Int} {n : Nat} (ha : 0 ≤ a) (hN : N = n) (h1 : a < N) (e : x = twO v h n a.toNat) (hv : ¬ v a = 1000000) (ey : y = twI v h a (x + b2i (v a = h)) (N - a - 1).toNat) : y = twO v h n (a + 1).toNat := by
  rw [show (a + 1).toNat = a.toNat + 1 by omega, twO, show ((a.toNat : Nat) : Int) = a by omega, if_neg hv, ← e, ey, show (N - a - 1).toNat = n - 1 - a.toNat by omega]
def twP (K : Int → Int) (cl : List Cla) (q h : Int) : Int := twO (otP K cl q) h (K 76).toNat (K 76).toNat
theorem twI_in {v : Int → Int} {h a s : Int} : ∀ m : Nat, s ≤ twI v h a s m ∧ twI v h a s m ≤ s + m := by
  intro m
  induction m with
  | zero => simp only [twI]; omega
  | succ m ih => simp only [twI]; have := b2i_01 (v (a + 1 + m) < 1000000 ∧ aprt (v a) (v (a + 1 + m)) = h); omega
theorem twO_in {v : Int → Int} {h : Int} {n : Nat} : ∀ m : Nat, 0 ≤ twO v h n m ∧ twO v h n m ≤ m * (n + 1 : Nat) := by
  intro m
  induction m with
  | zero => simp [twO]
  | succ m ih =>
    simp only [twO]
    have e : ((m + 1 : Nat) : Int) * ((n + 1 : Nat) : Int) = (m : Int) * ((n + 1 : Nat) : Int) + ((n + 1 : Nat) : Int) := by rw [Int.natCast_add, Int.add_mul]; simp
    split
    · omega
    · have a := twI_in (v := v) (h := h) (a := m) (s := twO v h n m + b2i (v m = h)) (n - 1 - m)
      have b := b2i_01 (v m = h)
      omega
set_option maxHeartbeats 4000000 in
set_option maxRecDepth 100000 in
theorem lp_tw1 {l : Launch} {o : Nat} {ar : Nat → Nat} {d : Nat} {Pz : Option Value → zH → Prop} {h0 : zH} {f0 : mF} {g0 : mA} {j : mA} (hd : 10 ≤ d) {K B Hd : Int → Int} {cl : List Cla} {q hh a s0 : Int} (hq : zIn hh) (a0 : 0 ≤ a) (ha : 0 ≤ otP K cl q a ∧ otP K cl q a ≤ 1001000) (hK : KOK K) (hT : TmOK K cl B Hd) (kx : ∀ (s : Int) (C : Int → Int) (f : mF) (g : mA) (h : zH), (0 ≤ s ∧ s ≤ 1000 + K 76) → s = twI (otP K cl q) hh a s0 (K 76 - a - 1).toNat → ag8 C (cmP K cl q) → g 2 = K → g 30 = B → g 31 = Hd → g 32 = C → f 33 = ctS K cl → eqx [] f0 f → eqx [] g0 g → HM o ar f g j h → zAg o ar h0 h → Z l MX8_twosApart d 0 0 Pz 97 [some (.ref o), some (vI hh), some (vI s), some (vI a), some (vI (otP K cl q a)), some (vI (K 76))] [] h 0 0)  : ∀ (n : Nat) (b : Int) (s : Int) (C : Int → Int) (f : mF) (g : mA) (h : zH) (b0 : a < b) (b1 : b ≤ K 76) (b2 : K 76 < b + n) (hs : 0 ≤ s ∧ s ≤ 1000 + b) (es : s = twI (otP K cl q) hh a s0 (b - a - 1).toNat) (hD : ag8 C (cmP K cl q)) (eg2 : g 2 = K) (eg30 : g 30 = B) (eg31 : g 31 = Hd) (eg32 : g 32 = C) (ef33 : f 33 = ctS K cl) (hfE : eqx [] f0 f) (hgE : eqx [] g0 g) (hH : HM o ar f g j h) (hA : zAg o ar h0 h), Z l MX8_twosApart d 0 0 Pz 48 [some (.ref o), some (vI hh), some (vI s), some (vI a), some (vI (otP K cl q a)), some (vI b)] [] h 0 0 := by
  intro n
  induction n with
  | zero => intro b s C f g h b0 b1 b2 hs es hD eg2 eg30 eg31 eg32 ef33 hfE hgE hH hA; exfalso; omega
  | succ n ih =>
    intro b s C f g h b0 b1 b2 hs es hD eg2 eg30 eg31 eg32 ef33 hfE hgE hH hA
    have hn := hK.1
    have hcs := ctS_31 (cl := cl) hK
    have hCD : COK (cmP K cl q) := cmP_ok hK
    refine z_ild_5 (TX8_twosApart.at 29 rfl) ?_
    refine z_ald_0 (TX8_twosApart.at 30 rfl) ?_
    refine zm_callP0 (m_fuseMany) (TX8_twosApart.at 31 rfl) c8_109 rfl rfl hH hA (by omega) (Nat.le_of_ble_eq_true rfl) (fun h r51 hH hA => ?_)
    rw [eg2] at r51 ⊢
    refine z_icmp_ge (tgt := 97) (TX8_twosApart.at 32 rfl) rfl (by omega) (by omega) (fun c1 => ?_) (fun c1 => ?_)
    · skip
      obtain rfl : b = K 76 := by omega
      exact kx s _ _ _ _ hs es hD eg2 eg30 eg31 eg32 ef33 hfE hgE hH hA
    · skip
      refine z_ild_2 (TX8_twosApart.at 33 rfl) ?_
      refine z_ald_0 (TX8_twosApart.at 34 rfl) ?_
      refine z_ild_5 (TX8_twosApart.at 35 rfl) ?_
      refine zm_callI1 (m_outOf (cl := cl) (D := cmP K cl q) eg2 eg30 eg31 eg32 ef33 (by omega) hcs (by omega) (by omega) hK hT hD hCD) (TX8_twosApart.at 36 rfl) c8_354 rfl rfl hH hA (by omega) (Nat.le_of_ble_eq_true rfl) (fun x61 f61 g61 j61 h r61 q61 hH hA => ?_)
      obtain ⟨q61, xf, xg, xj⟩ := q61
      rw [xj] at hH
      have ef33 := (xf 33 (by decide)).trans ef33
      have hfE := hfE.trans xf (by decide)
      have eg2 := (xg 2 (by decide)).trans eg2
      have eg30 := (xg 30 (by decide)).trans eg30
      have eg31 := (xg 31 (by decide)).trans eg31
      have eg32 := (xg 32 (by decide)).trans eg32
      have hgE := hgE.trans xg (by decide)
      have qL := q61
      rw [qL, show oK K cl (ctS K cl) (cmP K cl q) = otP K cl q from rfl] at r61 ⊢
      have hbb : 0 ≤ otP K cl q b ∧ otP K cl q b ≤ 1001000 := oK_in hK hCD (by omega) (by omega)
      refine z_ldc (v := 1000000) (TX8_twosApart.at 37 rfl) k8_169 (by decide) ?_
      refine z_icmp_ge (tgt := 88) (TX8_twosApart.at 38 rfl) rfl (by omega) (by omega) (fun c2 => ?_) (fun c2 => ?_)
      · skip
        refine z_iconst (TX8_twosApart.at 48 rfl) ?_
        refine z_iadd (TX8_twosApart.at 49 rfl) ?_
        refine z_ist_2 (TX8_twosApart.at 50 rfl) (Nat.le_of_ble_eq_true rfl) rfl ?_
        refine z_iinc_5 (TX8_twosApart.at 51 rfl) (Nat.le_of_ble_eq_true rfl) rfl ?_
        refine z_goto (tgt := 48) (TX8_twosApart.at 52 rfl) rfl ?_
        exact ih (b + 1) _ _ _ _ _ (by omega) (by omega) (by omega) (by omega) (by first | (rw [← twI_s b0 es, b2i_t ⟨by omega, by omega⟩]; done) | (rw [← twI_s b0 es, b2i_f (fun z => absurd z.1 (by omega))]; done) | (rw [← twI_s b0 es, b2i_f (fun z => absurd z.2 (by omega))]; done)) hD eg2 eg30 eg31 eg32 ef33 hfE hgE hH hA
      · skip
        refine z_ild_4 (TX8_twosApart.at 39 rfl) ?_
        refine z_ald_0 (TX8_twosApart.at 40 rfl) ?_
        refine z_ild_5 (TX8_twosApart.at 41 rfl) ?_
        refine zm_callI1 (m_outOf (cl := cl) (D := cmP K cl q) eg2 eg30 eg31 eg32 ef33 (by omega) hcs (by omega) (by omega) hK hT hD hCD) (TX8_twosApart.at 42 rfl) c8_354 rfl rfl hH hA (by omega) (Nat.le_of_ble_eq_true rfl) (fun x74 f74 g74 j74 h r74 q74 hH hA => ?_)
        obtain ⟨q74, xf, xg, xj⟩ := q74
        rw [xj] at hH
        have ef33 := (xf 33 (by decide)).trans ef33
        have hfE := hfE.trans xf (by decide)
        have eg2 := (xg 2 (by decide)).trans eg2
        have eg30 := (xg 30 (by decide)).trans eg30
        have eg31 := (xg 31 (by decide)).trans eg31
        have eg32 := (xg 32 (by decide)).trans eg32
        have hgE := hgE.trans xg (by decide)
        have qL := q74
        rw [qL, show oK K cl (ctS K cl) (cmP K cl q) = otP K cl q from rfl] at r74 ⊢
        have hbb : 0 ≤ otP K cl q b ∧ otP K cl q b ≤ 1001000 := oK_in hK hCD (by omega) (by omega)
        refine zs_call2 (s_apart (by omega) (by omega)) (TX8_twosApart.at 43 rfl) c8_417 rfl (by omega) (Nat.le_of_ble_eq_true rfl) (fun r77 => ?_)
        refine z_ild_1 (TX8_twosApart.at 44 rfl) ?_
        refine z_icmp_ne (tgt := 88) (TX8_twosApart.at 45 rfl) rfl (by omega) (by omega) (fun c3 => ?_) (fun c3 => ?_)
        · skip
          refine z_iconst (TX8_twosApart.at 48 rfl) ?_
          refine z_iadd (TX8_twosApart.at 49 rfl) ?_
          refine z_ist_2 (TX8_twosApart.at 50 rfl) (Nat.le_of_ble_eq_true rfl) rfl ?_
          refine z_iinc_5 (TX8_twosApart.at 51 rfl) (Nat.le_of_ble_eq_true rfl) rfl ?_
          refine z_goto (tgt := 48) (TX8_twosApart.at 52 rfl) rfl ?_
          exact ih (b + 1) _ _ _ _ _ (by omega) (by omega) (by omega) (by omega) (by first | (rw [← twI_s b0 es, b2i_t ⟨by omega, by omega⟩]; done) | (rw [← twI_s b0 es, b2i_f (fun z => absurd z.1 (by omega))]; done) | (rw [← twI_s b0 es, b2i_f (fun z => absurd z.2 (by omega))]; done)) hD eg2 eg30 eg31 eg32 ef33 hfE hgE hH hA
        · skip
          refine z_iconst (TX8_twosApart.at 46 rfl) ?_
          refine z_goto (tgt := 89) (TX8_twosApart.at 47 rfl) rfl ?_
          refine z_iadd (TX8_twosApart.at 49 rfl) ?_
          refine z_ist_2 (TX8_twosApart.at 50 rfl) (Nat.le_of_ble_eq_true rfl) rfl ?_
          refine z_iinc_5 (TX8_twosApart.at 51 rfl) (Nat.le_of_ble_eq_true rfl) rfl ?_
          refine z_goto (tgt := 48) (TX8_twosApart.at 52 rfl) rfl ?_
          exact ih (b + 1) _ _ _ _ _ (by omega) (by omega) (by omega) (by omega) (by first | (rw [← twI_s b0 es, b2i_t ⟨by omega, by omega⟩]; done) | (rw [← twI_s b0 es, b2i_f (fun z => absurd z.1 (by omega))]; done) | (rw [← twI_s b0 es, b2i_f (fun z => absurd z.2 (by omega))]; done)) hD eg2 eg30 eg31 eg32 ef33 hfE hgE hH hA

set_option maxHeartbeats 4000000 in
set_option maxRecDepth 100000 in
theorem lp_tw2 {l : Launch} {o : Nat} {ar : Nat → Nat} {d : Nat} {Pz : Option Value → zH → Prop} {h0 : zH} {f0 : mF} {g0 : mA} {j : mA} (hd : 10 ≤ d) {K B Hd : Int → Int} {cl : List Cla} {q hh : Int} (hq : zIn hh) (hK : KOK K) (hT : TmOK K cl B Hd) (kx : ∀ (o4 o5 : Option Value) (C : Int → Int) (f : mF) (g : mA) (h : zH), g 2 = K → g 30 = B → g 31 = Hd → g 32 = C → f 33 = ctS K cl → eqx [] f0 f → eqx [] g0 g → HM o ar f g j h → zAg o ar h0 h → Z l MX8_twosApart d 0 0 Pz 103 [some (.ref o), some (vI hh), some (vI (twP K cl q hh)), some (vI (K 76)), o4, o5] [] h 0 0)  : ∀ (n : Nat) (a : Int) (s : Int) (o4 : Option Value) (o5 : Option Value) (C : Int → Int) (f : mF) (g : mA) (h : zH) (a0 : 0 ≤ a) (a1 : a ≤ K 76) (a2 : K 76 < a + n) (es : s = twO (otP K cl q) hh (K 76).toNat a.toNat) (hD : ag8 C (cmP K cl q)) (eg2 : g 2 = K) (eg30 : g 30 = B) (eg31 : g 31 = Hd) (eg32 : g 32 = C) (ef33 : f 33 = ctS K cl) (hfE : eqx [] f0 f) (hgE : eqx [] g0 g) (hH : HM o ar f g j h) (hA : zAg o ar h0 h), Z l MX8_twosApart d 0 0 Pz 4 [some (.ref o), some (vI hh), some (vI s), some (vI a), o4, o5] [] h 0 0 := by
  intro n
  induction n with
  | zero => intro a s o4 o5 C f g h a0 a1 a2 es hD eg2 eg30 eg31 eg32 ef33 hfE hgE hH hA; exfalso; omega
  | succ n ih =>
    intro a s o4 o5 C f g h a0 a1 a2 es hD eg2 eg30 eg31 eg32 ef33 hfE hgE hH hA
    have hn := hK.1
    have hcs := ctS_31 (cl := cl) hK
    have hCD : COK (cmP K cl q) := cmP_ok hK
    have hsi := twO_in (v := otP K cl q) (h := hh) (n := (K 76).toNat) a.toNat
    rw [← es] at hsi
    have hmm : ((a.toNat : Nat) : Int) * (((K 76).toNat + 1 : Nat) : Int) ≤ 10 * 11 := Int.mul_le_mul (by omega) (by omega) (by omega) (by omega)
    refine z_ild_3 (TX8_twosApart.at 4 rfl) ?_
    refine z_ald_0 (TX8_twosApart.at 5 rfl) ?_
    refine zm_callP0 (m_fuseMany) (TX8_twosApart.at 6 rfl) c8_109 rfl rfl hH hA (by omega) (Nat.le_of_ble_eq_true rfl) (fun h r6 hH hA => ?_)
    rw [eg2] at r6 ⊢
    refine z_icmp_ge (tgt := 103) (TX8_twosApart.at 7 rfl) rfl (by omega) (by omega) (fun c1 => ?_) (fun c1 => ?_)
    · skip
      obtain rfl : a = K 76 := by omega
      rw [es]
      exact kx _ _ _ _ _ _ eg2 eg30 eg31 eg32 ef33 hfE hgE hH hA
    · skip
      refine z_ald_0 (TX8_twosApart.at 8 rfl) ?_
      refine z_ild_3 (TX8_twosApart.at 9 rfl) ?_
      refine zm_callI1 (m_outOf (cl := cl) (D := cmP K cl q) eg2 eg30 eg31 eg32 ef33 (by omega) hcs (by omega) (by omega) hK hT hD hCD) (TX8_twosApart.at 10 rfl) c8_354 rfl rfl hH hA (by omega) (Nat.le_of_ble_eq_true rfl) (fun x14 f14 g14 j14 h r14 q14 hH hA => ?_)
      obtain ⟨q14, xf, xg, xj⟩ := q14
      rw [xj] at hH
      have ef33 := (xf 33 (by decide)).trans ef33
      have hfE := hfE.trans xf (by decide)
      have eg2 := (xg 2 (by decide)).trans eg2
      have eg30 := (xg 30 (by decide)).trans eg30
      have eg31 := (xg 31 (by decide)).trans eg31
      have eg32 := (xg 32 (by decide)).trans eg32
      have hgE := hgE.trans xg (by decide)
      have qL := q14
      rw [qL, show oK K cl (ctS K cl) (cmP K cl q) = otP K cl q from rfl] at r14 ⊢
      have haa : 0 ≤ otP K cl q a ∧ otP K cl q a ≤ 1001000 := oK_in hK hCD (by omega) (by omega)
      refine z_ist_4 (TX8_twosApart.at 11 rfl) (Nat.le_of_ble_eq_true rfl) rfl ?_
      refine z_ild_4 (TX8_twosApart.at 12 rfl) ?_
      refine z_ldc (v := 1000000) (TX8_twosApart.at 13 rfl) k8_169 (by decide) ?_
      refine z_icmp_ne (tgt := 29) (TX8_twosApart.at 14 rfl) rfl (by omega) (by omega) (fun c2 => ?_) (fun c2 => ?_)
      · skip
        refine z_ild_2 (TX8_twosApart.at 16 rfl) ?_
        refine z_ild_4 (TX8_twosApart.at 17 rfl) ?_
        refine z_ild_1 (TX8_twosApart.at 18 rfl) ?_
        refine z_icmp_ne (tgt := 40) (TX8_twosApart.at 19 rfl) rfl (by omega) (by omega) (fun c3 => ?_) (fun c3 => ?_)
        · skip
          refine z_iconst (TX8_twosApart.at 22 rfl) ?_
          refine z_iadd (TX8_twosApart.at 23 rfl) ?_
          refine z_ist_2 (TX8_twosApart.at 24 rfl) (Nat.le_of_ble_eq_true rfl) rfl ?_
          refine z_ild_3 (TX8_twosApart.at 25 rfl) ?_
          refine z_iconst (TX8_twosApart.at 26 rfl) ?_
          refine z_iadd (TX8_twosApart.at 27 rfl) ?_
          refine z_ist_5 (TX8_twosApart.at 28 rfl) (Nat.le_of_ble_eq_true rfl) rfl ?_
          refine lp_tw1 (q := q) (hh := hh) (a := a) (by omega) hq a0 haa hK hT (fun s2 C2 f48 g48 h hs2 es2 hD eg2 eg30 eg31 eg32 ef33 xf xg hH hA => ?_) (K 76).toNat (a + 1) _ _ _ _ _ (by omega) (by omega) (by omega) (by omega) (by rw [show (a + 1 - a - 1).toNat = 0 by omega]; rfl) hD eg2 eg30 eg31 eg32 ef33 eqx.rf eqx.rf hH hA
          have hfE := hfE.trans xf (by decide)
          have hgE := hgE.trans xg (by decide)
          refine z_iinc_3 (TX8_twosApart.at 53 rfl) (Nat.le_of_ble_eq_true rfl) rfl ?_
          refine z_goto (tgt := 4) (TX8_twosApart.at 54 rfl) rfl ?_
          exact ih (a + 1) _ _ _ _ _ _ _ (by omega) (by omega) (by omega) (by first | exact twO_0 a0 es (by omega) | exact twO_1 (N := K 76) a0 (by omega) (by omega) es (by omega) (by rw [b2i_t (by omega)]; exact es2) | exact twO_1 (N := K 76) a0 (by omega) (by omega) es (by omega) (by rw [b2i_f (by omega)]; exact es2)) hD eg2 eg30 eg31 eg32 ef33 hfE hgE hH hA
        · skip
          refine z_iconst (TX8_twosApart.at 20 rfl) ?_
          refine z_goto (tgt := 41) (TX8_twosApart.at 21 rfl) rfl ?_
          refine z_iadd (TX8_twosApart.at 23 rfl) ?_
          refine z_ist_2 (TX8_twosApart.at 24 rfl) (Nat.le_of_ble_eq_true rfl) rfl ?_
          refine z_ild_3 (TX8_twosApart.at 25 rfl) ?_
          refine z_iconst (TX8_twosApart.at 26 rfl) ?_
          refine z_iadd (TX8_twosApart.at 27 rfl) ?_
          refine z_ist_5 (TX8_twosApart.at 28 rfl) (Nat.le_of_ble_eq_true rfl) rfl ?_
          refine lp_tw1 (q := q) (hh := hh) (a := a) (by omega) hq a0 haa hK hT (fun s2 C2 f48 g48 h hs2 es2 hD eg2 eg30 eg31 eg32 ef33 xf xg hH hA => ?_) (K 76).toNat (a + 1) _ _ _ _ _ (by omega) (by omega) (by omega) (by omega) (by rw [show (a + 1 - a - 1).toNat = 0 by omega]; rfl) hD eg2 eg30 eg31 eg32 ef33 eqx.rf eqx.rf hH hA
          have hfE := hfE.trans xf (by decide)
          have hgE := hgE.trans xg (by decide)
          refine z_iinc_3 (TX8_twosApart.at 53 rfl) (Nat.le_of_ble_eq_true rfl) rfl ?_
          refine z_goto (tgt := 4) (TX8_twosApart.at 54 rfl) rfl ?_
          exact ih (a + 1) _ _ _ _ _ _ _ (by omega) (by omega) (by omega) (by first | exact twO_0 a0 es (by omega) | exact twO_1 (N := K 76) a0 (by omega) (by omega) es (by omega) (by rw [b2i_t (by omega)]; exact es2) | exact twO_1 (N := K 76) a0 (by omega) (by omega) es (by omega) (by rw [b2i_f (by omega)]; exact es2)) hD eg2 eg30 eg31 eg32 ef33 hfE hgE hH hA
      · skip
        refine z_goto (tgt := 97) (TX8_twosApart.at 15 rfl) rfl ?_
        refine z_iinc_3 (TX8_twosApart.at 53 rfl) (Nat.le_of_ble_eq_true rfl) rfl ?_
        refine z_goto (tgt := 4) (TX8_twosApart.at 54 rfl) rfl ?_
        exact ih (a + 1) _ _ _ _ _ _ _ (by omega) (by omega) (by omega) (by first | exact twO_0 a0 es (by omega) | exact twO_1 (N := K 76) a0 (by omega) (by omega) es (by omega) (by rw [b2i_t (by omega)]; exact es2) | exact twO_1 (N := K 76) a0 (by omega) (by omega) es (by omega) (by rw [b2i_f (by omega)]; exact es2)) hD eg2 eg30 eg31 eg32 ef33 hfE hgE hH hA

set_option maxHeartbeats 4000000 in
set_option maxRecDepth 100000 in
theorem m_twosApart {l : Launch} {o : Nat} {ar : Nat → Nat} {f : mF} {g j : mA} {K : Int → Int} {B : Int → Int} {Hd : Int → Int} {C : Int → Int} {hh : Int} {cl : List Cla} {q : Int} (eg2 : g 2 = K) (eg30 : g 30 = B) (eg31 : g 31 = Hd) (eg32 : g 32 = C) (ef33 : f 33 = ctS K cl) (hhh : zIn hh) (hK : KOK K) (hT : TmOK K cl B Hd) (hD : ag8 C (cmP K cl q)) : MM l o ar MX8_twosApart 11 [.ref o, vI hh] f g j (PI (fun r f' g' j' => (r = twP K cl q hh) ∧ eqx [] f f' ∧ eqx [] g g' ∧ j' = j)) := by
  refine MM.intro [some (.ref o), some (vI hh), none, none, none, none] (by decide) (Nat.le_of_ble_eq_true rfl) rfl (fun d hd h0 h hH hA => ?_)
  have hfE : eqx [] f f := eqx.rf
  have hgE : eqx [] g g := eqx.rf
  have hn := hK.1
  have hsi := twO_in (v := otP K cl q) (h := hh) (n := (K 76).toNat) (K 76).toNat
  rw [show twO (otP K cl q) hh (K 76).toNat (K 76).toNat = twP K cl q hh from rfl] at hsi
  have hmm : (((K 76).toNat : Nat) : Int) * (((K 76).toNat + 1 : Nat) : Int) ≤ 10 * 11 := Int.mul_le_mul (by omega) (by omega) (by omega) (by omega)
  refine z_iconst (TX8_twosApart.at 0 rfl) ?_
  refine z_ist_2 (TX8_twosApart.at 1 rfl) (Nat.le_of_ble_eq_true rfl) rfl ?_
  refine z_iconst (TX8_twosApart.at 2 rfl) ?_
  refine z_ist_3 (TX8_twosApart.at 3 rfl) (Nat.le_of_ble_eq_true rfl) rfl ?_
  refine lp_tw2 (q := q) (hh := hh) (by omega) (by omega) hK hT (fun o4 o5 C2 f4 g4 h eg2 eg30 eg31 eg32 ef33 xf xg hH hA => ?_) ((K 76).toNat + 1) 0 0 none none _ _ _ _ (by omega) (by omega) (by omega) rfl hD eg2 eg30 eg31 eg32 ef33 eqx.rf eqx.rf hH hA
  have hfE := hfE.trans xf (by decide)
  have hgE := hgE.trans xg (by decide)
  refine z_ild_2 (TX8_twosApart.at 55 rfl) ?_
  refine zm_iret (TX8_twosApart.at 56 rfl) rfl hH hA (by omega) ?_
  exact ⟨rfl, hfE, hgE, rfl⟩

def msP (K : Int → Int) (cl : List Cla) (h : Int) : Int := fstP (fun k => decide (0 < twP K cl (zshl 1 k) h)) 8
def msV (K : Int → Int) (cl : List Cla) (h w : Int) : Int := if (1 ≤ h ∧ h ≤ 400) ∧ 0 ≤ w ∧ w ≤ 1 then (if msP K cl h = -1 then -1 else if w = 0 then msP K cl h else twP K cl (zshl 1 (msP K cl h)) h) else -1
set_option maxHeartbeats 4000000 in
set_option maxRecDepth 100000 in
theorem lp_meas {l : Launch} {o : Nat} {ar : Nat → Nat} {d : Nat} {Pz : Option Value → zH → Prop} {h0 : zH} {f0 : mF} {g0 : mA} {j : mA} (hd : 60 ≤ d) {K B Hd : Int → Int} {cl : List Cla} {hh w : Int} (hq : zIn hh) (hK : KOK K) (hT : TmOK K cl B Hd) (kx1 : ∀ (k : Int) (f : mF) (g : mA) (h : zH), 0 ≤ k → k ≤ 7 → msP K cl hh = k → zIn (twP K cl (zshl 1 k) hh) → eqx [] f0 f → eqx [32] g0 g → HM o ar f g j h → zAg o ar h0 h → Z l MX8_measured d 0 0 Pz 57 [some (.ref o), some (vI hh), some (vI w), some (vI k), some (vI (twP K cl (zshl 1 k) hh))] [] h 0 0) (kx2 : ∀ (o4 : Option Value) (f : mF) (g : mA) (h : zH), msP K cl hh = -1 → eqx [] f0 f → eqx [32] g0 g → HM o ar f g j h → zAg o ar h0 h → Z l MX8_measured d 0 0 Pz 74 [some (.ref o), some (vI hh), some (vI w), some (vI 8), o4] [] h 0 0)  : ∀ (n : Nat) (k : Int) (o4 : Option Value) (C : Int → Int) (f : mF) (g : mA) (h : zH) (k0 : 0 ≤ k) (k1 : k ≤ 8) (k2 : 8 < k + n) (hno : ∀ t : Int, 0 ≤ t → t < k → ¬ decide (0 < twP K cl (zshl 1 t) hh) = true) (eg2 : g 2 = K) (eg30 : g 30 = B) (eg31 : g 31 = Hd) (eg32 : g 32 = C) (ef33 : f 33 = ctS K cl) (hfE : eqx [] f0 f) (hgE : eqx [32] g0 g) (hH : HM o ar f g j h) (hA : zAg o ar h0 h), Z l MX8_measured d 0 0 Pz 28 [some (.ref o), some (vI hh), some (vI w), some (vI k), o4] [] h 0 0 := by
  intro n
  induction n with
  | zero => intro k o4 C f g h k0 k1 k2 hno eg2 eg30 eg31 eg32 ef33 hfE hgE hH hA; exfalso; omega
  | succ n ih =>
    intro k o4 C f g h k0 k1 k2 hno eg2 eg30 eg31 eg32 ef33 hfE hgE hH hA
    have hn := hK.1
    have hcs := ctS_31 (cl := cl) hK
    refine z_ild_3 (TX8_measured.at 16 rfl) ?_
    refine z_bipush (by decide) (TX8_measured.at 17 rfl) ?_
    refine z_icmp_ge (tgt := 74) (TX8_measured.at 18 rfl) rfl (by omega) (by omega) (fun c1 => ?_) (fun c1 => ?_)
    · skip
      obtain rfl : k = 8 := by omega
      exact kx2 _ _ _ _ (fstP_none 8 hno) hfE hgE hH hA
    · skip
      refine z_ald_0 (TX8_measured.at 19 rfl) ?_
      refine z_iconst (TX8_measured.at 20 rfl) ?_
      refine z_ild_3 (TX8_measured.at 21 rfl) ?_
      have hsh := shl_in (i := k) k0 (by omega)
      refine z_ishl (TX8_measured.at 22 rfl) ?_
      refine z_ald_0 (TX8_measured.at 23 rfl) ?_
      refine zm_getIE ef33 (TX8_measured.at 24 rfl) fl8_333 hH rfl (by decide) (fun r39 => ?_)
      refine zm_callV2 (m_firesFrom eg2 eg30 eg31 rfl (by omega) (by omega) (by omega) hcs hn.1 hn.2 (hT.fr hK)) (TX8_measured.at 25 rfl) c8_387 rfl rfl hH hA (by omega) (Nat.le_of_ble_eq_true rfl) (fun f42 g42 j42 h q42 hH hA => ?_)
      obtain ⟨q42, xf, xg, xj⟩ := q42
      rw [xj] at hH
      have ef33 := (xf 33 (by decide)).trans ef33
      have hfE := hfE.trans xf (by decide)
      have eg2 := (xg 2 (by decide)).trans eg2
      have eg30 := (xg 30 (by decide)).trans eg30
      have eg31 := (xg 31 (by decide)).trans eg31
      have hgE := hgE.trans xg (by decide)
      have qL := q42
      obtain ⟨C, eg32⟩ : ∃ z, g42 32 = z := ⟨_, rfl⟩
      rw [eg32, hT.dist hK] at qL
      have hD : ag8 C (cmP K cl (zshl 1 k)) := qL
      have hCD : COK (cmP K cl (zshl 1 k)) := cmP_ok hK
      refine z_ald_0 (TX8_measured.at 26 rfl) ?_
      refine z_ild_1 (TX8_measured.at 27 rfl) ?_
      refine zm_callI1 (m_twosApart (cl := cl) (q := zshl 1 k) eg2 eg30 eg31 eg32 ef33 (by omega) hK hT hD) (TX8_measured.at 28 rfl) c8_420 rfl rfl hH hA (by omega) (Nat.le_of_ble_eq_true rfl) (fun x47 f47 g47 j47 h r47 q47 hH hA => ?_)
      obtain ⟨q47, xf, xg, xj⟩ := q47
      rw [xj] at hH
      have ef33 := (xf 33 (by decide)).trans ef33
      have hfE := hfE.trans xf (by decide)
      have eg2 := (xg 2 (by decide)).trans eg2
      have eg30 := (xg 30 (by decide)).trans eg30
      have eg31 := (xg 31 (by decide)).trans eg31
      have eg32 := (xg 32 (by decide)).trans eg32
      have hgE := hgE.trans xg (by decide)
      have qL := q47
      rw [qL] at r47 ⊢
      refine z_ist_4 (TX8_measured.at 29 rfl) (Nat.le_of_ble_eq_true rfl) rfl ?_
      refine z_ild_4 (TX8_measured.at 30 rfl) ?_
      refine z_if_le (tgt := 68) (TX8_measured.at 31 rfl) rfl (by omega) (fun c2 => ?_) (fun c2 => ?_)
      · skip
        refine z_iinc_3 (TX8_measured.at 38 rfl) (Nat.le_of_ble_eq_true rfl) rfl ?_
        refine z_goto (tgt := 28) (TX8_measured.at 39 rfl) rfl ?_
        exact ih (k + 1) _ _ _ _ _ (by omega) (by omega) (by omega) (fun t t0 t1 => by rcases (show t < k ∨ t = k by omega) with q | q; exact hno t t0 q; subst q; exact (fun z => absurd (of_decide_eq_true z) (by omega))) eg2 eg30 eg31 eg32 ef33 hfE hgE hH hA
      · skip
        exact kx1 k _ _ _ k0 (by omega) (fstP_at k0 (decide_eq_true (by omega)) 8 hno (by omega)) (by omega) hfE hgE hH hA

set_option maxHeartbeats 4000000 in
set_option maxRecDepth 100000 in
theorem m_measured {l : Launch} {o : Nat} {ar : Nat → Nat} {f : mF} {g j : mA} {K : Int → Int} {hh w : Int} {cl : List Cla} (eg2 : g 2 = K) (hhh : zIn hh) (hw : zIn w) (hK : KOK K) (hL : LawK K cl) : MM l o ar MX8_measured 61 [.ref o, vI hh, vI w] f g j (PI (fun r f' g' j' => (r = msV K cl hh w) ∧ eqx [22, 23, 24, 25, 33] f f' ∧ eqx [26, 30, 31, 32] g g' ∧ j' = j)) := by
  refine MM.intro [some (.ref o), some (vI hh), some (vI w), none, none] (by decide) (Nat.le_of_ble_eq_true rfl) rfl (fun d hd h0 h hH hA => ?_)
  have hfE : eqx [22, 23, 24, 25, 33] f f := eqx.rf
  have hgE : eqx [26, 30, 31, 32] g g := eqx.rf
  have hn := hK.1
  have hcs := ctS_31 (cl := cl) hK
  refine z_ild_1 (TX8_measured.at 0 rfl) ?_
  refine z_iconst (TX8_measured.at 1 rfl) ?_
  refine z_sipush (by decide) (TX8_measured.at 2 rfl) ?_
  refine zs_call3 (s_lies (by omega) (by omega) (by omega)) (TX8_measured.at 3 rfl) c8_18 rfl (by omega) (Nat.le_of_ble_eq_true rfl) (fun r5 => ?_)
  refine z_if_eqB (tgt := 20) (TX8_measured.at 4 rfl) rfl (fun c1 => ?_) (fun c1 => ?_)
  · skip
    refine z_iconst (TX8_measured.at 10 rfl) ?_
    refine zm_iret (TX8_measured.at 11 rfl) rfl hH hA (by omega) ?_
    exact ⟨by unfold msV; rw [if_neg (by omega)], hfE, hgE, rfl⟩
  · skip
    refine z_ild_2 (TX8_measured.at 5 rfl) ?_
    refine z_iconst (TX8_measured.at 6 rfl) ?_
    refine z_iconst (TX8_measured.at 7 rfl) ?_
    refine zs_call3 (s_lies (by omega) (by omega) (by omega)) (TX8_measured.at 8 rfl) c8_18 rfl (by omega) (Nat.le_of_ble_eq_true rfl) (fun r14 => ?_)
    refine z_if_neB (tgt := 22) (TX8_measured.at 9 rfl) rfl (fun c2 => ?_) (fun c2 => ?_)
    · skip
      refine z_ald_0 (TX8_measured.at 12 rfl) ?_
      refine zm_callV0 (m_laysTimes eg2 rfl rfl rfl hK.lawH hL) (TX8_measured.at 13 rfl) c8_348 rfl rfl hH hA (by omega) (Nat.le_of_ble_eq_true rfl) (fun f23 g23 j23 h q23 hH hA => ?_)
      obtain ⟨q23, xf, xg, xj⟩ := q23
      rw [xj] at hH
      have hfE := hfE.trans xf (by decide)
      have eg2 := (xg 2 (by decide)).trans eg2
      have hgE := hgE.trans xg (by decide)
      have qL := q23
      obtain ⟨B, eg30⟩ : ∃ z, g23 30 = z := ⟨_, rfl⟩
      obtain ⟨Hd, eg31⟩ : ∃ z, g23 31 = z := ⟨_, rfl⟩
      have ef33 := qL.2.2
      rw [show msk (fun t => decide (ctc K cl t)) (K 76).toNat = ctS K cl from rfl] at ef33
      have hT : TmOK K cl B Hd := tm_of hK (eg30.symm.trans qL.1) (eg31.symm.trans qL.2.1)
      refine z_iconst (TX8_measured.at 14 rfl) ?_
      refine z_ist_3 (TX8_measured.at 15 rfl) (Nat.le_of_ble_eq_true rfl) rfl ?_
      refine lp_meas (hh := hh) (w := w) (cl := cl) (by omega) (by omega) hK hT (fun k f3 g3 h3 k0 k7 ek tz xf xg hH hA => ?_) (fun o4 f3 g3 h3 ek xf xg hH hA => ?_) 9 0 none _ _ _ _ (by omega) (by omega) (by omega) (fun t t0 t1 => by omega) eg2 eg30 eg31 rfl ef33 eqx.rf eqx.rf hH hA
      · skip
        refine z_ild_2 (TX8_measured.at 32 rfl) ?_
        refine z_if_ne (tgt := 65) (TX8_measured.at 33 rfl) rfl (by omega) (fun c1 => ?_) (fun c1 => ?_)
        · skip
          refine z_ild_4 (TX8_measured.at 36 rfl) ?_
          refine zm_iret (TX8_measured.at 37 rfl) rfl hH hA (by omega) ?_
          exact ⟨by unfold msV; rw [if_pos (by omega), ek, if_neg (by omega)]; first | (rw [if_pos (by omega)]; done) | (rw [if_neg (by omega)]; done), hfE.trans xf (by decide), hgE.trans xg (by decide), rfl⟩
        · skip
          refine z_ild_3 (TX8_measured.at 34 rfl) ?_
          refine z_goto (tgt := 67) (TX8_measured.at 35 rfl) rfl ?_
          refine zm_iret (TX8_measured.at 37 rfl) rfl hH hA (by omega) ?_
          exact ⟨by unfold msV; rw [if_pos (by omega), ek, if_neg (by omega)]; first | (rw [if_pos (by omega)]; done) | (rw [if_neg (by omega)]; done), hfE.trans xf (by decide), hgE.trans xg (by decide), rfl⟩
      · skip
        refine z_iconst (TX8_measured.at 40 rfl) ?_
        refine zm_iret (TX8_measured.at 41 rfl) rfl hH hA (by omega) ?_
        exact ⟨by unfold msV; rw [if_pos (by omega), if_pos (by omega)], hfE.trans xf (by decide), hgE.trans xg (by decide), rfl⟩
    · skip
      refine z_iconst (TX8_measured.at 10 rfl) ?_
      refine zm_iret (TX8_measured.at 11 rfl) rfl hH hA (by omega) ?_
      exact ⟨by unfold msV; rw [if_neg (by omega)], hfE, hgE, rfl⟩

