/-! ===== the reference: few, evenings ===== -/
theorem zldivN {x : Int} (h0 : 0 ≤ x) (h1 : x ≤ 100000000000000) : zldiv x 10 = x / 10 := by
  unfold zldiv
  rw [Int64.toInt_div, zL_toInt (by omega), zL_toInt (by omega), Int.tdiv_eq_ediv_of_nonneg h0]
  exact Int.bmod_eq_of_le (by omega) (by omega)
def FW (V : Int → Int) : Prop := (∀ i : Int, 0 ≤ i → i ≤ 20 → 0 ≤ V i) ∧ sm V 21 ≤ 1000000000000
theorem smN_ge {V : Int → Int} {v : Int} : ∀ n : Nat, (∀ i : Int, 0 ≤ i → i < n → 0 ≤ V i) → 0 ≤ smN V n ∧ (0 ≤ v → v < n → V v ≤ smN V n) := by
  intro n
  induction n with
  | zero => intro _; exact ⟨by simp [smN], fun h0 h1 => by omega⟩
  | succ n ih =>
    intro h
    have a := ih (fun i h0 h1 => h i h0 (by omega))
    have b := h n (by omega) (by omega)
    simp only [smN]
    refine ⟨by omega, fun h0 h1 => ?_⟩
    rcases (show v < n ∨ v = n by omega) with q | q
    · have := a.2 h0 q; omega
    · rw [q]; omega
theorem FW.bd {V : Int → Int} (h : FW V) {i : Int} (h0 : 0 ≤ i) (h1 : i ≤ 20) : 0 ≤ V i ∧ V i ≤ 1000000000000 := by
  have a := (smN_ge (V := V) (v := i) 21 (fun i q0 q1 => h.1 i q0 (by omega))).2 h0 (by omega)
  have b := h.2
  have c : sm V 21 = smN V 21 := rfl
  exact ⟨h.1 i h0 h1, by omega⟩
theorem FW_sub {V : Int → Int} (h : FW V) {k : Int} (h0 : 0 ≤ k) (h1 : k ≤ 21) : 0 ≤ sm V k ∧ sm V k ≤ 1000000000000 := by
  have key : ∀ m : Nat, m ≤ 21 → 0 ≤ smN V (21 - m) ∧ smN V (21 - m) ≤ smN V 21 := by
    intro m
    induction m with
    | zero => intro _; exact ⟨(smN_ge (v := 0) 21 (fun i q0 q1 => h.1 i q0 (by omega))).1, by simp⟩
    | succ m ih =>
      intro hm
      have a := ih (by omega)
      have b := h.1 ((21 - (m + 1) : Nat) : Int) (by omega) (by omega)
      have e : smN V (21 - m) = smN V (21 - (m + 1)) + V ((21 - (m + 1) : Nat) : Int) := by
        rw [show 21 - m = (21 - (m + 1)) + 1 by omega]; rfl
      exact ⟨(smN_ge (v := 0) _ (fun i q0 q1 => h.1 i q0 (by omega))).1, by omega⟩
  have q := key (21 - k.toNat) (by omega)
  rw [show 21 - (21 - k.toNat) = k.toNat by omega] at q
  have b := h.2
  unfold sm at b ⊢
  rw [show (21 : Int).toNat = 21 from rfl] at b
  omega
theorem mul_r {x r : Int} (h0 : 0 ≤ x) (h1 : x ≤ 1000000000000) (r0 : 0 ≤ r) (r1 : r ≤ 10) : (0 ≤ x * r ∧ x * r ≤ 10000000000000) ∧ x * (10 - r) = 10 * x - x * r ∧ x * r ≤ 10 * x := by
  have a : 0 ≤ x * r := Int.mul_nonneg h0 r0
  have b : x * r ≤ x * 10 := Int.mul_le_mul_of_nonneg_left r1 h0
  have c : x * (10 - r) = x * 10 - x * r := Int.mul_sub x 10 r
  omega
def fwS (r i : Int) (V : Int → Int) : Int → Int := iu (iu V (i + 1) (V (i + 1) + V i * r / 10)) i (V i * (10 - r) / 10)
def fwI (r k : Int) (V : Int → Int) : Nat → Int → Int
  | 0 => V
  | m + 1 => fwS r (k - 1 - m) (fwI r k V m)
def fwO (r k : Int) (V : Int → Int) : Nat → Int → Int
  | 0 => V
  | m + 1 => fwI r k (fwO r k V m) k.toNat
def fw0 (i : Int) : Int := if i = 0 then 1000000000000 else 0
theorem fwS_ok {r i : Int} {V : Int → Int} (h : FW V) (r0 : 0 ≤ r) (r1 : r ≤ 10) (i0 : 0 ≤ i) (i1 : i ≤ 19) : FW (fwS r i V) := by
  have bi := h.bd i0 (by omega)
  have b2 := h.bd (i := i + 1) (by omega) (by omega)
  have m := mul_r bi.1 bi.2 r0 r1
  have s1 := sm_iu (p := iu V (i + 1) (V (i + 1) + V i * r / 10)) (q := V) (b := i + 1) (N := 21) (by omega) (by omega) (fun t ht => iu_ne ht)
  have s2 := sm_iu (p := fwS r i V) (q := iu V (i + 1) (V (i + 1) + V i * r / 10)) (b := i) (N := 21) (by omega) (by omega) (fun t ht => iu_ne ht)
  rw [iu_self] at s1
  have e2 : fwS r i V i = V i * (10 - r) / 10 := iu_self _ _ _
  rw [e2, iu_ne (by omega)] at s2
  rw [m.2.1] at s2
  refine ⟨fun t t0 t1 => ?_, by have := h.2; omega⟩
  unfold fwS iu
  split
  · rw [m.2.1]; omega
  · split
    · omega
    · exact h.1 t t0 t1
theorem fwI_ok {r k : Int} {V : Int → Int} (h : FW V) (r0 : 0 ≤ r) (r1 : r ≤ 10) (k1 : k ≤ 20) : ∀ m : Nat, (m : Int) ≤ k → FW (fwI r k V m) := by
  intro m
  induction m with
  | zero => intro _; exact h
  | succ m ih => intro hm; exact fwS_ok (ih (by omega)) r0 r1 (by omega) (by omega)
theorem fwO_ok {r k : Int} {V : Int → Int} (h : FW V) (r0 : 0 ≤ r) (r1 : r ≤ 10) (k0 : 0 ≤ k) (k1 : k ≤ 20) : ∀ m : Nat, FW (fwO r k V m) := by
  intro m
  induction m with
  | zero => exact h
  | succ m ih => exact fwI_ok ih r0 r1 k1 k.toNat (by omega)
theorem FW_0 {V : Int → Int} (h : ∀ i : Int, 0 ≤ i → i ≤ 20 → V i = fw0 i) : FW V := by
  refine ⟨fun i h0 h1 => by rw [h i h0 h1]; unfold fw0; split <;> decide, ?_⟩
  rw [sm_cg (q := fw0) (fun t h0 h1 => h t h0 (by omega))]
  decide
theorem fwI_s {r k i : Int} {V : Int → Int} (hi : i ≤ k - 1) : fwS r i (fwI r k V (k - 1 - i).toNat) = fwI r k V (k - 1 - (i - 1)).toNat := by
  rw [show (k - 1 - (i - 1)).toNat = (k - 1 - i).toNat + 1 by omega, fwI, show k - 1 - (((k - 1 - i).toNat : Nat) : Int) = i by omega]
def fewV (r k n : Int) : Int := if (1 ≤ k ∧ k ≤ 20) ∧ 0 ≤ n ∧ n ≤ 99 then sm (fwO r k fw0 n.toNat) k else -1
theorem fwI_cg {r k : Int} {V V' : Int → Int} (k1 : k ≤ 20) (h : ∀ i : Int, 0 ≤ i → i ≤ 20 → V i = V' i) : ∀ m : Nat, (m : Int) ≤ k → ∀ i : Int, 0 ≤ i → i ≤ 20 → fwI r k V m i = fwI r k V' m i := by
  intro m
  induction m with
  | zero => intro _; exact h
  | succ m ih =>
    intro hm i i0 i1
    have q := ih (by omega)
    simp only [fwI, fwS, iu]
    rw [q (k - 1 - m) (by omega) (by omega), q (k - 1 - m + 1) (by omega) (by omega), q i i0 i1]
theorem fwO_cg {r k : Int} {V V' : Int → Int} (k0 : 0 ≤ k) (k1 : k ≤ 20) (h : ∀ i : Int, 0 ≤ i → i ≤ 20 → V i = V' i) : ∀ m : Nat, ∀ i : Int, 0 ≤ i → i ≤ 20 → fwO r k V m i = fwO r k V' m i := by
  intro m
  induction m with
  | zero => exact h
  | succ m ih => exact fwI_cg k1 ih k.toNat (by omega)
set_option maxHeartbeats 4000000 in
set_option maxRecDepth 100000 in
theorem lp_few0 {l : Launch} {o : Nat} {ar : Nat → Nat} {d : Nat} {Pz : Option Value → zH → Prop} {h0 : zH} {f0 : mF} {g0 : mA} {j0 : mA}  {K V : Int → Int} {k m : Int} (kx : ∀ (f : mF) (g j : mA) (h : zH), g 2 = K → j 39 = cpF V fw0 0 21 → eqx [] f0 f → eqx [] g0 g → eqx [39] j0 j → HM o ar f g j h → zAg o ar h0 h → Z l MX8_few d 0 0 Pz 55 [some (.ref o), some (vI k), some (vI m), some (vI 21), none, none] [] h 0 0)  : ∀ (n : Nat) (i : Int) (f : mF) (g : mA) (j : mA) (h : zH) (i0 : 0 ≤ i) (i1 : i ≤ 21) (i2 : 21 < i + n) (eg2 : g 2 = K) (ej39 : j 39 = cpF V fw0 0 i) (hfE : eqx [] f0 f) (hgE : eqx [] g0 g) (hjE : eqx [39] j0 j) (hH : HM o ar f g j h) (hA : zAg o ar h0 h), Z l MX8_few d 0 0 Pz 26 [some (.ref o), some (vI k), some (vI m), some (vI i), none, none] [] h 0 0 := by
  intro n
  induction n with
  | zero => intro i f g j h i0 i1 i2 eg2 ej39 hfE hgE hjE hH hA; exfalso; omega
  | succ n ih =>
    intro i f g j h i0 i1 i2 eg2 ej39 hfE hgE hjE hH hA
    refine z_ild_3 (TX8_few_0.at 14 rfl) ?_
    refine z_bipush (by decide) (TX8_few_0.at 15 rfl) ?_
    refine z_icmp_gt (tgt := 55) (TX8_few_0.at 16 rfl) rfl (by omega) (by omega) (fun c1 => ?_) (fun c1 => ?_)
    · skip
      obtain rfl : i = 21 := by omega
      exact kx _ _ _ _ eg2 ej39 hfE hgE hjE hH hA
    · skip
      refine z_ald_0 (TX8_few_0.at 17 rfl) ?_
      refine zm_getA (TX8_few_0.at 18 rfl) fl8_87 hH (by decide) (by decide) ?_
      refine z_ild_3 (TX8_few_0.at 19 rfl) ?_
      refine z_ild_3 (TX8_few_0.at 20 rfl) ?_
      refine z_if_ne (tgt := 47) (TX8_few_0.at 21 rfl) rfl (by omega) (fun c2 => ?_) (fun c2 => ?_)
      · skip
        refine z_lconst (v := 0) (by decide) (TX8_few_0.at 24 rfl) ?_
        refine zm_lastE (TX8_few_0.at 25 rfl) hH hA rfl (by omega) (show _ < ((21 : Nat) : Int) by omega) (by omega) (fun h j48 e1 e2 hH hA => ?_)
        rw [ej39] at e2; have ej39 := e2
        have hjE := hjE.put e1 (by decide)
        refine z_iinc_3 (TX8_few_0.at 26 rfl) (Nat.le_of_ble_eq_true rfl) rfl ?_
        refine z_goto (tgt := 26) (TX8_few_0.at 27 rfl) rfl ?_
        exact ih (i + 1) _ _ _ _ (by omega) (by omega) (by omega) eg2 (ej39.trans (cpF_s i0 (by omega) (by unfold fw0; first | rw [if_pos (by omega)] | rw [if_neg (by omega)]))) hfE hgE hjE hH hA
      · skip
        refine z_ldc2 (v := 1000000000000) (TX8_few_0.at 22 rfl) k8_434 (by decide) ?_
        refine z_goto (tgt := 48) (TX8_few_0.at 23 rfl) rfl ?_
        refine zm_lastE (TX8_few_0.at 25 rfl) hH hA rfl (by omega) (show _ < ((21 : Nat) : Int) by omega) (by omega) (fun h j48 e1 e2 hH hA => ?_)
        rw [ej39] at e2; have ej39 := e2
        have hjE := hjE.put e1 (by decide)
        refine z_iinc_3 (TX8_few_0.at 26 rfl) (Nat.le_of_ble_eq_true rfl) rfl ?_
        refine z_goto (tgt := 26) (TX8_few_0.at 27 rfl) rfl ?_
        exact ih (i + 1) _ _ _ _ (by omega) (by omega) (by omega) eg2 (ej39.trans (cpF_s i0 (by omega) (by unfold fw0; first | rw [if_pos (by omega)] | rw [if_neg (by omega)]))) hfE hgE hjE hH hA

set_option maxHeartbeats 4000000 in
set_option maxRecDepth 100000 in
theorem lp_few1 {l : Launch} {o : Nat} {ar : Nat → Nat} {d : Nat} {Pz : Option Value → zH → Prop} {h0 : zH} {f0 : mF} {g0 : mA} {j0 : mA}  {K V : Int → Int} {k m c : Int} (r0 : 0 ≤ K 74) (r1 : K 74 ≤ 10) (k0 : 1 ≤ k) (k1 : k ≤ 20) (hV : FW V) (kx : ∀ (f : mF) (g j : mA) (h : zH), g 2 = K → j 39 = fwI (K 74) k V k.toNat → eqx [] f0 f → eqx [] g0 g → eqx [39] j0 j → HM o ar f g j h → zAg o ar h0 h → Z l MX8_few d 0 0 Pz 140 [some (.ref o), some (vI k), some (vI m), some (vI c), some (vI (-1)), none] [] h 0 0)  : ∀ (n : Nat) (i : Int) (f : mF) (g : mA) (j : mA) (h : zH) (i0 : -1 ≤ i) (i1 : i ≤ k - 1) (i2 : i + 1 < n) (eg2 : g 2 = K) (ej39 : j 39 = fwI (K 74) k V (k - 1 - i).toNat) (hfE : eqx [] f0 f) (hgE : eqx [] g0 g) (hjE : eqx [39] j0 j) (hH : HM o ar f g j h) (hA : zAg o ar h0 h), Z l MX8_few d 0 0 Pz 67 [some (.ref o), some (vI k), some (vI m), some (vI c), some (vI i), none] [] h 0 0 := by
  intro n
  induction n with
  | zero => intro i f g j h i0 i1 i2 eg2 ej39 hfE hgE hjE hH hA; exfalso; omega
  | succ n ih =>
    intro i f g j h i0 i1 i2 eg2 ej39 hfE hgE hjE hH hA
    refine z_ild_4 (TX8_few_0.at 37 rfl) ?_
    refine z_if_lt (tgt := 140) (TX8_few_0.at 38 rfl) rfl (by omega) (fun c1 => ?_) (fun c1 => ?_)
    · skip
      obtain rfl : i = -1 := by omega
      exact kx _ _ _ _ eg2 (by rw [ej39, show (k - 1 - -1).toNat = k.toNat by omega]) hfE hgE hjE hH hA
    · skip
      have hW := fwI_ok (k := k) hV r0 r1 k1 (k - 1 - i).toNat (by omega)
      have hWi := hW.bd (i := i) (by omega) (by omega)
      have hWj := hW.bd (i := i + 1) (by omega) (by omega)
      have hmr := mul_r hWi.1 hWi.2 r0 r1
      refine z_ald_0 (TX8_few_0.at 39 rfl) ?_
      refine zm_getA (TX8_few_1.at 0 rfl) fl8_87 hH (by decide) (by decide) ?_
      refine z_ild_4 (TX8_few_1.at 1 rfl) ?_
      refine z_iconst (TX8_few_1.at 2 rfl) ?_
      refine z_iadd (TX8_few_1.at 3 rfl) ?_
      refine z_dup2 rfl rfl (TX8_few_1.at 4 rfl) ?_
      refine zm_laldE ej39 (TX8_few_1.at 5 rfl) hH rfl (by omega) (show _ < ((21 : Nat) : Int) by omega) (fun r81 => ?_)
      refine z_ald_0 (TX8_few_1.at 6 rfl) ?_
      refine zm_getA (TX8_few_1.at 7 rfl) fl8_87 hH (by decide) (by decide) ?_
      refine z_ild_4 (TX8_few_1.at 8 rfl) ?_
      refine zm_laldE ej39 (TX8_few_1.at 9 rfl) hH rfl (by omega) (show _ < ((21 : Nat) : Int) by omega) (fun r88 => ?_)
      refine z_ald_0 (TX8_few_1.at 10 rfl) ?_
      refine zm_getA (TX8_few_1.at 11 rfl) fl8_28 hH (by decide) (by decide) ?_
      refine z_bipush (by decide) (TX8_few_1.at 12 rfl) ?_
      refine zm_ialdE eg2 (TX8_few_1.at 13 rfl) hH rfl (by omega) (show _ < ((5688 : Nat) : Int) by omega) (fun r95 => ?_)
      refine z_i2l (by omega) (TX8_few_1.at 14 rfl) ?_
      refine z_lmul (TX8_few_1.at 15 rfl) ?_
      refine z_ldc2 (v := 10) (TX8_few_1.at 16 rfl) k8_436 (by decide) ?_
      refine z_ldiv (by omega) (by omega) (TX8_few_1.at 17 rfl) ?_
      rw [zldivN hmr.1.1 (by omega)]
      refine z_ladd (TX8_few_1.at 18 rfl) ?_
      refine zm_lastE (TX8_few_1.at 19 rfl) hH hA rfl (by omega) (show _ < ((21 : Nat) : Int) by omega) (by omega) (fun h j103 e1 e2 hH hA => ?_)
      rw [ej39] at e2; have ej39 := e2
      have hjE := hjE.put e1 (by decide)
      refine z_ald_0 (TX8_few_1.at 20 rfl) ?_
      refine zm_getA (TX8_few_1.at 21 rfl) fl8_87 hH (by decide) (by decide) ?_
      refine z_ild_4 (TX8_few_1.at 22 rfl) ?_
      refine z_ald_0 (TX8_few_1.at 23 rfl) ?_
      refine zm_getA (TX8_few_1.at 24 rfl) fl8_87 hH (by decide) (by decide) ?_
      refine z_ild_4 (TX8_few_1.at 25 rfl) ?_
      refine zm_laldE ej39 (TX8_few_1.at 26 rfl) hH rfl (by omega) (show _ < ((21 : Nat) : Int) by omega) (fun r116 => ?_)
      simp (disch := omega) only [iu_ne] at r116 ⊢
      refine z_bipush (by decide) (TX8_few_1.at 27 rfl) ?_
      refine z_ald_0 (TX8_few_1.at 28 rfl) ?_
      refine zm_getA (TX8_few_1.at 29 rfl) fl8_28 hH (by decide) (by decide) ?_
      refine z_bipush (by decide) (TX8_few_1.at 30 rfl) ?_
      refine zm_ialdE eg2 (TX8_few_1.at 31 rfl) hH rfl (by omega) (show _ < ((5688 : Nat) : Int) by omega) (fun r125 => ?_)
      refine z_isub (TX8_few_1.at 32 rfl) ?_
      refine z_i2l (by omega) (TX8_few_1.at 33 rfl) ?_
      refine z_lmul (TX8_few_1.at 34 rfl) ?_
      refine z_ldc2 (v := 10) (TX8_few_1.at 35 rfl) k8_436 (by decide) ?_
      refine z_ldiv (by omega) (by omega) (TX8_few_1.at 36 rfl) ?_
      rw [zldivN (by rw [hmr.2.1]; omega) (by rw [hmr.2.1]; omega)]
      refine zm_lastE (TX8_few_1.at 37 rfl) hH hA rfl (by omega) (show _ < ((21 : Nat) : Int) by omega) (by rw [hmr.2.1]; omega) (fun h j133 e1 e2 hH hA => ?_)
      rw [ej39] at e2; have ej39 := e2
      have hjE := hjE.put e1 (by decide)
      refine z_iinc_4 (TX8_few_1.at 38 rfl) (Nat.le_of_ble_eq_true rfl) rfl ?_
      refine z_goto (tgt := 67) (TX8_few_1.at 39 rfl) rfl ?_
      exact ih (i - 1) _ _ _ _ (by omega) (by omega) (by omega) eg2 (ej39.trans (fwI_s (by omega))) hfE hgE hjE hH hA

set_option maxHeartbeats 4000000 in
set_option maxRecDepth 100000 in
theorem lp_few2 {l : Launch} {o : Nat} {ar : Nat → Nat} {d : Nat} {Pz : Option Value → zH → Prop} {h0 : zH} {f0 : mF} {g0 : mA} {j0 : mA}  {K V : Int → Int} {k m : Int} (r0 : 0 ≤ K 74) (r1 : K 74 ≤ 10) (k0 : 1 ≤ k) (k1 : k ≤ 20) (hm : m ≤ 99) (hV : FW V) (kx : ∀ (o4 : Option Value) (f : mF) (g j : mA) (h : zH), j 39 = fwO (K 74) k V m.toNat → eqx [] f0 f → eqx [] g0 g → eqx [39] j0 j → HM o ar f g j h → zAg o ar h0 h → Z l MX8_few d 0 0 Pz 146 [some (.ref o), some (vI k), some (vI m), some (vI m), o4, none] [] h 0 0)  : ∀ (n : Nat) (c : Int) (o4 : Option Value) (f : mF) (g : mA) (j : mA) (h : zH) (c0 : 0 ≤ c) (c1 : c ≤ m) (c2 : m < c + n) (eg2 : g 2 = K) (ej39 : j 39 = fwO (K 74) k V c.toNat) (hfE : eqx [] f0 f) (hgE : eqx [] g0 g) (hjE : eqx [39] j0 j) (hH : HM o ar f g j h) (hA : zAg o ar h0 h), Z l MX8_few d 0 0 Pz 57 [some (.ref o), some (vI k), some (vI m), some (vI c), o4, none] [] h 0 0 := by
  intro n
  induction n with
  | zero => intro c o4 f g j h c0 c1 c2 eg2 ej39 hfE hgE hjE hH hA; exfalso; omega
  | succ n ih =>
    intro c o4 f g j h c0 c1 c2 eg2 ej39 hfE hgE hjE hH hA
    refine z_ild_3 (TX8_few_0.at 30 rfl) ?_
    refine z_ild_2 (TX8_few_0.at 31 rfl) ?_
    refine z_icmp_ge (tgt := 146) (TX8_few_0.at 32 rfl) rfl (by omega) (by omega) (fun c1 => ?_) (fun c1 => ?_)
    · skip
      obtain rfl : c = m := by omega
      exact kx _ _ _ _ _ ej39 hfE hgE hjE hH hA
    · skip
      refine z_ild_1 (TX8_few_0.at 33 rfl) ?_
      refine z_iconst (TX8_few_0.at 34 rfl) ?_
      refine z_isub (TX8_few_0.at 35 rfl) ?_
      refine z_ist_4 (TX8_few_0.at 36 rfl) (Nat.le_of_ble_eq_true rfl) rfl ?_
      refine lp_few1 (m := m) (c := c) r0 r1 k0 k1 (fwO_ok hV r0 r1 (by omega) k1 c.toNat) (fun f67 g67 j67 h eg2 ej39 xf xg xj hH hA => ?_) (k.toNat + 1) (k - 1) _ _ _ _ (by omega) (by omega) (by omega) eg2 (by rw [ej39, show (k - 1 - (k - 1)).toNat = 0 by omega]; rfl) eqx.rf eqx.rf eqx.rf hH hA
      have hfE := hfE.trans xf (by decide)
      have hgE := hgE.trans xg (by decide)
      have hjE := hjE.trans xj (by decide)
      refine z_iinc_3 (TX8_few_2.at 0 rfl) (Nat.le_of_ble_eq_true rfl) rfl ?_
      refine z_goto (tgt := 57) (TX8_few_2.at 1 rfl) rfl ?_
      exact ih (c + 1) _ _ _ _ _ (by omega) (by omega) (by omega) eg2 (by rw [ej39, show (c + 1).toNat = c.toNat + 1 by omega]; rfl) hfE hgE hjE hH hA

set_option maxHeartbeats 4000000 in
set_option maxRecDepth 100000 in
theorem lp_few3 {l : Launch} {o : Nat} {ar : Nat → Nat} {d : Nat} {Pz : Option Value → zH → Prop} {h0 : zH} {f0 : mF} {g0 : mA} {j : mA}  {V : Int → Int} {k m : Int} (k1 : k ≤ 20) (hV : FW V) (kx : ∀ (f : mF) (g : mA) (h : zH), eqx [] f0 f → eqx [] g0 g → HM o ar f g j h → zAg o ar h0 h → Z l MX8_few d 0 0 Pz 173 [some (.ref o), some (vI k), some (vI m), some (vL (sm V k)), none, some (vI k)] [] h 0 0)  : ∀ (n : Nat) (i : Int) (s : Int) (f : mF) (g : mA) (h : zH) (i0 : 0 ≤ i) (i1 : i ≤ k) (i2 : k < i + n) (es : s = sm V i) (ej39 : j 39 = V) (hfE : eqx [] f0 f) (hgE : eqx [] g0 g) (hH : HM o ar f g j h) (hA : zAg o ar h0 h), Z l MX8_few d 0 0 Pz 151 [some (.ref o), some (vI k), some (vI m), some (vL s), none, some (vI i)] [] h 0 0 := by
  intro n
  induction n with
  | zero => intro i s f g h i0 i1 i2 es ej39 hfE hgE hH hA; exfalso; omega
  | succ n ih =>
    intro i s f g h i0 i1 i2 es ej39 hfE hgE hH hA
    refine z_ild_5 (TX8_few_2.at 6 rfl) ?_
    refine z_ild_1 (TX8_few_2.at 7 rfl) ?_
    refine z_icmp_ge (tgt := 173) (TX8_few_2.at 8 rfl) rfl (by omega) (by omega) (fun c1 => ?_) (fun c1 => ?_)
    · skip
      obtain rfl : i = k := by omega
      rw [es]
      exact kx _ _ _ hfE hgE hH hA
    · skip
      refine z_lld_3 (TX8_few_2.at 9 rfl) ?_
      refine z_ald_0 (TX8_few_2.at 10 rfl) ?_
      refine zm_getA (TX8_few_2.at 11 rfl) fl8_87 hH (by decide) (by decide) ?_
      refine z_ild_5 (TX8_few_2.at 12 rfl) ?_
      refine zm_laldE ej39 (TX8_few_2.at 13 rfl) hH rfl (by omega) (show _ < ((21 : Nat) : Int) by omega) (fun r164 => ?_)
      refine z_ladd (TX8_few_2.at 14 rfl) ?_
      refine z_lst_3 (TX8_few_2.at 15 rfl) (Nat.le_of_ble_eq_true rfl) rfl ?_
      refine z_iinc_5 (TX8_few_2.at 16 rfl) (Nat.le_of_ble_eq_true rfl) rfl ?_
      refine z_goto (tgt := 151) (TX8_few_2.at 17 rfl) rfl ?_
      exact ih (i + 1) _ _ _ _ (by omega) (by omega) (by omega) (by rw [es, sm_s i0]) ej39 hfE hgE hH hA

set_option maxHeartbeats 4000000 in
set_option maxRecDepth 100000 in
theorem m_few {l : Launch} {o : Nat} {ar : Nat → Nat} {f : mF} {g j : mA} {K : Int → Int} {V : Int → Int} {k m : Int}  (eg2 : g 2 = K) (ej39 : j 39 = V) (hk : zIn k) (hm : zIn m) (r0 : 0 ≤ K 74) (r1 : K 74 ≤ 10) : MM l o ar MX8_few 1 [.ref o, vI k, vI m] f g j (PL (fun r f' g' j' => (r = fewV (K 74) k m) ∧ eqx [] f f' ∧ eqx [] g g' ∧ eqx [39] j j')) := by
  refine MM.intro [some (.ref o), some (vI k), some (vI m), none, none, none] (by decide) (Nat.le_of_ble_eq_true rfl) rfl (fun d hd h0 h hH hA => ?_)
  have hfE : eqx [] f f := eqx.rf
  have hgE : eqx [] g g := eqx.rf
  have hjE : eqx [39] j j := eqx.rf
  refine z_ild_1 (TX8_few_0.at 0 rfl) ?_
  refine z_iconst (TX8_few_0.at 1 rfl) ?_
  refine z_bipush (by decide) (TX8_few_0.at 2 rfl) ?_
  refine zs_call3 (s_lies (by omega) (by omega) (by omega)) (TX8_few_0.at 3 rfl) c8_18 rfl (by omega) (Nat.le_of_ble_eq_true rfl) (fun r4 => ?_)
  refine z_if_eqB (tgt := 20) (TX8_few_0.at 4 rfl) rfl (fun c1 => ?_) (fun c1 => ?_)
  · skip
    refine z_ldc2 (v := -1) (TX8_few_0.at 10 rfl) k8_432 (by decide) ?_
    refine zm_lret (TX8_few_0.at 11 rfl) rfl hH hA (by omega) ?_
    exact ⟨by unfold fewV; rw [if_neg (by omega)], hfE, hgE, hjE⟩
  · skip
    refine z_ild_2 (TX8_few_0.at 5 rfl) ?_
    refine z_iconst (TX8_few_0.at 6 rfl) ?_
    refine z_bipush (by decide) (TX8_few_0.at 7 rfl) ?_
    refine zs_call3 (s_lies (by omega) (by omega) (by omega)) (TX8_few_0.at 8 rfl) c8_18 rfl (by omega) (Nat.le_of_ble_eq_true rfl) (fun r14 => ?_)
    refine z_if_neB (tgt := 24) (TX8_few_0.at 9 rfl) rfl (fun c2 => ?_) (fun c2 => ?_)
    · skip
      refine z_iconst (TX8_few_0.at 12 rfl) ?_
      refine z_ist_3 (TX8_few_0.at 13 rfl) (Nat.le_of_ble_eq_true rfl) rfl ?_
      refine lp_few0 (k := k) (m := m) (fun f26 g26 j26 h eg2 ej39 xf xg xj hH hA => ?_) 22 0 _ _ _ _ (by omega) (by omega) (by omega) eg2 (ej39.trans (cpF_0 _ _ _).symm) eqx.rf eqx.rf eqx.rf hH hA
      have hfE := hfE.trans xf (by decide)
      have hgE := hgE.trans xg (by decide)
      have hjE := hjE.trans xj (by decide)
      have hfw : ∀ i : Int, 0 ≤ i → i ≤ 20 → cpF V fw0 0 21 i = fw0 i := fun i h0 h1 => by unfold cpF; rw [if_pos (by omega), show i - 0 = i by omega]
      have hFW := FW_0 hfw
      have hFO := fwO_ok (k := k) hFW r0 r1 (by omega) (by omega) m.toNat
      refine z_iconst (TX8_few_0.at 28 rfl) ?_
      refine z_ist_3 (TX8_few_0.at 29 rfl) (Nat.le_of_ble_eq_true rfl) rfl ?_
      refine lp_few2 (k := k) (m := m) r0 r1 (by omega) (by omega) (by omega) hFW (fun o4 f57 g57 j57 h ej39 xf xg xj hH hA => ?_) 100 0 none _ _ _ _ (by omega) (by omega) (by omega) eg2 ej39 eqx.rf eqx.rf eqx.rf hH hA
      have hfE := hfE.trans xf (by decide)
      have eg2 := (xg 2 (by decide)).trans eg2
      have hgE := hgE.trans xg (by decide)
      have hjE := hjE.trans xj (by decide)
      refine z_lconst (v := 0) (by decide) (TX8_few_2.at 2 rfl) ?_
      refine z_lst_3 (TX8_few_2.at 3 rfl) (Nat.le_of_ble_eq_true rfl) rfl ?_
      refine z_iconst (TX8_few_2.at 4 rfl) ?_
      refine z_ist_5 (TX8_few_2.at 5 rfl) (Nat.le_of_ble_eq_true rfl) rfl ?_
      refine lp_few3 (m := m) (by omega) hFO (fun f3 g3 h3 xf xg hH hA => ?_) 21 0 0 _ _ _ (by omega) (by omega) (by omega) rfl ej39 eqx.rf eqx.rf hH hA
      have hsz := FW_sub hFO (k := k) (by omega) (by omega)
      refine z_lld_3 (TX8_few_2.at 18 rfl) ?_
      refine zm_lret (TX8_few_2.at 19 rfl) rfl hH hA (by omega) ?_
      exact ⟨by unfold fewV; rw [if_pos (by omega)]; exact sm_cg (fun t t0 t1 => fwO_cg (by omega) (by omega) hfw m.toNat t t0 (by omega)), hfE.trans xf (by decide), hgE.trans xg (by decide), hjE⟩
    · skip
      refine z_ldc2 (v := -1) (TX8_few_0.at 10 rfl) k8_432 (by decide) ?_
      refine zm_lret (TX8_few_0.at 11 rfl) rfl hH hA (by omega) ?_
      exact ⟨by unfold fewV; rw [if_neg (by omega)], hfE, hgE, hjE⟩

def drw (s : Int) : Int := (1103 * s + 12345) % 1000003
theorem drw_in (s : Int) : 0 ≤ drw s ∧ drw s ≤ 1000002 := by unfold drw; omega
theorem drw_eq {s : Int} (h0 : 0 ≤ s) (h1 : s ≤ 1000002) : zl2i (zlrem (1103 * s + 12345) 1000003) = drw s := by
  have e : zlrem (1103 * s + 12345) 1000003 = drw s := by
    rw [zlrem_eq (by omega) (by omega), Int.tmod_eq_emod_of_nonneg (by omega)]; rfl
  have := drw_in s
  rw [e, zl2i_in (by omega)]
set_option maxHeartbeats 4000000 in
set_option maxRecDepth 100000 in
theorem m_draws {l : Launch} {o : Nat} {ar : Nat → Nat} {f : mF} {g j : mA} {s : Int} {m : Int}  (ef49 : f 49 = s) (hm : zIn m) (m0 : 1 ≤ m) (s0 : 0 ≤ s) (s1 : s ≤ 1000002) : MM l o ar MX8_draws 1 [.ref o, vI m] f g j (PI (fun r f' g' j' => (r = drw s % m ∧ f' 49 = drw s) ∧ eqx [49] f f' ∧ eqx [] g g' ∧ j' = j)) := by
  refine MM.intro [some (.ref o), some (vI m)] (by decide) (Nat.le_of_ble_eq_true rfl) rfl (fun d hd h0 h hH hA => ?_)
  have hfE : eqx [49] f f := eqx.rf
  have hgE : eqx [] g g := eqx.rf
  have hdr := drw_in s
  refine z_ald_0 (TX8_draws.at 0 rfl) ?_
  refine z_ldc2 (v := 1103) (TX8_draws.at 1 rfl) k8_475 (by decide) ?_
  refine z_ald_0 (TX8_draws.at 2 rfl) ?_
  refine zm_getIE ef49 (TX8_draws.at 3 rfl) fl8_477 hH rfl (by decide) (fun r5 => ?_)
  refine z_i2l (by omega) (TX8_draws.at 4 rfl) ?_
  refine z_lmul (TX8_draws.at 5 rfl) ?_
  refine z_ldc2 (v := 12345) (TX8_draws.at 6 rfl) k8_480 (by decide) ?_
  refine z_ladd (TX8_draws.at 7 rfl) ?_
  refine z_ldc2 (v := 1000003) (TX8_draws.at 8 rfl) k8_482 (by decide) ?_
  refine z_lrem (by omega) (by omega) (TX8_draws.at 9 rfl) ?_
  refine z_l2i (TX8_draws.at 10 rfl) ?_
  rw [drw_eq s0 s1]
  refine zm_putIE (TX8_draws.at 11 rfl) fp8_477 hH hA rfl (by decide) (by first | omega | exact b2i_01 _) (fun h f19 e1 e2 hH hA => ?_)
  have ef49 := e2
  have hfE := hfE.put e1 (by decide)
  refine z_ald_0 (TX8_draws.at 12 rfl) ?_
  refine zm_getIE ef49 (TX8_draws.at 13 rfl) fl8_477 hH rfl (by decide) (fun r23 => ?_)
  refine z_ild_1 (TX8_draws.at 14 rfl) ?_
  refine z_irem (by omega) (by omega) (TX8_draws.at 15 rfl) ?_
  rw [zrem_nat (by omega) (by omega) (by omega)]
  have hmm := Int.emod_nonneg (drw s) (show m ≠ 0 by omega)
  have hm2 := Int.emod_lt_of_pos (drw s) (show 0 < m by omega)
  refine zm_iret (TX8_draws.at 16 rfl) rfl hH hA (by omega) ?_
  exact ⟨⟨rfl, ef49⟩, hfE, hgE, rfl⟩

def evW (K : Int → Int) (x k w : Int) : Int → Int := iu (if w = 1 ∧ (if w = 0 then iu K x (1 - K x) else K) (20 + k) = -1 then iu (if w = 0 then iu K x (1 - K x) else K) (20 + k) ((if w = 0 then iu K x (1 - K x) else K) 28) else (if w = 0 then iu K x (1 - K x) else K)) 28 (K 28 + 1)
def evS (p : (Int → Int) × Int) : (Int → Int) × Int := if p.1 28 < 999 then (evW p.1 (drw p.2 % p.1 76) (drw (drw p.2) % 8) (drw (drw (drw p.2)) % 3), drw (drw (drw p.2))) else p
def evN (K : Int → Int) (s : Int) : Nat → (Int → Int) × Int
  | 0 => (K, s)
  | m + 1 => evS (evN K s m)
theorem evW_ok {K K' : Int → Int} {x k w : Int} (h : KOK K) (h28 : K 28 < 999) (x0 : 0 ≤ x) (x1 : x < K 76) (k0 : 0 ≤ k) (k7 : k ≤ 7) (w0 : 0 ≤ w) (w2 : w ≤ 2) (e : K' = evW K x k w) : KOK K' ∧ ∀ i, 29 ≤ i → K' i = K i := by
  have hn := h.1
  have hs := h.2.2.2.1
  have hx := (h.2.1 x x0 x1).1
  have key : (w = 0 ∧ K' = iu (iu K x (1 - K x)) 28 (K 28 + 1)) ∨ (w = 1 ∧ K (20 + k) = -1 ∧ K' = iu (iu K (20 + k) (K 28)) 28 (K 28 + 1)) ∨ K' = iu K 28 (K 28 + 1) := by
    rw [e]
    unfold evW
    rcases (show w = 0 ∨ w = 1 ∨ w = 2 by omega) with q | q | q
    · subst q; exact Or.inl ⟨rfl, by rw [if_neg (by omega), if_pos rfl]⟩
    · subst q
      rw [if_neg (show ¬ (1 : Int) = 0 by decide)]
      by_cases z : K (20 + k) = -1
      · exact Or.inr (Or.inl ⟨rfl, z, by rw [if_pos ⟨rfl, z⟩]⟩)
      · exact Or.inr (Or.inr (by rw [if_neg (fun y => z y.2)]))
    · subst q; exact Or.inr (Or.inr (by rw [if_neg (by omega), if_neg (by omega)]))
  have hi : ∀ i, 29 ≤ i → K' i = K i := by
    intro i hi
    rcases key with ⟨-, e⟩ | ⟨-, -, e⟩ | e
    · rw [e, iu_ne (by omega), iu_ne (by omega)]
    · rw [e, iu_ne (by omega), iu_ne (by omega)]
    · rw [e, iu_ne (by omega)]
  refine ⟨KOK_mv h hi (fun i q0 q1 => ?_) (fun t q0 q1 => ?_) ?_, hi⟩
  · have q := h.2.1 i q0 q1
    rcases key with ⟨-, e⟩ | ⟨-, -, e⟩ | e
    · rw [e, iu_ne (show i ≠ 28 by omega), iu_ne (show 10 + i ≠ 28 by omega), iu_ne (show 10 + i ≠ x by omega)]
      refine ⟨?_, q.2.1⟩
      by_cases ei : i = x
      · rw [ei, iu_self]; omega
      · rw [iu_ne ei]; exact q.1
    · rw [e, iu_ne (show i ≠ 28 by omega), iu_ne (show i ≠ 20 + k by omega), iu_ne (show 10 + i ≠ 28 by omega), iu_ne (show 10 + i ≠ 20 + k by omega)]
      exact ⟨q.1, q.2.1⟩
    · rw [e, iu_ne (show i ≠ 28 by omega), iu_ne (show 10 + i ≠ 28 by omega)]
      exact ⟨q.1, q.2.1⟩
  · have q := h.2.2.1 t q0 q1
    rcases key with ⟨-, e⟩ | ⟨-, -, e⟩ | e
    · rw [e, iu_ne (show 20 + t ≠ 28 by omega), iu_ne (show 20 + t ≠ x by omega)]; exact q
    · rw [e, iu_ne (show 20 + t ≠ 28 by omega)]
      by_cases et : t = k
      · rw [et, iu_self]; omega
      · rw [iu_ne (by omega)]; exact q
    · rw [e, iu_ne (show 20 + t ≠ 28 by omega)]; exact q
  · rcases key with ⟨-, e⟩ | ⟨-, -, e⟩ | e <;> rw [e, iu_self] <;> omega
theorem evN_ok {K : Int → Int} {s : Int} (h : KOK K) (hn : K 76 ≠ 0) (s0 : 0 ≤ s) (s1 : s ≤ 1000002) : ∀ m : Nat, KOK (evN K s m).1 ∧ (∀ i, 29 ≤ i → (evN K s m).1 i = K i) ∧ 0 ≤ (evN K s m).2 ∧ (evN K s m).2 ≤ 1000002 := by
  intro m
  induction m with
  | zero => exact ⟨h, fun _ _ => rfl, s0, s1⟩
  | succ m ih =>
    obtain ⟨i1, i2, i3, i4⟩ := ih
    have h76 := i2 76 (by decide)
    have hk := i1.1
    simp only [evN, evS]
    split
    · rename_i h28
      have hmm := Int.emod_nonneg (drw (evN K s m).2) (show (evN K s m).1 76 ≠ 0 by omega)
      have hm2 := Int.emod_lt_of_pos (drw (evN K s m).2) (show 0 < (evN K s m).1 76 by omega)
      have w := evW_ok (k := drw (drw (evN K s m).2) % 8) (w := drw (drw (drw (evN K s m).2)) % 3) i1 h28 hmm hm2 (by omega) (by omega) (by omega) (by omega) rfl
      have hd := drw_in (drw (drw (evN K s m).2))
      exact ⟨w.1, fun i hi => (w.2 i hi).trans (i2 i hi), hd.1, hd.2⟩
    · exact ⟨i1, i2, i3, i4⟩
theorem evN_t {K K' : Int → Int} {s s' s1 s2 s3 x k w : Int} {m : Nat} (e : (K', s') = evN K s m) (h : K' 28 < 999) (e1 : s1 = drw s') (e2 : s2 = drw s1) (e3 : s3 = drw s2) (ex : x = s1 % K' 76) (ek : k = s2 % 8) (ew : w = s3 % 3) : (evW K' x k w, s3) = evN K s (m + 1) := by
  subst e1; subst e2; subst e3; subst ex; subst ek; subst ew
  show _ = evS (evN K s m)
  rw [← e, evS, if_pos h]
theorem evN_f {K K' : Int → Int} {s s' : Int} {m : Nat} (e : (K', s') = evN K s m) (h : ¬ K' 28 < 999) : ∀ p : Nat, evN K s (m + p) = (K', s') := by
  intro p
  induction p with
  | zero => exact e.symm
  | succ p ih => show evS (evN K s (m + p)) = _; rw [ih, evS, if_neg h]
theorem evW_0 {K : Int → Int} {x k w : Int} (hw : w = 0) (v : Int) (hv : v = K 28 + 1) : iu (iu K x (1 - K x)) 28 v = evW K x k w := by subst hw; subst hv; unfold evW; rw [if_neg (by omega), if_pos rfl]
theorem evW_1 {K : Int → Int} {x k w : Int} (hw : w = 1) (hk : K (20 + k) = -1) (v : Int) (hv : v = K 28 + 1) : iu (iu K (20 + k) (K 28)) 28 v = evW K x k w := by subst hw; subst hv; unfold evW; rw [if_neg (show ¬ (1 : Int) = 0 by decide), if_pos ⟨rfl, hk⟩]
theorem evW_2 {K : Int → Int} {x k w : Int} (hw : ¬ w = 0) (hk : ¬ (w = 1 ∧ K (20 + k) = -1)) (v : Int) (hv : v = K 28 + 1) : iu K 28 v = evW K x k w := by subst hv; unfold evW; rw [if_neg hw, if_neg hk]
set_option maxHeartbeats 4000000 in
set_option maxRecDepth 100000 in
theorem lp_eve {l : Launch} {o : Nat} {ar : Nat → Nat} {d : Nat} {Pz : Option Value → zH → Prop} {h0 : zH} {f0 : mF} {g0 : mA} {j : mA} (hd : 3 ≤ d) {K0 : Int → Int} {sd m s0 : Int} (hm : m ≤ 60) (hK : KOK K0) (hn0 : K0 76 ≠ 0) (q0 : 0 ≤ s0) (q1 : s0 ≤ 1000002) (kx : ∀ (K : Int → Int) (s i : Int) (o4 o5 o6 : Option Value) (f : mF) (g : mA) (h : zH), (K, s) = evN K0 s0 m.toNat → g 2 = K → eqx [49] f0 f → eqx [2] g0 g → HM o ar f g j h → zAg o ar h0 h → Z l MX8_evenings d 0 0 Pz 182 [some (.ref o), some (vI sd), some (vI m), some (vI i), o4, o5, o6] [] h 0 0)  : ∀ (n : Nat) (c : Nat) (i : Int) (K : Int → Int) (s : Int) (o4 : Option Value) (o5 : Option Value) (o6 : Option Value) (f : mF) (g : mA) (h : zH) (ci : i = (c : Int)) (i1 : i ≤ m) (i2 : m < i + n) (es : (K, s) = evN K0 s0 c) (eg2 : g 2 = K) (ef49 : f 49 = s) (hfE : eqx [49] f0 f) (hgE : eqx [2] g0 g) (hH : HM o ar f g j h) (hA : zAg o ar h0 h), Z l MX8_evenings d 0 0 Pz 60 [some (.ref o), some (vI sd), some (vI m), some (vI i), o4, o5, o6] [] h 0 0 := by
  intro n
  induction n with
  | zero => intro c i K s o4 o5 o6 f g h ci i1 i2 es eg2 ef49 hfE hgE hH hA; exfalso; omega
  | succ n ih =>
    intro c i K s o4 o5 o6 f g h ci i1 i2 es eg2 ef49 hfE hgE hH hA
    have hok := evN_ok hK hn0 q0 q1 c
    rw [← es] at hok
    simp only at hok
    obtain ⟨hK1, hK2, hs0, hs9⟩ := hok
    have hn := hK1.1
    have h76 := hK2 76 (by decide)
    have h28 := hK1.2.2.2.1
    refine z_ild_3 (TX8_evenings_0.at 33 rfl) ?_
    refine z_ild_2 (TX8_evenings_0.at 34 rfl) ?_
    refine z_icmp_ge (tgt := 182) (TX8_evenings_0.at 35 rfl) rfl (by omega) (by omega) (fun c1 => ?_) (fun c1 => ?_)
    · skip
      exact kx K s i _ _ _ _ _ _ (by first | (have hc : c = m.toNat := (by omega); rw [← hc]; exact es) | (have hf := evN_f es (show ¬ K 28 < 999 by omega) (m.toNat - c); rw [show c + (m.toNat - c) = m.toNat by omega] at hf; exact hf.symm)) eg2 hfE hgE hH hA
    · skip
      refine z_ald_0 (TX8_evenings_0.at 36 rfl) ?_
      refine zm_getA (TX8_evenings_0.at 37 rfl) fl8_28 hH (by decide) (by decide) ?_
      refine z_bipush (by decide) (TX8_evenings_0.at 38 rfl) ?_
      refine zm_ialdE eg2 (TX8_evenings_0.at 39 rfl) hH rfl (by omega) (show _ < ((5688 : Nat) : Int) by omega) (fun r71 => ?_)
      refine z_sipush (by decide) (TX8_evenings_1.at 0 rfl) ?_
      refine z_icmp_ge (tgt := 182) (TX8_evenings_1.at 1 rfl) rfl (by omega) (by omega) (fun c2 => ?_) (fun c2 => ?_)
      · skip
        exact kx K s i _ _ _ _ _ _ (by first | (have hc : c = m.toNat := (by omega); rw [← hc]; exact es) | (have hf := evN_f es (show ¬ K 28 < 999 by omega) (m.toNat - c); rw [show c + (m.toNat - c) = m.toNat by omega] at hf; exact hf.symm)) eg2 hfE hgE hH hA
      · skip
        refine z_ald_0 (TX8_evenings_1.at 2 rfl) ?_
        refine z_ald_0 (TX8_evenings_1.at 3 rfl) ?_
        refine zm_callP0 (m_fuseMany) (TX8_evenings_1.at 4 rfl) c8_109 rfl rfl hH hA (by omega) (Nat.le_of_ble_eq_true rfl) (fun h r80 hH hA => ?_)
        rw [eg2] at r80 ⊢
        refine zm_callI1 (m_draws ef49 (by omega) (by omega) (by omega) (by omega)) (TX8_evenings_1.at 5 rfl) c8_484 rfl rfl hH hA (by omega) (Nat.le_of_ble_eq_true rfl) (fun x83 f83 g83 j83 h r83 q83 hH hA => ?_)
        obtain ⟨q83, xf, xg, xj⟩ := q83
        rw [xj] at hH
        have hfE := hfE.trans xf (by decide)
        have eg2 := (xg 2 (by decide)).trans eg2
        have hgE := hgE.trans xg (by decide)
        have qL := q83
        have ef49 := qL.2
        have qr := qL.1
        rw [qr] at r83 ⊢
        obtain ⟨s1, hs1⟩ : ∃ z, z = drw s := ⟨_, rfl⟩
        have bs1 := drw_in s
        rw [← hs1] at ef49 bs1 r83 ⊢
        have hmms1 := Int.emod_nonneg s1 (show K 76 ≠ 0 by omega)
        have hmls1 := Int.emod_lt_of_pos s1 (show 0 < K 76 by omega)
        obtain ⟨vs1, hvs1⟩ : ∃ z, z = s1 % K 76 := ⟨_, rfl⟩
        rw [← hvs1] at hmms1 hmls1 r83 ⊢
        refine z_ist_4 (TX8_evenings_1.at 6 rfl) (Nat.le_of_ble_eq_true rfl) rfl ?_
        refine z_ald_0 (TX8_evenings_1.at 7 rfl) ?_
        refine z_bipush (by decide) (TX8_evenings_1.at 8 rfl) ?_
        refine zm_callI1 (m_draws ef49 (by omega) (by omega) (by omega) (by omega)) (TX8_evenings_1.at 9 rfl) c8_484 rfl rfl hH hA (by omega) (Nat.le_of_ble_eq_true rfl) (fun x91 f91 g91 j91 h r91 q91 hH hA => ?_)
        obtain ⟨q91, xf, xg, xj⟩ := q91
        rw [xj] at hH
        have hfE := hfE.trans xf (by decide)
        have eg2 := (xg 2 (by decide)).trans eg2
        have hgE := hgE.trans xg (by decide)
        have qL := q91
        have ef49 := qL.2
        have qr := qL.1
        rw [qr] at r91 ⊢
        obtain ⟨s2, hs2⟩ : ∃ z, z = drw s1 := ⟨_, rfl⟩
        have bs2 := drw_in s1
        rw [← hs2] at ef49 bs2 r91 ⊢
        have hmms2 := Int.emod_nonneg s2 (show 8 ≠ 0 by omega)
        have hmls2 := Int.emod_lt_of_pos s2 (show 0 < 8 by omega)
        obtain ⟨vs2, hvs2⟩ : ∃ z, z = s2 % 8 := ⟨_, rfl⟩
        rw [← hvs2] at hmms2 hmls2 r91 ⊢
        refine z_ist_5 (TX8_evenings_1.at 10 rfl) (Nat.le_of_ble_eq_true rfl) rfl ?_
        refine z_ald_0 (TX8_evenings_1.at 11 rfl) ?_
        refine z_iconst (TX8_evenings_1.at 12 rfl) ?_
        refine zm_callI1 (m_draws ef49 (by omega) (by omega) (by omega) (by omega)) (TX8_evenings_1.at 13 rfl) c8_484 rfl rfl hH hA (by omega) (Nat.le_of_ble_eq_true rfl) (fun x98 f98 g98 j98 h r98 q98 hH hA => ?_)
        obtain ⟨q98, xf, xg, xj⟩ := q98
        rw [xj] at hH
        have hfE := hfE.trans xf (by decide)
        have eg2 := (xg 2 (by decide)).trans eg2
        have hgE := hgE.trans xg (by decide)
        have qL := q98
        have ef49 := qL.2
        have qr := qL.1
        rw [qr] at r98 ⊢
        obtain ⟨s3, hs3⟩ : ∃ z, z = drw s2 := ⟨_, rfl⟩
        have bs3 := drw_in s2
        rw [← hs3] at ef49 bs3 r98 ⊢
        have hmms3 := Int.emod_nonneg s3 (show 3 ≠ 0 by omega)
        have hmls3 := Int.emod_lt_of_pos s3 (show 0 < 3 by omega)
        obtain ⟨vs3, hvs3⟩ : ∃ z, z = s3 % 3 := ⟨_, rfl⟩
        rw [← hvs3] at hmms3 hmls3 r98 ⊢
        refine z_ist_6 (TX8_evenings_1.at 14 rfl) (Nat.le_of_ble_eq_true rfl) rfl ?_
        refine z_ild_6 (TX8_evenings_1.at 15 rfl) ?_
        refine z_if_ne (tgt := 128) (TX8_evenings_1.at 16 rfl) rfl (by omega) (fun c3 => ?_) (fun c3 => ?_)
        · skip
          refine z_ild_6 (TX8_evenings_1.at 31 rfl) ?_
          refine z_iconst (TX8_evenings_1.at 32 rfl) ?_
          refine z_icmp_ne (tgt := 165) (TX8_evenings_1.at 33 rfl) rfl (by omega) (by omega) (fun c4 => ?_) (fun c4 => ?_)
          · skip
            refine z_ald_0 (TX8_evenings_2.at 12 rfl) ?_
            refine zm_getA (TX8_evenings_2.at 13 rfl) fl8_28 hH (by decide) (by decide) ?_
            refine z_bipush (by decide) (TX8_evenings_2.at 14 rfl) ?_
            refine z_dup2 rfl rfl (TX8_evenings_2.at 15 rfl) ?_
            refine zm_ialdE eg2 (TX8_evenings_2.at 16 rfl) hH rfl (by omega) (show _ < ((5688 : Nat) : Int) by omega) (fun r172 => ?_)
            try simp (disch := omega) only [iu_ne] at r172 ⊢
            refine z_iconst (TX8_evenings_2.at 17 rfl) ?_
            refine z_iadd (TX8_evenings_2.at 18 rfl) ?_
            refine zm_iastE (TX8_evenings_2.at 19 rfl) hH hA rfl (by omega) (show _ < ((5688 : Nat) : Int) by omega) (by omega) (fun h g175 e1 e2 hH hA => ?_)
            rw [eg2] at e2; have eg2 := e2
            have hgE := hgE.put e1 (by decide)
            refine z_iinc_3 (TX8_evenings_2.at 20 rfl) (Nat.le_of_ble_eq_true rfl) rfl ?_
            refine z_goto (tgt := 60) (TX8_evenings_2.at 21 rfl) rfl ?_
            exact ih (c + 1) _ _ _ _ _ _ _ _ _ (by omega) (by omega) (by omega) (evN_t es (by omega) hs1 hs2 hs3 hvs1 hvs2 hvs3) (eg2.trans (by first | (exfalso; omega) | exact evW_0 (by omega) _ rfl | exact evW_1 (by omega) (by omega) _ rfl | exact evW_2 (by omega) (fun z => by omega) _ rfl)) ef49 hfE hgE hH hA
          · skip
            refine z_ald_0 (TX8_evenings_1.at 34 rfl) ?_
            refine zm_getA (TX8_evenings_1.at 35 rfl) fl8_28 hH (by decide) (by decide) ?_
            refine z_bipush (by decide) (TX8_evenings_1.at 36 rfl) ?_
            refine z_ild_5 (TX8_evenings_1.at 37 rfl) ?_
            refine z_iadd (TX8_evenings_1.at 38 rfl) ?_
            refine zm_ialdE eg2 (TX8_evenings_1.at 39 rfl) hH rfl (by omega) (show _ < ((5688 : Nat) : Int) by omega) (fun r143 => ?_)
            try simp (disch := omega) only [iu_ne] at r143 ⊢
            refine z_iconst (TX8_evenings_2.at 0 rfl) ?_
            refine z_icmp_ne (tgt := 165) (TX8_evenings_2.at 1 rfl) rfl (by omega) (by omega) (fun c5 => ?_) (fun c5 => ?_)
            · skip
              refine z_ald_0 (TX8_evenings_2.at 12 rfl) ?_
              refine zm_getA (TX8_evenings_2.at 13 rfl) fl8_28 hH (by decide) (by decide) ?_
              refine z_bipush (by decide) (TX8_evenings_2.at 14 rfl) ?_
              refine z_dup2 rfl rfl (TX8_evenings_2.at 15 rfl) ?_
              refine zm_ialdE eg2 (TX8_evenings_2.at 16 rfl) hH rfl (by omega) (show _ < ((5688 : Nat) : Int) by omega) (fun r172 => ?_)
              try simp (disch := omega) only [iu_ne] at r172 ⊢
              refine z_iconst (TX8_evenings_2.at 17 rfl) ?_
              refine z_iadd (TX8_evenings_2.at 18 rfl) ?_
              refine zm_iastE (TX8_evenings_2.at 19 rfl) hH hA rfl (by omega) (show _ < ((5688 : Nat) : Int) by omega) (by omega) (fun h g175 e1 e2 hH hA => ?_)
              rw [eg2] at e2; have eg2 := e2
              have hgE := hgE.put e1 (by decide)
              refine z_iinc_3 (TX8_evenings_2.at 20 rfl) (Nat.le_of_ble_eq_true rfl) rfl ?_
              refine z_goto (tgt := 60) (TX8_evenings_2.at 21 rfl) rfl ?_
              exact ih (c + 1) _ _ _ _ _ _ _ _ _ (by omega) (by omega) (by omega) (evN_t es (by omega) hs1 hs2 hs3 hvs1 hvs2 hvs3) (eg2.trans (by first | (exfalso; omega) | exact evW_0 (by omega) _ rfl | exact evW_1 (by omega) (by omega) _ rfl | exact evW_2 (by omega) (fun z => by omega) _ rfl)) ef49 hfE hgE hH hA
            · skip
              refine z_ald_0 (TX8_evenings_2.at 2 rfl) ?_
              refine zm_getA (TX8_evenings_2.at 3 rfl) fl8_28 hH (by decide) (by decide) ?_
              refine z_bipush (by decide) (TX8_evenings_2.at 4 rfl) ?_
              refine z_ild_5 (TX8_evenings_2.at 5 rfl) ?_
              refine z_iadd (TX8_evenings_2.at 6 rfl) ?_
              refine z_ald_0 (TX8_evenings_2.at 7 rfl) ?_
              refine zm_getA (TX8_evenings_2.at 8 rfl) fl8_28 hH (by decide) (by decide) ?_
              refine z_bipush (by decide) (TX8_evenings_2.at 9 rfl) ?_
              refine zm_ialdE eg2 (TX8_evenings_2.at 10 rfl) hH rfl (by omega) (show _ < ((5688 : Nat) : Int) by omega) (fun r163 => ?_)
              try simp (disch := omega) only [iu_ne] at r163 ⊢
              refine zm_iastE (TX8_evenings_2.at 11 rfl) hH hA rfl (by omega) (show _ < ((5688 : Nat) : Int) by omega) (by omega) (fun h g164 e1 e2 hH hA => ?_)
              rw [eg2] at e2; have eg2 := e2
              have hgE := hgE.put e1 (by decide)
              refine z_ald_0 (TX8_evenings_2.at 12 rfl) ?_
              refine zm_getA (TX8_evenings_2.at 13 rfl) fl8_28 hH (by decide) (by decide) ?_
              refine z_bipush (by decide) (TX8_evenings_2.at 14 rfl) ?_
              refine z_dup2 rfl rfl (TX8_evenings_2.at 15 rfl) ?_
              refine zm_ialdE eg2 (TX8_evenings_2.at 16 rfl) hH rfl (by omega) (show _ < ((5688 : Nat) : Int) by omega) (fun r172 => ?_)
              try simp (disch := omega) only [iu_ne] at r172 ⊢
              refine z_iconst (TX8_evenings_2.at 17 rfl) ?_
              refine z_iadd (TX8_evenings_2.at 18 rfl) ?_
              refine zm_iastE (TX8_evenings_2.at 19 rfl) hH hA rfl (by omega) (show _ < ((5688 : Nat) : Int) by omega) (by omega) (fun h g175 e1 e2 hH hA => ?_)
              rw [eg2] at e2; have eg2 := e2
              have hgE := hgE.put e1 (by decide)
              refine z_iinc_3 (TX8_evenings_2.at 20 rfl) (Nat.le_of_ble_eq_true rfl) rfl ?_
              refine z_goto (tgt := 60) (TX8_evenings_2.at 21 rfl) rfl ?_
              exact ih (c + 1) _ _ _ _ _ _ _ _ _ (by omega) (by omega) (by omega) (evN_t es (by omega) hs1 hs2 hs3 hvs1 hvs2 hvs3) (eg2.trans (by first | (exfalso; omega) | exact evW_0 (by omega) _ rfl | exact evW_1 (by omega) (by omega) _ rfl | exact evW_2 (by omega) (fun z => by omega) _ rfl)) ef49 hfE hgE hH hA
        · skip
          refine z_ald_0 (TX8_evenings_1.at 17 rfl) ?_
          refine zm_getA (TX8_evenings_1.at 18 rfl) fl8_28 hH (by decide) (by decide) ?_
          refine z_iconst (TX8_evenings_1.at 19 rfl) ?_
          refine z_ild_4 (TX8_evenings_1.at 20 rfl) ?_
          refine z_iadd (TX8_evenings_1.at 21 rfl) ?_
          refine z_iconst (TX8_evenings_1.at 22 rfl) ?_
          refine z_ald_0 (TX8_evenings_1.at 23 rfl) ?_
          refine zm_getA (TX8_evenings_1.at 24 rfl) fl8_28 hH (by decide) (by decide) ?_
          refine z_iconst (TX8_evenings_1.at 25 rfl) ?_
          refine z_ild_4 (TX8_evenings_1.at 26 rfl) ?_
          refine z_iadd (TX8_evenings_1.at 27 rfl) ?_
          refine zm_ialdE eg2 (TX8_evenings_1.at 28 rfl) hH rfl (by omega) (show _ < ((5688 : Nat) : Int) by omega) (fun r125 => ?_)
          refine z_isub (TX8_evenings_1.at 29 rfl) ?_
          rw [Int.zero_add]
          have hdx := (hK1.2.1 vs1 (by omega) (by omega)).1
          refine zm_iastE (TX8_evenings_1.at 30 rfl) hH hA rfl (by omega) (show _ < ((5688 : Nat) : Int) by omega) (by omega) (fun h g127 e1 e2 hH hA => ?_)
          rw [eg2] at e2; have eg2 := e2
          have hgE := hgE.put e1 (by decide)
          refine z_ild_6 (TX8_evenings_1.at 31 rfl) ?_
          refine z_iconst (TX8_evenings_1.at 32 rfl) ?_
          refine z_icmp_ne (tgt := 165) (TX8_evenings_1.at 33 rfl) rfl (by omega) (by omega) (fun c6 => ?_) (fun c6 => ?_)
          · skip
            refine z_ald_0 (TX8_evenings_2.at 12 rfl) ?_
            refine zm_getA (TX8_evenings_2.at 13 rfl) fl8_28 hH (by decide) (by decide) ?_
            refine z_bipush (by decide) (TX8_evenings_2.at 14 rfl) ?_
            refine z_dup2 rfl rfl (TX8_evenings_2.at 15 rfl) ?_
            refine zm_ialdE eg2 (TX8_evenings_2.at 16 rfl) hH rfl (by omega) (show _ < ((5688 : Nat) : Int) by omega) (fun r172 => ?_)
            try simp (disch := omega) only [iu_ne] at r172 ⊢
            refine z_iconst (TX8_evenings_2.at 17 rfl) ?_
            refine z_iadd (TX8_evenings_2.at 18 rfl) ?_
            refine zm_iastE (TX8_evenings_2.at 19 rfl) hH hA rfl (by omega) (show _ < ((5688 : Nat) : Int) by omega) (by omega) (fun h g175 e1 e2 hH hA => ?_)
            rw [eg2] at e2; have eg2 := e2
            have hgE := hgE.put e1 (by decide)
            refine z_iinc_3 (TX8_evenings_2.at 20 rfl) (Nat.le_of_ble_eq_true rfl) rfl ?_
            refine z_goto (tgt := 60) (TX8_evenings_2.at 21 rfl) rfl ?_
            exact ih (c + 1) _ _ _ _ _ _ _ _ _ (by omega) (by omega) (by omega) (evN_t es (by omega) hs1 hs2 hs3 hvs1 hvs2 hvs3) (eg2.trans (by first | (exfalso; omega) | exact evW_0 (by omega) _ rfl | exact evW_1 (by omega) (by omega) _ rfl | exact evW_2 (by omega) (fun z => by omega) _ rfl)) ef49 hfE hgE hH hA
          · skip
            refine z_ald_0 (TX8_evenings_1.at 34 rfl) ?_
            refine zm_getA (TX8_evenings_1.at 35 rfl) fl8_28 hH (by decide) (by decide) ?_
            refine z_bipush (by decide) (TX8_evenings_1.at 36 rfl) ?_
            refine z_ild_5 (TX8_evenings_1.at 37 rfl) ?_
            refine z_iadd (TX8_evenings_1.at 38 rfl) ?_
            refine zm_ialdE eg2 (TX8_evenings_1.at 39 rfl) hH rfl (by omega) (show _ < ((5688 : Nat) : Int) by omega) (fun r143 => ?_)
            try simp (disch := omega) only [iu_ne] at r143 ⊢
            refine z_iconst (TX8_evenings_2.at 0 rfl) ?_
            refine z_icmp_ne (tgt := 165) (TX8_evenings_2.at 1 rfl) rfl (by omega) (by omega) (fun c7 => ?_) (fun c7 => ?_)
            · skip
              refine z_ald_0 (TX8_evenings_2.at 12 rfl) ?_
              refine zm_getA (TX8_evenings_2.at 13 rfl) fl8_28 hH (by decide) (by decide) ?_
              refine z_bipush (by decide) (TX8_evenings_2.at 14 rfl) ?_
              refine z_dup2 rfl rfl (TX8_evenings_2.at 15 rfl) ?_
              refine zm_ialdE eg2 (TX8_evenings_2.at 16 rfl) hH rfl (by omega) (show _ < ((5688 : Nat) : Int) by omega) (fun r172 => ?_)
              try simp (disch := omega) only [iu_ne] at r172 ⊢
              refine z_iconst (TX8_evenings_2.at 17 rfl) ?_
              refine z_iadd (TX8_evenings_2.at 18 rfl) ?_
              refine zm_iastE (TX8_evenings_2.at 19 rfl) hH hA rfl (by omega) (show _ < ((5688 : Nat) : Int) by omega) (by omega) (fun h g175 e1 e2 hH hA => ?_)
              rw [eg2] at e2; have eg2 := e2
              have hgE := hgE.put e1 (by decide)
              refine z_iinc_3 (TX8_evenings_2.at 20 rfl) (Nat.le_of_ble_eq_true rfl) rfl ?_
              refine z_goto (tgt := 60) (TX8_evenings_2.at 21 rfl) rfl ?_
              exact ih (c + 1) _ _ _ _ _ _ _ _ _ (by omega) (by omega) (by omega) (evN_t es (by omega) hs1 hs2 hs3 hvs1 hvs2 hvs3) (eg2.trans (by first | (exfalso; omega) | exact evW_0 (by omega) _ rfl | exact evW_1 (by omega) (by omega) _ rfl | exact evW_2 (by omega) (fun z => by omega) _ rfl)) ef49 hfE hgE hH hA
            · skip
              refine z_ald_0 (TX8_evenings_2.at 2 rfl) ?_
              refine zm_getA (TX8_evenings_2.at 3 rfl) fl8_28 hH (by decide) (by decide) ?_
              refine z_bipush (by decide) (TX8_evenings_2.at 4 rfl) ?_
              refine z_ild_5 (TX8_evenings_2.at 5 rfl) ?_
              refine z_iadd (TX8_evenings_2.at 6 rfl) ?_
              refine z_ald_0 (TX8_evenings_2.at 7 rfl) ?_
              refine zm_getA (TX8_evenings_2.at 8 rfl) fl8_28 hH (by decide) (by decide) ?_
              refine z_bipush (by decide) (TX8_evenings_2.at 9 rfl) ?_
              refine zm_ialdE eg2 (TX8_evenings_2.at 10 rfl) hH rfl (by omega) (show _ < ((5688 : Nat) : Int) by omega) (fun r163 => ?_)
              try simp (disch := omega) only [iu_ne] at r163 ⊢
              refine zm_iastE (TX8_evenings_2.at 11 rfl) hH hA rfl (by omega) (show _ < ((5688 : Nat) : Int) by omega) (by omega) (fun h g164 e1 e2 hH hA => ?_)
              rw [eg2] at e2; have eg2 := e2
              have hgE := hgE.put e1 (by decide)
              refine z_ald_0 (TX8_evenings_2.at 12 rfl) ?_
              refine zm_getA (TX8_evenings_2.at 13 rfl) fl8_28 hH (by decide) (by decide) ?_
              refine z_bipush (by decide) (TX8_evenings_2.at 14 rfl) ?_
              refine z_dup2 rfl rfl (TX8_evenings_2.at 15 rfl) ?_
              refine zm_ialdE eg2 (TX8_evenings_2.at 16 rfl) hH rfl (by omega) (show _ < ((5688 : Nat) : Int) by omega) (fun r172 => ?_)
              try simp (disch := omega) only [iu_ne] at r172 ⊢
              refine z_iconst (TX8_evenings_2.at 17 rfl) ?_
              refine z_iadd (TX8_evenings_2.at 18 rfl) ?_
              refine zm_iastE (TX8_evenings_2.at 19 rfl) hH hA rfl (by omega) (show _ < ((5688 : Nat) : Int) by omega) (by omega) (fun h g175 e1 e2 hH hA => ?_)
              rw [eg2] at e2; have eg2 := e2
              have hgE := hgE.put e1 (by decide)
              refine z_iinc_3 (TX8_evenings_2.at 20 rfl) (Nat.le_of_ble_eq_true rfl) rfl ?_
              refine z_goto (tgt := 60) (TX8_evenings_2.at 21 rfl) rfl ?_
              exact ih (c + 1) _ _ _ _ _ _ _ _ _ (by omega) (by omega) (by omega) (evN_t es (by omega) hs1 hs2 hs3 hvs1 hvs2 hvs3) (eg2.trans (by first | (exfalso; omega) | exact evW_0 (by omega) _ rfl | exact evW_1 (by omega) (by omega) _ rfl | exact evW_2 (by omega) (fun z => by omega) _ rfl)) ef49 hfE hgE hH hA

set_option maxHeartbeats 4000000 in
set_option maxRecDepth 100000 in
theorem lp_eve2 {l : Launch} {o : Nat} {ar : Nat → Nat} {d : Nat} {Pz : Option Value → zH → Prop} {h0 : zH} {f0 : mF} {g0 : mA} {j : mA}  {X47 K : Int → Int} {sd m z : Int} {o5 o6 : Option Value} (kx : ∀ (f : mF) (g : mA) (h : zH), g 47 = cpy X47 K 0 0 29 → g 2 = K → eqx [] f0 f → eqx [47] g0 g → HM o ar f g j h → zAg o ar h0 h → Z l MX8_evenings d 0 0 Pz 217 [some (.ref o), some (vI sd), some (vI m), some (vI z), some (vI 29), o5, o6] [] h 0 0)  : ∀ (n : Nat) (i : Int) (f : mF) (g : mA) (h : zH) (i0 : 0 ≤ i) (i1 : i ≤ 29) (i2 : 29 < i + n) (eg47 : g 47 = cpy X47 K 0 0 i) (eg2 : g 2 = K) (hfE : eqx [] f0 f) (hgE : eqx [47] g0 g) (hH : HM o ar f g j h) (hA : zAg o ar h0 h), Z l MX8_evenings d 0 0 Pz 190 [some (.ref o), some (vI sd), some (vI m), some (vI z), some (vI i), o5, o6] [] h 0 0 := by
  intro n
  induction n with
  | zero => intro i f g h i0 i1 i2 eg47 eg2 hfE hgE hH hA; exfalso; omega
  | succ n ih =>
    intro i f g h i0 i1 i2 eg47 eg2 hfE hgE hH hA
    refine z_ild_4 (TX8_evenings_2.at 27 rfl) ?_
    refine z_bipush (by decide) (TX8_evenings_2.at 28 rfl) ?_
    refine z_icmp_ge (tgt := 217) (TX8_evenings_2.at 29 rfl) rfl (by omega) (by omega) (fun c1 => ?_) (fun c1 => ?_)
    · skip
      obtain rfl : i = 29 := by omega
      exact kx _ _ _ eg47 eg2  hfE hgE hH hA
    · skip
      refine z_ald_0 (TX8_evenings_2.at 30 rfl) ?_
      refine zm_getA (TX8_evenings_2.at 31 rfl) fl8_97 hH (by decide) (by decide) ?_
      refine z_ild_4 (TX8_evenings_2.at 32 rfl) ?_
      refine z_ald_0 (TX8_evenings_2.at 33 rfl) ?_
      refine zm_getA (TX8_evenings_2.at 34 rfl) fl8_28 hH (by decide) (by decide) ?_
      refine z_ild_4 (TX8_evenings_2.at 35 rfl) ?_
      refine zm_ialdE eg2 (TX8_evenings_2.at 36 rfl) hH rfl (by omega) (show _ < ((5688 : Nat) : Int) by omega) (fun r209 => ?_)
      refine zm_iastE (TX8_evenings_2.at 37 rfl) hH hA rfl (by omega) (show _ < ((29 : Nat) : Int) by omega) (by omega) (fun h g210 e1 e2 hH hA => ?_)
      rw [eg47] at e2; have eg47 := e2
      have eg2 := (e1 2 (by decide)).trans eg2
      have hgE := hgE.put e1 (by decide)
      refine z_iinc_4 (TX8_evenings_2.at 38 rfl) (Nat.le_of_ble_eq_true rfl) rfl ?_
      refine z_goto (tgt := 190) (TX8_evenings_2.at 39 rfl) rfl ?_
      exact ih (i + 1) _ _ _ (by omega) (by omega) (by omega) (by rw [cpy_s (by omega) (by omega) (by omega)] at eg47; exact eg47) eg2 hfE hgE hH hA

def eveS (K X47 : Int → Int) (x48 : Int) (cl : List Cla) (X1 : Int → Int) (sd m r : Int) (f' : mF) (g' : mA) : Prop :=
  (¬ ((0 ≤ sd ∧ sd ≤ 1000000) ∧ 1 ≤ m ∧ m ≤ 60) ∧ mRef (-1) r f' g' X1 ∧ g' 47 = X47 ∧ f' 48 = x48) ∨ (((0 ≤ sd ∧ sd ≤ 1000000) ∧ 1 ≤ m ∧ m ≤ 60) ∧ K 76 = 0 ∧ mRef (-3) r f' g' X1 ∧ g' 47 = X47 ∧ f' 48 = x48) ∨ (((0 ≤ sd ∧ sd ≤ 1000000) ∧ 1 ≤ m ∧ m ≤ 60) ∧ K 76 ≠ 0 ∧ mOk (gone (evN K sd m.toNat).1 cl) r f' g' X1 ∧ (∀ i, 0 ≤ i → i < 29 → g' 47 i = (evN K sd m.toNat).1 i) ∧ f' 48 = K 76)
theorem eve_back {K K2 X5 : Int → Int} (h : ∀ i, 29 ≤ i → K2 i = K i) (hneg : ∀ i, i < 0 → K2 i = K i) : cpy K2 (cpy X5 K (29 * 0) 0 29) 0 (29 * 0) 29 = K := by
  funext t
  unfold cpy
  by_cases ht : 0 ≤ t ∧ t < 0 + 29
  · rw [if_pos ht, if_pos (by omega)]; congr 1; omega
  · rw [if_neg ht]
    by_cases h0 : t < 0
    · exact hneg t h0
    · exact h t (by omega)
theorem evW_neg {K : Int → Int} {x k w i : Int} (hi : i < 0) (hx : 0 ≤ x) (hk : 0 ≤ k) : evW K x k w i = K i := by
  have e0 : (if w = 0 then iu K x (1 - K x) else K) i = K i := by
    split
    · rw [iu_ne (by omega)]
    · rfl
  unfold evW
  rw [iu_ne (by omega)]
  generalize (if w = 0 then iu K x (1 - K x) else K) = Q at e0 ⊢
  split
  · rw [iu_ne (by omega)]; exact e0
  · exact e0
theorem evN_neg {K : Int → Int} {s : Int} (h : KOK K) (hn : K 76 ≠ 0) (s0 : 0 ≤ s) (s1 : s ≤ 1000002) : ∀ (m : Nat) (i : Int), i < 0 → (evN K s m).1 i = K i := by
  intro m
  induction m with
  | zero => intro i _; rfl
  | succ m ih =>
    intro i hi
    obtain ⟨i1, i2, i3, i4⟩ := evN_ok h hn s0 s1 m
    have h76 := i2 76 (by decide)
    have hk := i1.1
    have hmm := Int.emod_nonneg (drw (evN K s m).2) (show (evN K s m).1 76 ≠ 0 by omega)
    simp only [evN, evS]
    split
    · exact (evW_neg hi hmm (by omega)).trans (ih i hi)
    · exact ih i hi
set_option maxHeartbeats 4000000 in
set_option maxRecDepth 100000 in
theorem m_evenings {l : Launch} {o : Nat} {ar : Nat → Nat} {f : mF} {g j : mA} {X1 : Int → Int} {K : Int → Int} {X5 : Int → Int} {X47 : Int → Int} {x48 : Int} {sd m : Int} {cl : List Cla} (eg1 : g 1 = X1) (eg2 : g 2 = K) (eg5 : g 5 = X5) (eg47 : g 47 = X47) (ef48 : f 48 = x48) (hsd : zIn sd) (hm : zIn m) (hb : ∀ i, X1 i ≤ 100000) (hK : KOK K) (hL : LawK K cl) : MM l o ar MX8_evenings 58 [.ref o, vI sd, vI m] f g j (PI (fun r f' g' j' => (eveS K X47 x48 cl X1 sd m r f' g' ∧ g' 2 = K) ∧ eqx [0, 22, 23, 24, 25, 33, 48, 49] f f' ∧ eqx [1, 2, 5, 26, 30, 31, 32, 47] g g' ∧ j' = j)) := by
  refine MM.intro [some (.ref o), some (vI sd), some (vI m), none, none, none, none] (by decide) (Nat.le_of_ble_eq_true rfl) rfl (fun d hd h0 h hH hA => ?_)
  have hfE : eqx [0, 22, 23, 24, 25, 33, 48, 49] f f := eqx.rf
  have hgE : eqx [1, 2, 5, 26, 30, 31, 32, 47] g g := eqx.rf
  have hn := hK.1
  refine z_ild_1 (TX8_evenings_0.at 0 rfl) ?_
  refine z_iconst (TX8_evenings_0.at 1 rfl) ?_
  refine z_ldc (v := 1000000) (TX8_evenings_0.at 2 rfl) k8_169 (by decide) ?_
  refine zs_call3 (s_lies (by omega) (by omega) (by omega)) (TX8_evenings_0.at 3 rfl) c8_18 rfl (by omega) (Nat.le_of_ble_eq_true rfl) (fun r4 => ?_)
  refine z_if_eqB (tgt := 20) (TX8_evenings_0.at 4 rfl) rfl (fun c1 => ?_) (fun c1 => ?_)
  · skip
    refine z_ald_0 (TX8_evenings_0.at 10 rfl) ?_
    refine z_iconst (TX8_evenings_0.at 11 rfl) ?_
    refine zm_callI1 (t_refuses eg1 (by omega) (by omega) (by omega) hb) (TX8_evenings_0.at 12 rfl) c8_103 rfl rfl hH hA (by omega) (Nat.le_of_ble_eq_true rfl) (fun x22 f22 g22 j22 h r22 q22 hH hA => ?_)
    obtain ⟨q22, xf, xg, xj⟩ := q22
    rw [xj] at hH
    have ef48 := (xf 48 (by decide)).trans ef48
    have hfE := hfE.trans xf (by decide)
    have eg2 := (xg 2 (by decide)).trans eg2
    have eg5 := (xg 5 (by decide)).trans eg5
    have eg47 := (xg 47 (by decide)).trans eg47
    have hgE := hgE.trans xg (by decide)
    have qL := q22
    refine zm_iret (TX8_evenings_0.at 13 rfl) rfl hH hA (by omega) ?_
    exact ⟨⟨Or.inl ⟨by omega, ⟨qL.1, qL.2.1, qL.2.2⟩, eg47, ef48⟩, eg2⟩, hfE, hgE, rfl⟩
  · skip
    refine z_ild_2 (TX8_evenings_0.at 5 rfl) ?_
    refine z_iconst (TX8_evenings_0.at 6 rfl) ?_
    refine z_bipush (by decide) (TX8_evenings_0.at 7 rfl) ?_
    refine zs_call3 (s_lies (by omega) (by omega) (by omega)) (TX8_evenings_0.at 8 rfl) c8_18 rfl (by omega) (Nat.le_of_ble_eq_true rfl) (fun r14 => ?_)
    refine z_if_neB (tgt := 26) (TX8_evenings_0.at 9 rfl) rfl (fun c2 => ?_) (fun c2 => ?_)
    · skip
      refine z_ald_0 (TX8_evenings_0.at 14 rfl) ?_
      refine zm_callP0 (m_fuseMany) (TX8_evenings_0.at 15 rfl) c8_109 rfl rfl hH hA (by omega) (Nat.le_of_ble_eq_true rfl) (fun h r27 hH hA => ?_)
      rw [eg2] at r27 ⊢
      refine z_if_ne (tgt := 40) (TX8_evenings_0.at 16 rfl) rfl (by omega) (fun c3 => ?_) (fun c3 => ?_)
      · skip
        refine z_ald_0 (TX8_evenings_0.at 21 rfl) ?_
        refine z_ild_1 (TX8_evenings_0.at 22 rfl) ?_
        refine zm_putIE (TX8_evenings_0.at 23 rfl) fp8_477 hH hA rfl (by decide) (by first | omega | exact b2i_01 _) (fun h f42 e1 e2 hH hA => ?_)
        have ef49 : f42 49 = sd := e2
        have ef48 := (e1 48 (by decide)).trans ef48
        have hfE := hfE.put e1 (by decide)
        refine z_ald_0 (TX8_evenings_0.at 24 rfl) ?_
        refine z_ald_0 (TX8_evenings_0.at 25 rfl) ?_
        refine zm_callP0 (m_fuseMany) (TX8_evenings_0.at 26 rfl) c8_109 rfl rfl hH hA (by omega) (Nat.le_of_ble_eq_true rfl) (fun h r47 hH hA => ?_)
        rw [eg2] at r47 ⊢
        refine zm_putIE (TX8_evenings_0.at 27 rfl) fp8_100 hH hA rfl (by decide) (by first | omega | exact b2i_01 _) (fun h f50 e1 e2 hH hA => ?_)
        have ef48 := e2
        have ef49 := (e1 49 (by decide)).trans ef49
        have hfE := hfE.put e1 (by decide)
        refine z_ald_0 (TX8_evenings_0.at 28 rfl) ?_
        refine z_iconst (TX8_evenings_0.at 29 rfl) ?_
        refine zm_callV1 (m_laysAside eg2 eg5 (by omega) (by omega) (by omega)) (TX8_evenings_0.at 30 rfl) c8_438 rfl rfl hH hA (by omega) (Nat.le_of_ble_eq_true rfl) (fun f55 g55 j55 h q55 hH hA => ?_)
        obtain ⟨q55, xf, xg, xj⟩ := q55
        rw [xj] at hH
        have ef48 := (xf 48 (by decide)).trans ef48
        have hfE := hfE.trans xf (by decide)
        have eg1 := (xg 1 (by decide)).trans eg1
        have eg2 := (xg 2 (by decide)).trans eg2
        have eg47 := (xg 47 (by decide)).trans eg47
        have hgE := hgE.trans xg (by decide)
        have qL := q55
        have ef49 := (xf 49 (by decide)).trans ef49
        have eg5 := qL
        refine z_iconst (TX8_evenings_0.at 31 rfl) ?_
        refine z_ist_3 (TX8_evenings_0.at 32 rfl) (Nat.le_of_ble_eq_true rfl) rfl ?_
        refine lp_eve (sd := sd) (m := m) (s0 := sd) (by omega) (by omega) hK (by omega) (by omega) (by omega) (fun K2 s2 i2 o4 o5 o6 f60 g60 h es eg2 xf xg hH hA => ?_) 61 0 0 K sd none none none _ _ _ (by omega) (by omega) (by omega) rfl eg2 ef49 eqx.rf eqx.rf hH hA
        have ef48 := (xf 48 (by decide)).trans ef48
        have hfE := hfE.trans xf (by decide)
        have eg1 := (xg 1 (by decide)).trans eg1
        have eg5 := (xg 5 (by decide)).trans eg5
        have eg47 := (xg 47 (by decide)).trans eg47
        have hgE := hgE.trans xg (by decide)
        have hok := evN_ok (s := sd) hK (by omega) (by omega) (by omega) m.toNat
        have hneg := evN_neg (s := sd) hK (by omega) (by omega) (by omega) m.toNat
        rw [← es] at hok hneg
        simp only at hok hneg
        have hgi := gonS_in (K := K2) (cl := cl) hok.1.1.1
        have h762 := hok.1.1
        rw [show sm (gonK K2 cl) (K2 76) = gone K2 cl from rfl] at hgi
        refine z_ald_0 (TX8_evenings_2.at 22 rfl) ?_
        refine zm_callI0 (m_goneMany eg2 hok.1 (LawK_cg hL (hok.2.1 80 (by decide)) (fun i hi => hok.2.1 i (by omega)))) (TX8_evenings_2.at 23 rfl) c8_366 rfl rfl hH hA (by omega) (Nat.le_of_ble_eq_true rfl) (fun x183 f183 g183 j183 h r183 q183 hH hA => ?_)
        obtain ⟨q183, xf, xg, xj⟩ := q183
        rw [xj] at hH
        have ef48 := (xf 48 (by decide)).trans ef48
        have hfE := hfE.trans xf (by decide)
        have eg1 := (xg 1 (by decide)).trans eg1
        have eg2 := (xg 2 (by decide)).trans eg2
        have eg5 := (xg 5 (by decide)).trans eg5
        have eg47 := (xg 47 (by decide)).trans eg47
        have hgE := hgE.trans xg (by decide)
        have qL := q183
        rw [qL] at r183 ⊢
        refine z_ist_3 (TX8_evenings_2.at 24 rfl) (Nat.le_of_ble_eq_true rfl) rfl ?_
        refine z_iconst (TX8_evenings_2.at 25 rfl) ?_
        refine z_ist_4 (TX8_evenings_2.at 26 rfl) (Nat.le_of_ble_eq_true rfl) rfl ?_
        refine lp_eve2 (sd := sd) (m := m) (z := gone K2 cl) (o5 := o5) (o6 := o6) (fun f190 g190 h eg47 eg2 xf xg hH hA => ?_) 30 0 _ _ _ (by omega) (by omega) (by omega) (eg47.trans (cpy_0 _ _ _ _).symm) eg2 eqx.rf eqx.rf hH hA
        have ef48 := (xf 48 (by decide)).trans ef48
        have hfE := hfE.trans xf (by decide)
        have eg1 := (xg 1 (by decide)).trans eg1
        have eg5 := (xg 5 (by decide)).trans eg5
        have hgE := hgE.trans xg (by decide)
        refine z_ald_0 (TX8_evenings_3.at 0 rfl) ?_
        refine z_iconst (TX8_evenings_3.at 1 rfl) ?_
        refine zm_callV1 (m_takesBack eg2 eg5 (by omega) (by omega) (by omega)) (TX8_evenings_3.at 2 rfl) c8_447 rfl rfl hH hA (by omega) (Nat.le_of_ble_eq_true rfl) (fun f219 g219 j219 h q219 hH hA => ?_)
        obtain ⟨q219, xf, xg, xj⟩ := q219
        rw [xj] at hH
        have ef48 := (xf 48 (by decide)).trans ef48
        have hfE := hfE.trans xf (by decide)
        have eg1 := (xg 1 (by decide)).trans eg1
        have eg5 := (xg 5 (by decide)).trans eg5
        have eg47 := (xg 47 (by decide)).trans eg47
        have hgE := hgE.trans xg (by decide)
        have qL := q219
        have eg2 := qL.trans (eve_back hok.2.1 hneg)
        refine z_ald_0 (TX8_evenings_3.at 3 rfl) ?_
        refine z_ild_3 (TX8_evenings_3.at 4 rfl) ?_
        refine zm_callI1 (t_good (by omega)) (TX8_evenings_3.at 5 rfl) c8_14 rfl rfl hH hA (by omega) (Nat.le_of_ble_eq_true rfl) (fun x224 f224 g224 j224 h r224 q224 hH hA => ?_)
        obtain ⟨q224, xf, xg, xj⟩ := q224
        rw [xj] at hH
        have ef48 := (xf 48 (by decide)).trans ef48
        have hfE := hfE.trans xf (by decide)
        have eg1 := (xg 1 (by decide)).trans eg1
        have eg2 := (xg 2 (by decide)).trans eg2
        have eg5 := (xg 5 (by decide)).trans eg5
        have eg47 := (xg 47 (by decide)).trans eg47
        have hgE := hgE.trans xg (by decide)
        have qL := q224
        refine zm_iret (TX8_evenings_3.at 6 rfl) rfl hH hA (by omega) ?_
        exact ⟨⟨Or.inr (Or.inr ⟨by omega, by omega, by rw [← es]; exact ⟨qL.1, qL.2, eg1⟩, fun i h0 h1 => by rw [eg47, ← es]; unfold cpy; rw [if_pos (by omega)]; congr 1; omega, ef48⟩), eg2⟩, hfE, hgE, rfl⟩
      · skip
        refine z_ald_0 (TX8_evenings_0.at 17 rfl) ?_
        refine z_bipush (by decide) (TX8_evenings_0.at 18 rfl) ?_
        refine zm_callI1 (t_refuses eg1 (by omega) (by omega) (by omega) hb) (TX8_evenings_0.at 19 rfl) c8_103 rfl rfl hH hA (by omega) (Nat.le_of_ble_eq_true rfl) (fun x36 f36 g36 j36 h r36 q36 hH hA => ?_)
        obtain ⟨q36, xf, xg, xj⟩ := q36
        rw [xj] at hH
        have ef48 := (xf 48 (by decide)).trans ef48
        have hfE := hfE.trans xf (by decide)
        have eg2 := (xg 2 (by decide)).trans eg2
        have eg5 := (xg 5 (by decide)).trans eg5
        have eg47 := (xg 47 (by decide)).trans eg47
        have hgE := hgE.trans xg (by decide)
        have qL := q36
        refine zm_iret (TX8_evenings_0.at 20 rfl) rfl hH hA (by omega) ?_
        exact ⟨⟨Or.inr (Or.inl ⟨by omega, by omega, ⟨qL.1, qL.2.1, qL.2.2⟩, eg47, ef48⟩), eg2⟩, hfE, hgE, rfl⟩
    · skip
      refine z_ald_0 (TX8_evenings_0.at 10 rfl) ?_
      refine z_iconst (TX8_evenings_0.at 11 rfl) ?_
      refine zm_callI1 (t_refuses eg1 (by omega) (by omega) (by omega) hb) (TX8_evenings_0.at 12 rfl) c8_103 rfl rfl hH hA (by omega) (Nat.le_of_ble_eq_true rfl) (fun x22 f22 g22 j22 h r22 q22 hH hA => ?_)
      obtain ⟨q22, xf, xg, xj⟩ := q22
      rw [xj] at hH
      have ef48 := (xf 48 (by decide)).trans ef48
      have hfE := hfE.trans xf (by decide)
      have eg2 := (xg 2 (by decide)).trans eg2
      have eg5 := (xg 5 (by decide)).trans eg5
      have eg47 := (xg 47 (by decide)).trans eg47
      have hgE := hgE.trans xg (by decide)
      have qL := q22
      refine zm_iret (TX8_evenings_0.at 13 rfl) rfl hH hA (by omega) ?_
      exact ⟨⟨Or.inl ⟨by omega, ⟨qL.1, qL.2.1, qL.2.2⟩, eg47, ef48⟩, eg2⟩, hfE, hgE, rfl⟩

