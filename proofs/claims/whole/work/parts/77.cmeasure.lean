/-! ===== the class: a frame is measured ===== -/
def FrA (Fr To Ln Kd : Int → Int) (dp : Int) (K : Int → Int) : Prop := z31 dp ∧ ∀ i : Int, 0 ≤ i → i < K 76 → Fr i = K (29 + i) ∧ To i = K (39 + i) ∧ Ln i = K (10 + i) ∧ Kd i = K (49 + i) ∧ (bt dp i ↔ K i = 1)
def MsB (K : Int → Int) (cl : List Cla) (B : Int → Int) (S i : Int) : Prop := z31 S ∧ ∀ x : Int, 0 ≤ x → x < i → B x = brn K cl x ∧ (bt S x ↔ ctc K cl x)
def MsH (K : Int → Int) (cl : List Cla) (H : Int → Int) (i : Int) : Prop := ∀ k : Int, 0 ≤ k → k < i → H k = hld K cl k
theorem bt_cS {S x y : Int} {p : Prop} [Decidable p] (hS : z31 S) (x0 : 0 ≤ x) (x9 : x ≤ 9) (y0 : 0 ≤ y) : bt (cS S x p) y ↔ (if y = x then p else bt S y) := by
  have h1 := shl_31 (i := x) x0 (by omega)
  have h2 := bt_shl (i := x) (k := y) x0 (by omega) y0
  unfold cS
  by_cases hp : p
  · rw [if_pos hp, bt_or hS h1, h2]
    by_cases e : y = x
    · rw [if_pos e]; exact ⟨fun _ => hp, fun _ => Or.inr e⟩
    · rw [if_neg e]; exact ⟨fun z => z.elim id (fun z => absurd z e), Or.inl⟩
  · rw [if_neg hp, bt_andn hS h1, h2]
    by_cases e : y = x
    · rw [if_pos e]; exact ⟨fun z => absurd e z.2, fun z => absurd z hp⟩
    · rw [if_neg e]; exact ⟨fun z => z.1, fun z => ⟨z, e⟩⟩
theorem MsB.s {K : Int → Int} {cl : List Cla} {B : Int → Int} {S i : Int} (h : MsB K cl B S i) (i0 : 0 ≤ i) (i9 : i ≤ 9) : MsB K cl (iu B i (brn K cl i)) (cS S i (ctc K cl i)) (i + 1) := by
  refine ⟨cS_31 h.1 i0 i9, fun x x0 x1 => ?_⟩
  have hb := bt_cS (p := ctc K cl i) h.1 i0 i9 x0
  by_cases e : x = i
  · subst e
    rw [if_pos rfl] at hb
    exact ⟨iu_self _ _ _, hb⟩
  · rw [if_neg e] at hb
    have q := h.2 x x0 (by omega)
    exact ⟨(iu_ne e).trans q.1, hb.trans q.2⟩
theorem MsH.s {K : Int → Int} {cl : List Cla} {H : Int → Int} {i : Int} (h : MsH K cl H i) : MsH K cl (iu H i (hld K cl i)) (i + 1) := by
  intro k k0 k1
  by_cases e : k = i
  · subst e; exact iu_self _ _ _
  · exact (iu_ne e).trans (h k k0 (by omega))
theorem ms_FiT {Fr To Ln Kd B H K : Int → Int} {dp S : Int} {cl : List Cla} (hK : KOK K) (hP : FrA Fr To Ln Kd dp K) (hB : MsB K cl B S (K 76)) (hH : MsH K cl H 8) : FiT Fr To B H (frK K) (toK K) (brn K cl) (hld K cl) (K 76) S :=
  ⟨hB.1, hK.1, hK.fr, fun i i0 i1 => ⟨(hP.2 i i0 i1).1, (hP.2 i i0 i1).2.1, (hB.2 i i0 i1).1⟩, fun k k0 k7 => hH k k0 (by omega)⟩
set_option maxHeartbeats 4000000 in
set_option maxRecDepth 100000 in
theorem lp_me11 {l : Launch} {E : cE} {d : Nat} {Pz : Option Value → zH → Prop} {h0 : zH} {f0 : mF} {g0 : mA} {j : mA} (hd : 5 ≤ d) {m : Nat} {Vb Te On C : Int → Int} {N n4 : Int} {cl : List Cla} {Fr To Ln Kd K : Int → Int} {dp : Int} (hlm : E.2.1 m = true) (hcls : cCls m = 4) (h16 : 13 ≤ m) (hNl : N ≤ E.2.2 (32 * m + 8)) (hN0 : N ≤ 400) (q3 : n4 ≤ E.2.2 (32 * m + 3)) (q5 : n4 ≤ E.2.2 (32 * m + 5)) (q7 : n4 ≤ E.2.2 (32 * m + 7)) (n40 : 0 ≤ n4) (n12 : n4 ≤ 12) (hsc : ScL Vb On Te C N 0 cl) (hln : n4 = (cl.length : Int)) (hK : KOK K) (hP : FrA Fr To Ln Kd dp K) (kx : ∀ (B Φ : Int → Int) (S : Int) (f : mF) (g : mA) (h : zH), MsB K cl B S (K 76) → Φ 6 = K 75 → Φ 8 = K 28 → g 33 = Fr → g 34 = To → g 35 = Ln → g 36 = Kd → g (32 * m + 3) = Vb → g (32 * m + 7) = Te → g (32 * m + 5) = On → g (32 * m + 8) = C → g 352 = B → g 356 = Φ → f 32 = K 76 → f 37 = dp → f (32 * m + 1) = N → f (32 * m + 0) = n4 → f 354 = S → eqx [354] f0 f → eqx [352, 356, 384] g0 g → HC E f g j h → cAg E h0 h → Z l MX0_measure d 0 0 Pz 49 [some (.ref (E.1 383)), some (.ref (E.1 63)), some (.ref (E.1 (32 * m + 31))), some (vI (K 76))] [] h 0 0)  : ∀ (n : Nat) (i : Int) (B : Int → Int) (S : Int) (Φ : Int → Int) (f : mF) (g : mA) (h : zH) (i0 : 0 ≤ i) (i1 : i ≤ K 76) (i2 : K 76 < i + n) (hB : MsB K cl B S i) (h6 : Φ 6 = K 75) (h8 : Φ 8 = K 28) (eg33 : g 33 = Fr) (eg34 : g 34 = To) (eg35 : g 35 = Ln) (eg36 : g 36 = Kd) (eg352 : g 352 = B) (egm3 : g (32 * m + 3) = Vb) (egm7 : g (32 * m + 7) = Te) (egm5 : g (32 * m + 5) = On) (egm8 : g (32 * m + 8) = C) (eg356 : g 356 = Φ) (ef32 : f 32 = (K 76)) (ef37 : f 37 = dp) (ef354 : f 354 = S) (efm1 : f (32 * m + 1) = N) (efm0 : f (32 * m + 0) = n4) (hfE : eqx [354] f0 f) (hgE : eqx [352, 356, 384] g0 g) (hH : HC E f g j h) (hA : cAg E h0 h), Z l MX0_measure d 0 0 Pz 28 [some (.ref (E.1 383)), some (.ref (E.1 63)), some (.ref (E.1 (32 * m + 31))), some (vI i)] [] h 0 0 := by
  intro n
  induction n with
  | zero => intro i B S Φ f g h i0 i1 i2 hB h6 h8 eg33 eg34 eg35 eg36 eg352 egm3 egm7 egm5 egm8 eg356 ef32 ef37 ef354 efm1 efm0 hfE hgE hH hA; exfalso; omega
  | succ n ih =>
    intro i B S Φ f g h i0 i1 i2 hB h6 h8 eg33 eg34 eg35 eg36 eg352 egm3 egm7 egm5 egm8 eg356 ef32 ef37 ef354 efm1 efm0 hfE hgE hH hA
    have hn := hK.1
    refine z_ild_3 (TX0_measure.at 18 rfl) ?_
    refine z_ald_1 (TX0_measure.at 19 rfl) ?_
    refine zc_getIE (m := 1) (s := 0) (k := 32) (hH.lv (by decide)) ef32 (TX0_measure.at 20 rfl) fl0_43 hH rfl rfl (by decide) (by decide) (fun r30 => ?_)
    refine z_icmp_ge (tgt := 49) (TX0_measure.at 21 rfl) rfl (by omega) (by omega) (fun c1 => ?_) (fun c1 => ?_)
    · skip
      obtain rfl : i = K 76 := by omega
      exact kx _ _ _ _ _ _ hB h6 h8 eg33 eg34 eg35 eg36 egm3 egm7 egm5 egm8 eg352 eg356 ef32 ef37 efm1 efm0 ef354 hfE hgE hH hA
    · skip
      have hpi := hP.2 i i0 (by omega)
      have hki := hK.2.1 i i0 (by omega)
      refine z_ald_0 (TX0_measure.at 22 rfl) ?_
      refine z_ald_1 (TX0_measure.at 23 rfl) ?_
      refine z_ald_2 (TX0_measure.at 24 rfl) ?_
      refine z_ild_3 (TX0_measure.at 25 rfl) ?_
      refine zc_callV3 (m := 11) (c_mf1 eg33 eg34 eg35 eg36 eg352 egm3 egm7 egm5 egm8 eg356 ef37 ef354 efm1 efm0 (by omega) hlm hcls h16 hNl hN0 q3 q5 q7 n40 n12 hsc hln i0 (by omega) h6 h8 hK.2.2.2.2.2.2.2.2.2.1.1 hK.2.2.2.1.1 hB.1 hP.1 ⟨hpi.2.2.2.1, hki.2.2.2.2.2.1⟩ ⟨hpi.1, hki.2.2.1.1⟩ ⟨hpi.2.1, hki.2.2.2.1.1⟩ ⟨hpi.2.2.1, by omega⟩ hki.1 hpi.2.2.2.2) (hH.lv (by decide)) (TX0_measure.at 26 rfl) c0_46 rfl rfl hH hA (by omega) (Nat.le_of_ble_eq_true rfl) (fun f40 g40 j40 h q40 hH hA => ?_)
      obtain ⟨q40, xf, xg, xj⟩ := q40
      rw [xj] at hH
      have ef32 := (xf 32 (by decide)).trans ef32
      have ef37 := (xf 37 (by decide)).trans ef37
      have efm1 := (xf (32 * m + 1) (by simp only [List.mem_cons, List.not_mem_nil, or_false, not_or, not_false_eq_true] <;> omega)).trans efm1
      have efm0 := (xf (32 * m + 0) (by simp only [List.mem_cons, List.not_mem_nil, or_false, not_or, not_false_eq_true] <;> omega)).trans efm0
      have hfE := hfE.trans xf (by decide)
      have eg33 := (xg 33 (by decide)).trans eg33
      have eg34 := (xg 34 (by decide)).trans eg34
      have eg35 := (xg 35 (by decide)).trans eg35
      have eg36 := (xg 36 (by decide)).trans eg36
      have egm3 := (xg (32 * m + 3) (by simp only [List.mem_cons, List.not_mem_nil, or_false, not_or, not_false_eq_true] <;> omega)).trans egm3
      have egm7 := (xg (32 * m + 7) (by simp only [List.mem_cons, List.not_mem_nil, or_false, not_or, not_false_eq_true] <;> omega)).trans egm7
      have egm5 := (xg (32 * m + 5) (by simp only [List.mem_cons, List.not_mem_nil, or_false, not_or, not_false_eq_true] <;> omega)).trans egm5
      have egm8 := (xg (32 * m + 8) (by simp only [List.mem_cons, List.not_mem_nil, or_false, not_or, not_false_eq_true] <;> omega)).trans egm8
      have hgE := hgE.trans xg (by decide)
      have qL := q40
      have eg352 := qL.1
      have ef354 := qL.2.1
      obtain ⟨Φ2, eg356⟩ : ∃ z, g40 356 = z := ⟨_, rfl⟩
      rw [eg356] at qL
      have h62 := qL.2.2.1
      have h82 := qL.2.2.2
      refine z_iinc_3 (TX0_measure.at 27 rfl) (Nat.le_of_ble_eq_true rfl) rfl ?_
      refine z_goto (tgt := 28) (TX0_measure.at 28 rfl) rfl ?_
      exact ih (i + 1) _ _ _ _ _ _ (by omega) (by omega) (by omega) (hB.s i0 (by omega)) h62 h82 eg33 eg34 eg35 eg36 eg352 egm3 egm7 egm5 egm8 eg356 ef32 ef37 ef354 efm1 efm0 hfE hgE hH hA

set_option maxHeartbeats 4000000 in
set_option maxRecDepth 100000 in
theorem lp_me21 {l : Launch} {E : cE} {d : Nat} {Pz : Option Value → zH → Prop} {h0 : zH} {f0 : mF} {g0 : mA} {j : mA} (hd : 5 ≤ d) {m : Nat} {Vb Te On C : Int → Int} {N n4 : Int} {cl : List Cla} {Fr To Ln Kd K : Int → Int} {dp : Int} (hlm : E.2.1 m = true) (hcls : cCls m = 4) (h16 : 13 ≤ m) (hNl : N ≤ E.2.2 (32 * m + 8)) (hN0 : N ≤ 400) (q3 : n4 ≤ E.2.2 (32 * m + 3)) (q5 : n4 ≤ E.2.2 (32 * m + 5)) (q7 : n4 ≤ E.2.2 (32 * m + 7)) (n40 : 0 ≤ n4) (n12 : n4 ≤ 12) (hsc : ScL Vb On Te C N 0 cl) (hln : n4 = (cl.length : Int)) (hK : KOK K) (hP : FrA Fr To Ln Kd dp K) (kx : ∀ (H : Int → Int) (f : mF) (g : mA) (h : zH), MsH K cl H 8 → g 353 = H → eqx [] f0 f → eqx [353, 356, 384] g0 g → HC E f g j h → cAg E h0 h → Z l MX0_measure d 0 0 Pz 70 [some (.ref (E.1 383)), some (.ref (E.1 63)), some (.ref (E.1 (32 * m + 31))), some (vI 8)] [] h 0 0)  : ∀ (n : Nat) (i : Int) (H : Int → Int) (Φ : Int → Int) (f : mF) (g : mA) (h : zH) (i0 : 0 ≤ i) (i1 : i ≤ 8) (i2 : 8 < i + n) (hB : MsH K cl H i) (h6 : Φ 6 = K 75) (h8 : Φ 8 = K 28) (eg33 : g 33 = Fr) (eg34 : g 34 = To) (eg353 : g 353 = H) (egm3 : g (32 * m + 3) = Vb) (egm7 : g (32 * m + 7) = Te) (egm5 : g (32 * m + 5) = On) (egm8 : g (32 * m + 8) = C) (eg356 : g 356 = Φ) (ef32 : f 32 = (K 76)) (efm1 : f (32 * m + 1) = N) (efm0 : f (32 * m + 0) = n4) (hfE : eqx [] f0 f) (hgE : eqx [353, 356, 384] g0 g) (hH : HC E f g j h) (hA : cAg E h0 h), Z l MX0_measure d 0 0 Pz 51 [some (.ref (E.1 383)), some (.ref (E.1 63)), some (.ref (E.1 (32 * m + 31))), some (vI i)] [] h 0 0 := by
  intro n
  induction n with
  | zero => intro i H Φ f g h i0 i1 i2 hB h6 h8 eg33 eg34 eg353 egm3 egm7 egm5 egm8 eg356 ef32 efm1 efm0 hfE hgE hH hA; exfalso; omega
  | succ n ih =>
    intro i H Φ f g h i0 i1 i2 hB h6 h8 eg33 eg34 eg353 egm3 egm7 egm5 egm8 eg356 ef32 efm1 efm0 hfE hgE hH hA
    have hn := hK.1
    refine z_ild_3 (TX0_measure.at 31 rfl) ?_
    refine z_bipush (by decide) (TX0_measure.at 32 rfl) ?_
    refine z_icmp_ge (tgt := 70) (TX0_measure.at 33 rfl) rfl (by omega) (by omega) (fun c1 => ?_) (fun c1 => ?_)
    · skip
      obtain rfl : i = 8 := by omega
      exact kx _ _ _ _ hB eg353 hfE hgE hH hA
    · skip
      refine z_ald_0 (TX0_measure.at 34 rfl) ?_
      refine z_ald_1 (TX0_measure.at 35 rfl) ?_
      refine z_ald_2 (TX0_measure.at 36 rfl) ?_
      refine z_ild_3 (TX0_measure.at 37 rfl) ?_
      refine zc_callV3 (m := 11) (c_mk1 eg33 eg34 eg353 egm3 egm7 egm5 egm8 eg356 ef32 efm1 efm0 (by omega) hlm hcls h16 hNl hN0 q3 q5 q7 n40 n12 hsc hln i0 (by omega) (by omega) (by omega) rfl h6 h8 hK.2.2.2.2.2.2.2.2.2.1.1 hK.2.2.2.1.1 (fun t t0 t1 => ⟨(hP.2 t t0 t1).1, (hP.2 t t0 t1).2.1⟩)) (hH.lv (by decide)) (TX0_measure.at 38 rfl) c0_50 rfl rfl hH hA (by omega) (Nat.le_of_ble_eq_true rfl) (fun f61 g61 j61 h q61 hH hA => ?_)
      obtain ⟨q61, xf, xg, xj⟩ := q61
      rw [xj] at hH
      have ef32 := (xf 32 (by decide)).trans ef32
      have efm1 := (xf (32 * m + 1) (by simp only [List.mem_cons, List.not_mem_nil, or_false, not_or, not_false_eq_true] <;> omega)).trans efm1
      have efm0 := (xf (32 * m + 0) (by simp only [List.mem_cons, List.not_mem_nil, or_false, not_or, not_false_eq_true] <;> omega)).trans efm0
      have hfE := hfE.trans xf (by decide)
      have eg33 := (xg 33 (by decide)).trans eg33
      have eg34 := (xg 34 (by decide)).trans eg34
      have egm3 := (xg (32 * m + 3) (by simp only [List.mem_cons, List.not_mem_nil, or_false, not_or, not_false_eq_true] <;> omega)).trans egm3
      have egm7 := (xg (32 * m + 7) (by simp only [List.mem_cons, List.not_mem_nil, or_false, not_or, not_false_eq_true] <;> omega)).trans egm7
      have egm5 := (xg (32 * m + 5) (by simp only [List.mem_cons, List.not_mem_nil, or_false, not_or, not_false_eq_true] <;> omega)).trans egm5
      have egm8 := (xg (32 * m + 8) (by simp only [List.mem_cons, List.not_mem_nil, or_false, not_or, not_false_eq_true] <;> omega)).trans egm8
      have hgE := hgE.trans xg (by decide)
      have qL := q61
      have eg353 := qL.1
      obtain ⟨Φ2, eg356⟩ : ∃ z, g61 356 = z := ⟨_, rfl⟩
      rw [eg356] at qL
      have h62 := qL.2.1
      have h82 := qL.2.2
      refine z_iinc_3 (TX0_measure.at 39 rfl) (Nat.le_of_ble_eq_true rfl) rfl ?_
      refine z_goto (tgt := 51) (TX0_measure.at 40 rfl) rfl ?_
      exact ih (i + 1) _ _ _ _ _ (by omega) (by omega) (by omega) hB.s h62 h82 eg33 eg34 eg353 egm3 egm7 egm5 egm8 eg356 ef32 efm1 efm0 hfE hgE hH hA

set_option maxHeartbeats 4000000 in
set_option maxRecDepth 100000 in
theorem c_meas1 {l : Launch} {E : cE} {f : mF} {g j : mA} {Fr : Int → Int} {To : Int → Int} {Ln : Int → Int} {Kd : Int → Int} {Tm : Int → Int} {Vb : Int → Int} {Te : Int → Int} {On : Int → Int} {C : Int → Int} {Φ : Int → Int} {dp : Int} {S : Int} {N : Int} {n4 : Int} {m : Nat} {cl : List Cla} {K : Int → Int} (eg33 : g 33 = Fr) (eg34 : g 34 = To) (eg35 : g 35 = Ln) (eg36 : g 36 = Kd) (eg44 : g 44 = Tm) (egm3 : g (32 * m + 3) = Vb) (egm7 : g (32 * m + 7) = Te) (egm5 : g (32 * m + 5) = On) (egm8 : g (32 * m + 8) = C) (eg356 : g 356 = Φ) (ef32 : f 32 = (K 76)) (ef37 : f 37 = dp) (ef354 : f 354 = S) (efm1 : f (32 * m + 1) = N) (efm0 : f (32 * m + 0) = n4) (hlm : E.2.1 m = true) (hcls : cCls m = 4) (h16 : 13 ≤ m) (hNl : N ≤ E.2.2 (32 * m + 8)) (hN0 : N ≤ 400) (q3 : n4 ≤ E.2.2 (32 * m + 3)) (q5 : n4 ≤ E.2.2 (32 * m + 5)) (q7 : n4 ≤ E.2.2 (32 * m + 7)) (n40 : 0 ≤ n4) (n12 : n4 ≤ 12) (hsc : ScL Vb On Te C N 0 cl) (hln : n4 = (cl.length : Int)) (hK : KOK K) (hP : FrA Fr To Ln Kd dp K) (hS : z31 S) (t0 : Tm 0 = K 28) (t2 : Tm 2 = K 75) : CM l E MX0_measure 5 [.ref (E.1 383), .ref (E.1 63), .ref (E.1 (32 * m + 31))] f g j (PV (fun f' g' j' => (FiT Fr To (g' 352) (g' 353) (frK K) (toK K) (brn K cl) (hld K cl) (K 76) (f' 354) ∧ ∀ x : Int, 0 ≤ x → x < K 76 → (bt (f' 354) x ↔ ctc K cl x)) ∧ eqx [354] f f' ∧ eqx [352, 353, 356, 384] g g' ∧ j' = j)) := by
  refine CM.intro [some (.ref (E.1 383)), some (.ref (E.1 63)), some (.ref (E.1 (32 * m + 31))), none] (by decide) (Nat.le_of_ble_eq_true rfl) rfl (fun d hd h0 h hH hA => ?_)
  have hfE : eqx [354] f f := eqx.rf
  have hgE : eqx [352, 353, 356, 384] g g := eqx.rf
  refine z_ald_0 (TX0_measure.at 0 rfl) ?_
  refine zc_getA (m := 11) (s := 4) (k := 356) (hH.lv (by decide)) (TX0_measure.at 1 rfl) fl0_25 hH rfl rfl (by decide) (by decide) ?_
  refine z_bipush (by decide) (TX0_measure.at 2 rfl) ?_
  refine z_ald_1 (TX0_measure.at 3 rfl) ?_
  refine zc_getA (m := 1) (s := 12) (k := 44) (hH.lv (by decide)) (TX0_measure.at 4 rfl) fl0_38 hH rfl rfl (by decide) (by decide) ?_
  refine z_iconst (TX0_measure.at 5 rfl) ?_
  refine zcf_iald (k := 44) (N := 3) (hH.lv (by decide)) (by decide) rfl eg44 (TX0_measure.at 6 rfl) hH (by decide) (by omega) (show _ < ((3 : Nat) : Int) by omega) (fun r11 => ?_)
  refine zcf_iast (k := 356) (N := 31) (hH.lv (by decide)) (by decide) rfl (TX0_measure.at 7 rfl) hH hA (by decide) (by omega) (show _ < ((31 : Nat) : Int) by omega) (by omega) (fun h g12 e1 e2 hH hA => ?_)
  have eg33 := (e1 33 (by decide)).trans eg33
  have eg34 := (e1 34 (by decide)).trans eg34
  have eg35 := (e1 35 (by decide)).trans eg35
  have eg36 := (e1 36 (by decide)).trans eg36
  have eg44 := (e1 44 (by decide)).trans eg44
  have egm3 := (e1 (32 * m + 3) (by omega)).trans egm3
  have egm7 := (e1 (32 * m + 7) (by omega)).trans egm7
  have egm5 := (e1 (32 * m + 5) (by omega)).trans egm5
  have egm8 := (e1 (32 * m + 8) (by omega)).trans egm8
  rw [eg356] at e2; have eg356 := e2
  have hgE := hgE.put e1 (by decide)
  refine z_ald_0 (TX0_measure.at 8 rfl) ?_
  refine zc_getA (m := 11) (s := 4) (k := 356) (hH.lv (by decide)) (TX0_measure.at 9 rfl) fl0_25 hH rfl rfl (by decide) (by decide) ?_
  refine z_bipush (by decide) (TX0_measure.at 10 rfl) ?_
  refine z_ald_1 (TX0_measure.at 11 rfl) ?_
  refine zc_getA (m := 1) (s := 12) (k := 44) (hH.lv (by decide)) (TX0_measure.at 12 rfl) fl0_38 hH rfl rfl (by decide) (by decide) ?_
  refine z_iconst (TX0_measure.at 13 rfl) ?_
  refine zcf_iald (k := 44) (N := 3) (hH.lv (by decide)) (by decide) rfl eg44 (TX0_measure.at 14 rfl) hH (by decide) (by omega) (show _ < ((3 : Nat) : Int) by omega) (fun r24 => ?_)
  refine zcf_iast (k := 356) (N := 31) (hH.lv (by decide)) (by decide) rfl (TX0_measure.at 15 rfl) hH hA (by decide) (by omega) (show _ < ((31 : Nat) : Int) by omega) (by omega) (fun h g25 e1 e2 hH hA => ?_)
  have eg33 := (e1 33 (by decide)).trans eg33
  have eg34 := (e1 34 (by decide)).trans eg34
  have eg35 := (e1 35 (by decide)).trans eg35
  have eg36 := (e1 36 (by decide)).trans eg36
  have eg44 := (e1 44 (by decide)).trans eg44
  have egm3 := (e1 (32 * m + 3) (by omega)).trans egm3
  have egm7 := (e1 (32 * m + 7) (by omega)).trans egm7
  have egm5 := (e1 (32 * m + 5) (by omega)).trans egm5
  have egm8 := (e1 (32 * m + 8) (by omega)).trans egm8
  rw [eg356] at e2; have eg356 := e2
  have hgE := hgE.put e1 (by decide)
  refine z_iconst (TX0_measure.at 16 rfl) ?_
  refine z_ist_3 (TX0_measure.at 17 rfl) (Nat.le_of_ble_eq_true rfl) rfl ?_
  have hn := hK.1
  refine lp_me11 hd hlm hcls h16 hNl hN0 q3 q5 q7 n40 n12 hsc hln hK hP (fun B2 Φ2 S2 f3 g3 h3 hB h6 h8 eg33 eg34 eg35 eg36 egm3 egm7 egm5 egm8 eg352 eg356 ef32 ef37 efm1 efm0 ef354 xf xg hH hA => ?_) 11 0 _ S _ _ _ _ (by omega) (by omega) (by omega) ⟨hS, fun x x0 x1 => by omega⟩ (by rw [← t2]; rfl) (by rw [← t0]; rfl) eg33 eg34 eg35 eg36 rfl egm3 egm7 egm5 egm8 eg356 ef32 ef37 ef354 efm1 efm0 eqx.rf eqx.rf hH hA
  refine z_iconst (TX0_measure.at 29 rfl) ?_
  refine z_ist_3 (TX0_measure.at 30 rfl) (Nat.le_of_ble_eq_true rfl) rfl ?_
  refine lp_me21 hd hlm hcls h16 hNl hN0 q3 q5 q7 n40 n12 hsc hln hK hP (fun H2 f4 g4 h4 hH2 eg353 yf yg hH hA => ?_) 9 0 (g3 353) Φ2 _ _ _ (by omega) (by omega) (by omega) (fun k k0 k1 => by omega) h6 h8 eg33 eg34 rfl egm3 egm7 egm5 egm8 eg356 ef32 efm1 efm0 eqx.rf eqx.rf hH hA
  refine zc_vret (TX0_measure.at 41 rfl) rfl hH hA ?_
  have e352 := (yg 352 (by decide)).trans eg352
  have e354 := (yf 354 (by decide)).trans ef354
  rw [← eg353] at hH2
  rw [← e352, ← e354] at hB
  exact ⟨⟨ms_FiT hK hP hB hH2, fun x x0 x1 => (hB.2 x x0 x1).2⟩, (hfE.trans xf (by decide)).trans yf (by decide), (hgE.trans xg (by decide)).trans yg (by decide), rfl⟩

set_option maxHeartbeats 4000000 in
set_option maxRecDepth 100000 in
theorem lp_me1N1 {l : Launch} {E : cE} {d : Nat} {Pz : Option Value → zH → Prop} {h0 : zH} {f0 : mF} {g0 : mA} {j : mA} (hd : 5 ≤ d) {Fr To Ln Kd K : Int → Int} {dp : Int}  (hK : KOK K) (hP : FrA Fr To Ln Kd dp K) (kx : ∀ (B Φ : Int → Int) (S : Int) (f : mF) (g : mA) (h : zH), MsB K [] B S (K 76) → Φ 6 = K 75 → Φ 8 = K 28 → g 33 = Fr → g 34 = To → g 35 = Ln → g 36 = Kd → g 352 = B → g 356 = Φ → f 32 = K 76 → f 37 = dp → f 354 = S → eqx [354] f0 f → eqx [352, 356, 384] g0 g → HC E f g j h → cAg E h0 h → Z l MX0_measure d 0 0 Pz 49 [some (.ref (E.1 383)), some (.ref (E.1 63)), some (.null), some (vI (K 76))] [] h 0 0)  : ∀ (n : Nat) (i : Int) (B : Int → Int) (S : Int) (Φ : Int → Int) (f : mF) (g : mA) (h : zH) (i0 : 0 ≤ i) (i1 : i ≤ K 76) (i2 : K 76 < i + n) (hB : MsB K [] B S i) (h6 : Φ 6 = K 75) (h8 : Φ 8 = K 28) (eg33 : g 33 = Fr) (eg34 : g 34 = To) (eg35 : g 35 = Ln) (eg36 : g 36 = Kd) (eg352 : g 352 = B) (eg356 : g 356 = Φ) (ef32 : f 32 = (K 76)) (ef37 : f 37 = dp) (ef354 : f 354 = S) (hfE : eqx [354] f0 f) (hgE : eqx [352, 356, 384] g0 g) (hH : HC E f g j h) (hA : cAg E h0 h), Z l MX0_measure d 0 0 Pz 28 [some (.ref (E.1 383)), some (.ref (E.1 63)), some (.null), some (vI i)] [] h 0 0 := by
  intro n
  induction n with
  | zero => intro i B S Φ f g h i0 i1 i2 hB h6 h8 eg33 eg34 eg35 eg36 eg352 eg356 ef32 ef37 ef354 hfE hgE hH hA; exfalso; omega
  | succ n ih =>
    intro i B S Φ f g h i0 i1 i2 hB h6 h8 eg33 eg34 eg35 eg36 eg352 eg356 ef32 ef37 ef354 hfE hgE hH hA
    have hn := hK.1
    refine z_ild_3 (TX0_measure.at 18 rfl) ?_
    refine z_ald_1 (TX0_measure.at 19 rfl) ?_
    refine zc_getIE (m := 1) (s := 0) (k := 32) (hH.lv (by decide)) ef32 (TX0_measure.at 20 rfl) fl0_43 hH rfl rfl (by decide) (by decide) (fun r30 => ?_)
    refine z_icmp_ge (tgt := 49) (TX0_measure.at 21 rfl) rfl (by omega) (by omega) (fun c1 => ?_) (fun c1 => ?_)
    · skip
      obtain rfl : i = K 76 := by omega
      exact kx _ _ _ _ _ _ hB h6 h8 eg33 eg34 eg35 eg36 eg352 eg356 ef32 ef37 ef354 hfE hgE hH hA
    · skip
      have hpi := hP.2 i i0 (by omega)
      have hki := hK.2.1 i i0 (by omega)
      refine z_ald_0 (TX0_measure.at 22 rfl) ?_
      refine z_ald_1 (TX0_measure.at 23 rfl) ?_
      refine z_nld_2 (TX0_measure.at 24 rfl) ?_
      refine z_ild_3 (TX0_measure.at 25 rfl) ?_
      refine zc_callV3 (m := 11) (c_mfN1 eg33 eg34 eg35 eg36 eg352 eg356 ef37 ef354 (by omega) i0 (by omega) h6 h8 hK.2.2.2.2.2.2.2.2.2.1.1 hK.2.2.2.1.1 hB.1 hP.1 ⟨hpi.2.2.2.1, hki.2.2.2.2.2.1⟩ ⟨hpi.1, hki.2.2.1.1⟩ ⟨hpi.2.1, hki.2.2.2.1.1⟩ ⟨hpi.2.2.1, by omega⟩ hki.1 hpi.2.2.2.2) (hH.lv (by decide)) (TX0_measure.at 26 rfl) c0_46 rfl rfl hH hA (by omega) (Nat.le_of_ble_eq_true rfl) (fun f40 g40 j40 h q40 hH hA => ?_)
      obtain ⟨q40, xf, xg, xj⟩ := q40
      rw [xj] at hH
      have ef32 := (xf 32 (by decide)).trans ef32
      have ef37 := (xf 37 (by decide)).trans ef37
      have hfE := hfE.trans xf (by decide)
      have eg33 := (xg 33 (by decide)).trans eg33
      have eg34 := (xg 34 (by decide)).trans eg34
      have eg35 := (xg 35 (by decide)).trans eg35
      have eg36 := (xg 36 (by decide)).trans eg36
      have hgE := hgE.trans xg (by decide)
      have qL := q40
      have eg352 := qL.1
      have ef354 := qL.2.1
      obtain ⟨Φ2, eg356⟩ : ∃ z, g40 356 = z := ⟨_, rfl⟩
      rw [eg356] at qL
      have h62 := qL.2.2.1
      have h82 := qL.2.2.2
      refine z_iinc_3 (TX0_measure.at 27 rfl) (Nat.le_of_ble_eq_true rfl) rfl ?_
      refine z_goto (tgt := 28) (TX0_measure.at 28 rfl) rfl ?_
      exact ih (i + 1) _ _ _ _ _ _ (by omega) (by omega) (by omega) (hB.s i0 (by omega)) h62 h82 eg33 eg34 eg35 eg36 eg352 eg356 ef32 ef37 ef354 hfE hgE hH hA

set_option maxHeartbeats 4000000 in
set_option maxRecDepth 100000 in
theorem lp_me2N1 {l : Launch} {E : cE} {d : Nat} {Pz : Option Value → zH → Prop} {h0 : zH} {f0 : mF} {g0 : mA} {j : mA} (hd : 5 ≤ d) {Fr To Ln Kd K : Int → Int} {dp : Int}  (hK : KOK K) (hP : FrA Fr To Ln Kd dp K) (kx : ∀ (H : Int → Int) (f : mF) (g : mA) (h : zH), MsH K [] H 8 → g 353 = H → eqx [] f0 f → eqx [353, 356, 384] g0 g → HC E f g j h → cAg E h0 h → Z l MX0_measure d 0 0 Pz 70 [some (.ref (E.1 383)), some (.ref (E.1 63)), some (.null), some (vI 8)] [] h 0 0)  : ∀ (n : Nat) (i : Int) (H : Int → Int) (Φ : Int → Int) (f : mF) (g : mA) (h : zH) (i0 : 0 ≤ i) (i1 : i ≤ 8) (i2 : 8 < i + n) (hB : MsH K [] H i) (h6 : Φ 6 = K 75) (h8 : Φ 8 = K 28) (eg33 : g 33 = Fr) (eg34 : g 34 = To) (eg353 : g 353 = H) (eg356 : g 356 = Φ) (ef32 : f 32 = (K 76)) (hfE : eqx [] f0 f) (hgE : eqx [353, 356, 384] g0 g) (hH : HC E f g j h) (hA : cAg E h0 h), Z l MX0_measure d 0 0 Pz 51 [some (.ref (E.1 383)), some (.ref (E.1 63)), some (.null), some (vI i)] [] h 0 0 := by
  intro n
  induction n with
  | zero => intro i H Φ f g h i0 i1 i2 hB h6 h8 eg33 eg34 eg353 eg356 ef32 hfE hgE hH hA; exfalso; omega
  | succ n ih =>
    intro i H Φ f g h i0 i1 i2 hB h6 h8 eg33 eg34 eg353 eg356 ef32 hfE hgE hH hA
    have hn := hK.1
    refine z_ild_3 (TX0_measure.at 31 rfl) ?_
    refine z_bipush (by decide) (TX0_measure.at 32 rfl) ?_
    refine z_icmp_ge (tgt := 70) (TX0_measure.at 33 rfl) rfl (by omega) (by omega) (fun c1 => ?_) (fun c1 => ?_)
    · skip
      obtain rfl : i = 8 := by omega
      exact kx _ _ _ _ hB eg353 hfE hgE hH hA
    · skip
      refine z_ald_0 (TX0_measure.at 34 rfl) ?_
      refine z_ald_1 (TX0_measure.at 35 rfl) ?_
      refine z_nld_2 (TX0_measure.at 36 rfl) ?_
      refine z_ild_3 (TX0_measure.at 37 rfl) ?_
      refine zc_callV3 (m := 11) (c_mkN1 eg33 eg34 eg353 eg356 ef32 (by omega) i0 (by omega) (by omega) (by omega) rfl h6 h8 hK.2.2.2.2.2.2.2.2.2.1.1 hK.2.2.2.1.1 (fun t t0 t1 => ⟨(hP.2 t t0 t1).1, (hP.2 t t0 t1).2.1⟩)) (hH.lv (by decide)) (TX0_measure.at 38 rfl) c0_50 rfl rfl hH hA (by omega) (Nat.le_of_ble_eq_true rfl) (fun f61 g61 j61 h q61 hH hA => ?_)
      obtain ⟨q61, xf, xg, xj⟩ := q61
      rw [xj] at hH
      have ef32 := (xf 32 (by decide)).trans ef32
      have hfE := hfE.trans xf (by decide)
      have eg33 := (xg 33 (by decide)).trans eg33
      have eg34 := (xg 34 (by decide)).trans eg34
      have hgE := hgE.trans xg (by decide)
      have qL := q61
      have eg353 := qL.1
      obtain ⟨Φ2, eg356⟩ : ∃ z, g61 356 = z := ⟨_, rfl⟩
      rw [eg356] at qL
      have h62 := qL.2.1
      have h82 := qL.2.2
      refine z_iinc_3 (TX0_measure.at 39 rfl) (Nat.le_of_ble_eq_true rfl) rfl ?_
      refine z_goto (tgt := 51) (TX0_measure.at 40 rfl) rfl ?_
      exact ih (i + 1) _ _ _ _ _ (by omega) (by omega) (by omega) hB.s h62 h82 eg33 eg34 eg353 eg356 ef32 hfE hgE hH hA

set_option maxHeartbeats 4000000 in
set_option maxRecDepth 100000 in
theorem c_measN1 {l : Launch} {E : cE} {f : mF} {g j : mA} {Fr : Int → Int} {To : Int → Int} {Ln : Int → Int} {Kd : Int → Int} {Tm : Int → Int} {Φ : Int → Int} {dp : Int} {S : Int} {K : Int → Int} (eg33 : g 33 = Fr) (eg34 : g 34 = To) (eg35 : g 35 = Ln) (eg36 : g 36 = Kd) (eg44 : g 44 = Tm) (eg356 : g 356 = Φ) (ef32 : f 32 = (K 76)) (ef37 : f 37 = dp) (ef354 : f 354 = S) (hK : KOK K) (hP : FrA Fr To Ln Kd dp K) (hS : z31 S) (t0 : Tm 0 = K 28) (t2 : Tm 2 = K 75) : CM l E MX0_measure 5 [.ref (E.1 383), .ref (E.1 63), .null] f g j (PV (fun f' g' j' => (FiT Fr To (g' 352) (g' 353) (frK K) (toK K) (brn K []) (hld K []) (K 76) (f' 354) ∧ ∀ x : Int, 0 ≤ x → x < K 76 → (bt (f' 354) x ↔ ctc K [] x)) ∧ eqx [354] f f' ∧ eqx [352, 353, 356, 384] g g' ∧ j' = j)) := by
  refine CM.intro [some (.ref (E.1 383)), some (.ref (E.1 63)), some (.null), none] (by decide) (Nat.le_of_ble_eq_true rfl) rfl (fun d hd h0 h hH hA => ?_)
  have hfE : eqx [354] f f := eqx.rf
  have hgE : eqx [352, 353, 356, 384] g g := eqx.rf
  refine z_ald_0 (TX0_measure.at 0 rfl) ?_
  refine zc_getA (m := 11) (s := 4) (k := 356) (hH.lv (by decide)) (TX0_measure.at 1 rfl) fl0_25 hH rfl rfl (by decide) (by decide) ?_
  refine z_bipush (by decide) (TX0_measure.at 2 rfl) ?_
  refine z_ald_1 (TX0_measure.at 3 rfl) ?_
  refine zc_getA (m := 1) (s := 12) (k := 44) (hH.lv (by decide)) (TX0_measure.at 4 rfl) fl0_38 hH rfl rfl (by decide) (by decide) ?_
  refine z_iconst (TX0_measure.at 5 rfl) ?_
  refine zcf_iald (k := 44) (N := 3) (hH.lv (by decide)) (by decide) rfl eg44 (TX0_measure.at 6 rfl) hH (by decide) (by omega) (show _ < ((3 : Nat) : Int) by omega) (fun r11 => ?_)
  refine zcf_iast (k := 356) (N := 31) (hH.lv (by decide)) (by decide) rfl (TX0_measure.at 7 rfl) hH hA (by decide) (by omega) (show _ < ((31 : Nat) : Int) by omega) (by omega) (fun h g12 e1 e2 hH hA => ?_)
  have eg33 := (e1 33 (by decide)).trans eg33
  have eg34 := (e1 34 (by decide)).trans eg34
  have eg35 := (e1 35 (by decide)).trans eg35
  have eg36 := (e1 36 (by decide)).trans eg36
  have eg44 := (e1 44 (by decide)).trans eg44
  rw [eg356] at e2; have eg356 := e2
  have hgE := hgE.put e1 (by decide)
  refine z_ald_0 (TX0_measure.at 8 rfl) ?_
  refine zc_getA (m := 11) (s := 4) (k := 356) (hH.lv (by decide)) (TX0_measure.at 9 rfl) fl0_25 hH rfl rfl (by decide) (by decide) ?_
  refine z_bipush (by decide) (TX0_measure.at 10 rfl) ?_
  refine z_ald_1 (TX0_measure.at 11 rfl) ?_
  refine zc_getA (m := 1) (s := 12) (k := 44) (hH.lv (by decide)) (TX0_measure.at 12 rfl) fl0_38 hH rfl rfl (by decide) (by decide) ?_
  refine z_iconst (TX0_measure.at 13 rfl) ?_
  refine zcf_iald (k := 44) (N := 3) (hH.lv (by decide)) (by decide) rfl eg44 (TX0_measure.at 14 rfl) hH (by decide) (by omega) (show _ < ((3 : Nat) : Int) by omega) (fun r24 => ?_)
  refine zcf_iast (k := 356) (N := 31) (hH.lv (by decide)) (by decide) rfl (TX0_measure.at 15 rfl) hH hA (by decide) (by omega) (show _ < ((31 : Nat) : Int) by omega) (by omega) (fun h g25 e1 e2 hH hA => ?_)
  have eg33 := (e1 33 (by decide)).trans eg33
  have eg34 := (e1 34 (by decide)).trans eg34
  have eg35 := (e1 35 (by decide)).trans eg35
  have eg36 := (e1 36 (by decide)).trans eg36
  have eg44 := (e1 44 (by decide)).trans eg44
  rw [eg356] at e2; have eg356 := e2
  have hgE := hgE.put e1 (by decide)
  refine z_iconst (TX0_measure.at 16 rfl) ?_
  refine z_ist_3 (TX0_measure.at 17 rfl) (Nat.le_of_ble_eq_true rfl) rfl ?_
  have hn := hK.1
  refine lp_me1N1 hd hK hP (fun B2 Φ2 S2 f3 g3 h3 hB h6 h8 eg33 eg34 eg35 eg36 eg352 eg356 ef32 ef37 ef354 xf xg hH hA => ?_) 11 0 _ S _ _ _ _ (by omega) (by omega) (by omega) ⟨hS, fun x x0 x1 => by omega⟩ (by rw [← t2]; rfl) (by rw [← t0]; rfl) eg33 eg34 eg35 eg36 rfl eg356 ef32 ef37 ef354 eqx.rf eqx.rf hH hA
  refine z_iconst (TX0_measure.at 29 rfl) ?_
  refine z_ist_3 (TX0_measure.at 30 rfl) (Nat.le_of_ble_eq_true rfl) rfl ?_
  refine lp_me2N1 hd hK hP (fun H2 f4 g4 h4 hH2 eg353 yf yg hH hA => ?_) 9 0 (g3 353) Φ2 _ _ _ (by omega) (by omega) (by omega) (fun k k0 k1 => by omega) h6 h8 eg33 eg34 rfl eg356 ef32 eqx.rf eqx.rf hH hA
  refine zc_vret (TX0_measure.at 41 rfl) rfl hH hA ?_
  have e352 := (yg 352 (by decide)).trans eg352
  have e354 := (yf 354 (by decide)).trans ef354
  rw [← eg353] at hH2
  rw [← e352, ← e354] at hB
  exact ⟨⟨ms_FiT hK hP hB hH2, fun x x0 x1 => (hB.2 x x0 x1).2⟩, (hfE.trans xf (by decide)).trans yf (by decide), (hgE.trans xg (by decide)).trans yg (by decide), rfl⟩

set_option maxHeartbeats 4000000 in
set_option maxRecDepth 100000 in
theorem lp_me13 {l : Launch} {E : cE} {d : Nat} {Pz : Option Value → zH → Prop} {h0 : zH} {f0 : mF} {g0 : mA} {j : mA} (hd : 5 ≤ d) {m : Nat} {Vb Te On C : Int → Int} {N n4 : Int} {cl : List Cla} {Fr To Ln Kd K : Int → Int} {dp : Int} (hlm : E.2.1 m = true) (hcls : cCls m = 4) (h16 : 13 ≤ m) (hNl : N ≤ E.2.2 (32 * m + 8)) (hN0 : N ≤ 400) (q3 : n4 ≤ E.2.2 (32 * m + 3)) (q5 : n4 ≤ E.2.2 (32 * m + 5)) (q7 : n4 ≤ E.2.2 (32 * m + 7)) (n40 : 0 ≤ n4) (n12 : n4 ≤ 12) (hsc : ScL Vb On Te C N 0 cl) (hln : n4 = (cl.length : Int)) (hK : KOK K) (hP : FrA Fr To Ln Kd dp K) (kx : ∀ (B Φ : Int → Int) (S : Int) (f : mF) (g : mA) (h : zH), MsB K cl B S (K 76) → Φ 6 = K 75 → Φ 8 = K 28 → g 97 = Fr → g 98 = To → g 99 = Ln → g 100 = Kd → g (32 * m + 3) = Vb → g (32 * m + 7) = Te → g (32 * m + 5) = On → g (32 * m + 8) = C → g 352 = B → g 356 = Φ → f 96 = K 76 → f 101 = dp → f (32 * m + 1) = N → f (32 * m + 0) = n4 → f 354 = S → eqx [354] f0 f → eqx [352, 356, 384] g0 g → HC E f g j h → cAg E h0 h → Z l MX0_measure d 0 0 Pz 49 [some (.ref (E.1 383)), some (.ref (E.1 127)), some (.ref (E.1 (32 * m + 31))), some (vI (K 76))] [] h 0 0)  : ∀ (n : Nat) (i : Int) (B : Int → Int) (S : Int) (Φ : Int → Int) (f : mF) (g : mA) (h : zH) (i0 : 0 ≤ i) (i1 : i ≤ K 76) (i2 : K 76 < i + n) (hB : MsB K cl B S i) (h6 : Φ 6 = K 75) (h8 : Φ 8 = K 28) (eg97 : g 97 = Fr) (eg98 : g 98 = To) (eg99 : g 99 = Ln) (eg100 : g 100 = Kd) (eg352 : g 352 = B) (egm3 : g (32 * m + 3) = Vb) (egm7 : g (32 * m + 7) = Te) (egm5 : g (32 * m + 5) = On) (egm8 : g (32 * m + 8) = C) (eg356 : g 356 = Φ) (ef96 : f 96 = (K 76)) (ef101 : f 101 = dp) (ef354 : f 354 = S) (efm1 : f (32 * m + 1) = N) (efm0 : f (32 * m + 0) = n4) (hfE : eqx [354] f0 f) (hgE : eqx [352, 356, 384] g0 g) (hH : HC E f g j h) (hA : cAg E h0 h), Z l MX0_measure d 0 0 Pz 28 [some (.ref (E.1 383)), some (.ref (E.1 127)), some (.ref (E.1 (32 * m + 31))), some (vI i)] [] h 0 0 := by
  intro n
  induction n with
  | zero => intro i B S Φ f g h i0 i1 i2 hB h6 h8 eg97 eg98 eg99 eg100 eg352 egm3 egm7 egm5 egm8 eg356 ef96 ef101 ef354 efm1 efm0 hfE hgE hH hA; exfalso; omega
  | succ n ih =>
    intro i B S Φ f g h i0 i1 i2 hB h6 h8 eg97 eg98 eg99 eg100 eg352 egm3 egm7 egm5 egm8 eg356 ef96 ef101 ef354 efm1 efm0 hfE hgE hH hA
    have hn := hK.1
    refine z_ild_3 (TX0_measure.at 18 rfl) ?_
    refine z_ald_1 (TX0_measure.at 19 rfl) ?_
    refine zc_getIE (m := 3) (s := 0) (k := 96) (hH.lv (by decide)) ef96 (TX0_measure.at 20 rfl) fl0_43 hH rfl rfl (by decide) (by decide) (fun r30 => ?_)
    refine z_icmp_ge (tgt := 49) (TX0_measure.at 21 rfl) rfl (by omega) (by omega) (fun c1 => ?_) (fun c1 => ?_)
    · skip
      obtain rfl : i = K 76 := by omega
      exact kx _ _ _ _ _ _ hB h6 h8 eg97 eg98 eg99 eg100 egm3 egm7 egm5 egm8 eg352 eg356 ef96 ef101 efm1 efm0 ef354 hfE hgE hH hA
    · skip
      have hpi := hP.2 i i0 (by omega)
      have hki := hK.2.1 i i0 (by omega)
      refine z_ald_0 (TX0_measure.at 22 rfl) ?_
      refine z_ald_1 (TX0_measure.at 23 rfl) ?_
      refine z_ald_2 (TX0_measure.at 24 rfl) ?_
      refine z_ild_3 (TX0_measure.at 25 rfl) ?_
      refine zc_callV3 (m := 11) (c_mf3 eg97 eg98 eg99 eg100 eg352 egm3 egm7 egm5 egm8 eg356 ef101 ef354 efm1 efm0 (by omega) hlm hcls h16 hNl hN0 q3 q5 q7 n40 n12 hsc hln i0 (by omega) h6 h8 hK.2.2.2.2.2.2.2.2.2.1.1 hK.2.2.2.1.1 hB.1 hP.1 ⟨hpi.2.2.2.1, hki.2.2.2.2.2.1⟩ ⟨hpi.1, hki.2.2.1.1⟩ ⟨hpi.2.1, hki.2.2.2.1.1⟩ ⟨hpi.2.2.1, by omega⟩ hki.1 hpi.2.2.2.2) (hH.lv (by decide)) (TX0_measure.at 26 rfl) c0_46 rfl rfl hH hA (by omega) (Nat.le_of_ble_eq_true rfl) (fun f40 g40 j40 h q40 hH hA => ?_)
      obtain ⟨q40, xf, xg, xj⟩ := q40
      rw [xj] at hH
      have ef96 := (xf 96 (by decide)).trans ef96
      have ef101 := (xf 101 (by decide)).trans ef101
      have efm1 := (xf (32 * m + 1) (by simp only [List.mem_cons, List.not_mem_nil, or_false, not_or, not_false_eq_true] <;> omega)).trans efm1
      have efm0 := (xf (32 * m + 0) (by simp only [List.mem_cons, List.not_mem_nil, or_false, not_or, not_false_eq_true] <;> omega)).trans efm0
      have hfE := hfE.trans xf (by decide)
      have eg97 := (xg 97 (by decide)).trans eg97
      have eg98 := (xg 98 (by decide)).trans eg98
      have eg99 := (xg 99 (by decide)).trans eg99
      have eg100 := (xg 100 (by decide)).trans eg100
      have egm3 := (xg (32 * m + 3) (by simp only [List.mem_cons, List.not_mem_nil, or_false, not_or, not_false_eq_true] <;> omega)).trans egm3
      have egm7 := (xg (32 * m + 7) (by simp only [List.mem_cons, List.not_mem_nil, or_false, not_or, not_false_eq_true] <;> omega)).trans egm7
      have egm5 := (xg (32 * m + 5) (by simp only [List.mem_cons, List.not_mem_nil, or_false, not_or, not_false_eq_true] <;> omega)).trans egm5
      have egm8 := (xg (32 * m + 8) (by simp only [List.mem_cons, List.not_mem_nil, or_false, not_or, not_false_eq_true] <;> omega)).trans egm8
      have hgE := hgE.trans xg (by decide)
      have qL := q40
      have eg352 := qL.1
      have ef354 := qL.2.1
      obtain ⟨Φ2, eg356⟩ : ∃ z, g40 356 = z := ⟨_, rfl⟩
      rw [eg356] at qL
      have h62 := qL.2.2.1
      have h82 := qL.2.2.2
      refine z_iinc_3 (TX0_measure.at 27 rfl) (Nat.le_of_ble_eq_true rfl) rfl ?_
      refine z_goto (tgt := 28) (TX0_measure.at 28 rfl) rfl ?_
      exact ih (i + 1) _ _ _ _ _ _ (by omega) (by omega) (by omega) (hB.s i0 (by omega)) h62 h82 eg97 eg98 eg99 eg100 eg352 egm3 egm7 egm5 egm8 eg356 ef96 ef101 ef354 efm1 efm0 hfE hgE hH hA

set_option maxHeartbeats 4000000 in
set_option maxRecDepth 100000 in
theorem lp_me23 {l : Launch} {E : cE} {d : Nat} {Pz : Option Value → zH → Prop} {h0 : zH} {f0 : mF} {g0 : mA} {j : mA} (hd : 5 ≤ d) {m : Nat} {Vb Te On C : Int → Int} {N n4 : Int} {cl : List Cla} {Fr To Ln Kd K : Int → Int} {dp : Int} (hlm : E.2.1 m = true) (hcls : cCls m = 4) (h16 : 13 ≤ m) (hNl : N ≤ E.2.2 (32 * m + 8)) (hN0 : N ≤ 400) (q3 : n4 ≤ E.2.2 (32 * m + 3)) (q5 : n4 ≤ E.2.2 (32 * m + 5)) (q7 : n4 ≤ E.2.2 (32 * m + 7)) (n40 : 0 ≤ n4) (n12 : n4 ≤ 12) (hsc : ScL Vb On Te C N 0 cl) (hln : n4 = (cl.length : Int)) (hK : KOK K) (hP : FrA Fr To Ln Kd dp K) (kx : ∀ (H : Int → Int) (f : mF) (g : mA) (h : zH), MsH K cl H 8 → g 353 = H → eqx [] f0 f → eqx [353, 356, 384] g0 g → HC E f g j h → cAg E h0 h → Z l MX0_measure d 0 0 Pz 70 [some (.ref (E.1 383)), some (.ref (E.1 127)), some (.ref (E.1 (32 * m + 31))), some (vI 8)] [] h 0 0)  : ∀ (n : Nat) (i : Int) (H : Int → Int) (Φ : Int → Int) (f : mF) (g : mA) (h : zH) (i0 : 0 ≤ i) (i1 : i ≤ 8) (i2 : 8 < i + n) (hB : MsH K cl H i) (h6 : Φ 6 = K 75) (h8 : Φ 8 = K 28) (eg97 : g 97 = Fr) (eg98 : g 98 = To) (eg353 : g 353 = H) (egm3 : g (32 * m + 3) = Vb) (egm7 : g (32 * m + 7) = Te) (egm5 : g (32 * m + 5) = On) (egm8 : g (32 * m + 8) = C) (eg356 : g 356 = Φ) (ef96 : f 96 = (K 76)) (efm1 : f (32 * m + 1) = N) (efm0 : f (32 * m + 0) = n4) (hfE : eqx [] f0 f) (hgE : eqx [353, 356, 384] g0 g) (hH : HC E f g j h) (hA : cAg E h0 h), Z l MX0_measure d 0 0 Pz 51 [some (.ref (E.1 383)), some (.ref (E.1 127)), some (.ref (E.1 (32 * m + 31))), some (vI i)] [] h 0 0 := by
  intro n
  induction n with
  | zero => intro i H Φ f g h i0 i1 i2 hB h6 h8 eg97 eg98 eg353 egm3 egm7 egm5 egm8 eg356 ef96 efm1 efm0 hfE hgE hH hA; exfalso; omega
  | succ n ih =>
    intro i H Φ f g h i0 i1 i2 hB h6 h8 eg97 eg98 eg353 egm3 egm7 egm5 egm8 eg356 ef96 efm1 efm0 hfE hgE hH hA
    have hn := hK.1
    refine z_ild_3 (TX0_measure.at 31 rfl) ?_
    refine z_bipush (by decide) (TX0_measure.at 32 rfl) ?_
    refine z_icmp_ge (tgt := 70) (TX0_measure.at 33 rfl) rfl (by omega) (by omega) (fun c1 => ?_) (fun c1 => ?_)
    · skip
      obtain rfl : i = 8 := by omega
      exact kx _ _ _ _ hB eg353 hfE hgE hH hA
    · skip
      refine z_ald_0 (TX0_measure.at 34 rfl) ?_
      refine z_ald_1 (TX0_measure.at 35 rfl) ?_
      refine z_ald_2 (TX0_measure.at 36 rfl) ?_
      refine z_ild_3 (TX0_measure.at 37 rfl) ?_
      refine zc_callV3 (m := 11) (c_mk3 eg97 eg98 eg353 egm3 egm7 egm5 egm8 eg356 ef96 efm1 efm0 (by omega) hlm hcls h16 hNl hN0 q3 q5 q7 n40 n12 hsc hln i0 (by omega) (by omega) (by omega) rfl h6 h8 hK.2.2.2.2.2.2.2.2.2.1.1 hK.2.2.2.1.1 (fun t t0 t1 => ⟨(hP.2 t t0 t1).1, (hP.2 t t0 t1).2.1⟩)) (hH.lv (by decide)) (TX0_measure.at 38 rfl) c0_50 rfl rfl hH hA (by omega) (Nat.le_of_ble_eq_true rfl) (fun f61 g61 j61 h q61 hH hA => ?_)
      obtain ⟨q61, xf, xg, xj⟩ := q61
      rw [xj] at hH
      have ef96 := (xf 96 (by decide)).trans ef96
      have efm1 := (xf (32 * m + 1) (by simp only [List.mem_cons, List.not_mem_nil, or_false, not_or, not_false_eq_true] <;> omega)).trans efm1
      have efm0 := (xf (32 * m + 0) (by simp only [List.mem_cons, List.not_mem_nil, or_false, not_or, not_false_eq_true] <;> omega)).trans efm0
      have hfE := hfE.trans xf (by decide)
      have eg97 := (xg 97 (by decide)).trans eg97
      have eg98 := (xg 98 (by decide)).trans eg98
      have egm3 := (xg (32 * m + 3) (by simp only [List.mem_cons, List.not_mem_nil, or_false, not_or, not_false_eq_true] <;> omega)).trans egm3
      have egm7 := (xg (32 * m + 7) (by simp only [List.mem_cons, List.not_mem_nil, or_false, not_or, not_false_eq_true] <;> omega)).trans egm7
      have egm5 := (xg (32 * m + 5) (by simp only [List.mem_cons, List.not_mem_nil, or_false, not_or, not_false_eq_true] <;> omega)).trans egm5
      have egm8 := (xg (32 * m + 8) (by simp only [List.mem_cons, List.not_mem_nil, or_false, not_or, not_false_eq_true] <;> omega)).trans egm8
      have hgE := hgE.trans xg (by decide)
      have qL := q61
      have eg353 := qL.1
      obtain ⟨Φ2, eg356⟩ : ∃ z, g61 356 = z := ⟨_, rfl⟩
      rw [eg356] at qL
      have h62 := qL.2.1
      have h82 := qL.2.2
      refine z_iinc_3 (TX0_measure.at 39 rfl) (Nat.le_of_ble_eq_true rfl) rfl ?_
      refine z_goto (tgt := 51) (TX0_measure.at 40 rfl) rfl ?_
      exact ih (i + 1) _ _ _ _ _ (by omega) (by omega) (by omega) hB.s h62 h82 eg97 eg98 eg353 egm3 egm7 egm5 egm8 eg356 ef96 efm1 efm0 hfE hgE hH hA

set_option maxHeartbeats 4000000 in
set_option maxRecDepth 100000 in
theorem c_meas3 {l : Launch} {E : cE} {f : mF} {g j : mA} {Fr : Int → Int} {To : Int → Int} {Ln : Int → Int} {Kd : Int → Int} {Tm : Int → Int} {Vb : Int → Int} {Te : Int → Int} {On : Int → Int} {C : Int → Int} {Φ : Int → Int} {dp : Int} {S : Int} {N : Int} {n4 : Int} {m : Nat} {cl : List Cla} {K : Int → Int} (eg97 : g 97 = Fr) (eg98 : g 98 = To) (eg99 : g 99 = Ln) (eg100 : g 100 = Kd) (eg108 : g 108 = Tm) (egm3 : g (32 * m + 3) = Vb) (egm7 : g (32 * m + 7) = Te) (egm5 : g (32 * m + 5) = On) (egm8 : g (32 * m + 8) = C) (eg356 : g 356 = Φ) (ef96 : f 96 = (K 76)) (ef101 : f 101 = dp) (ef354 : f 354 = S) (efm1 : f (32 * m + 1) = N) (efm0 : f (32 * m + 0) = n4) (hlm : E.2.1 m = true) (hcls : cCls m = 4) (h16 : 13 ≤ m) (hNl : N ≤ E.2.2 (32 * m + 8)) (hN0 : N ≤ 400) (q3 : n4 ≤ E.2.2 (32 * m + 3)) (q5 : n4 ≤ E.2.2 (32 * m + 5)) (q7 : n4 ≤ E.2.2 (32 * m + 7)) (n40 : 0 ≤ n4) (n12 : n4 ≤ 12) (hsc : ScL Vb On Te C N 0 cl) (hln : n4 = (cl.length : Int)) (hK : KOK K) (hP : FrA Fr To Ln Kd dp K) (hS : z31 S) (t0 : Tm 0 = K 28) (t2 : Tm 2 = K 75) : CM l E MX0_measure 5 [.ref (E.1 383), .ref (E.1 127), .ref (E.1 (32 * m + 31))] f g j (PV (fun f' g' j' => (FiT Fr To (g' 352) (g' 353) (frK K) (toK K) (brn K cl) (hld K cl) (K 76) (f' 354) ∧ ∀ x : Int, 0 ≤ x → x < K 76 → (bt (f' 354) x ↔ ctc K cl x)) ∧ eqx [354] f f' ∧ eqx [352, 353, 356, 384] g g' ∧ j' = j)) := by
  refine CM.intro [some (.ref (E.1 383)), some (.ref (E.1 127)), some (.ref (E.1 (32 * m + 31))), none] (by decide) (Nat.le_of_ble_eq_true rfl) rfl (fun d hd h0 h hH hA => ?_)
  have hfE : eqx [354] f f := eqx.rf
  have hgE : eqx [352, 353, 356, 384] g g := eqx.rf
  refine z_ald_0 (TX0_measure.at 0 rfl) ?_
  refine zc_getA (m := 11) (s := 4) (k := 356) (hH.lv (by decide)) (TX0_measure.at 1 rfl) fl0_25 hH rfl rfl (by decide) (by decide) ?_
  refine z_bipush (by decide) (TX0_measure.at 2 rfl) ?_
  refine z_ald_1 (TX0_measure.at 3 rfl) ?_
  refine zc_getA (m := 3) (s := 12) (k := 108) (hH.lv (by decide)) (TX0_measure.at 4 rfl) fl0_38 hH rfl rfl (by decide) (by decide) ?_
  refine z_iconst (TX0_measure.at 5 rfl) ?_
  refine zcf_iald (k := 108) (N := 3) (hH.lv (by decide)) (by decide) rfl eg108 (TX0_measure.at 6 rfl) hH (by decide) (by omega) (show _ < ((3 : Nat) : Int) by omega) (fun r11 => ?_)
  refine zcf_iast (k := 356) (N := 31) (hH.lv (by decide)) (by decide) rfl (TX0_measure.at 7 rfl) hH hA (by decide) (by omega) (show _ < ((31 : Nat) : Int) by omega) (by omega) (fun h g12 e1 e2 hH hA => ?_)
  have eg97 := (e1 97 (by decide)).trans eg97
  have eg98 := (e1 98 (by decide)).trans eg98
  have eg99 := (e1 99 (by decide)).trans eg99
  have eg100 := (e1 100 (by decide)).trans eg100
  have eg108 := (e1 108 (by decide)).trans eg108
  have egm3 := (e1 (32 * m + 3) (by omega)).trans egm3
  have egm7 := (e1 (32 * m + 7) (by omega)).trans egm7
  have egm5 := (e1 (32 * m + 5) (by omega)).trans egm5
  have egm8 := (e1 (32 * m + 8) (by omega)).trans egm8
  rw [eg356] at e2; have eg356 := e2
  have hgE := hgE.put e1 (by decide)
  refine z_ald_0 (TX0_measure.at 8 rfl) ?_
  refine zc_getA (m := 11) (s := 4) (k := 356) (hH.lv (by decide)) (TX0_measure.at 9 rfl) fl0_25 hH rfl rfl (by decide) (by decide) ?_
  refine z_bipush (by decide) (TX0_measure.at 10 rfl) ?_
  refine z_ald_1 (TX0_measure.at 11 rfl) ?_
  refine zc_getA (m := 3) (s := 12) (k := 108) (hH.lv (by decide)) (TX0_measure.at 12 rfl) fl0_38 hH rfl rfl (by decide) (by decide) ?_
  refine z_iconst (TX0_measure.at 13 rfl) ?_
  refine zcf_iald (k := 108) (N := 3) (hH.lv (by decide)) (by decide) rfl eg108 (TX0_measure.at 14 rfl) hH (by decide) (by omega) (show _ < ((3 : Nat) : Int) by omega) (fun r24 => ?_)
  refine zcf_iast (k := 356) (N := 31) (hH.lv (by decide)) (by decide) rfl (TX0_measure.at 15 rfl) hH hA (by decide) (by omega) (show _ < ((31 : Nat) : Int) by omega) (by omega) (fun h g25 e1 e2 hH hA => ?_)
  have eg97 := (e1 97 (by decide)).trans eg97
  have eg98 := (e1 98 (by decide)).trans eg98
  have eg99 := (e1 99 (by decide)).trans eg99
  have eg100 := (e1 100 (by decide)).trans eg100
  have eg108 := (e1 108 (by decide)).trans eg108
  have egm3 := (e1 (32 * m + 3) (by omega)).trans egm3
  have egm7 := (e1 (32 * m + 7) (by omega)).trans egm7
  have egm5 := (e1 (32 * m + 5) (by omega)).trans egm5
  have egm8 := (e1 (32 * m + 8) (by omega)).trans egm8
  rw [eg356] at e2; have eg356 := e2
  have hgE := hgE.put e1 (by decide)
  refine z_iconst (TX0_measure.at 16 rfl) ?_
  refine z_ist_3 (TX0_measure.at 17 rfl) (Nat.le_of_ble_eq_true rfl) rfl ?_
  have hn := hK.1
  refine lp_me13 hd hlm hcls h16 hNl hN0 q3 q5 q7 n40 n12 hsc hln hK hP (fun B2 Φ2 S2 f3 g3 h3 hB h6 h8 eg97 eg98 eg99 eg100 egm3 egm7 egm5 egm8 eg352 eg356 ef96 ef101 efm1 efm0 ef354 xf xg hH hA => ?_) 11 0 _ S _ _ _ _ (by omega) (by omega) (by omega) ⟨hS, fun x x0 x1 => by omega⟩ (by rw [← t2]; rfl) (by rw [← t0]; rfl) eg97 eg98 eg99 eg100 rfl egm3 egm7 egm5 egm8 eg356 ef96 ef101 ef354 efm1 efm0 eqx.rf eqx.rf hH hA
  refine z_iconst (TX0_measure.at 29 rfl) ?_
  refine z_ist_3 (TX0_measure.at 30 rfl) (Nat.le_of_ble_eq_true rfl) rfl ?_
  refine lp_me23 hd hlm hcls h16 hNl hN0 q3 q5 q7 n40 n12 hsc hln hK hP (fun H2 f4 g4 h4 hH2 eg353 yf yg hH hA => ?_) 9 0 (g3 353) Φ2 _ _ _ (by omega) (by omega) (by omega) (fun k k0 k1 => by omega) h6 h8 eg97 eg98 rfl egm3 egm7 egm5 egm8 eg356 ef96 efm1 efm0 eqx.rf eqx.rf hH hA
  refine zc_vret (TX0_measure.at 41 rfl) rfl hH hA ?_
  have e352 := (yg 352 (by decide)).trans eg352
  have e354 := (yf 354 (by decide)).trans ef354
  rw [← eg353] at hH2
  rw [← e352, ← e354] at hB
  exact ⟨⟨ms_FiT hK hP hB hH2, fun x x0 x1 => (hB.2 x x0 x1).2⟩, (hfE.trans xf (by decide)).trans yf (by decide), (hgE.trans xg (by decide)).trans yg (by decide), rfl⟩

set_option maxHeartbeats 4000000 in
set_option maxRecDepth 100000 in
theorem lp_me1N3 {l : Launch} {E : cE} {d : Nat} {Pz : Option Value → zH → Prop} {h0 : zH} {f0 : mF} {g0 : mA} {j : mA} (hd : 5 ≤ d) {Fr To Ln Kd K : Int → Int} {dp : Int}  (hK : KOK K) (hP : FrA Fr To Ln Kd dp K) (kx : ∀ (B Φ : Int → Int) (S : Int) (f : mF) (g : mA) (h : zH), MsB K [] B S (K 76) → Φ 6 = K 75 → Φ 8 = K 28 → g 97 = Fr → g 98 = To → g 99 = Ln → g 100 = Kd → g 352 = B → g 356 = Φ → f 96 = K 76 → f 101 = dp → f 354 = S → eqx [354] f0 f → eqx [352, 356, 384] g0 g → HC E f g j h → cAg E h0 h → Z l MX0_measure d 0 0 Pz 49 [some (.ref (E.1 383)), some (.ref (E.1 127)), some (.null), some (vI (K 76))] [] h 0 0)  : ∀ (n : Nat) (i : Int) (B : Int → Int) (S : Int) (Φ : Int → Int) (f : mF) (g : mA) (h : zH) (i0 : 0 ≤ i) (i1 : i ≤ K 76) (i2 : K 76 < i + n) (hB : MsB K [] B S i) (h6 : Φ 6 = K 75) (h8 : Φ 8 = K 28) (eg97 : g 97 = Fr) (eg98 : g 98 = To) (eg99 : g 99 = Ln) (eg100 : g 100 = Kd) (eg352 : g 352 = B) (eg356 : g 356 = Φ) (ef96 : f 96 = (K 76)) (ef101 : f 101 = dp) (ef354 : f 354 = S) (hfE : eqx [354] f0 f) (hgE : eqx [352, 356, 384] g0 g) (hH : HC E f g j h) (hA : cAg E h0 h), Z l MX0_measure d 0 0 Pz 28 [some (.ref (E.1 383)), some (.ref (E.1 127)), some (.null), some (vI i)] [] h 0 0 := by
  intro n
  induction n with
  | zero => intro i B S Φ f g h i0 i1 i2 hB h6 h8 eg97 eg98 eg99 eg100 eg352 eg356 ef96 ef101 ef354 hfE hgE hH hA; exfalso; omega
  | succ n ih =>
    intro i B S Φ f g h i0 i1 i2 hB h6 h8 eg97 eg98 eg99 eg100 eg352 eg356 ef96 ef101 ef354 hfE hgE hH hA
    have hn := hK.1
    refine z_ild_3 (TX0_measure.at 18 rfl) ?_
    refine z_ald_1 (TX0_measure.at 19 rfl) ?_
    refine zc_getIE (m := 3) (s := 0) (k := 96) (hH.lv (by decide)) ef96 (TX0_measure.at 20 rfl) fl0_43 hH rfl rfl (by decide) (by decide) (fun r30 => ?_)
    refine z_icmp_ge (tgt := 49) (TX0_measure.at 21 rfl) rfl (by omega) (by omega) (fun c1 => ?_) (fun c1 => ?_)
    · skip
      obtain rfl : i = K 76 := by omega
      exact kx _ _ _ _ _ _ hB h6 h8 eg97 eg98 eg99 eg100 eg352 eg356 ef96 ef101 ef354 hfE hgE hH hA
    · skip
      have hpi := hP.2 i i0 (by omega)
      have hki := hK.2.1 i i0 (by omega)
      refine z_ald_0 (TX0_measure.at 22 rfl) ?_
      refine z_ald_1 (TX0_measure.at 23 rfl) ?_
      refine z_nld_2 (TX0_measure.at 24 rfl) ?_
      refine z_ild_3 (TX0_measure.at 25 rfl) ?_
      refine zc_callV3 (m := 11) (c_mfN3 eg97 eg98 eg99 eg100 eg352 eg356 ef101 ef354 (by omega) i0 (by omega) h6 h8 hK.2.2.2.2.2.2.2.2.2.1.1 hK.2.2.2.1.1 hB.1 hP.1 ⟨hpi.2.2.2.1, hki.2.2.2.2.2.1⟩ ⟨hpi.1, hki.2.2.1.1⟩ ⟨hpi.2.1, hki.2.2.2.1.1⟩ ⟨hpi.2.2.1, by omega⟩ hki.1 hpi.2.2.2.2) (hH.lv (by decide)) (TX0_measure.at 26 rfl) c0_46 rfl rfl hH hA (by omega) (Nat.le_of_ble_eq_true rfl) (fun f40 g40 j40 h q40 hH hA => ?_)
      obtain ⟨q40, xf, xg, xj⟩ := q40
      rw [xj] at hH
      have ef96 := (xf 96 (by decide)).trans ef96
      have ef101 := (xf 101 (by decide)).trans ef101
      have hfE := hfE.trans xf (by decide)
      have eg97 := (xg 97 (by decide)).trans eg97
      have eg98 := (xg 98 (by decide)).trans eg98
      have eg99 := (xg 99 (by decide)).trans eg99
      have eg100 := (xg 100 (by decide)).trans eg100
      have hgE := hgE.trans xg (by decide)
      have qL := q40
      have eg352 := qL.1
      have ef354 := qL.2.1
      obtain ⟨Φ2, eg356⟩ : ∃ z, g40 356 = z := ⟨_, rfl⟩
      rw [eg356] at qL
      have h62 := qL.2.2.1
      have h82 := qL.2.2.2
      refine z_iinc_3 (TX0_measure.at 27 rfl) (Nat.le_of_ble_eq_true rfl) rfl ?_
      refine z_goto (tgt := 28) (TX0_measure.at 28 rfl) rfl ?_
      exact ih (i + 1) _ _ _ _ _ _ (by omega) (by omega) (by omega) (hB.s i0 (by omega)) h62 h82 eg97 eg98 eg99 eg100 eg352 eg356 ef96 ef101 ef354 hfE hgE hH hA

set_option maxHeartbeats 4000000 in
set_option maxRecDepth 100000 in
theorem lp_me2N3 {l : Launch} {E : cE} {d : Nat} {Pz : Option Value → zH → Prop} {h0 : zH} {f0 : mF} {g0 : mA} {j : mA} (hd : 5 ≤ d) {Fr To Ln Kd K : Int → Int} {dp : Int}  (hK : KOK K) (hP : FrA Fr To Ln Kd dp K) (kx : ∀ (H : Int → Int) (f : mF) (g : mA) (h : zH), MsH K [] H 8 → g 353 = H → eqx [] f0 f → eqx [353, 356, 384] g0 g → HC E f g j h → cAg E h0 h → Z l MX0_measure d 0 0 Pz 70 [some (.ref (E.1 383)), some (.ref (E.1 127)), some (.null), some (vI 8)] [] h 0 0)  : ∀ (n : Nat) (i : Int) (H : Int → Int) (Φ : Int → Int) (f : mF) (g : mA) (h : zH) (i0 : 0 ≤ i) (i1 : i ≤ 8) (i2 : 8 < i + n) (hB : MsH K [] H i) (h6 : Φ 6 = K 75) (h8 : Φ 8 = K 28) (eg97 : g 97 = Fr) (eg98 : g 98 = To) (eg353 : g 353 = H) (eg356 : g 356 = Φ) (ef96 : f 96 = (K 76)) (hfE : eqx [] f0 f) (hgE : eqx [353, 356, 384] g0 g) (hH : HC E f g j h) (hA : cAg E h0 h), Z l MX0_measure d 0 0 Pz 51 [some (.ref (E.1 383)), some (.ref (E.1 127)), some (.null), some (vI i)] [] h 0 0 := by
  intro n
  induction n with
  | zero => intro i H Φ f g h i0 i1 i2 hB h6 h8 eg97 eg98 eg353 eg356 ef96 hfE hgE hH hA; exfalso; omega
  | succ n ih =>
    intro i H Φ f g h i0 i1 i2 hB h6 h8 eg97 eg98 eg353 eg356 ef96 hfE hgE hH hA
    have hn := hK.1
    refine z_ild_3 (TX0_measure.at 31 rfl) ?_
    refine z_bipush (by decide) (TX0_measure.at 32 rfl) ?_
    refine z_icmp_ge (tgt := 70) (TX0_measure.at 33 rfl) rfl (by omega) (by omega) (fun c1 => ?_) (fun c1 => ?_)
    · skip
      obtain rfl : i = 8 := by omega
      exact kx _ _ _ _ hB eg353 hfE hgE hH hA
    · skip
      refine z_ald_0 (TX0_measure.at 34 rfl) ?_
      refine z_ald_1 (TX0_measure.at 35 rfl) ?_
      refine z_nld_2 (TX0_measure.at 36 rfl) ?_
      refine z_ild_3 (TX0_measure.at 37 rfl) ?_
      refine zc_callV3 (m := 11) (c_mkN3 eg97 eg98 eg353 eg356 ef96 (by omega) i0 (by omega) (by omega) (by omega) rfl h6 h8 hK.2.2.2.2.2.2.2.2.2.1.1 hK.2.2.2.1.1 (fun t t0 t1 => ⟨(hP.2 t t0 t1).1, (hP.2 t t0 t1).2.1⟩)) (hH.lv (by decide)) (TX0_measure.at 38 rfl) c0_50 rfl rfl hH hA (by omega) (Nat.le_of_ble_eq_true rfl) (fun f61 g61 j61 h q61 hH hA => ?_)
      obtain ⟨q61, xf, xg, xj⟩ := q61
      rw [xj] at hH
      have ef96 := (xf 96 (by decide)).trans ef96
      have hfE := hfE.trans xf (by decide)
      have eg97 := (xg 97 (by decide)).trans eg97
      have eg98 := (xg 98 (by decide)).trans eg98
      have hgE := hgE.trans xg (by decide)
      have qL := q61
      have eg353 := qL.1
      obtain ⟨Φ2, eg356⟩ : ∃ z, g61 356 = z := ⟨_, rfl⟩
      rw [eg356] at qL
      have h62 := qL.2.1
      have h82 := qL.2.2
      refine z_iinc_3 (TX0_measure.at 39 rfl) (Nat.le_of_ble_eq_true rfl) rfl ?_
      refine z_goto (tgt := 51) (TX0_measure.at 40 rfl) rfl ?_
      exact ih (i + 1) _ _ _ _ _ (by omega) (by omega) (by omega) hB.s h62 h82 eg97 eg98 eg353 eg356 ef96 hfE hgE hH hA

set_option maxHeartbeats 4000000 in
set_option maxRecDepth 100000 in
theorem c_measN3 {l : Launch} {E : cE} {f : mF} {g j : mA} {Fr : Int → Int} {To : Int → Int} {Ln : Int → Int} {Kd : Int → Int} {Tm : Int → Int} {Φ : Int → Int} {dp : Int} {S : Int} {K : Int → Int} (eg97 : g 97 = Fr) (eg98 : g 98 = To) (eg99 : g 99 = Ln) (eg100 : g 100 = Kd) (eg108 : g 108 = Tm) (eg356 : g 356 = Φ) (ef96 : f 96 = (K 76)) (ef101 : f 101 = dp) (ef354 : f 354 = S) (hK : KOK K) (hP : FrA Fr To Ln Kd dp K) (hS : z31 S) (t0 : Tm 0 = K 28) (t2 : Tm 2 = K 75) : CM l E MX0_measure 5 [.ref (E.1 383), .ref (E.1 127), .null] f g j (PV (fun f' g' j' => (FiT Fr To (g' 352) (g' 353) (frK K) (toK K) (brn K []) (hld K []) (K 76) (f' 354) ∧ ∀ x : Int, 0 ≤ x → x < K 76 → (bt (f' 354) x ↔ ctc K [] x)) ∧ eqx [354] f f' ∧ eqx [352, 353, 356, 384] g g' ∧ j' = j)) := by
  refine CM.intro [some (.ref (E.1 383)), some (.ref (E.1 127)), some (.null), none] (by decide) (Nat.le_of_ble_eq_true rfl) rfl (fun d hd h0 h hH hA => ?_)
  have hfE : eqx [354] f f := eqx.rf
  have hgE : eqx [352, 353, 356, 384] g g := eqx.rf
  refine z_ald_0 (TX0_measure.at 0 rfl) ?_
  refine zc_getA (m := 11) (s := 4) (k := 356) (hH.lv (by decide)) (TX0_measure.at 1 rfl) fl0_25 hH rfl rfl (by decide) (by decide) ?_
  refine z_bipush (by decide) (TX0_measure.at 2 rfl) ?_
  refine z_ald_1 (TX0_measure.at 3 rfl) ?_
  refine zc_getA (m := 3) (s := 12) (k := 108) (hH.lv (by decide)) (TX0_measure.at 4 rfl) fl0_38 hH rfl rfl (by decide) (by decide) ?_
  refine z_iconst (TX0_measure.at 5 rfl) ?_
  refine zcf_iald (k := 108) (N := 3) (hH.lv (by decide)) (by decide) rfl eg108 (TX0_measure.at 6 rfl) hH (by decide) (by omega) (show _ < ((3 : Nat) : Int) by omega) (fun r11 => ?_)
  refine zcf_iast (k := 356) (N := 31) (hH.lv (by decide)) (by decide) rfl (TX0_measure.at 7 rfl) hH hA (by decide) (by omega) (show _ < ((31 : Nat) : Int) by omega) (by omega) (fun h g12 e1 e2 hH hA => ?_)
  have eg97 := (e1 97 (by decide)).trans eg97
  have eg98 := (e1 98 (by decide)).trans eg98
  have eg99 := (e1 99 (by decide)).trans eg99
  have eg100 := (e1 100 (by decide)).trans eg100
  have eg108 := (e1 108 (by decide)).trans eg108
  rw [eg356] at e2; have eg356 := e2
  have hgE := hgE.put e1 (by decide)
  refine z_ald_0 (TX0_measure.at 8 rfl) ?_
  refine zc_getA (m := 11) (s := 4) (k := 356) (hH.lv (by decide)) (TX0_measure.at 9 rfl) fl0_25 hH rfl rfl (by decide) (by decide) ?_
  refine z_bipush (by decide) (TX0_measure.at 10 rfl) ?_
  refine z_ald_1 (TX0_measure.at 11 rfl) ?_
  refine zc_getA (m := 3) (s := 12) (k := 108) (hH.lv (by decide)) (TX0_measure.at 12 rfl) fl0_38 hH rfl rfl (by decide) (by decide) ?_
  refine z_iconst (TX0_measure.at 13 rfl) ?_
  refine zcf_iald (k := 108) (N := 3) (hH.lv (by decide)) (by decide) rfl eg108 (TX0_measure.at 14 rfl) hH (by decide) (by omega) (show _ < ((3 : Nat) : Int) by omega) (fun r24 => ?_)
  refine zcf_iast (k := 356) (N := 31) (hH.lv (by decide)) (by decide) rfl (TX0_measure.at 15 rfl) hH hA (by decide) (by omega) (show _ < ((31 : Nat) : Int) by omega) (by omega) (fun h g25 e1 e2 hH hA => ?_)
  have eg97 := (e1 97 (by decide)).trans eg97
  have eg98 := (e1 98 (by decide)).trans eg98
  have eg99 := (e1 99 (by decide)).trans eg99
  have eg100 := (e1 100 (by decide)).trans eg100
  have eg108 := (e1 108 (by decide)).trans eg108
  rw [eg356] at e2; have eg356 := e2
  have hgE := hgE.put e1 (by decide)
  refine z_iconst (TX0_measure.at 16 rfl) ?_
  refine z_ist_3 (TX0_measure.at 17 rfl) (Nat.le_of_ble_eq_true rfl) rfl ?_
  have hn := hK.1
  refine lp_me1N3 hd hK hP (fun B2 Φ2 S2 f3 g3 h3 hB h6 h8 eg97 eg98 eg99 eg100 eg352 eg356 ef96 ef101 ef354 xf xg hH hA => ?_) 11 0 _ S _ _ _ _ (by omega) (by omega) (by omega) ⟨hS, fun x x0 x1 => by omega⟩ (by rw [← t2]; rfl) (by rw [← t0]; rfl) eg97 eg98 eg99 eg100 rfl eg356 ef96 ef101 ef354 eqx.rf eqx.rf hH hA
  refine z_iconst (TX0_measure.at 29 rfl) ?_
  refine z_ist_3 (TX0_measure.at 30 rfl) (Nat.le_of_ble_eq_true rfl) rfl ?_
  refine lp_me2N3 hd hK hP (fun H2 f4 g4 h4 hH2 eg353 yf yg hH hA => ?_) 9 0 (g3 353) Φ2 _ _ _ (by omega) (by omega) (by omega) (fun k k0 k1 => by omega) h6 h8 eg97 eg98 rfl eg356 ef96 eqx.rf eqx.rf hH hA
  refine zc_vret (TX0_measure.at 41 rfl) rfl hH hA ?_
  have e352 := (yg 352 (by decide)).trans eg352
  have e354 := (yf 354 (by decide)).trans ef354
  rw [← eg353] at hH2
  rw [← e352, ← e354] at hB
  exact ⟨⟨ms_FiT hK hP hB hH2, fun x x0 x1 => (hB.2 x x0 x1).2⟩, (hfE.trans xf (by decide)).trans yf (by decide), (hgE.trans xg (by decide)).trans yg (by decide), rfl⟩

