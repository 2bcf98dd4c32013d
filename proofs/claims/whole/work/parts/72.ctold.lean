/-! ===== the class: what a law's clause tells ===== -/
/-- k looks only at the facts from a to b -/
def Dl (a b : Int) (k : Den) : Prop := ∀ φ ψ : Int → Int, (∀ i : Int, a ≤ i → i < b → φ i = ψ i) → k φ = k ψ
/-- k never says the broken number -/
def Nb (k : Den) : Prop := ∀ φ : Int → Int, (∀ i : Int, φ i ≠ -2000000000) → k φ ≠ some (-2000000000)
/-- the code at p means k -/
def SumR (C : Int → Int) (N a b p : Int) (k : Den) : Prop := (0 ≤ p ∧ p ≤ 400) ∧ (∀ φ, Ask C N φ p [] (brk (k φ))) ∧ Dl a b k ∧ Nb k
def TesR (C : Int → Int) (N a b p : Int) (q : Option Den) : Prop := (q = none ∧ p = -1) ∨ ∃ k, q = some k ∧ SumR C N a b p k ∧ B01 k
/-- a clause of a law -/
def ClaR (Vb On Te C : Int → Int) (N i : Int) (c : Cla) : Prop := Vb i = c.1 - 1 ∧ (1 ≤ c.1 ∧ c.1 ≤ 3) ∧ ((c.1 = 3 ∧ On i = -1 ∧ c.2.1 = dOne) ∨ (c.1 ≠ 3 ∧ SumR C N 0 9 (On i) c.2.1)) ∧ TesR C N 0 9 (Te i) c.2.2.2.2
def ScL (Vb On Te C : Int → Int) (N : Int) : Int → List Cla → Prop
  | _, [] => True
  | i, c :: l => ClaR Vb On Te C N i c ∧ ScL Vb On Te C N (i + 1) l
def tdV (c : Cla) (φ : Int → Int) : Int := if tellF.isSoB c.2.2.2.2 φ = true then (if c.1 = 3 then 0 else brk (c.2.1 φ)) else -2000000000
theorem brk_Nb {k : Den} {φ : Int → Int} (h : Nb k) (hφ : ∀ i : Int, φ i ≠ -2000000000) : (k φ = none ∧ brk (k φ) = -2000000000) ∨ ∃ z, k φ = some z ∧ brk (k φ) = z ∧ z ≠ -2000000000 := by
  have a := h φ hφ
  cases e : k φ with
  | none => exact Or.inl ⟨rfl, rfl⟩
  | some z => exact Or.inr ⟨z, rfl, rfl, fun q => a (by rw [e, q])⟩
theorem so_no {k : Den} {φ : Int → Int} (h : brk (k φ) = -2000000000 ∨ brk (k φ) = 0) : ¬ tellF.isSoB (some k) φ = true := by
  intro z
  have z : (k φ == some 1) = true := z
  have e : k φ = some 1 := by simpa using z
  rw [e] at h
  have h : (1 : Int) = -2000000000 ∨ (1 : Int) = 0 := h
  omega
theorem so_yes {k : Den} {φ : Int → Int} (b : B01 k) (h1 : brk (k φ) ≠ -2000000000) (h2 : brk (k φ) ≠ 0) : tellF.isSoB (some k) φ = true := by
  show (k φ == some 1) = true
  cases e : k φ with
  | none => rw [e] at h1; exact absurd rfl h1
  | some x =>
    have q := b φ x e
    rw [e] at h2
    have h2 : x ≠ 0 := h2
    have e1 : x = 1 := by omega
    rw [e1]
    rfl
set_option maxHeartbeats 4000000 in
set_option maxRecDepth 100000 in
theorem c_told {l : Launch} {E : cE} {f : mF} {g j : mA} {Te : Int → Int} {On : Int → Int} {C : Int → Int} {Φ : Int → Int} {N : Int} {i : Int} {m : Nat} {Vb φ : Int → Int} {c : Cla} (egm7 : g (32 * m + 7) = Te) (egm5 : g (32 * m + 5) = On) (egm8 : g (32 * m + 8) = C) (eg356 : g 356 = Φ) (efm1 : f (32 * m + 1) = N) (hi : zIn i) (hlm : E.2.1 m = true) (hcls : cCls m = 4) (h16 : 13 ≤ m) (hNl : N ≤ E.2.2 (32 * m + 8)) (hN0 : N ≤ 400) (i0 : 0 ≤ i) (i7 : i < E.2.2 (32 * m + 7)) (i5 : i < E.2.2 (32 * m + 5)) (hc : ClaR Vb On Te C N i c) (hφ : ∀ t : Int, 0 ≤ t → t < 9 → Φ t = φ t) : CM l E MX0_told 2 [.ref (E.1 383), .ref (E.1 (32 * m + 31)), vI i] f g j (PI (fun r f' g' j' => (r = tdV c φ) ∧ eqx [] f f' ∧ eqx [384] g g' ∧ j' = j)) := by
  refine CM.intro [some (.ref (E.1 383)), some (.ref (E.1 (32 * m + 31))), some (vI i), none] (by decide) (Nat.le_of_ble_eq_true rfl) rfl (fun d hd h0 h hH hA => ?_)
  have hfE : eqx [] f f := eqx.rf
  have hgE : eqx [384] g g := eqx.rf
  refine z_ald_1 (TX0_told.at 0 rfl) ?_
  refine zc_getA (m := m) (s := 7) (k := (32 * m + 7)) hlm (TX0_told.at 1 rfl) fl0_97 hH hcls rfl (by decide) (by decide) ?_
  refine z_ild_2 (TX0_told.at 2 rfl) ?_
  refine zcs_iald (m := m) (s := 7) hlm hcls egm7 (TX0_told.at 3 rfl) hH (by decide) (by decide) (by omega) (by omega) (fun r5 => ?_)
  refine z_iconst (TX0_told.at 4 rfl) ?_
  refine z_icmp_eq (tgt := 42) (TX0_told.at 5 rfl) rfl (by omega) (by omega) (fun c1 => ?_) (fun c1 => ?_)
  · skip
    have hso : tellF.isSoB c.2.2.2.2 φ = true := by
      rcases hc.2.2.2 with z | ⟨k, z1, z2, z3⟩
      · rw [z.1]; rfl
      · have := z2.1; omega
    refine z_ald_1 (TX0_told.at 24 rfl) ?_
    refine zc_getA (m := m) (s := 5) (k := (32 * m + 5)) hlm (TX0_told.at 25 rfl) fl0_104 hH hcls rfl (by decide) (by decide) ?_
    refine z_ild_2 (TX0_told.at 26 rfl) ?_
    refine zcs_iald (m := m) (s := 5) hlm hcls egm5 (TX0_told.at 27 rfl) hH (by decide) (by decide) (by omega) (by omega) (fun r47 => ?_)
    refine z_iconst (TX0_told.at 28 rfl) ?_
    refine z_icmp_ne (tgt := 56) (TX0_told.at 29 rfl) rfl (by omega) (by omega) (fun c2 => ?_) (fun c2 => ?_)
    · skip
      obtain ⟨hv3, hsr2⟩ := hc.2.2.1.resolve_left (fun z => by omega)
      have hks2 := hsr2.1
      have hkd2 := hsr2.2.2.1 Φ φ hφ
      refine z_ald_0 (TX0_told.at 32 rfl) ?_
      refine zc_getO (m := 11) (s := 6) (k := 415) (hH.lv (by decide)) (TX0_told.at 33 rfl) fl0_34 hH rfl rfl (by decide) (by decide) ?_
      refine z_ald_1 (TX0_told.at 34 rfl) ?_
      refine z_ald_1 (TX0_told.at 35 rfl) ?_
      refine zc_getA (m := m) (s := 5) (k := (32 * m + 5)) hlm (TX0_told.at 36 rfl) fl0_104 hH hcls rfl (by decide) (by decide) ?_
      refine z_ild_2 (TX0_told.at 37 rfl) ?_
      refine zcs_iald (m := m) (s := 5) hlm hcls egm5 (TX0_told.at 38 rfl) hH (by decide) (by decide) (by omega) (by omega) (fun r66 => ?_)
      refine z_ald_0 (TX0_told.at 39 rfl) ?_
      refine zc_getA (m := 11) (s := 4) (k := 356) (hH.lv (by decide)) (TX0_told.at 40 rfl) fl0_25 hH rfl rfl (by decide) (by decide) ?_
      refine zc_callI3 (m := 12) (c_ask12 hlm hcls h16 hNl hN0 egm8 eg356 efm1 (by omega) (by omega) (hsr2.2.1 Φ)) (hH.lv (by decide)) (TX0_told.at 41 rfl) c0_100 rfl rfl hH hA (by omega) (Nat.le_of_ble_eq_true rfl) (fun x71 f71 g71 j71 h r71 q71 hH hA => ?_)
      obtain ⟨q71, xf, xg, xj⟩ := q71
      rw [xj] at hH
      have efm1 := (xf (32 * m + 1) (by simp only [List.mem_cons, List.not_mem_nil, or_false, not_or, not_false_eq_true] <;> omega)).trans efm1
      have hfE := hfE.trans xf (by decide)
      have egm7 := (xg (32 * m + 7) (by simp only [List.mem_cons, List.not_mem_nil, or_false, not_or, not_false_eq_true] <;> omega)).trans egm7
      have egm5 := (xg (32 * m + 5) (by simp only [List.mem_cons, List.not_mem_nil, or_false, not_or, not_false_eq_true] <;> omega)).trans egm5
      have egm8 := (xg (32 * m + 8) (by simp only [List.mem_cons, List.not_mem_nil, or_false, not_or, not_false_eq_true] <;> omega)).trans egm8
      have eg356 := (xg 356 (by decide)).trans eg356
      have hgE := hgE.trans xg (by decide)
      have qL := q71
      obtain rfl := qL
      refine zc_iret (TX0_told.at 42 rfl) rfl hH hA (by omega) ?_
      exact ⟨by unfold tdV; rw [if_pos hso]; first | (have hv : c.1 = 3 := (by rcases hc.2.2.1 with z | z; exact z.1; exact absurd z.2.1 (by omega)); rw [if_pos hv]; done) | (rw [if_neg hv3, ← hkd2]; done), hfE, hgE, rfl⟩
    · skip
      refine z_iconst (TX0_told.at 30 rfl) ?_
      refine z_goto (tgt := 74) (TX0_told.at 31 rfl) rfl ?_
      refine zc_iret (TX0_told.at 42 rfl) rfl hH hA (by omega) ?_
      exact ⟨by unfold tdV; rw [if_pos hso]; first | (have hv : c.1 = 3 := (by rcases hc.2.2.1 with z | z; exact z.1; exact absurd z.2.1 (by omega)); rw [if_pos hv]; done) | (rw [if_neg hv3, ← hkd2]; done), hfE, hgE, rfl⟩
  · skip
    obtain ⟨k, hq, hsr, hb⟩ := hc.2.2.2.resolve_left (fun z => by omega)
    have hks := hsr.1
    have hkd := hsr.2.2.1 Φ φ hφ
    refine z_ald_0 (TX0_told.at 6 rfl) ?_
    refine zc_getO (m := 11) (s := 6) (k := 415) (hH.lv (by decide)) (TX0_told.at 7 rfl) fl0_34 hH rfl rfl (by decide) (by decide) ?_
    refine z_ald_1 (TX0_told.at 8 rfl) ?_
    refine z_ald_1 (TX0_told.at 9 rfl) ?_
    refine zc_getA (m := m) (s := 7) (k := (32 * m + 7)) hlm (TX0_told.at 10 rfl) fl0_97 hH hcls rfl (by decide) (by decide) ?_
    refine z_ild_2 (TX0_told.at 11 rfl) ?_
    refine zcs_iald (m := m) (s := 7) hlm hcls egm7 (TX0_told.at 12 rfl) hH (by decide) (by decide) (by omega) (by omega) (fun r20 => ?_)
    refine z_ald_0 (TX0_told.at 13 rfl) ?_
    refine zc_getA (m := 11) (s := 4) (k := 356) (hH.lv (by decide)) (TX0_told.at 14 rfl) fl0_25 hH rfl rfl (by decide) (by decide) ?_
    refine zc_callI3 (m := 12) (c_ask12 hlm hcls h16 hNl hN0 egm8 eg356 efm1 (by omega) (by omega) (hsr.2.1 Φ)) (hH.lv (by decide)) (TX0_told.at 15 rfl) c0_100 rfl rfl hH hA (by omega) (Nat.le_of_ble_eq_true rfl) (fun x25 f25 g25 j25 h r25 q25 hH hA => ?_)
    obtain ⟨q25, xf, xg, xj⟩ := q25
    rw [xj] at hH
    have efm1 := (xf (32 * m + 1) (by simp only [List.mem_cons, List.not_mem_nil, or_false, not_or, not_false_eq_true] <;> omega)).trans efm1
    have hfE := hfE.trans xf (by decide)
    have egm7 := (xg (32 * m + 7) (by simp only [List.mem_cons, List.not_mem_nil, or_false, not_or, not_false_eq_true] <;> omega)).trans egm7
    have egm5 := (xg (32 * m + 5) (by simp only [List.mem_cons, List.not_mem_nil, or_false, not_or, not_false_eq_true] <;> omega)).trans egm5
    have egm8 := (xg (32 * m + 8) (by simp only [List.mem_cons, List.not_mem_nil, or_false, not_or, not_false_eq_true] <;> omega)).trans egm8
    have eg356 := (xg 356 (by decide)).trans eg356
    have hgE := hgE.trans xg (by decide)
    have qL := q25
    obtain rfl := qL
    refine z_ist_3 (TX0_told.at 16 rfl) (Nat.le_of_ble_eq_true rfl) rfl ?_
    refine z_ild_3 (TX0_told.at 17 rfl) ?_
    refine z_ldc (v := -2000000000) (TX0_told.at 18 rfl) k0_73 (by decide) ?_
    refine z_icmp_eq (tgt := 39) (TX0_told.at 19 rfl) rfl (by omega) (by omega) (fun c3 => ?_) (fun c3 => ?_)
    · skip
      refine z_ldc (v := -2000000000) (TX0_told.at 22 rfl) k0_73 (by decide) ?_
      refine zc_iret (TX0_told.at 23 rfl) rfl hH hA (by omega) ?_
      exact ⟨by unfold tdV; rw [hq, if_neg (so_no (by rw [← hkd]; omega))], hfE, hgE, rfl⟩
    · skip
      refine z_ild_3 (TX0_told.at 20 rfl) ?_
      refine z_if_ne (tgt := 42) (TX0_told.at 21 rfl) rfl (by omega) (fun c4 => ?_) (fun c4 => ?_)
      · skip
        have hso : tellF.isSoB c.2.2.2.2 φ = true := by
          rw [hq]
          exact so_yes hb (by rw [← hkd]; assumption) (by rw [← hkd]; assumption)
        refine z_ald_1 (TX0_told.at 24 rfl) ?_
        refine zc_getA (m := m) (s := 5) (k := (32 * m + 5)) hlm (TX0_told.at 25 rfl) fl0_104 hH hcls rfl (by decide) (by decide) ?_
        refine z_ild_2 (TX0_told.at 26 rfl) ?_
        refine zcs_iald (m := m) (s := 5) hlm hcls egm5 (TX0_told.at 27 rfl) hH (by decide) (by decide) (by omega) (by omega) (fun r47 => ?_)
        refine z_iconst (TX0_told.at 28 rfl) ?_
        refine z_icmp_ne (tgt := 56) (TX0_told.at 29 rfl) rfl (by omega) (by omega) (fun c5 => ?_) (fun c5 => ?_)
        · skip
          obtain ⟨hv3, hsr2⟩ := hc.2.2.1.resolve_left (fun z => by omega)
          have hks2 := hsr2.1
          have hkd2 := hsr2.2.2.1 Φ φ hφ
          refine z_ald_0 (TX0_told.at 32 rfl) ?_
          refine zc_getO (m := 11) (s := 6) (k := 415) (hH.lv (by decide)) (TX0_told.at 33 rfl) fl0_34 hH rfl rfl (by decide) (by decide) ?_
          refine z_ald_1 (TX0_told.at 34 rfl) ?_
          refine z_ald_1 (TX0_told.at 35 rfl) ?_
          refine zc_getA (m := m) (s := 5) (k := (32 * m + 5)) hlm (TX0_told.at 36 rfl) fl0_104 hH hcls rfl (by decide) (by decide) ?_
          refine z_ild_2 (TX0_told.at 37 rfl) ?_
          refine zcs_iald (m := m) (s := 5) hlm hcls egm5 (TX0_told.at 38 rfl) hH (by decide) (by decide) (by omega) (by omega) (fun r66 => ?_)
          refine z_ald_0 (TX0_told.at 39 rfl) ?_
          refine zc_getA (m := 11) (s := 4) (k := 356) (hH.lv (by decide)) (TX0_told.at 40 rfl) fl0_25 hH rfl rfl (by decide) (by decide) ?_
          refine zc_callI3 (m := 12) (c_ask12 hlm hcls h16 hNl hN0 egm8 eg356 efm1 (by omega) (by omega) (hsr2.2.1 Φ)) (hH.lv (by decide)) (TX0_told.at 41 rfl) c0_100 rfl rfl hH hA (by omega) (Nat.le_of_ble_eq_true rfl) (fun x71 f71 g71 j71 h r71 q71 hH hA => ?_)
          obtain ⟨q71, xf, xg, xj⟩ := q71
          rw [xj] at hH
          have efm1 := (xf (32 * m + 1) (by simp only [List.mem_cons, List.not_mem_nil, or_false, not_or, not_false_eq_true] <;> omega)).trans efm1
          have hfE := hfE.trans xf (by decide)
          have egm7 := (xg (32 * m + 7) (by simp only [List.mem_cons, List.not_mem_nil, or_false, not_or, not_false_eq_true] <;> omega)).trans egm7
          have egm5 := (xg (32 * m + 5) (by simp only [List.mem_cons, List.not_mem_nil, or_false, not_or, not_false_eq_true] <;> omega)).trans egm5
          have egm8 := (xg (32 * m + 8) (by simp only [List.mem_cons, List.not_mem_nil, or_false, not_or, not_false_eq_true] <;> omega)).trans egm8
          have eg356 := (xg 356 (by decide)).trans eg356
          have hgE := hgE.trans xg (by decide)
          have qL := q71
          obtain rfl := qL
          refine zc_iret (TX0_told.at 42 rfl) rfl hH hA (by omega) ?_
          exact ⟨by unfold tdV; rw [if_pos hso]; first | (have hv : c.1 = 3 := (by rcases hc.2.2.1 with z | z; exact z.1; exact absurd z.2.1 (by omega)); rw [if_pos hv]; done) | (rw [if_neg hv3, ← hkd2]; done), hfE, hgE, rfl⟩
        · skip
          refine z_iconst (TX0_told.at 30 rfl) ?_
          refine z_goto (tgt := 74) (TX0_told.at 31 rfl) rfl ?_
          refine zc_iret (TX0_told.at 42 rfl) rfl hH hA (by omega) ?_
          exact ⟨by unfold tdV; rw [if_pos hso]; first | (have hv : c.1 = 3 := (by rcases hc.2.2.1 with z | z; exact z.1; exact absurd z.2.1 (by omega)); rw [if_pos hv]; done) | (rw [if_neg hv3, ← hkd2]; done), hfE, hgE, rfl⟩
      · skip
        refine z_ldc (v := -2000000000) (TX0_told.at 22 rfl) k0_73 (by decide) ?_
        refine zc_iret (TX0_told.at 23 rfl) rfl hH hA (by omega) ?_
        exact ⟨by unfold tdV; rw [hq, if_neg (so_no (by rw [← hkd]; omega))], hfE, hgE, rfl⟩

