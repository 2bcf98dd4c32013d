/-! ===== the class: a law's clauses in a row ===== -/
def stp (head lo hi : Int) (φ : Int → Int) (c : Cla) (w : Int) : Int := if c.1 = head ∧ tellF.isSoB c.2.2.2.2 φ = true then (match c.2.1 φ with
  | none => w
  | some z => if z < lo then lo else if z > hi then hi else z) else w
theorem tell_s (head lo hi : Int) (φ : Int → Int) (c : Cla) (l : List Cla) (w : Int) : tellF head lo hi φ (c :: l) w = tellF head lo hi φ l (stp head lo hi φ c w) := by
  obtain ⟨vb, d1, d2, tm, q⟩ := c
  rfl
theorem stp_no {head lo hi w : Int} {φ : Int → Int} {c : Cla} (h : c.1 ≠ head) : stp head lo hi φ c w = w := if_neg (fun z => h z.1)
theorem stp_td {head lo hi w : Int} {φ : Int → Int} {c : Cla} (h : c.1 = head) (h3 : c.1 ≠ 3) (hn : Nb c.2.1) (hφ : ∀ i : Int, φ i ≠ -2000000000) (hlh : lo ≤ hi) : (tdV c φ = -2000000000 ∧ stp head lo hi φ c w = w) ∨ (tdV c φ ≠ -2000000000 ∧ stp head lo hi φ c w = max lo (min hi (tdV c φ))) := by
  unfold tdV stp
  by_cases so : tellF.isSoB c.2.2.2.2 φ = true
  · rw [if_pos so, if_neg h3, if_pos ⟨h, so⟩]
    rcases brk_Nb hn hφ with ⟨a, b⟩ | ⟨z, a, b, e⟩
    · rw [b, a]; exact Or.inl ⟨rfl, rfl⟩
    · rw [b, a]
      refine Or.inr ⟨e, ?_⟩
      show (if z < lo then lo else if z > hi then hi else z) = _
      split
      · omega
      · split <;> omega
  · rw [if_neg so, if_neg (fun z => so z.2)]
    exact Or.inl ⟨rfl, rfl⟩
theorem stp_bar {w : Int} {φ : Int → Int} {c : Cla} (h : c.1 = 3) (hd : c.2.1 = dOne) : (tdV c φ = -2000000000 ∧ stp 3 0 1 φ c w = w) ∨ (tdV c φ = 0 ∧ stp 3 0 1 φ c w = 1) := by
  unfold tdV stp
  by_cases so : tellF.isSoB c.2.2.2.2 φ = true
  · rw [if_pos so, if_pos h, if_pos ⟨h, so⟩, hd]
    exact Or.inr ⟨rfl, rfl⟩
  · rw [if_neg so, if_neg (fun z => so z.2)]
    exact Or.inl ⟨rfl, rfl⟩
theorem ClaR.nb {Vb On Te C : Int → Int} {N i : Int} {c : Cla} (h : ClaR Vb On Te C N i c) (h3 : c.1 ≠ 3) : Nb c.2.1 := by
  rcases h.2.2.1 with z | z
  · exact absurd z.1 h3
  · exact z.2.2.2.2
set_option maxHeartbeats 4000000 in
set_option maxRecDepth 100000 in
theorem lp_mk {l : Launch} {E : cE} {d : Nat} {Pz : Option Value → zH → Prop} {h0 : zH} {f0 : mF} {g0 : mA} {j : mA} (hd : 3 ≤ d) {m : Nat} {Vb Te On C Φ φ : Int → Int} {N n4 kn : Int} (hlm : E.2.1 m = true) (hcls : cCls m = 4) (h16 : 13 ≤ m) (hNl : N ≤ E.2.2 (32 * m + 8)) (hN0 : N ≤ 400) (q3 : n4 ≤ E.2.2 (32 * m + 3)) (q5 : n4 ≤ E.2.2 (32 * m + 5)) (q7 : n4 ≤ E.2.2 (32 * m + 7)) (n12 : n4 ≤ 12) (hφ : ∀ t : Int, 0 ≤ t → t < 9 → Φ t = φ t) (hnb : ∀ t : Int, φ t ≠ -2000000000) {W : Int} {Hx : Int → Int} {o1 : Option Value} (k0 : 0 ≤ kn) (k7 : kn ≤ 7) (kx : ∀ (o6 : Option Value) (f : mF) (g : mA) (h : zH), g 353 = iu Hx kn W → eqx [] f0 f → eqx [384, 353] g0 g → HC E f g j h → cAg E h0 h → Z l MX0_measureKnot d 0 0 Pz 140 [some (.ref (E.1 383)), o1, some (.ref (E.1 (32 * m + 31))), some (vI kn), some (vI n4), some (vI n4), o6] [] h 0 0)  : ∀ (n : Nat) (i : Int) (ls : List Cla) (cur : Int) (o6 : Option Value) (f : mF) (g : mA) (h : zH) (i0 : 0 ≤ i) (i1 : i ≤ n4) (i2 : n4 < i + n) (hle : i + (ls.length : Int) = n4) (hsc : ScL Vb On Te C N i ls) (ew : W = tellF 2 0 9 φ ls cur) (egm3 : g (32 * m + 3) = Vb) (egm7 : g (32 * m + 7) = Te) (egm5 : g (32 * m + 5) = On) (egm8 : g (32 * m + 8) = C) (eg356 : g 356 = Φ) (eg353 : g 353 = iu Hx kn cur) (efm1 : f (32 * m + 1) = N) (hfE : eqx [] f0 f) (hgE : eqx [384, 353] g0 g) (hH : HC E f g j h) (hA : cAg E h0 h), Z l MX0_measureKnot d 0 0 Pz 78 [some (.ref (E.1 383)), o1, some (.ref (E.1 (32 * m + 31))), some (vI kn), some (vI n4), some (vI i), o6] [] h 0 0 := by
  intro n
  induction n with
  | zero => intro i ls cur o6 f g h i0 i1 i2 hle hsc ew egm3 egm7 egm5 egm8 eg356 eg353 efm1 hfE hgE hH hA; exfalso; omega
  | succ n ih =>
    intro i ls cur o6 f g h i0 i1 i2 hle hsc ew egm3 egm7 egm5 egm8 eg356 eg353 efm1 hfE hgE hH hA
    refine z_ild_5 (TX0_measureKnot_1.at 11 rfl) ?_
    refine z_ild_4 (TX0_measureKnot_1.at 12 rfl) ?_
    refine z_icmp_ge (tgt := 140) (TX0_measureKnot_1.at 13 rfl) rfl (by omega) (by omega) (fun c1 => ?_) (fun c1 => ?_)
    · skip
      obtain rfl : i = n4 := by omega
      obtain rfl : ls = [] := List.eq_nil_of_length_eq_zero (by omega)
      obtain rfl : W = cur := ew
      exact kx _ _ _ _ eg353 hfE hgE hH hA
    · skip
      obtain ⟨c, l2, rfl⟩ : ∃ c l2, ls = c :: l2 := by
        cases ls with
        | nil => simp only [List.length_nil] at hle; omega
        | cons c l2 => exact ⟨c, l2, rfl⟩
      have hcl : ClaR Vb On Te C N i c ∧ ScL Vb On Te C N (i + 1) l2 := hsc
      have hv1 := hcl.1.1
      have hv2 := hcl.1.2.1
      have hle2 : (i + 1) + (l2.length : Int) = n4 := by simp only [List.length_cons] at hle; omega
      refine z_ald_2 (TX0_measureKnot_1.at 14 rfl) ?_
      refine zc_getA (m := m) (s := 3) (k := (32 * m + 3)) hlm (TX0_measureKnot_1.at 15 rfl) fl0_70 hH hcls rfl (by decide) (by decide) ?_
      refine z_ild_5 (TX0_measureKnot_1.at 16 rfl) ?_
      refine zcs_iald (m := m) (s := 3) hlm hcls egm3 (TX0_measureKnot_1.at 17 rfl) hH (by decide) (by decide) (by omega) (by omega) (fun r91 => ?_)
      refine z_iconst (TX0_measureKnot_1.at 18 rfl) ?_
      refine z_icmp_eq (tgt := 101) (TX0_measureKnot_1.at 19 rfl) rfl (by omega) (by omega) (fun c2 => ?_) (fun c2 => ?_)
      · skip
        have h2 : c.1 = 2 := by omega
        have hst := stp_td (w := cur) (lo := 0) (hi := 9) h2 (by omega) (hcl.1.nb (by omega)) hnb (by decide)
        refine z_ald_0 (TX0_measureKnot_1.at 22 rfl) ?_
        refine z_ald_2 (TX0_measureKnot_1.at 23 rfl) ?_
        refine z_ild_5 (TX0_measureKnot_1.at 24 rfl) ?_
        refine zc_callI2 (m := 11) (c_told egm7 egm5 egm8 eg356 efm1 (by omega) hlm hcls h16 hNl hN0 i0 (by omega) (by omega) hcl.1 hφ) (hH.lv (by decide)) (TX0_measureKnot_1.at 25 rfl) c0_74 rfl rfl hH hA (by omega) (Nat.le_of_ble_eq_true rfl) (fun x105 f105 g105 j105 h r105 q105 hH hA => ?_)
        obtain ⟨q105, xf, xg, xj⟩ := q105
        rw [xj] at hH
        have efm1 := (xf (32 * m + 1) (by simp only [List.mem_cons, List.not_mem_nil, or_false, not_or, not_false_eq_true] <;> omega)).trans efm1
        have hfE := hfE.trans xf (by decide)
        have egm3 := (xg (32 * m + 3) (by simp only [List.mem_cons, List.not_mem_nil, or_false, not_or, not_false_eq_true] <;> omega)).trans egm3
        have egm7 := (xg (32 * m + 7) (by simp only [List.mem_cons, List.not_mem_nil, or_false, not_or, not_false_eq_true] <;> omega)).trans egm7
        have egm5 := (xg (32 * m + 5) (by simp only [List.mem_cons, List.not_mem_nil, or_false, not_or, not_false_eq_true] <;> omega)).trans egm5
        have egm8 := (xg (32 * m + 8) (by simp only [List.mem_cons, List.not_mem_nil, or_false, not_or, not_false_eq_true] <;> omega)).trans egm8
        have eg356 := (xg 356 (by decide)).trans eg356
        have eg353 := (xg 353 (by decide)).trans eg353
        have hgE := hgE.trans xg (by decide)
        have qL := q105
        obtain rfl := qL
        refine z_ist_6 (TX0_measureKnot_1.at 26 rfl) (Nat.le_of_ble_eq_true rfl) rfl ?_
        refine z_ild_6 (TX0_measureKnot_1.at 27 rfl) ?_
        refine z_ldc (v := -2000000000) (TX0_measureKnot_1.at 28 rfl) k0_73 (by decide) ?_
        refine z_icmp_eq (tgt := 134) (TX0_measureKnot_1.at 29 rfl) rfl (by omega) (by omega) (fun c3 => ?_) (fun c3 => ?_)
        · skip
          refine z_iinc_5 (TX0_measureKnot_1.at 39 rfl) (Nat.le_of_ble_eq_true rfl) rfl ?_
          refine z_goto (tgt := 78) (TX0_measureKnot_2.at 0 rfl) rfl ?_
          refine ih (i + 1) l2 cur _ _ _ _ (by omega) (by omega) (by omega) hle2 hcl.2 ?_ egm3 egm7 egm5 egm8 eg356 eg353 efm1 hfE hgE hH hA
          rw [ew, tell_s, (show stp 2 0 9 φ c cur = cur by omega)]
        · skip
          refine z_ald_0 (TX0_measureKnot_1.at 30 rfl) ?_
          refine zc_getA (m := 11) (s := 1) (k := 353) (hH.lv (by decide)) (TX0_measureKnot_1.at 31 rfl) fl0_15 hH rfl rfl (by decide) (by decide) ?_
          refine z_ild_3 (TX0_measureKnot_1.at 32 rfl) ?_
          refine z_iconst (TX0_measureKnot_1.at 33 rfl) ?_
          refine z_bipush (by decide) (TX0_measureKnot_1.at 34 rfl) ?_
          refine z_ild_6 (TX0_measureKnot_1.at 35 rfl) ?_
          refine z_min (TX0_measureKnot_1.at 36 rfl) cm0_78 (by omega) (by omega) (by omega) (Nat.le_of_ble_eq_true rfl) ?_
          refine z_max (TX0_measureKnot_1.at 37 rfl) cm0_84 (by omega) (by omega) (by omega) (Nat.le_of_ble_eq_true rfl) ?_
          refine zcf_iast (k := 353) (N := 8) (hH.lv (by decide)) (by decide) rfl (TX0_measureKnot_1.at 38 rfl) hH hA (by decide) (by omega) (show _ < ((8 : Nat) : Int) by omega) (by omega) (fun h g133 e1 e2 hH hA => ?_)
          have egm3 := (e1 (32 * m + 3) (by omega)).trans egm3
          have egm7 := (e1 (32 * m + 7) (by omega)).trans egm7
          have egm5 := (e1 (32 * m + 5) (by omega)).trans egm5
          have egm8 := (e1 (32 * m + 8) (by omega)).trans egm8
          have eg356 := (e1 356 (by decide)).trans eg356
          rw [eg353] at e2; have eg353 := e2
          have hgE := hgE.put e1 (by decide)
          refine z_iinc_5 (TX0_measureKnot_1.at 39 rfl) (Nat.le_of_ble_eq_true rfl) rfl ?_
          refine z_goto (tgt := 78) (TX0_measureKnot_2.at 0 rfl) rfl ?_
          refine ih (i + 1) l2 _ _ _ _ _ (by omega) (by omega) (by omega) hle2 hcl.2 ?_ egm3 egm7 egm5 egm8 eg356 (by rw [iu_iu] at eg353; exact eg353) efm1 hfE hgE hH hA
          rw [ew, tell_s, (show stp 2 0 9 φ c cur = max 0 (min 9 (tdV c φ)) by omega)]
      · skip
        refine z_ldc (v := -2000000000) (TX0_measureKnot_1.at 20 rfl) k0_73 (by decide) ?_
        refine z_goto (tgt := 108) (TX0_measureKnot_1.at 21 rfl) rfl ?_
        refine z_ist_6 (TX0_measureKnot_1.at 26 rfl) (Nat.le_of_ble_eq_true rfl) rfl ?_
        refine z_ild_6 (TX0_measureKnot_1.at 27 rfl) ?_
        refine z_ldc (v := -2000000000) (TX0_measureKnot_1.at 28 rfl) k0_73 (by decide) ?_
        refine z_icmp_eq (tgt := 134) (TX0_measureKnot_1.at 29 rfl) rfl (by omega) (by omega) (fun c4 => ?_) (fun c4 => absurd c4 (by omega))
        refine z_iinc_5 (TX0_measureKnot_1.at 39 rfl) (Nat.le_of_ble_eq_true rfl) rfl ?_
        refine z_goto (tgt := 78) (TX0_measureKnot_2.at 0 rfl) rfl ?_
        refine ih (i + 1) l2 cur _ _ _ _ (by omega) (by omega) (by omega) hle2 hcl.2 ?_ egm3 egm7 egm5 egm8 eg356 eg353 efm1 hfE hgE hH hA
        rw [ew, tell_s, stp_no (show c.1 ≠ 2 by omega)]

