/-! ===== the class: how a fuse burns by a law ===== -/
theorem ClaR.one {Vb On Te C : Int → Int} {N i : Int} {c : Cla} (h : ClaR Vb On Te C N i c) (h3 : c.1 = 3) : c.2.1 = dOne := by
  rcases h.2.2.1 with z | z
  · exact z.2.2
  · exact absurd h3 z.1
set_option maxHeartbeats 4000000 in
set_option maxRecDepth 100000 in
theorem lp_mf {l : Launch} {E : cE} {d : Nat} {Pz : Option Value → zH → Prop} {h0 : zH} {f0 : mF} {g0 : mA} {j : mA} (hd : 3 ≤ d) {m : Nat} {Vb Te On C Φ φ : Int → Int} {N n4 kn : Int} (hlm : E.2.1 m = true) (hcls : cCls m = 4) (h16 : 13 ≤ m) (hNl : N ≤ E.2.2 (32 * m + 8)) (hN0 : N ≤ 400) (q3 : n4 ≤ E.2.2 (32 * m + 3)) (q5 : n4 ≤ E.2.2 (32 * m + 5)) (q7 : n4 ≤ E.2.2 (32 * m + 7)) (n12 : n4 ≤ 12) (hφ : ∀ t : Int, 0 ≤ t → t < 9 → Φ t = φ t) (hnb : ∀ t : Int, φ t ≠ -2000000000) {W1 W3 : Int} {Bx : Int → Int} {o1 : Option Value} (k0 : 0 ≤ kn) (k9 : kn ≤ 9) (kx : ∀ (o7 o8 : Option Value) (f : mF) (g : mA) (h : zH), W3 = 0 ∨ W3 = 1 → g 352 = iu Bx kn W1 → eqx [] f0 f → eqx [384, 352] g0 g → HC E f g j h → cAg E h0 h → Z l MX0_measureFuse d 0 0 Pz 183 [some (.ref (E.1 383)), o1, some (.ref (E.1 (32 * m + 31))), some (vI kn), some (vI W3), some (vI n4), some (vI n4), o7, o8] [] h 0 0)  : ∀ (n : Nat) (i : Int) (ls : List Cla) (cur : Int) (bar : Int) (o7 : Option Value) (o8 : Option Value) (f : mF) (g : mA) (h : zH) (i0 : 0 ≤ i) (i1 : i ≤ n4) (i2 : n4 < i + n) (hle : i + (ls.length : Int) = n4) (hsc : ScL Vb On Te C N i ls) (ew1 : W1 = tellF 1 1 99 φ ls cur) (ew3 : W3 = tellF 3 0 1 φ ls bar) (hbar : bar = 0 ∨ bar = 1) (egm3 : g (32 * m + 3) = Vb) (egm7 : g (32 * m + 7) = Te) (egm5 : g (32 * m + 5) = On) (egm8 : g (32 * m + 8) = C) (eg356 : g 356 = Φ) (eg352 : g 352 = iu Bx kn cur) (efm1 : f (32 * m + 1) = N) (hfE : eqx [] f0 f) (hgE : eqx [384, 352] g0 g) (hH : HC E f g j h) (hA : cAg E h0 h), Z l MX0_measureFuse d 0 0 Pz 102 [some (.ref (E.1 383)), o1, some (.ref (E.1 (32 * m + 31))), some (vI kn), some (vI bar), some (vI n4), some (vI i), o7, o8] [] h 0 0 := by
  intro n
  induction n with
  | zero => intro i ls cur bar o7 o8 f g h i0 i1 i2 hle hsc ew1 ew3 hbar egm3 egm7 egm5 egm8 eg356 eg352 efm1 hfE hgE hH hA; exfalso; omega
  | succ n ih =>
    intro i ls cur bar o7 o8 f g h i0 i1 i2 hle hsc ew1 ew3 hbar egm3 egm7 egm5 egm8 eg356 eg352 efm1 hfE hgE hH hA
    refine z_ild_6 (TX0_measureFuse_1.at 26 rfl) ?_
    refine z_ild_5 (TX0_measureFuse_1.at 27 rfl) ?_
    refine z_icmp_ge (tgt := 183) (TX0_measureFuse_1.at 28 rfl) rfl (by omega) (by omega) (fun c1 => ?_) (fun c1 => ?_)
    · skip
      obtain rfl : i = n4 := by omega
      obtain rfl : ls = [] := List.eq_nil_of_length_eq_zero (by omega)
      obtain rfl : W1 = cur := ew1
      obtain rfl : W3 = bar := ew3
      exact kx _ _ _ _ _ hbar eg352 hfE hgE hH hA
    · skip
      obtain ⟨c, l2, rfl⟩ : ∃ c l2, ls = c :: l2 := by
        cases ls with
        | nil => simp only [List.length_nil] at hle; omega
        | cons c l2 => exact ⟨c, l2, rfl⟩
      have hcl : ClaR Vb On Te C N i c ∧ ScL Vb On Te C N (i + 1) l2 := hsc
      have hv1 := hcl.1.1
      have hv2 := hcl.1.2.1
      have hle2 : (i + 1) + (l2.length : Int) = n4 := by simp only [List.length_cons] at hle; omega
      refine z_ald_2 (TX0_measureFuse_1.at 29 rfl) ?_
      refine zc_getA (m := m) (s := 3) (k := (32 * m + 3)) hlm (TX0_measureFuse_1.at 30 rfl) fl0_70 hH hcls rfl (by decide) (by decide) ?_
      refine z_ild_6 (TX0_measureFuse_1.at 31 rfl) ?_
      refine zcs_iald (m := m) (s := 3) hlm hcls egm3 (TX0_measureFuse_1.at 32 rfl) hH (by decide) (by decide) (by omega) (by omega) (fun r115 => ?_)
      refine z_ist_7 (TX0_measureFuse_1.at 33 rfl) (Nat.le_of_ble_eq_true rfl) rfl ?_
      refine z_ild_7 (TX0_measureFuse_1.at 34 rfl) ?_
      refine z_iconst (TX0_measureFuse_1.at 35 rfl) ?_
      refine z_icmp_ne (tgt := 129) (TX0_measureFuse_1.at 36 rfl) rfl (by omega) (by omega) (fun c2 => ?_) (fun c2 => ?_)
      · skip
        refine z_ald_0 (TX0_measureFuse_1.at 39 rfl) ?_
        refine z_ald_2 (TX0_measureFuse_2.at 0 rfl) ?_
        refine z_ild_6 (TX0_measureFuse_2.at 1 rfl) ?_
        refine zc_callI2 (m := 11) (c_told egm7 egm5 egm8 eg356 efm1 (by omega) hlm hcls h16 hNl hN0 i0 (by omega) (by omega) hcl.1 hφ) (hH.lv (by decide)) (TX0_measureFuse_2.at 2 rfl) c0_74 rfl rfl hH hA (by omega) (Nat.le_of_ble_eq_true rfl) (fun x133 f133 g133 j133 h r133 q133 hH hA => ?_)
        obtain ⟨q133, xf, xg, xj⟩ := q133
        rw [xj] at hH
        have efm1 := (xf (32 * m + 1) (by simp only [List.mem_cons, List.not_mem_nil, or_false, not_or, not_false_eq_true] <;> omega)).trans efm1
        have hfE := hfE.trans xf (by decide)
        have egm3 := (xg (32 * m + 3) (by simp only [List.mem_cons, List.not_mem_nil, or_false, not_or, not_false_eq_true] <;> omega)).trans egm3
        have egm7 := (xg (32 * m + 7) (by simp only [List.mem_cons, List.not_mem_nil, or_false, not_or, not_false_eq_true] <;> omega)).trans egm7
        have egm5 := (xg (32 * m + 5) (by simp only [List.mem_cons, List.not_mem_nil, or_false, not_or, not_false_eq_true] <;> omega)).trans egm5
        have egm8 := (xg (32 * m + 8) (by simp only [List.mem_cons, List.not_mem_nil, or_false, not_or, not_false_eq_true] <;> omega)).trans egm8
        have eg356 := (xg 356 (by decide)).trans eg356
        have eg352 := (xg 352 (by decide)).trans eg352
        have hgE := hgE.trans xg (by decide)
        have qL := q133
        obtain rfl := qL
        refine z_ist_8 (TX0_measureFuse_2.at 3 rfl) (Nat.le_of_ble_eq_true rfl) rfl ?_
        refine z_ild_8 (TX0_measureFuse_2.at 4 rfl) ?_
        refine z_ldc (v := -2000000000) (TX0_measureFuse_2.at 5 rfl) k0_73 (by decide) ?_
        refine z_icmp_ne (tgt := 148) (TX0_measureFuse_2.at 6 rfl) rfl (by omega) (by omega) (fun c3 => ?_) (fun c3 => ?_)
        · skip
          refine z_ild_7 (TX0_measureFuse_2.at 8 rfl) ?_
          refine z_iconst (TX0_measureFuse_2.at 9 rfl) ?_
          refine z_icmp_ne (tgt := 160) (TX0_measureFuse_2.at 10 rfl) rfl (by omega) (by omega) (fun c4 => ?_) (fun c4 => ?_)
          · skip
            refine z_ald_0 (TX0_measureFuse_2.at 14 rfl) ?_
            refine zc_getA (m := 11) (s := 0) (k := 352) (hH.lv (by decide)) (TX0_measureFuse_2.at 15 rfl) fl0_9 hH rfl rfl (by decide) (by decide) ?_
            refine z_ild_3 (TX0_measureFuse_2.at 16 rfl) ?_
            refine z_iconst (TX0_measureFuse_2.at 17 rfl) ?_
            refine z_bipush (by decide) (TX0_measureFuse_2.at 18 rfl) ?_
            refine z_ild_8 (TX0_measureFuse_2.at 19 rfl) ?_
            refine z_min (TX0_measureFuse_2.at 20 rfl) cm0_78 (by omega) (by omega) (by omega) (Nat.le_of_ble_eq_true rfl) ?_
            refine z_max (TX0_measureFuse_2.at 21 rfl) cm0_84 (by omega) (by omega) (by omega) (Nat.le_of_ble_eq_true rfl) ?_
            refine zcf_iast (k := 352) (N := 10) (hH.lv (by decide)) (by decide) rfl (TX0_measureFuse_2.at 22 rfl) hH hA (by decide) (by omega) (show _ < ((10 : Nat) : Int) by omega) (by omega) (fun h g176 e1 e2 hH hA => ?_)
            have egm3 := (e1 (32 * m + 3) (by omega)).trans egm3
            have egm7 := (e1 (32 * m + 7) (by omega)).trans egm7
            have egm5 := (e1 (32 * m + 5) (by omega)).trans egm5
            have egm8 := (e1 (32 * m + 8) (by omega)).trans egm8
            have eg356 := (e1 356 (by decide)).trans eg356
            rw [eg352] at e2; have eg352 := e2
            have hgE := hgE.put e1 (by decide)
            refine z_iinc_6 (TX0_measureFuse_2.at 23 rfl) (Nat.le_of_ble_eq_true rfl) rfl ?_
            refine z_goto (tgt := 102) (TX0_measureFuse_2.at 24 rfl) rfl ?_
            have hc1 : c.1 = 1 := by omega
            have hst := stp_td (w := cur) (lo := 1) (hi := 99) hc1 (by omega) (hcl.1.nb (by omega)) hnb (by decide)
            refine ih (i + 1) l2 _ bar _ _ _ _ _ (by omega) (by omega) (by omega) hle2 hcl.2 ?_ ?_ hbar egm3 egm7 egm5 egm8 eg356 (by rw [iu_iu] at eg352; exact eg352) efm1 hfE hgE hH hA
            · rw [ew1, tell_s, (show stp 1 1 99 φ c cur = max 1 (min 99 (tdV c φ)) by omega)]
            · rw [ew3, tell_s, stp_no (show c.1 ≠ 3 by omega)]
          · skip
            refine z_iconst (TX0_measureFuse_2.at 11 rfl) ?_
            refine z_ist_4 (TX0_measureFuse_2.at 12 rfl) (Nat.le_of_ble_eq_true rfl) rfl ?_
            refine z_goto (tgt := 177) (TX0_measureFuse_2.at 13 rfl) rfl ?_
            refine z_iinc_6 (TX0_measureFuse_2.at 23 rfl) (Nat.le_of_ble_eq_true rfl) rfl ?_
            refine z_goto (tgt := 102) (TX0_measureFuse_2.at 24 rfl) rfl ?_
            have hc3 : c.1 = 3 := by omega
            have hst := stp_bar (φ := φ) (w := bar) hc3 (hcl.1.one hc3)
            refine ih (i + 1) l2 cur 1 _ _ _ _ _ (by omega) (by omega) (by omega) hle2 hcl.2 ?_ ?_ (Or.inr rfl) egm3 egm7 egm5 egm8 eg356 eg352 efm1 hfE hgE hH hA
            · rw [ew1, tell_s, stp_no (show c.1 ≠ 1 by omega)]
            · rw [ew3, tell_s, (show stp 3 0 1 φ c bar = 1 by omega)]
        · skip
          refine z_goto (tgt := 177) (TX0_measureFuse_2.at 7 rfl) rfl ?_
          refine z_iinc_6 (TX0_measureFuse_2.at 23 rfl) (Nat.le_of_ble_eq_true rfl) rfl ?_
          refine z_goto (tgt := 102) (TX0_measureFuse_2.at 24 rfl) rfl ?_
          refine ih (i + 1) l2 cur bar _ _ _ _ _ (by omega) (by omega) (by omega) hle2 hcl.2 ?_ ?_ hbar egm3 egm7 egm5 egm8 eg356 eg352 efm1 hfE hgE hH hA
          · rcases (show c.1 = 1 ∨ c.1 = 3 by omega) with hc | hc
            · have hst := stp_td (w := cur) (lo := 1) (hi := 99) hc (by omega) (hcl.1.nb (by omega)) hnb (by decide)
              rw [ew1, tell_s, (show stp 1 1 99 φ c cur = cur by omega)]
            · rw [ew1, tell_s, stp_no (show c.1 ≠ 1 by omega)]
          · rcases (show c.1 = 1 ∨ c.1 = 3 by omega) with hc | hc
            · rw [ew3, tell_s, stp_no (show c.1 ≠ 3 by omega)]
            · have hst := stp_bar (φ := φ) (w := bar) hc (hcl.1.one hc)
              rw [ew3, tell_s, (show stp 3 0 1 φ c bar = bar by omega)]
      · skip
        refine z_ldc (v := -2000000000) (TX0_measureFuse_1.at 37 rfl) k0_73 (by decide) ?_
        refine z_goto (tgt := 136) (TX0_measureFuse_1.at 38 rfl) rfl ?_
        refine z_ist_8 (TX0_measureFuse_2.at 3 rfl) (Nat.le_of_ble_eq_true rfl) rfl ?_
        refine z_ild_8 (TX0_measureFuse_2.at 4 rfl) ?_
        refine z_ldc (v := -2000000000) (TX0_measureFuse_2.at 5 rfl) k0_73 (by decide) ?_
        refine z_icmp_ne (tgt := 148) (TX0_measureFuse_2.at 6 rfl) rfl (by omega) (by omega) (fun c5 => absurd c5 (by omega)) (fun c5 => ?_)
        refine z_goto (tgt := 177) (TX0_measureFuse_2.at 7 rfl) rfl ?_
        refine z_iinc_6 (TX0_measureFuse_2.at 23 rfl) (Nat.le_of_ble_eq_true rfl) rfl ?_
        refine z_goto (tgt := 102) (TX0_measureFuse_2.at 24 rfl) rfl ?_
        refine ih (i + 1) l2 cur bar _ _ _ _ _ (by omega) (by omega) (by omega) hle2 hcl.2 ?_ ?_ hbar egm3 egm7 egm5 egm8 eg356 eg352 efm1 hfE hgE hH hA
        · rw [ew1, tell_s, stp_no (show c.1 ≠ 1 by omega)]
        · rw [ew3, tell_s, stp_no (show c.1 ≠ 3 by omega)]

