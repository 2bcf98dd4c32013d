/-! ===== the reference: one order is asked, whole ===== -/
theorem cK_z {K : Int → Int} {b nt : Int} : ∀ i : Int, nt ≤ i → cK K b nt i = 0 := fun i h => by unfold cK; rw [if_neg (by omega)]
theorem adv_leK {K : Int → Int} {b nt : Int} {g : Nat → Nat → PR} {t p t' p' : Nat} {k : Den} (ha : Adv (cK K b nt) g) (h : g t p = .ok (t', p', k)) (ht : (t : Int) ≤ nt) : (t' : Int) ≤ nt := by
  have a := ha t p
  rw [h] at a
  exact nz_le cK_z ht a.2
theorem b2i_cg {p q : Prop} [Decidable p] [Decidable q] (h : p ↔ q) : b2i p = b2i q := by
  by_cases hp : p
  · rw [b2i_t hp, b2i_t (h.mp hp)]
  · rw [b2i_f hp, b2i_f (fun z => hp (h.mpr z))]
abbrev sOK (vb : Int) (d1 d2 : Den) (φ : Int → Int) : Prop := (vb = 26 ∨ (d1 φ).isSome = true) ∧ (vb ≠ 24 ∨ (d2 φ).isSome = true)
theorem gt_all {l : Launch} {o : Nat} {ar : Nat → Nat} {d : Nat} {Pz : Option Value → zH → Prop} {h0 h : zH} {f0 f : mF} {g0 g j : mA} {K φ : Int → Int} {nt live ed x27 x28 x29 y24 y42 y45 : Int} {t2 p2 t' p' : Nat} {k : Cla} {vb : Int} {d1 d2 : Den} {o3 o4 : Option Value} (hd : 45 ≤ d) (n4 : nt ≤ 400) (n0 : 0 ≤ K 76) (n1 : K 76 ≤ 10) (hd0 : ∀ i, 0 ≤ i → i < K 76 → K i = 0 ∨ K i = 1) (hl : live = 0 ∨ live = 1) (hO : FO1 K x27 x28 x29 φ) (t2n : (t2 : Int) ≤ nt) (htm : timC false (cK K 2400 nt) (vK K 2400) vb d1 d2 t2 p2 = .ok (t', p', k)) (kx : ∀ (o3 o4 : Option Value) (f : mF) (g : mA) (h : zH), f 42 = k.2.2.2.1 → f 22 = 2400 + (t' : Int) + 1 → (live = 1 → f 45 = b2i (tellF.isSoB k.2.2.2.2 φ = true)) → (f 45 = 0 ∨ f 45 = 1) → eqx [22, 24, 42, 45] f0 f → eqx [] g0 g → HM o ar f g j h → zAg o ar h0 h → Z l MX8_goesAlong d 0 0 Pz 263 [some (.ref o), some (vI ed), some (vI live), o3, o4] [] h 0 0) (eg2 : g 2 = K) (ef22 : f 22 = 2400 + (t2 : Int)) (ef23 : f 23 = 2400 + nt) (ef24 : f 24 = y24) (ef25 : f 25 = 1) (ef27 : f 27 = x27) (ef28 : f 28 = x28) (ef29 : f 29 = x29) (ef42 : f 42 = y42) (ef45 : f 45 = y45) (hfE : eqx [22, 24, 42, 45] f0 f) (hgE : eqx [] g0 g) (hH : HM o ar f g j h) (hA : zAg o ar h0 h) : Z l MX8_goesAlong d 0 0 Pz 159 [some (.ref o), some (vI ed), some (vI live), o3, o4] [] h 0 0 := by
  obtain ⟨q, tm, t3, rfl, hif, hcs⟩ := tim_step htm
  rcases hcs with ⟨h27, h50, hv, rfl, rfl⟩ | ⟨h27, rfl, rfl⟩
  · rcases pif_step hif with ⟨h4, k4, hq, rfl⟩ | ⟨h4, rfl, rfl, rfl⟩
    · have n2 := cK_nz (K := K) (b := 2400) (nt := nt) t2 (by omega)
      have n3 := cK_nz (K := K) (b := 2400) (nt := nt) (t2 + 2) (by omega)
      have tn := adv_leK (Adv_test false _ _ 8) hq (by push_cast at n3 ⊢; omega)
      exact gt_TI hd n4 n0 n1 hd0 hl hO t2n h27 h50 h4 hq tn (fun o3 o4 f g h a1 a2 a3 a4 hf hg hH hA => kx o3 o4 f g h a1 a2 (fun q => (a3 q).trans (b2i_cg ⟨fun z => by show (k4 φ == some 1) = true; rw [z]; rfl, fun z => eq_of_beq z⟩)) a4 hf hg hH hA) eg2 ef22 ef23 ef24 ef25 ef27 ef28 ef29 ef42 ef45 hfE hgE hH hA
    · exact gt_TN (p2 := 0) (t4 := 0) (p4 := 0) (k4 := dOne) hd n4 n0 n1 hd0 hl hO t2n h27 h50 h4 (fun o3 o4 f g h a1 a2 a3 a4 hf hg hH hA => kx o3 o4 f g h a1 a2 (fun q => (a3 q).trans (b2i_cg ⟨fun _ => rfl, fun _ => trivial⟩)) a4 hf hg hH hA) eg2 ef22 ef23 ef24 ef25 ef27 ef28 ef29 ef42 ef45 hfE hgE hH hA
  · rcases pif_step hif with ⟨h4, k4, hq, rfl⟩ | ⟨h4, rfl, rfl, rfl⟩
    · have n3 := cK_nz (K := K) (b := 2400) (nt := nt) t3 (by omega)
      have tn := adv_leK (Adv_test false _ _ 8) hq (by push_cast; omega)
      exact gt_NI hd n4 n0 n1 hd0 hl hO t2n h27 h4 hq tn (fun o3 o4 f g h a1 a2 a3 a4 hf hg hH hA => kx o3 o4 f g h a1 a2 (fun q => (a3 q).trans (b2i_cg ⟨fun z => by show (k4 φ == some 1) = true; rw [z]; rfl, fun z => eq_of_beq z⟩)) a4 hf hg hH hA) eg2 ef22 ef23 ef24 ef25 ef27 ef28 ef29 ef42 ef45 hfE hgE hH hA
    · exact gt_NN (p2 := 0) (t4 := 0) (p4 := 0) (k4 := dOne) hd n4 n0 n1 hd0 hl hO t2n h27 h4 (fun o3 o4 f g h a1 a2 a3 a4 hf hg hH hA => kx o3 o4 f g h a1 a2 (fun q => (a3 q).trans (b2i_cg ⟨fun _ => rfl, fun _ => trivial⟩)) a4 hf hg hH hA) eg2 ef22 ef23 ef24 ef25 ef27 ef28 ef29 ef42 ef45 hfE hgE hH hA
theorem evV_1 {z : Option Int} : evV 1 0 z = z.getD 0 := by
  unfold evV
  rw [if_pos ⟨rfl, rfl⟩]
def lv01 (x : Int) : Prop := x = 0 ∨ x = 1
def in01 (x : Int) : Prop := x = 0 ∨ x = 1
theorem lv_z {x : Int} (h : lv01 x) : zIn x := by unfold lv01 at h; omega
set_option maxHeartbeats 4000000 in
set_option maxRecDepth 100000 in
theorem gh_0 {l : Launch} {o : Nat} {ar : Nat → Nat} {d : Nat} {Pz : Option Value → zH → Prop} {h0 h : zH} {f0 f : mF} {g0 g j : mA} {K : Int → Int} {nt live y22 y23 y25 y43 y44 : Int} {t : Nat} (hd : 45 ≤ d) (n4 : nt ≤ 400) (n00 : 0 ≤ nt) (tn : (t : Int) < nt) (hvb : cK K 2400 nt t = 26) (kx : ∀ (f : mF) (g : mA) (h : zH), f 43 = cK K 2400 nt t → f 22 = 2400 + ((t + 1 : Nat) : Int) → f 23 = 2400 + nt → f 25 = 1 → f 44 = 1 → eqx [22, 23, 25, 43, 44] f0 f → eqx [] g0 g → HM o ar f g j h → zAg o ar h0 h → Z l MX8_goesAlong d 0 0 Pz 92 [some (.ref o), some (vI (2400 + nt)), some (vI live), some (vI 0), some (vI 0)] [] h 0 0) (eg2 : g 2 = K) (ef22 : f 22 = y22) (ef23 : f 23 = y23) (ef25 : f 25 = y25) (ef41 : f 41 = 2400 + (t : Int)) (ef43 : f 43 = y43) (ef44 : f 44 = y44) (hfE : eqx [22, 23, 25, 43, 44] f0 f) (hgE : eqx [] g0 g) (hH : HM o ar f g j h) (hA : zAg o ar h0 h) : Z l MX8_goesAlong d 0 0 Pz 16 [some (.ref o), some (vI (2400 + nt)), some (vI live), none, none] [] h 0 0 := by
  refine z_ald_0 (TX8_goesAlong_0.at 8 rfl) ?_
  refine z_iconst (TX8_goesAlong_0.at 9 rfl) ?_
  refine zm_putZE (TX8_goesAlong_0.at 10 rfl) fp8_290 hH hA rfl (by decide) (by first | omega | exact b2i_01 _) (fun h f18 e1 e2 hH hA => ?_)
  have ef22 := (e1 22 (by decide)).trans ef22
  have ef23 := (e1 23 (by decide)).trans ef23
  have ef25 := e2
  have ef41 := (e1 41 (by decide)).trans ef41
  have ef43 := (e1 43 (by decide)).trans ef43
  have ef44 := (e1 44 (by decide)).trans ef44
  have hfE := hfE.put e1 (by decide)
  refine z_ald_0 (TX8_goesAlong_0.at 11 rfl) ?_
  refine z_ild_1 (TX8_goesAlong_0.at 12 rfl) ?_
  refine zm_putIE (TX8_goesAlong_0.at 13 rfl) fp8_257 hH hA rfl (by decide) (by first | omega | exact b2i_01 _) (fun h f23 e1 e2 hH hA => ?_)
  have ef22 := (e1 22 (by decide)).trans ef22
  have ef23 := e2
  have ef25 := (e1 25 (by decide)).trans ef25
  have ef41 := (e1 41 (by decide)).trans ef41
  have ef43 := (e1 43 (by decide)).trans ef43
  have ef44 := (e1 44 (by decide)).trans ef44
  have hfE := hfE.put e1 (by decide)
  refine z_ald_0 (TX8_goesAlong_0.at 14 rfl) ?_
  refine z_ald_0 (TX8_goesAlong_0.at 15 rfl) ?_
  refine zm_getIE ef41 (TX8_goesAlong_0.at 16 rfl) fl8_441 hH rfl (by decide) (fun r28 => ?_)
  refine zm_putIE (TX8_goesAlong_0.at 17 rfl) fp8_260 hH hA rfl (by decide) (by first | omega | exact b2i_01 _) (fun h f31 e1 e2 hH hA => ?_)
  have ef22 := e2
  have ef23 := (e1 23 (by decide)).trans ef23
  have ef25 := (e1 25 (by decide)).trans ef25
  have ef41 := (e1 41 (by decide)).trans ef41
  have ef43 := (e1 43 (by decide)).trans ef43
  have ef44 := (e1 44 (by decide)).trans ef44
  have hfE := hfE.put e1 (by decide)
  refine z_ald_0 (TX8_goesAlong_0.at 18 rfl) ?_
  refine z_ald_0 (TX8_goesAlong_0.at 19 rfl) ?_
  refine z_ald_0 (TX8_goesAlong_0.at 20 rfl) ?_
  refine zm_getIE ef22 (TX8_goesAlong_0.at 21 rfl) fl8_260 hH rfl (by decide) (fun r37 => ?_)
  refine zm_callI1 (m_codeAt eg2 ef23 (by omega) (by omega) (by omega)) (TX8_goesAlong_0.at 22 rfl) c8_263 rfl rfl hH hA (by omega) (Nat.le_of_ble_eq_true rfl) (fun x40 f40 g40 j40 h r40 q40 hH hA => ?_)
  obtain ⟨q40, xf, xg, xj⟩ := q40
  rw [xj] at hH
  have ef22 := (xf 22 (by decide)).trans ef22
  have ef23 := (xf 23 (by decide)).trans ef23
  have ef25 := (xf 25 (by decide)).trans ef25
  have ef41 := (xf 41 (by decide)).trans ef41
  have ef43 := (xf 43 (by decide)).trans ef43
  have ef44 := (xf 44 (by decide)).trans ef44
  have hfE := hfE.trans xf (by decide)
  have eg2 := (xg 2 (by decide)).trans eg2
  have hgE := hgE.trans xg (by decide)
  have qL := q40
  have qc : x40 = cK K 2400 nt t := by rw [qL]; exact cK_at
  rw [qc] at r40 ⊢
  refine zm_putIE (TX8_goesAlong_0.at 23 rfl) fp8_450 hH hA rfl (by decide) (by first | omega | exact b2i_01 _) (fun h f43 e1 e2 hH hA => ?_)
  have ef22 := (e1 22 (by decide)).trans ef22
  have ef23 := (e1 23 (by decide)).trans ef23
  have ef25 := (e1 25 (by decide)).trans ef25
  have ef41 := (e1 41 (by decide)).trans ef41
  have ef43 := e2
  have ef44 := (e1 44 (by decide)).trans ef44
  have hfE := hfE.put e1 (by decide)
  refine z_ald_0 (TX8_goesAlong_0.at 24 rfl) ?_
  refine z_dup rfl (TX8_goesAlong_0.at 25 rfl) ?_
  refine zm_getIE ef22 (TX8_goesAlong_0.at 26 rfl) fl8_260 hH rfl (by decide) (fun r48 => ?_)
  refine z_iconst (TX8_goesAlong_0.at 27 rfl) ?_
  refine z_iadd (TX8_goesAlong_0.at 28 rfl) ?_
  refine zm_putIE (TX8_goesAlong_0.at 29 rfl) fp8_260 hH hA rfl (by decide) (by first | omega | exact b2i_01 _) (fun h f53 e1 e2 hH hA => ?_)
  have ef22 := e2
  have ef23 := (e1 23 (by decide)).trans ef23
  have ef25 := (e1 25 (by decide)).trans ef25
  have ef41 := (e1 41 (by decide)).trans ef41
  have ef43 := (e1 43 (by decide)).trans ef43
  have ef44 := (e1 44 (by decide)).trans ef44
  have hfE := hfE.put e1 (by decide)
  refine z_ald_0 (TX8_goesAlong_0.at 30 rfl) ?_
  refine z_iconst (TX8_goesAlong_0.at 31 rfl) ?_
  refine zm_putZE (TX8_goesAlong_0.at 32 rfl) fp8_453 hH hA rfl (by decide) (by first | omega | exact b2i_01 _) (fun h f58 e1 e2 hH hA => ?_)
  have ef22 := (e1 22 (by decide)).trans ef22
  have ef23 := (e1 23 (by decide)).trans ef23
  have ef25 := (e1 25 (by decide)).trans ef25
  have ef41 := (e1 41 (by decide)).trans ef41
  have ef43 := (e1 43 (by decide)).trans ef43
  have ef44 := e2
  have hfE := hfE.put e1 (by decide)
  refine z_ald_0 (TX8_goesAlong_0.at 33 rfl) ?_
  refine zm_getIE ef43 (TX8_goesAlong_0.at 34 rfl) fl8_450 hH rfl (by decide) (fun r62 => ?_)
  refine z_bipush (by decide) (TX8_goesAlong_0.at 35 rfl) ?_
  refine z_icmp_ne (tgt := 74) (TX8_goesAlong_0.at 36 rfl) rfl (by omega) (by omega) (fun c1 => absurd c1 (by omega)) (fun c1 => ?_)
  refine z_iconst (TX8_goesAlong_0.at 37 rfl) ?_
  refine z_goto (tgt := 88) (TX8_goesAlong_0.at 38 rfl) rfl ?_
  refine z_ist_3 (TX8_goesAlong_1.at 6 rfl) (Nat.le_of_ble_eq_true rfl) rfl ?_
  refine z_iconst (TX8_goesAlong_1.at 7 rfl) ?_
  refine z_ist_4 (TX8_goesAlong_1.at 8 rfl) (Nat.le_of_ble_eq_true rfl) rfl ?_
  exact kx _ _ _ ef43 (by rw [ef22]; push_cast; omega) ef23 ef25 ef44 hfE hgE hH hA

set_option maxHeartbeats 4000000 in
set_option maxRecDepth 100000 in
theorem gh_1 {l : Launch} {o : Nat} {ar : Nat → Nat} {d : Nat} {Pz : Option Value → zH → Prop} {h0 h : zH} {f0 f : mF} {g0 g j : mA} {K : Int → Int} {nt live y22 y23 y25 y43 y44 : Int} {t : Nat} (hd : 45 ≤ d) (n4 : nt ≤ 400) (n00 : 0 ≤ nt) (tn : (t : Int) < nt) (hvb : cK K 2400 nt t ≠ 26 ∧ cK K 2400 nt t ≠ 24) (kx : ∀ (f : mF) (g : mA) (h : zH), f 43 = cK K 2400 nt t → f 22 = 2400 + ((t + 1 : Nat) : Int) → f 23 = 2400 + nt → f 25 = 1 → f 44 = 1 → eqx [22, 23, 25, 43, 44] f0 f → eqx [] g0 g → HM o ar f g j h → zAg o ar h0 h → Z l MX8_goesAlong d 0 0 Pz 92 [some (.ref o), some (vI (2400 + nt)), some (vI live), some (vI 1), some (vI 0)] [] h 0 0) (eg2 : g 2 = K) (ef22 : f 22 = y22) (ef23 : f 23 = y23) (ef25 : f 25 = y25) (ef41 : f 41 = 2400 + (t : Int)) (ef43 : f 43 = y43) (ef44 : f 44 = y44) (hfE : eqx [22, 23, 25, 43, 44] f0 f) (hgE : eqx [] g0 g) (hH : HM o ar f g j h) (hA : zAg o ar h0 h) : Z l MX8_goesAlong d 0 0 Pz 16 [some (.ref o), some (vI (2400 + nt)), some (vI live), none, none] [] h 0 0 := by
  refine z_ald_0 (TX8_goesAlong_0.at 8 rfl) ?_
  refine z_iconst (TX8_goesAlong_0.at 9 rfl) ?_
  refine zm_putZE (TX8_goesAlong_0.at 10 rfl) fp8_290 hH hA rfl (by decide) (by first | omega | exact b2i_01 _) (fun h f18 e1 e2 hH hA => ?_)
  have ef22 := (e1 22 (by decide)).trans ef22
  have ef23 := (e1 23 (by decide)).trans ef23
  have ef25 := e2
  have ef41 := (e1 41 (by decide)).trans ef41
  have ef43 := (e1 43 (by decide)).trans ef43
  have ef44 := (e1 44 (by decide)).trans ef44
  have hfE := hfE.put e1 (by decide)
  refine z_ald_0 (TX8_goesAlong_0.at 11 rfl) ?_
  refine z_ild_1 (TX8_goesAlong_0.at 12 rfl) ?_
  refine zm_putIE (TX8_goesAlong_0.at 13 rfl) fp8_257 hH hA rfl (by decide) (by first | omega | exact b2i_01 _) (fun h f23 e1 e2 hH hA => ?_)
  have ef22 := (e1 22 (by decide)).trans ef22
  have ef23 := e2
  have ef25 := (e1 25 (by decide)).trans ef25
  have ef41 := (e1 41 (by decide)).trans ef41
  have ef43 := (e1 43 (by decide)).trans ef43
  have ef44 := (e1 44 (by decide)).trans ef44
  have hfE := hfE.put e1 (by decide)
  refine z_ald_0 (TX8_goesAlong_0.at 14 rfl) ?_
  refine z_ald_0 (TX8_goesAlong_0.at 15 rfl) ?_
  refine zm_getIE ef41 (TX8_goesAlong_0.at 16 rfl) fl8_441 hH rfl (by decide) (fun r28 => ?_)
  refine zm_putIE (TX8_goesAlong_0.at 17 rfl) fp8_260 hH hA rfl (by decide) (by first | omega | exact b2i_01 _) (fun h f31 e1 e2 hH hA => ?_)
  have ef22 := e2
  have ef23 := (e1 23 (by decide)).trans ef23
  have ef25 := (e1 25 (by decide)).trans ef25
  have ef41 := (e1 41 (by decide)).trans ef41
  have ef43 := (e1 43 (by decide)).trans ef43
  have ef44 := (e1 44 (by decide)).trans ef44
  have hfE := hfE.put e1 (by decide)
  refine z_ald_0 (TX8_goesAlong_0.at 18 rfl) ?_
  refine z_ald_0 (TX8_goesAlong_0.at 19 rfl) ?_
  refine z_ald_0 (TX8_goesAlong_0.at 20 rfl) ?_
  refine zm_getIE ef22 (TX8_goesAlong_0.at 21 rfl) fl8_260 hH rfl (by decide) (fun r37 => ?_)
  refine zm_callI1 (m_codeAt eg2 ef23 (by omega) (by omega) (by omega)) (TX8_goesAlong_0.at 22 rfl) c8_263 rfl rfl hH hA (by omega) (Nat.le_of_ble_eq_true rfl) (fun x40 f40 g40 j40 h r40 q40 hH hA => ?_)
  obtain ⟨q40, xf, xg, xj⟩ := q40
  rw [xj] at hH
  have ef22 := (xf 22 (by decide)).trans ef22
  have ef23 := (xf 23 (by decide)).trans ef23
  have ef25 := (xf 25 (by decide)).trans ef25
  have ef41 := (xf 41 (by decide)).trans ef41
  have ef43 := (xf 43 (by decide)).trans ef43
  have ef44 := (xf 44 (by decide)).trans ef44
  have hfE := hfE.trans xf (by decide)
  have eg2 := (xg 2 (by decide)).trans eg2
  have hgE := hgE.trans xg (by decide)
  have qL := q40
  have qc : x40 = cK K 2400 nt t := by rw [qL]; exact cK_at
  rw [qc] at r40 ⊢
  refine zm_putIE (TX8_goesAlong_0.at 23 rfl) fp8_450 hH hA rfl (by decide) (by first | omega | exact b2i_01 _) (fun h f43 e1 e2 hH hA => ?_)
  have ef22 := (e1 22 (by decide)).trans ef22
  have ef23 := (e1 23 (by decide)).trans ef23
  have ef25 := (e1 25 (by decide)).trans ef25
  have ef41 := (e1 41 (by decide)).trans ef41
  have ef43 := e2
  have ef44 := (e1 44 (by decide)).trans ef44
  have hfE := hfE.put e1 (by decide)
  refine z_ald_0 (TX8_goesAlong_0.at 24 rfl) ?_
  refine z_dup rfl (TX8_goesAlong_0.at 25 rfl) ?_
  refine zm_getIE ef22 (TX8_goesAlong_0.at 26 rfl) fl8_260 hH rfl (by decide) (fun r48 => ?_)
  refine z_iconst (TX8_goesAlong_0.at 27 rfl) ?_
  refine z_iadd (TX8_goesAlong_0.at 28 rfl) ?_
  refine zm_putIE (TX8_goesAlong_0.at 29 rfl) fp8_260 hH hA rfl (by decide) (by first | omega | exact b2i_01 _) (fun h f53 e1 e2 hH hA => ?_)
  have ef22 := e2
  have ef23 := (e1 23 (by decide)).trans ef23
  have ef25 := (e1 25 (by decide)).trans ef25
  have ef41 := (e1 41 (by decide)).trans ef41
  have ef43 := (e1 43 (by decide)).trans ef43
  have ef44 := (e1 44 (by decide)).trans ef44
  have hfE := hfE.put e1 (by decide)
  refine z_ald_0 (TX8_goesAlong_0.at 30 rfl) ?_
  refine z_iconst (TX8_goesAlong_0.at 31 rfl) ?_
  refine zm_putZE (TX8_goesAlong_0.at 32 rfl) fp8_453 hH hA rfl (by decide) (by first | omega | exact b2i_01 _) (fun h f58 e1 e2 hH hA => ?_)
  have ef22 := (e1 22 (by decide)).trans ef22
  have ef23 := (e1 23 (by decide)).trans ef23
  have ef25 := (e1 25 (by decide)).trans ef25
  have ef41 := (e1 41 (by decide)).trans ef41
  have ef43 := (e1 43 (by decide)).trans ef43
  have ef44 := e2
  have hfE := hfE.put e1 (by decide)
  refine z_ald_0 (TX8_goesAlong_0.at 33 rfl) ?_
  refine zm_getIE ef43 (TX8_goesAlong_0.at 34 rfl) fl8_450 hH rfl (by decide) (fun r62 => ?_)
  refine z_bipush (by decide) (TX8_goesAlong_0.at 35 rfl) ?_
  refine z_icmp_ne (tgt := 74) (TX8_goesAlong_0.at 36 rfl) rfl (by omega) (by omega) (fun c1 => ?_) (fun c1 => absurd c1 (by omega))
  refine z_ald_0 (TX8_goesAlong_0.at 39 rfl) ?_
  refine zm_getIE ef43 (TX8_goesAlong_1.at 0 rfl) fl8_450 hH rfl (by decide) (fun r75 => ?_)
  refine z_bipush (by decide) (TX8_goesAlong_1.at 1 rfl) ?_
  refine z_icmp_ne (tgt := 87) (TX8_goesAlong_1.at 2 rfl) rfl (by omega) (by omega) (fun c2 => ?_) (fun c2 => absurd c2 (by omega))
  refine z_iconst (TX8_goesAlong_1.at 5 rfl) ?_
  refine z_ist_3 (TX8_goesAlong_1.at 6 rfl) (Nat.le_of_ble_eq_true rfl) rfl ?_
  refine z_iconst (TX8_goesAlong_1.at 7 rfl) ?_
  refine z_ist_4 (TX8_goesAlong_1.at 8 rfl) (Nat.le_of_ble_eq_true rfl) rfl ?_
  exact kx _ _ _ ef43 (by rw [ef22]; push_cast; omega) ef23 ef25 ef44 hfE hgE hH hA

set_option maxHeartbeats 4000000 in
set_option maxRecDepth 100000 in
theorem gh_2 {l : Launch} {o : Nat} {ar : Nat → Nat} {d : Nat} {Pz : Option Value → zH → Prop} {h0 h : zH} {f0 f : mF} {g0 g j : mA} {K : Int → Int} {nt live y22 y23 y25 y43 y44 : Int} {t : Nat} (hd : 45 ≤ d) (n4 : nt ≤ 400) (n00 : 0 ≤ nt) (tn : (t : Int) < nt) (hvb : cK K 2400 nt t = 24) (kx : ∀ (f : mF) (g : mA) (h : zH), f 43 = cK K 2400 nt t → f 22 = 2400 + ((t + 1 : Nat) : Int) → f 23 = 2400 + nt → f 25 = 1 → f 44 = 1 → eqx [22, 23, 25, 43, 44] f0 f → eqx [] g0 g → HM o ar f g j h → zAg o ar h0 h → Z l MX8_goesAlong d 0 0 Pz 92 [some (.ref o), some (vI (2400 + nt)), some (vI live), some (vI 2), some (vI 0)] [] h 0 0) (eg2 : g 2 = K) (ef22 : f 22 = y22) (ef23 : f 23 = y23) (ef25 : f 25 = y25) (ef41 : f 41 = 2400 + (t : Int)) (ef43 : f 43 = y43) (ef44 : f 44 = y44) (hfE : eqx [22, 23, 25, 43, 44] f0 f) (hgE : eqx [] g0 g) (hH : HM o ar f g j h) (hA : zAg o ar h0 h) : Z l MX8_goesAlong d 0 0 Pz 16 [some (.ref o), some (vI (2400 + nt)), some (vI live), none, none] [] h 0 0 := by
  refine z_ald_0 (TX8_goesAlong_0.at 8 rfl) ?_
  refine z_iconst (TX8_goesAlong_0.at 9 rfl) ?_
  refine zm_putZE (TX8_goesAlong_0.at 10 rfl) fp8_290 hH hA rfl (by decide) (by first | omega | exact b2i_01 _) (fun h f18 e1 e2 hH hA => ?_)
  have ef22 := (e1 22 (by decide)).trans ef22
  have ef23 := (e1 23 (by decide)).trans ef23
  have ef25 := e2
  have ef41 := (e1 41 (by decide)).trans ef41
  have ef43 := (e1 43 (by decide)).trans ef43
  have ef44 := (e1 44 (by decide)).trans ef44
  have hfE := hfE.put e1 (by decide)
  refine z_ald_0 (TX8_goesAlong_0.at 11 rfl) ?_
  refine z_ild_1 (TX8_goesAlong_0.at 12 rfl) ?_
  refine zm_putIE (TX8_goesAlong_0.at 13 rfl) fp8_257 hH hA rfl (by decide) (by first | omega | exact b2i_01 _) (fun h f23 e1 e2 hH hA => ?_)
  have ef22 := (e1 22 (by decide)).trans ef22
  have ef23 := e2
  have ef25 := (e1 25 (by decide)).trans ef25
  have ef41 := (e1 41 (by decide)).trans ef41
  have ef43 := (e1 43 (by decide)).trans ef43
  have ef44 := (e1 44 (by decide)).trans ef44
  have hfE := hfE.put e1 (by decide)
  refine z_ald_0 (TX8_goesAlong_0.at 14 rfl) ?_
  refine z_ald_0 (TX8_goesAlong_0.at 15 rfl) ?_
  refine zm_getIE ef41 (TX8_goesAlong_0.at 16 rfl) fl8_441 hH rfl (by decide) (fun r28 => ?_)
  refine zm_putIE (TX8_goesAlong_0.at 17 rfl) fp8_260 hH hA rfl (by decide) (by first | omega | exact b2i_01 _) (fun h f31 e1 e2 hH hA => ?_)
  have ef22 := e2
  have ef23 := (e1 23 (by decide)).trans ef23
  have ef25 := (e1 25 (by decide)).trans ef25
  have ef41 := (e1 41 (by decide)).trans ef41
  have ef43 := (e1 43 (by decide)).trans ef43
  have ef44 := (e1 44 (by decide)).trans ef44
  have hfE := hfE.put e1 (by decide)
  refine z_ald_0 (TX8_goesAlong_0.at 18 rfl) ?_
  refine z_ald_0 (TX8_goesAlong_0.at 19 rfl) ?_
  refine z_ald_0 (TX8_goesAlong_0.at 20 rfl) ?_
  refine zm_getIE ef22 (TX8_goesAlong_0.at 21 rfl) fl8_260 hH rfl (by decide) (fun r37 => ?_)
  refine zm_callI1 (m_codeAt eg2 ef23 (by omega) (by omega) (by omega)) (TX8_goesAlong_0.at 22 rfl) c8_263 rfl rfl hH hA (by omega) (Nat.le_of_ble_eq_true rfl) (fun x40 f40 g40 j40 h r40 q40 hH hA => ?_)
  obtain ⟨q40, xf, xg, xj⟩ := q40
  rw [xj] at hH
  have ef22 := (xf 22 (by decide)).trans ef22
  have ef23 := (xf 23 (by decide)).trans ef23
  have ef25 := (xf 25 (by decide)).trans ef25
  have ef41 := (xf 41 (by decide)).trans ef41
  have ef43 := (xf 43 (by decide)).trans ef43
  have ef44 := (xf 44 (by decide)).trans ef44
  have hfE := hfE.trans xf (by decide)
  have eg2 := (xg 2 (by decide)).trans eg2
  have hgE := hgE.trans xg (by decide)
  have qL := q40
  have qc : x40 = cK K 2400 nt t := by rw [qL]; exact cK_at
  rw [qc] at r40 ⊢
  refine zm_putIE (TX8_goesAlong_0.at 23 rfl) fp8_450 hH hA rfl (by decide) (by first | omega | exact b2i_01 _) (fun h f43 e1 e2 hH hA => ?_)
  have ef22 := (e1 22 (by decide)).trans ef22
  have ef23 := (e1 23 (by decide)).trans ef23
  have ef25 := (e1 25 (by decide)).trans ef25
  have ef41 := (e1 41 (by decide)).trans ef41
  have ef43 := e2
  have ef44 := (e1 44 (by decide)).trans ef44
  have hfE := hfE.put e1 (by decide)
  refine z_ald_0 (TX8_goesAlong_0.at 24 rfl) ?_
  refine z_dup rfl (TX8_goesAlong_0.at 25 rfl) ?_
  refine zm_getIE ef22 (TX8_goesAlong_0.at 26 rfl) fl8_260 hH rfl (by decide) (fun r48 => ?_)
  refine z_iconst (TX8_goesAlong_0.at 27 rfl) ?_
  refine z_iadd (TX8_goesAlong_0.at 28 rfl) ?_
  refine zm_putIE (TX8_goesAlong_0.at 29 rfl) fp8_260 hH hA rfl (by decide) (by first | omega | exact b2i_01 _) (fun h f53 e1 e2 hH hA => ?_)
  have ef22 := e2
  have ef23 := (e1 23 (by decide)).trans ef23
  have ef25 := (e1 25 (by decide)).trans ef25
  have ef41 := (e1 41 (by decide)).trans ef41
  have ef43 := (e1 43 (by decide)).trans ef43
  have ef44 := (e1 44 (by decide)).trans ef44
  have hfE := hfE.put e1 (by decide)
  refine z_ald_0 (TX8_goesAlong_0.at 30 rfl) ?_
  refine z_iconst (TX8_goesAlong_0.at 31 rfl) ?_
  refine zm_putZE (TX8_goesAlong_0.at 32 rfl) fp8_453 hH hA rfl (by decide) (by first | omega | exact b2i_01 _) (fun h f58 e1 e2 hH hA => ?_)
  have ef22 := (e1 22 (by decide)).trans ef22
  have ef23 := (e1 23 (by decide)).trans ef23
  have ef25 := (e1 25 (by decide)).trans ef25
  have ef41 := (e1 41 (by decide)).trans ef41
  have ef43 := (e1 43 (by decide)).trans ef43
  have ef44 := e2
  have hfE := hfE.put e1 (by decide)
  refine z_ald_0 (TX8_goesAlong_0.at 33 rfl) ?_
  refine zm_getIE ef43 (TX8_goesAlong_0.at 34 rfl) fl8_450 hH rfl (by decide) (fun r62 => ?_)
  refine z_bipush (by decide) (TX8_goesAlong_0.at 35 rfl) ?_
  refine z_icmp_ne (tgt := 74) (TX8_goesAlong_0.at 36 rfl) rfl (by omega) (by omega) (fun c1 => ?_) (fun c1 => absurd c1 (by omega))
  refine z_ald_0 (TX8_goesAlong_0.at 39 rfl) ?_
  refine zm_getIE ef43 (TX8_goesAlong_1.at 0 rfl) fl8_450 hH rfl (by decide) (fun r75 => ?_)
  refine z_bipush (by decide) (TX8_goesAlong_1.at 1 rfl) ?_
  refine z_icmp_ne (tgt := 87) (TX8_goesAlong_1.at 2 rfl) rfl (by omega) (by omega) (fun c2 => absurd c2 (by omega)) (fun c2 => ?_)
  refine z_iconst (TX8_goesAlong_1.at 3 rfl) ?_
  refine z_goto (tgt := 88) (TX8_goesAlong_1.at 4 rfl) rfl ?_
  refine z_ist_3 (TX8_goesAlong_1.at 6 rfl) (Nat.le_of_ble_eq_true rfl) rfl ?_
  refine z_iconst (TX8_goesAlong_1.at 7 rfl) ?_
  refine z_ist_4 (TX8_goesAlong_1.at 8 rfl) (Nat.le_of_ble_eq_true rfl) rfl ?_
  exact kx _ _ _ ef43 (by rw [ef22]; push_cast; omega) ef23 ef25 ef44 hfE hgE hH hA

set_option maxHeartbeats 4000000 in
set_option maxRecDepth 100000 in
theorem gs_sum {l : Launch} {o : Nat} {ar : Nat → Nat} {d : Nat} {Pz : Option Value → zH → Prop} {h0 h : zH} {f0 f : mF} {g0 g j : mA} {j0 : mA} {K φ S : Int → Int} {nt live x27 x28 x29 y24 sa kk nn : Int} {t0 p0 t1 p1 : Nat} {k1 : Den} (hd : 45 ≤ d) (n4 : nt ≤ 400) (n0 : 0 ≤ K 76) (n1 : K 76 ≤ 10) (hd0 : ∀ i, 0 ≤ i → i < K 76 → K i = 0 ∨ K i = 1) (hl : lv01 live) (hO : FO1 K x27 x28 x29 φ) (n00 : 0 ≤ nt) (t0n : (t0 : Int) ≤ nt) (hs : pSumD false (cK K 2400 nt) (vK K 2400) 8 t0 p0 = .ok (t1, p1, k1)) (hk : kk = 0 ∨ kk = 1) (hsa : in01 sa) (kx : ∀ (f : mF) (g j : mA) (h : zH), f 22 = 2400 + (t1 : Int) → in01 (f 44) → (live = 1 → (f 44 = 1 ↔ (sa = 1 ∧ (k1 φ).isSome = true))) → j 46 = iu S kk (evV live 0 (k1 φ)) → eqx [22, 24, 44] f0 f → eqx [] g0 g → eqx [46] j0 j → HM o ar f g j h → zAg o ar h0 h → Z l MX8_goesAlong d 0 0 Pz 153 [some (.ref o), some (vI (2400 + nt)), some (vI live), some (vI nn), some (vI kk)] [] h 0 0) (eg2 : g 2 = K) (ej46 : j 46 = S) (ef22 : f 22 = 2400 + (t0 : Int)) (ef23 : f 23 = 2400 + nt) (ef24 : f 24 = y24) (ef25 : f 25 = 1) (ef27 : f 27 = x27) (ef28 : f 28 = x28) (ef29 : f 29 = x29) (ef44 : f 44 = sa) (hfE : eqx [22, 24, 44] f0 f) (hgE : eqx [] g0 g) (hjE : eqx [46] j0 j) (hH : HM o ar f g j h) (hA : zAg o ar h0 h) : Z l MX8_goesAlong d 0 0 Pz 113 [some (.ref o), some (vI (2400 + nt)), some (vI live), some (vI nn), some (vI kk)] [] h 0 0 := by
  refine z_ald_0 (TX8_goesAlong_1.at 20 rfl) ?_
  refine z_iconst (TX8_goesAlong_1.at 21 rfl) ?_
  refine zm_putZE (TX8_goesAlong_1.at 22 rfl) fp8_270 hH hA rfl (by decide) (by first | omega | exact b2i_01 _) (fun h f115 e1 e2 hH hA => ?_)
  have ef22 := (e1 22 (by decide)).trans ef22
  have ef23 := (e1 23 (by decide)).trans ef23
  have ef24 := e2
  have ef25 := (e1 25 (by decide)).trans ef25
  have ef27 := (e1 27 (by decide)).trans ef27
  have ef28 := (e1 28 (by decide)).trans ef28
  have ef29 := (e1 29 (by decide)).trans ef29
  have ef44 := (e1 44 (by decide)).trans ef44
  have hfE := hfE.put e1 (by decide)
  refine z_ald_0 (TX8_goesAlong_1.at 23 rfl) ?_
  refine zm_getA (TX8_goesAlong_1.at 24 rfl) fl8_94 hH (by decide) (by decide) ?_
  refine z_ild_4 (TX8_goesAlong_1.at 25 rfl) ?_
  refine z_ald_0 (TX8_goesAlong_1.at 26 rfl) ?_
  refine z_ild_2 (TX8_goesAlong_1.at 27 rfl) ?_
  refine zm_callL1 (ev_sumD (by omega) (by omega) n4 n0 n1 hd0 8 live 0 t0 p0 t1 p1 k1 _ _ _ hl (Or.inl rfl) eg2 ef22 ef23 ef24 (fok_o hO ef25 ef27 ef28 ef29) t0n hs) (TX8_goesAlong_1.at 28 rfl) c8_287 rfl rfl hH hA (by omega) (Nat.le_of_ble_eq_true rfl) (fun x126 f126 g126 j126 h r126 q126 hH hA => ?_)
  obtain ⟨q126, xf, xg, xj⟩ := q126
  rw [xj] at hH
  have ef23 := (xf 23 (by decide)).trans ef23
  have ef25 := (xf 25 (by decide)).trans ef25
  have ef27 := (xf 27 (by decide)).trans ef27
  have ef28 := (xf 28 (by decide)).trans ef28
  have ef29 := (xf 29 (by decide)).trans ef29
  have ef44 := (xf 44 (by decide)).trans ef44
  have hfE := hfE.trans xf (by decide)
  have eg2 := (xg 2 (by decide)).trans eg2
  have hgE := hgE.trans xg (by decide)
  have qL := q126
  obtain ⟨rfl, ef24, ef22, rsz⟩ := qL
  have eb := evB_01 (live := live) (z := k1 φ) (Or.inl (rfl : (0 : Int) = 0))
  refine zm_lastE (TX8_goesAlong_1.at 29 rfl) hH hA rfl (by omega) (show _ < ((2 : Nat) : Int) by omega) (by omega) (fun h j129 e1 e2 hH hA => ?_)
  rw [ej46] at e2; have ej46 := e2
  have hjE := hjE.put e1 (by decide)
  refine z_ald_0 (TX8_goesAlong_1.at 30 rfl) ?_
  refine z_ald_0 (TX8_goesAlong_1.at 31 rfl) ?_
  unfold in01 at hsa
  refine zm_getIE ef44 (TX8_goesAlong_1.at 32 rfl) fl8_453 hH rfl (by decide) (fun r132 => ?_)
  refine z_if_eq (tgt := 149) (TX8_goesAlong_1.at 33 rfl) rfl (by omega) (fun c1 => ?_) (fun c1 => ?_)
  · skip
    refine z_iconst (TX8_goesAlong_1.at 39 rfl) ?_
    refine zm_putZE (TX8_goesAlong_2.at 0 rfl) fp8_453 hH hA rfl (by decide) (by first | omega | exact b2i_01 _) (fun h f150 e1 e2 hH hA => ?_)
    have ef22 := (e1 22 (by decide)).trans ef22
    have ef23 := (e1 23 (by decide)).trans ef23
    have ef24 := (e1 24 (by decide)).trans ef24
    have ef25 := (e1 25 (by decide)).trans ef25
    have ef27 := (e1 27 (by decide)).trans ef27
    have ef28 := (e1 28 (by decide)).trans ef28
    have ef29 := (e1 29 (by decide)).trans ef29
    have ef44 := e2
    have hfE := hfE.put e1 (by decide)
    exact kx _ _ _ _ ef22 (by unfold in01; omega) (fun hlv => by subst hlv; rcases ev_1 (z := k1 φ) with ⟨h1, x, hx, -⟩ | ⟨h1, h2⟩; (rw [hx]; constructor; (intro q; exact ⟨by omega, rfl⟩); (intro q; have q1 := q.1; omega)); (rw [h2]; constructor; (intro q; exfalso; omega); (intro q; cases q.2))) ej46 hfE hgE hjE hH hA
  · skip
    refine z_ald_0 (TX8_goesAlong_1.at 34 rfl) ?_
    refine zm_getIE ef24 (TX8_goesAlong_1.at 35 rfl) fl8_270 hH rfl (by decide) (fun r139 => ?_)
    refine z_if_ne (tgt := 149) (TX8_goesAlong_1.at 36 rfl) rfl (by omega) (fun c2 => ?_) (fun c2 => ?_)
    · skip
      refine z_iconst (TX8_goesAlong_1.at 39 rfl) ?_
      refine zm_putZE (TX8_goesAlong_2.at 0 rfl) fp8_453 hH hA rfl (by decide) (by first | omega | exact b2i_01 _) (fun h f150 e1 e2 hH hA => ?_)
      have ef22 := (e1 22 (by decide)).trans ef22
      have ef23 := (e1 23 (by decide)).trans ef23
      have ef24 := (e1 24 (by decide)).trans ef24
      have ef25 := (e1 25 (by decide)).trans ef25
      have ef27 := (e1 27 (by decide)).trans ef27
      have ef28 := (e1 28 (by decide)).trans ef28
      have ef29 := (e1 29 (by decide)).trans ef29
      have ef44 := e2
      have hfE := hfE.put e1 (by decide)
      exact kx _ _ _ _ ef22 (by unfold in01; omega) (fun hlv => by subst hlv; rcases ev_1 (z := k1 φ) with ⟨h1, x, hx, -⟩ | ⟨h1, h2⟩; (rw [hx]; constructor; (intro q; exact ⟨by omega, rfl⟩); (intro q; have q1 := q.1; omega)); (rw [h2]; constructor; (intro q; exfalso; omega); (intro q; cases q.2))) ej46 hfE hgE hjE hH hA
    · skip
      refine z_iconst (TX8_goesAlong_1.at 37 rfl) ?_
      refine z_goto (tgt := 150) (TX8_goesAlong_1.at 38 rfl) rfl ?_
      refine zm_putZE (TX8_goesAlong_2.at 0 rfl) fp8_453 hH hA rfl (by decide) (by first | omega | exact b2i_01 _) (fun h f150 e1 e2 hH hA => ?_)
      have ef22 := (e1 22 (by decide)).trans ef22
      have ef23 := (e1 23 (by decide)).trans ef23
      have ef24 := (e1 24 (by decide)).trans ef24
      have ef25 := (e1 25 (by decide)).trans ef25
      have ef27 := (e1 27 (by decide)).trans ef27
      have ef28 := (e1 28 (by decide)).trans ef28
      have ef29 := (e1 29 (by decide)).trans ef29
      have ef44 := e2
      have hfE := hfE.put e1 (by decide)
      exact kx _ _ _ _ ef22 (by unfold in01; omega) (fun hlv => by subst hlv; rcases ev_1 (z := k1 φ) with ⟨h1, x, hx, -⟩ | ⟨h1, h2⟩; (rw [hx]; constructor; (intro q; exact ⟨by omega, rfl⟩); (intro q; have q1 := q.1; omega)); (rw [h2]; constructor; (intro q; exfalso; omega); (intro q; cases q.2))) ej46 hfE hgE hjE hH hA

set_option maxHeartbeats 4000000 in
set_option maxRecDepth 100000 in
theorem gl_0 {l : Launch} {o : Nat} {ar : Nat → Nat} {d : Nat} {Pz : Option Value → zH → Prop} {h0 h : zH} {f0 f : mF} {g0 g j j0 : mA} {K φ S : Int → Int} {nt live x27 x28 x29 y24 : Int} {t0 p0 t1 p1 t2 p2 : Nat} {k1 k2 : Den} (hd : 45 ≤ d) (n4 : nt ≤ 400) (n0 : 0 ≤ K 76) (n1 : K 76 ≤ 10) (hd0 : ∀ i, 0 ≤ i → i < K 76 → K i = 0 ∨ K i = 1) (hl : lv01 live) (hO : FO1 K x27 x28 x29 φ) (n00 : 0 ≤ nt) (kx : ∀ (o3 o4 : Option Value) (f : mF) (g j : mA) (h : zH), f 22 = 2400 + (t0 : Int) → in01 (f 44) → (live = 1 → f 44 = 1) → eqx [22, 24, 44] f0 f → eqx [] g0 g → eqx [46] j0 j → HM o ar f g j h → zAg o ar h0 h → Z l MX8_goesAlong d 0 0 Pz 159 [some (.ref o), some (vI (2400 + nt)), some (vI live), o3, o4] [] h 0 0) (eg2 : g 2 = K) (ej46 : j 46 = S) (ef22 : f 22 = 2400 + (t0 : Int)) (ef23 : f 23 = 2400 + nt) (ef24 : f 24 = y24) (ef25 : f 25 = 1) (ef27 : f 27 = x27) (ef28 : f 28 = x28) (ef29 : f 29 = x29) (ef44 : f 44 = 1) (hfE : eqx [22, 24, 44] f0 f) (hgE : eqx [] g0 g) (hjE : eqx [46] j0 j) (hH : HM o ar f g j h) (hA : zAg o ar h0 h) : Z l MX8_goesAlong d 0 0 Pz 92 [some (.ref o), some (vI (2400 + nt)), some (vI live), some (vI 0), some (vI 0)] [] h 0 0 := by
  refine z_ild_4 (TX8_goesAlong_1.at 9 rfl) ?_
  refine z_ild_3 (TX8_goesAlong_1.at 10 rfl) ?_
  refine z_icmp_ge (tgt := 159) (TX8_goesAlong_1.at 11 rfl) rfl (by omega) (by omega) (fun c1 => ?_) (fun c1 => absurd c1 (by omega))
  exact kx _ _ _ _ _ _ ef22 (Or.inr ef44) (fun _ => ef44) hfE hgE hjE hH hA

set_option maxHeartbeats 4000000 in
set_option maxRecDepth 100000 in
theorem gl_1 {l : Launch} {o : Nat} {ar : Nat → Nat} {d : Nat} {Pz : Option Value → zH → Prop} {h0 h : zH} {f0 f : mF} {g0 g j j0 : mA} {K φ S : Int → Int} {nt live x27 x28 x29 y24 : Int} {t0 p0 t1 p1 t2 p2 : Nat} {k1 k2 : Den} (hd : 45 ≤ d) (n4 : nt ≤ 400) (n0 : 0 ≤ K 76) (n1 : K 76 ≤ 10) (hd0 : ∀ i, 0 ≤ i → i < K 76 → K i = 0 ∨ K i = 1) (hl : lv01 live) (hO : FO1 K x27 x28 x29 φ) (n00 : 0 ≤ nt) (t0n : (t0 : Int) ≤ nt) (hs : pSumD false (cK K 2400 nt) (vK K 2400) 8 t0 p0 = .ok (t1, p1, k1)) (t1n : (t1 : Int) ≤ nt) (kx : ∀ (o3 o4 : Option Value) (f : mF) (g j : mA) (h : zH), f 22 = 2400 + (t1 : Int) → in01 (f 44) → (live = 1 → (f 44 = 1 ↔ (k1 φ).isSome = true) ∧ j 46 0 = (k1 φ).getD 0) → eqx [22, 24, 44] f0 f → eqx [] g0 g → eqx [46] j0 j → HM o ar f g j h → zAg o ar h0 h → Z l MX8_goesAlong d 0 0 Pz 159 [some (.ref o), some (vI (2400 + nt)), some (vI live), o3, o4] [] h 0 0) (eg2 : g 2 = K) (ej46 : j 46 = S) (ef22 : f 22 = 2400 + (t0 : Int)) (ef23 : f 23 = 2400 + nt) (ef24 : f 24 = y24) (ef25 : f 25 = 1) (ef27 : f 27 = x27) (ef28 : f 28 = x28) (ef29 : f 29 = x29) (ef44 : f 44 = 1) (hfE : eqx [22, 24, 44] f0 f) (hgE : eqx [] g0 g) (hjE : eqx [46] j0 j) (hH : HM o ar f g j h) (hA : zAg o ar h0 h) : Z l MX8_goesAlong d 0 0 Pz 92 [some (.ref o), some (vI (2400 + nt)), some (vI live), some (vI 1), some (vI 0)] [] h 0 0 := by
  refine z_ild_4 (TX8_goesAlong_1.at 9 rfl) ?_
  refine z_ild_3 (TX8_goesAlong_1.at 10 rfl) ?_
  refine z_icmp_ge (tgt := 159) (TX8_goesAlong_1.at 11 rfl) rfl (by omega) (by omega) (fun c1 => absurd c1 (by omega)) (fun c1 => ?_)
  refine z_ild_4 (TX8_goesAlong_1.at 12 rfl) ?_
  refine z_if_le (tgt := 113) (TX8_goesAlong_1.at 13 rfl) rfl (by omega) (fun c2 => ?_) (fun c2 => absurd c2 (by omega))
  refine gs_sum (x27 := x27) (x28 := x28) (x29 := x29) (S := S) (sa := 1) (kk := 0) (nn := 1) hd n4 n0 n1 hd0 hl hO n00 t0n hs (Or.inl rfl) (Or.inr rfl) (fun f5 g5 j5 h ef22 s01 hsm ej46 xf xg xj hH hA => ?_) eg2 ej46 ef22 ef23 ef24 ef25 ef27 ef28 ef29 ef44 eqx.rf eqx.rf eqx.rf hH hA
  obtain ⟨sa, ef44⟩ : ∃ q, f5 44 = q := ⟨_, rfl⟩
  rw [ef44] at s01 hsm
  have eg2 := (xg 2 (by decide)).trans eg2
  have ef23 := (xf 23 (by decide)).trans ef23
  have ef25 := (xf 25 (by decide)).trans ef25
  have ef27 := (xf 27 (by decide)).trans ef27
  have ef28 := (xf 28 (by decide)).trans ef28
  have ef29 := (xf 29 (by decide)).trans ef29
  obtain ⟨y24b, ef24⟩ : ∃ q, f5 24 = q := ⟨_, rfl⟩
  have hfE := hfE.trans xf (by decide)
  have hgE := hgE.trans xg (by decide)
  have hjE := hjE.trans xj (by decide)
  refine z_iinc_4 (TX8_goesAlong_2.at 1 rfl) (Nat.le_of_ble_eq_true rfl) rfl ?_
  refine z_goto (tgt := 92) (TX8_goesAlong_2.at 2 rfl) rfl ?_
  refine z_ild_4 (TX8_goesAlong_1.at 9 rfl) ?_
  refine z_ild_3 (TX8_goesAlong_1.at 10 rfl) ?_
  refine z_icmp_ge (tgt := 159) (TX8_goesAlong_1.at 11 rfl) rfl (by omega) (by omega) (fun c1 => ?_) (fun c1 => absurd c1 (by omega))
  exact kx _ _ _ _ _ _ ef22 (by rw [ef44]; exact s01) (fun hlv => ⟨by rw [ef44]; have q := hsm hlv; constructor; (intro z; exact (q.mp z).2); (intro z; exact q.mpr ⟨rfl, z⟩), by subst hlv; rw [ej46, iu_self]; exact evV_1⟩) hfE hgE hjE hH hA

set_option maxHeartbeats 4000000 in
set_option maxRecDepth 100000 in
theorem gl_2 {l : Launch} {o : Nat} {ar : Nat → Nat} {d : Nat} {Pz : Option Value → zH → Prop} {h0 h : zH} {f0 f : mF} {g0 g j j0 : mA} {K φ S : Int → Int} {nt live x27 x28 x29 y24 : Int} {t0 p0 t1 p1 t2 p2 : Nat} {k1 k2 : Den} (hd : 45 ≤ d) (n4 : nt ≤ 400) (n0 : 0 ≤ K 76) (n1 : K 76 ≤ 10) (hd0 : ∀ i, 0 ≤ i → i < K 76 → K i = 0 ∨ K i = 1) (hl : lv01 live) (hO : FO1 K x27 x28 x29 φ) (n00 : 0 ≤ nt) (t0n : (t0 : Int) ≤ nt) (hs : pSumD false (cK K 2400 nt) (vK K 2400) 8 t0 p0 = .ok (t1, p1, k1)) (t1n : (t1 : Int) ≤ nt) (h25 : cK K 2400 nt t1 = 25) (hs2 : pSumD false (cK K 2400 nt) (vK K 2400) 8 (t1 + 1) p1 = .ok (t2, p2, k2)) (kx : ∀ (o3 o4 : Option Value) (f : mF) (g j : mA) (h : zH), f 22 = 2400 + (t2 : Int) → in01 (f 44) → (live = 1 → (f 44 = 1 ↔ ((k1 φ).isSome = true ∧ (k2 φ).isSome = true)) ∧ j 46 0 = (k1 φ).getD 0 ∧ j 46 1 = (k2 φ).getD 0) → eqx [22, 24, 44] f0 f → eqx [] g0 g → eqx [46] j0 j → HM o ar f g j h → zAg o ar h0 h → Z l MX8_goesAlong d 0 0 Pz 159 [some (.ref o), some (vI (2400 + nt)), some (vI live), o3, o4] [] h 0 0) (eg2 : g 2 = K) (ej46 : j 46 = S) (ef22 : f 22 = 2400 + (t0 : Int)) (ef23 : f 23 = 2400 + nt) (ef24 : f 24 = y24) (ef25 : f 25 = 1) (ef27 : f 27 = x27) (ef28 : f 28 = x28) (ef29 : f 29 = x29) (ef44 : f 44 = 1) (hfE : eqx [22, 24, 44] f0 f) (hgE : eqx [] g0 g) (hjE : eqx [46] j0 j) (hH : HM o ar f g j h) (hA : zAg o ar h0 h) : Z l MX8_goesAlong d 0 0 Pz 92 [some (.ref o), some (vI (2400 + nt)), some (vI live), some (vI 2), some (vI 0)] [] h 0 0 := by
  refine z_ild_4 (TX8_goesAlong_1.at 9 rfl) ?_
  refine z_ild_3 (TX8_goesAlong_1.at 10 rfl) ?_
  refine z_icmp_ge (tgt := 159) (TX8_goesAlong_1.at 11 rfl) rfl (by omega) (by omega) (fun c1 => absurd c1 (by omega)) (fun c1 => ?_)
  refine z_ild_4 (TX8_goesAlong_1.at 12 rfl) ?_
  refine z_if_le (tgt := 113) (TX8_goesAlong_1.at 13 rfl) rfl (by omega) (fun c2 => ?_) (fun c2 => absurd c2 (by omega))
  refine gs_sum (x27 := x27) (x28 := x28) (x29 := x29) (S := S) (sa := 1) (kk := 0) (nn := 2) hd n4 n0 n1 hd0 hl hO n00 t0n hs (Or.inl rfl) (Or.inr rfl) (fun f5 g5 j5 h ef22 s01 hsm ej46 xf xg xj hH hA => ?_) eg2 ej46 ef22 ef23 ef24 ef25 ef27 ef28 ef29 ef44 eqx.rf eqx.rf eqx.rf hH hA
  obtain ⟨sa, ef44⟩ : ∃ q, f5 44 = q := ⟨_, rfl⟩
  rw [ef44] at s01 hsm
  have eg2 := (xg 2 (by decide)).trans eg2
  have ef23 := (xf 23 (by decide)).trans ef23
  have ef25 := (xf 25 (by decide)).trans ef25
  have ef27 := (xf 27 (by decide)).trans ef27
  have ef28 := (xf 28 (by decide)).trans ef28
  have ef29 := (xf 29 (by decide)).trans ef29
  obtain ⟨y24b, ef24⟩ : ∃ q, f5 24 = q := ⟨_, rfl⟩
  have hfE := hfE.trans xf (by decide)
  have hgE := hgE.trans xg (by decide)
  have hjE := hjE.trans xj (by decide)
  refine z_iinc_4 (TX8_goesAlong_2.at 1 rfl) (Nat.le_of_ble_eq_true rfl) rfl ?_
  refine z_goto (tgt := 92) (TX8_goesAlong_2.at 2 rfl) rfl ?_
  refine z_ild_4 (TX8_goesAlong_1.at 9 rfl) ?_
  refine z_ild_3 (TX8_goesAlong_1.at 10 rfl) ?_
  refine z_icmp_ge (tgt := 159) (TX8_goesAlong_1.at 11 rfl) rfl (by omega) (by omega) (fun c1 => absurd c1 (by omega)) (fun c1 => ?_)
  refine z_ild_4 (TX8_goesAlong_1.at 12 rfl) ?_
  refine z_if_le (tgt := 113) (TX8_goesAlong_1.at 13 rfl) rfl (by omega) (fun c2 => absurd c2 (by omega)) (fun c2 => ?_)
  refine z_ald_0 (TX8_goesAlong_1.at 14 rfl) ?_
  refine z_dup rfl (TX8_goesAlong_1.at 15 rfl) ?_
  refine zm_getIE ef22 (TX8_goesAlong_1.at 16 rfl) fl8_260 hH rfl (by decide) (fun r105 => ?_)
  refine z_iconst (TX8_goesAlong_1.at 17 rfl) ?_
  refine z_iadd (TX8_goesAlong_1.at 18 rfl) ?_
  refine zm_putIE (TX8_goesAlong_1.at 19 rfl) fp8_260 hH hA rfl (by decide) (by first | omega | exact b2i_01 _) (fun h f110 e1 e2 hH hA => ?_)
  have ef22 := e2
  have ef23 := (e1 23 (by decide)).trans ef23
  have ef24 := (e1 24 (by decide)).trans ef24
  have ef25 := (e1 25 (by decide)).trans ef25
  have ef27 := (e1 27 (by decide)).trans ef27
  have ef28 := (e1 28 (by decide)).trans ef28
  have ef29 := (e1 29 (by decide)).trans ef29
  have ef44 := (e1 44 (by decide)).trans ef44
  have hfE := hfE.put e1 (by decide)
  have ef22 : _ = 2400 + ((t1 + 1 : Nat) : Int) := ef22.trans (by push_cast; omega)
  have t1n2 : ((t1 + 1 : Nat) : Int) ≤ nt := (by have q := cK_nz (K := K) (b := 2400) (nt := nt) t1 (by omega); push_cast; omega)
  have hs0 := hsm
  refine gs_sum (x27 := x27) (x28 := x28) (x29 := x29) (S := iu S 0 (evV live 0 (k1 φ))) (sa := sa) (kk := 0 + 1) (nn := 2) hd n4 n0 n1 hd0 hl hO n00 t1n2 hs2 (Or.inr (by omega)) s01 (fun f6 g6 j6 h ef22 s01 hsm ej46 xf xg xj hH hA => ?_) eg2 ej46 ef22 ef23 ef24 ef25 ef27 ef28 ef29 ef44 eqx.rf eqx.rf eqx.rf hH hA
  obtain ⟨sb, ef44⟩ : ∃ q, f6 44 = q := ⟨_, rfl⟩
  rw [ef44] at s01 hsm
  have eg2 := (xg 2 (by decide)).trans eg2
  have ef23 := (xf 23 (by decide)).trans ef23
  have ef25 := (xf 25 (by decide)).trans ef25
  have ef27 := (xf 27 (by decide)).trans ef27
  have ef28 := (xf 28 (by decide)).trans ef28
  have ef29 := (xf 29 (by decide)).trans ef29
  obtain ⟨y24b, ef24⟩ : ∃ q, f6 24 = q := ⟨_, rfl⟩
  have hfE := hfE.trans xf (by decide)
  have hgE := hgE.trans xg (by decide)
  have hjE := hjE.trans xj (by decide)
  refine z_iinc_4 (TX8_goesAlong_2.at 1 rfl) (Nat.le_of_ble_eq_true rfl) rfl ?_
  refine z_goto (tgt := 92) (TX8_goesAlong_2.at 2 rfl) rfl ?_
  refine z_ild_4 (TX8_goesAlong_1.at 9 rfl) ?_
  refine z_ild_3 (TX8_goesAlong_1.at 10 rfl) ?_
  refine z_icmp_ge (tgt := 159) (TX8_goesAlong_1.at 11 rfl) rfl (by omega) (by omega) (fun c1 => ?_) (fun c1 => absurd c1 (by omega))
  exact kx _ _ _ _ _ _ ef22 (by rw [ef44]; exact s01) (fun hlv => ⟨by rw [ef44]; have q := hsm hlv; have q0 := hs0 hlv; constructor; (intro z; have z2 := q.mp z; exact ⟨(q0.mp z2.1).2, z2.2⟩); (intro z; exact q.mpr ⟨q0.mpr ⟨rfl, z.1⟩, z.2⟩), by subst hlv; rw [ej46, iu_ne (by omega), iu_self]; exact evV_1, by subst hlv; rw [ej46]; unfold iu; rw [if_pos (by omega)]; exact evV_1⟩) hfE hgE hjE hH hA

def goQ (φ : Int → Int) (k : Cla) (t' : Nat) (live : Int) (f' : mF) (j' : mA) : Prop := f' 43 = k.1 ∧ f' 42 = k.2.2.2.1 ∧ f' 22 = 2400 + (t' : Int) + 1 ∧ in01 (f' 44) ∧ in01 (f' 45) ∧ (live = 1 → (f' 44 = 1 ↔ sOK k.1 k.2.1 k.2.2.1 φ) ∧ f' 45 = b2i (tellF.isSoB k.2.2.2.2 φ = true) ∧ (k.1 ≠ 26 → j' 46 0 = (k.2.1 φ).getD 0) ∧ (k.1 = 24 → j' 46 1 = (k.2.2.1 φ).getD 0))
theorem tim_k {c v : Int → Int} {vb : Int} {d1 d2 : Den} {t p t' p' : Nat} {k : Cla} (h : timC false c v vb d1 d2 t p = .ok (t', p', k)) : k.1 = vb ∧ k.2.1 = d1 ∧ k.2.2.1 = d2 := by
  obtain ⟨q, tm, t3, rfl, -, -⟩ := tim_step h
  exact ⟨rfl, rfl, rfl⟩
theorem go_all {l : Launch} {o : Nat} {ar : Nat → Nat} {d : Nat} {Pz : Option Value → zH → Prop} {h0 h : zH} {f0 f : mF} {g0 g j j0 : mA} {K φ S : Int → Int} {nt live x27 x28 x29 y22 y23 y24 y25 y42 y43 y44 y45 : Int} {t p t2 p2 : Nat} {k : Cla} (hd : 45 ≤ d) (n4 : nt ≤ 400) (n0 : 0 ≤ K 76) (n1 : K 76 ≤ 10) (hd0 : ∀ i, 0 ≤ i → i < K 76 → K i = 0 ∨ K i = 1) (hl : lv01 live) (hO : FO1 K x27 x28 x29 φ) (n00 : 0 ≤ nt) (tn : (t : Int) < nt) (hcl : pCla false (cK K 2400 nt) (vK K 2400) t p = .ok (t2, p2, k)) (kx : ∀ (o3 o4 : Option Value) (f : mF) (g j : mA) (h : zH), goQ φ k t2 live f j → eqx [22, 23, 24, 25, 42, 43, 44, 45] f0 f → eqx [] g0 g → eqx [46] j0 j → HM o ar f g j h → zAg o ar h0 h → Z l MX8_goesAlong d 0 0 Pz 263 [some (.ref o), some (vI (2400 + nt)), some (vI live), o3, o4] [] h 0 0) (eg2 : g 2 = K) (ej46 : j 46 = S) (ef22 : f 22 = y22) (ef23 : f 23 = y23) (ef24 : f 24 = y24) (ef25 : f 25 = y25) (ef27 : f 27 = x27) (ef28 : f 28 = x28) (ef29 : f 29 = x29) (ef41 : f 41 = 2400 + (t : Int)) (ef42 : f 42 = y42) (ef43 : f 43 = y43) (ef44 : f 44 = y44) (ef45 : f 45 = y45) (hfE : eqx [22, 23, 24, 25, 42, 43, 44, 45] f0 f) (hgE : eqx [] g0 g) (hjE : eqx [46] j0 j) (hH : HM o ar f g j h) (hA : zAg o ar h0 h) : Z l MX8_goesAlong d 0 0 Pz 16 [some (.ref o), some (vI (2400 + nt)), some (vI live), none, none] [] h 0 0 := by
  have tail : ∀ (te pe : Nat) (vb : Int) (d1 d2 : Den) (o3 o4 : Option Value) (f : mF) (g j : mA) (h : zH), (te : Int) ≤ nt → timC false (cK K 2400 nt) (vK K 2400) vb d1 d2 te pe = .ok (t2, p2, k) → f 43 = vb → f 22 = 2400 + (te : Int) → f 23 = 2400 + nt → f 25 = 1 → in01 (f 44) → (live = 1 → (f 44 = 1 ↔ sOK vb d1 d2 φ) ∧ (vb ≠ 26 → j 46 0 = (d1 φ).getD 0) ∧ (vb = 24 → j 46 1 = (d2 φ).getD 0)) → g 2 = K → f 27 = x27 → f 28 = x28 → f 29 = x29 → eqx [22, 23, 24, 25, 42, 43, 44, 45] f0 f → eqx [] g0 g → eqx [46] j0 j → HM o ar f g j h → zAg o ar h0 h → Z l MX8_goesAlong d 0 0 Pz 159 [some (.ref o), some (vI (2400 + nt)), some (vI live), o3, o4] [] h 0 0 := by
    intro te pe vb d1 d2 o3 o4 f g j h hte htm e43 e22 e23 e25 i44 hlv e2 e27 e28 e29 hf hg hj hH hA
    obtain ⟨k1, k2, k3⟩ := tim_k htm
    exact gt_all (φ := φ) (y24 := f 24) (y42 := f 42) (y45 := f 45) hd n4 n0 n1 hd0 hl hO hte htm (fun o3 o4 f5 g5 h5 a1 a2 a3 a4 xf xg hH hA => kx o3 o4 f5 g5 j h5 ⟨by rw [xf 43 (by decide), k1]; exact e43, a1, a2, by rw [xf 44 (by decide)]; exact i44, a4, fun z => by
      have q := hlv z
      rw [xf 44 (by decide), k1, k2, k3]
      exact ⟨q.1, a3 z, q.2.1, q.2.2⟩⟩ (hf.trans xf (by decide)) (hg.trans xg (by decide)) hj hH hA) e2 e22 e23 rfl e25 e27 e28 e29 rfl rfl eqx.rf eqx.rf hH hA
  have hz := hl
  rcases pcla_ord hcl with ⟨h24, t1, p1, k1, t3, p3, k2, hs, h25, hs2, htm⟩ | ⟨h22, t1, p1, k1, hs, htm⟩ | ⟨h26, htm⟩
  · have t1n := adv_leK (Adv_sum false _ _ 8) hs (show ((t + 1 : Nat) : Int) ≤ nt by omega)
    have n1b := cK_nz (K := K) (b := 2400) (nt := nt) t1 (by omega)
    have t3n := adv_leK (Adv_sum false _ _ 8) hs2 (show ((t1 + 1 : Nat) : Int) ≤ nt by omega)
    refine gh_2 (y22 := y22) hd n4 n00 tn h24 (fun f5 g5 h5 e43 e22 e23 e25 e44 xf xg hH hA => ?_) eg2 ef22 ef23 ef25 ef41 ef43 ef44 eqx.rf eqx.rf hH hA
    refine gl_2 (S := S) (x27 := x27) (x28 := x28) (x29 := x29) hd n4 n0 n1 hd0 hl hO n00 (show ((t + 1 : Nat) : Int) ≤ nt by omega) hs t1n h25 hs2 (fun o3 o4 f6 g6 j6 h6 e22b s44 hlv yf yg yj hH hA => ?_) ((xg 2 (by decide)).trans eg2) ej46 e22 e23 rfl e25 ((xf 27 (by decide)).trans ef27) ((xf 28 (by decide)).trans ef28) ((xf 29 (by decide)).trans ef29) e44 eqx.rf eqx.rf eqx.rf hH hA
    exact tail t3 p3 24 k1 k2 _ _ _ _ _ _ t3n htm (by rw [yf 43 (by decide), e43, h24]) e22b (by rw [yf 23 (by decide)]; exact e23) (by rw [yf 25 (by decide)]; exact e25) s44 (fun z => ⟨(hlv z).1.trans ⟨fun q => ⟨Or.inr q.1, Or.inr q.2⟩, fun q => ⟨q.1.resolve_left (by decide), q.2.resolve_left (fun y => y rfl)⟩⟩, fun _ => (hlv z).2.1, fun _ => (hlv z).2.2⟩) ((yg 2 (by decide)).trans ((xg 2 (by decide)).trans eg2)) ((yf 27 (by decide)).trans ((xf 27 (by decide)).trans ef27)) ((yf 28 (by decide)).trans ((xf 28 (by decide)).trans ef28)) ((yf 29 (by decide)).trans ((xf 29 (by decide)).trans ef29)) ((hfE.trans xf (by decide)).trans yf (by decide)) ((hgE.trans xg (by decide)).trans yg (by decide)) (hjE.trans yj (by decide)) hH hA
  · have t1n := adv_leK (Adv_sum false _ _ 8) hs (show ((t + 1 : Nat) : Int) ≤ nt by omega)
    refine gh_1 (y22 := y22) hd n4 n00 tn (by omega) (fun f5 g5 h5 e43 e22 e23 e25 e44 xf xg hH hA => ?_) eg2 ef22 ef23 ef25 ef41 ef43 ef44 eqx.rf eqx.rf hH hA
    refine gl_1 (S := S) (x27 := x27) (x28 := x28) (x29 := x29) (t2 := 0) (p2 := 0) (k2 := dOne) hd n4 n0 n1 hd0 hl hO n00 (show ((t + 1 : Nat) : Int) ≤ nt by omega) hs t1n (fun o3 o4 f6 g6 j6 h6 e22b s44 hlv yf yg yj hH hA => ?_) ((xg 2 (by decide)).trans eg2) ej46 e22 e23 rfl e25 ((xf 27 (by decide)).trans ef27) ((xf 28 (by decide)).trans ef28) ((xf 29 (by decide)).trans ef29) e44 eqx.rf eqx.rf eqx.rf hH hA
    exact tail t1 p1 (cK K 2400 nt t) k1 dOne _ _ _ _ _ _ t1n htm (by rw [yf 43 (by decide), e43]) e22b (by rw [yf 23 (by decide)]; exact e23) (by rw [yf 25 (by decide)]; exact e25) s44 (fun z => ⟨(hlv z).1.trans ⟨fun q => ⟨Or.inr q, Or.inl (by omega)⟩, fun q => q.1.resolve_left (by omega)⟩, fun _ => (hlv z).2, fun y => by omega⟩) ((yg 2 (by decide)).trans ((xg 2 (by decide)).trans eg2)) ((yf 27 (by decide)).trans ((xf 27 (by decide)).trans ef27)) ((yf 28 (by decide)).trans ((xf 28 (by decide)).trans ef28)) ((yf 29 (by decide)).trans ((xf 29 (by decide)).trans ef29)) ((hfE.trans xf (by decide)).trans yf (by decide)) ((hgE.trans xg (by decide)).trans yg (by decide)) (hjE.trans yj (by decide)) hH hA
  · refine gh_0 (y22 := y22) hd n4 n00 tn h26 (fun f5 g5 h5 e43 e22 e23 e25 e44 xf xg hH hA => ?_) eg2 ef22 ef23 ef25 ef41 ef43 ef44 eqx.rf eqx.rf hH hA
    refine gl_0 (S := S) (x27 := x27) (x28 := x28) (x29 := x29) (t0 := t + 1) (p0 := 0) (t1 := 0) (p1 := 0) (t2 := 0) (p2 := 0) (k1 := dOne) (k2 := dOne) hd n4 n0 n1 hd0 hl hO n00 (fun o3 o4 f6 g6 j6 h6 e22b s44 hlv yf yg yj hH hA => ?_) ((xg 2 (by decide)).trans eg2) ej46 e22 e23 rfl e25 ((xf 27 (by decide)).trans ef27) ((xf 28 (by decide)).trans ef28) ((xf 29 (by decide)).trans ef29) e44 eqx.rf eqx.rf eqx.rf hH hA
    exact tail (t + 1) p 26 dOne dOne _ _ _ _ _ _ (by omega) htm (by rw [yf 43 (by decide), e43, h26]) e22b (by rw [yf 23 (by decide)]; exact e23) (by rw [yf 25 (by decide)]; exact e25) s44 (fun z => ⟨⟨fun _ => ⟨Or.inl rfl, Or.inl (by decide)⟩, fun _ => hlv z⟩, fun y => absurd rfl y, fun y => by omega⟩) ((yg 2 (by decide)).trans ((xg 2 (by decide)).trans eg2)) ((yf 27 (by decide)).trans ((xf 27 (by decide)).trans ef27)) ((yf 28 (by decide)).trans ((xf 28 (by decide)).trans ef28)) ((yf 29 (by decide)).trans ((xf 29 (by decide)).trans ef29)) ((hfE.trans xf (by decide)).trans yf (by decide)) ((hgE.trans xg (by decide)).trans yg (by decide)) (hjE.trans yj (by decide)) hH hA
set_option maxHeartbeats 4000000 in
set_option maxRecDepth 100000 in
theorem m_goes0 {l : Launch} {o : Nat} {ar : Nat → Nat} {f : mF} {g j : mA} {K : Int → Int} {S : Int → Int} {x27 : Int} {x28 : Int} {cl : List Cla} {φ : Int → Int} {nt : Int} {t p t2 p2 : Nat} {k : Cla} (eg2 : g 2 = K) (ej46 : j 46 = S) (ef27 : f 27 = x27) (ef28 : f 28 = x28) (ef41 : f 41 = 2400 + (t : Int)) (hK : KOK K) (hL : LawK K cl) (hO : FO1 K x27 x28 0 φ) (n4 : nt ≤ 400) (n00 : 0 ≤ nt) (tn : (t : Int) < nt) (hcl : pCla false (cK K 2400 nt) (vK K 2400) t p = .ok (t2, p2, k)) : MM l o ar MX8_goesAlong 54 [.ref o, vI (2400 + nt), vI 0] f g j (PV (fun f' g' j' => (goQ φ k t2 0 f' j') ∧ eqx [22, 23, 24, 25, 29, 33, 42, 43, 44, 45] f f' ∧ eqx [26, 30, 31, 32] g g' ∧ eqx [46] j j')) := by
  refine MM.intro [some (.ref o), some (vI (2400 + nt)), some (vI 0), none, none] (by decide) (Nat.le_of_ble_eq_true rfl) rfl (fun d hd h0 h hH hA => ?_)
  have hfE : eqx [22, 23, 24, 25, 29, 33, 42, 43, 44, 45] f f := eqx.rf
  have hgE : eqx [26, 30, 31, 32] g g := eqx.rf
  have hjE : eqx [46] j j := eqx.rf
  refine z_ald_0 (TX8_goesAlong_0.at 0 rfl) ?_
  refine z_ild_2 (TX8_goesAlong_0.at 1 rfl) ?_
  refine z_if_eq (tgt := 12) (TX8_goesAlong_0.at 2 rfl) rfl (by omega) (fun c1 => ?_) (fun c1 => absurd c1 (by decide))
  refine z_iconst (TX8_goesAlong_0.at 6 rfl) ?_
  refine zm_putIE (TX8_goesAlong_0.at 7 rfl) fp8_302 hH hA rfl (by decide) (by first | omega | exact b2i_01 _) (fun h f13 e1 e2 hH hA => ?_)
  have ef27 := (e1 27 (by decide)).trans ef27
  have ef28 := (e1 28 (by decide)).trans ef28
  have ef41 := (e1 41 (by decide)).trans ef41
  have hfE := hfE.put e1 (by decide)
  refine go_all (φ := φ) (S := S) (x27 := x27) (x28 := x28) (x29 := 0) (by omega) n4 hK.1.1 hK.1.2 hK.lawH.2.2 (show lv01 0 from Or.inl rfl) hO n00 tn hcl (fun o3 o4 f5 g5 j5 h5 hq xf xg xj hH hA => ?_) eg2 ej46 rfl rfl rfl rfl ef27 ef28 e2 ef41 rfl rfl rfl rfl eqx.rf eqx.rf eqx.rf hH hA
  refine zm_vret (TX8_goesAlong_3.at 18 rfl) rfl hH hA ?_
  exact ⟨hq, hfE.trans xf (by decide), hgE.trans xg (by decide), hjE.trans xj (by decide)⟩

set_option maxHeartbeats 4000000 in
set_option maxRecDepth 100000 in
theorem m_goes1 {l : Launch} {o : Nat} {ar : Nat → Nat} {f : mF} {g j : mA} {K : Int → Int} {S : Int → Int} {x27 : Int} {x28 : Int} {cl : List Cla} {φ : Int → Int} {nt : Int} {t p t2 p2 : Nat} {k : Cla} (eg2 : g 2 = K) (ej46 : j 46 = S) (ef27 : f 27 = x27) (ef28 : f 28 = x28) (ef41 : f 41 = 2400 + (t : Int)) (hK : KOK K) (hL : LawK K cl) (hO : FO1 K x27 x28 (gone K cl) φ) (n4 : nt ≤ 400) (n00 : 0 ≤ nt) (tn : (t : Int) < nt) (hcl : pCla false (cK K 2400 nt) (vK K 2400) t p = .ok (t2, p2, k)) : MM l o ar MX8_goesAlong 54 [.ref o, vI (2400 + nt), vI 1] f g j (PV (fun f' g' j' => (goQ φ k t2 1 f' j') ∧ eqx [22, 23, 24, 25, 29, 33, 42, 43, 44, 45] f f' ∧ eqx [26, 30, 31, 32] g g' ∧ eqx [46] j j')) := by
  refine MM.intro [some (.ref o), some (vI (2400 + nt)), some (vI 1), none, none] (by decide) (Nat.le_of_ble_eq_true rfl) rfl (fun d hd h0 h hH hA => ?_)
  have hfE : eqx [22, 23, 24, 25, 29, 33, 42, 43, 44, 45] f f := eqx.rf
  have hgE : eqx [26, 30, 31, 32] g g := eqx.rf
  have hjE : eqx [46] j j := eqx.rf
  refine z_ald_0 (TX8_goesAlong_0.at 0 rfl) ?_
  refine z_ild_2 (TX8_goesAlong_0.at 1 rfl) ?_
  refine z_if_eq (tgt := 12) (TX8_goesAlong_0.at 2 rfl) rfl (by omega) (fun c1 => absurd c1 (by decide)) (fun c1 => ?_)
  refine z_ald_0 (TX8_goesAlong_0.at 3 rfl) ?_
  refine zm_callI0 (m_goneMany eg2 hK hL) (TX8_goesAlong_0.at 4 rfl) c8_366 rfl rfl hH hA (by omega) (Nat.le_of_ble_eq_true rfl) (fun x6 f6 g6 j6 h r6 q6 hH hA => ?_)
  obtain ⟨q6, xf, xg, xj⟩ := q6
  rw [xj] at hH
  have ef27 := (xf 27 (by decide)).trans ef27
  have ef28 := (xf 28 (by decide)).trans ef28
  have ef41 := (xf 41 (by decide)).trans ef41
  have hfE := hfE.trans xf (by decide)
  have eg2 := (xg 2 (by decide)).trans eg2
  have hgE := hgE.trans xg (by decide)
  have qL := q6
  rw [qL] at r6 ⊢
  refine z_goto (tgt := 13) (TX8_goesAlong_0.at 5 rfl) rfl ?_
  refine zm_putIE (TX8_goesAlong_0.at 7 rfl) fp8_302 hH hA rfl (by decide) (by first | omega | exact b2i_01 _) (fun h f13 e1 e2 hH hA => ?_)
  have ef27 := (e1 27 (by decide)).trans ef27
  have ef28 := (e1 28 (by decide)).trans ef28
  have ef41 := (e1 41 (by decide)).trans ef41
  have hfE := hfE.put e1 (by decide)
  refine go_all (φ := φ) (S := S) (x27 := x27) (x28 := x28) (x29 := gone K cl) (by omega) n4 hK.1.1 hK.1.2 hK.lawH.2.2 (show lv01 1 from Or.inr rfl) hO n00 tn hcl (fun o3 o4 f5 g5 j5 h5 hq xf xg xj hH hA => ?_) eg2 ej46 rfl rfl rfl rfl ef27 ef28 e2 ef41 rfl rfl rfl rfl eqx.rf eqx.rf eqx.rf hH hA
  refine zm_vret (TX8_goesAlong_3.at 18 rfl) rfl hH hA ?_
  exact ⟨hq, hfE.trans xf (by decide), hgE.trans xg (by decide), hjE.trans xj (by decide)⟩

