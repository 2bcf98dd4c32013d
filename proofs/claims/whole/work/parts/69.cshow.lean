/-! ===== the class: what fire shows ===== -/
theorem nC_orN (C : Int → Int) (t : Int) : nC C t = orN (C t) := rfl
theorem msk_00 {p : Int → Bool} {i x : Int} (h : 0 ≤ i) (hp : ¬ p i = true) (h30 : i ≤ 30) (hx : x = msk p i.toNat) : x = msk p (i + 1).toNat := by
  rw [msk_s h, if_neg hp, hx]
  have h2 := msk_31 (p := p) (n := i.toNat) (by omega)
  rw [zor_nat h2 (by decide)]
  have e : ((0 : Int).toNat) = 0 := rfl
  rw [e, Nat.or_zero]
  have := h2
  omega
theorem nC_inj {C D : Int → Int} {t u : Int} (h1 : 0 ≤ C t) (h2 : 0 ≤ D u) : nC C t = nC D u ↔ C t = D u := by
  unfold nC
  by_cases a : C t = 1000000
  · by_cases b : D u = 1000000
    · rw [if_pos a, if_pos b]; omega
    · rw [if_pos a, if_neg b]; omega
  · by_cases b : D u = 1000000
    · rw [if_neg a, if_pos b]; omega
    · rw [if_neg a, if_neg b]
set_option maxHeartbeats 4000000 in
set_option maxRecDepth 100000 in
theorem c_fromTo {l : Launch} {E : cE} {f : mF} {g j : mA} {Fr : Int → Int} {To : Int → Int} {BX : Int → Int} {HX : Int → Int} {X : Int → Int} {n9 : Int} {S : Int} {a c : Int} {fr to B Hd : Int → Int} (eg33 : g 33 = Fr) (eg34 : g 34 = To) (eg352 : g 352 = BX) (eg353 : g 353 = HX) (eg355 : g 355 = X) (ef32 : f 32 = n9) (ef354 : f 354 = S) (ha : zIn a) (hc : zIn c) (hT : FiT Fr To BX HX fr to B Hd n9 S) (a0 : 0 ≤ a) (a1 : a ≤ 7) (c0 : 0 ≤ c) (c1 : c ≤ 7) : CM l E MX0_fromTo 4 [.ref (E.1 383), .ref (E.1 63), vI a, vI c] f g j (PI (fun r f' g' j' => (r = nC (dist fr to B Hd S n9.toNat (src (zshl 1 a))) c) ∧ eqx [] f f' ∧ eqx [355] g g' ∧ j' = j)) := by
  refine CM.intro [some (.ref (E.1 383)), some (.ref (E.1 63)), some (vI a), some (vI c)] (by decide) (Nat.le_of_ble_eq_true rfl) rfl (fun d hd h0 h hH hA => ?_)
  have hfE : eqx [] f f := eqx.rf
  have hgE : eqx [355] g g := eqx.rf
  have hz1 := shl_31 (i := a) (by omega) (by omega)
  refine z_ald_0 (TX0_fromTo.at 0 rfl) ?_
  refine z_ald_1 (TX0_fromTo.at 1 rfl) ?_
  refine z_iconst (TX0_fromTo.at 2 rfl) ?_
  refine z_ild_2 (TX0_fromTo.at 3 rfl) ?_
  refine z_ishl (TX0_fromTo.at 4 rfl) ?_
  refine zc_callV2 (m := 11) (c_sprF1 eg33 eg34 eg352 eg353 eg355 ef32 ef354 (by omega) hz1 hT) (hH.lv (by decide)) (TX0_fromTo.at 5 rfl) c0_120 rfl rfl hH hA (by omega) (Nat.le_of_ble_eq_true rfl) (fun f5 g5 j5 h q5 hH hA => ?_)
  obtain ⟨q5, xf, xg, xj⟩ := q5
  rw [xj] at hH
  have ef32 := (xf 32 (by decide)).trans ef32
  have ef354 := (xf 354 (by decide)).trans ef354
  have hfE := hfE.trans xf (by decide)
  have eg33 := (xg 33 (by decide)).trans eg33
  have eg34 := (xg 34 (by decide)).trans eg34
  have eg352 := (xg 352 (by decide)).trans eg352
  have eg353 := (xg 353 (by decide)).trans eg353
  have hgE := hgE.trans xg (by decide)
  have qL := q5
  obtain ⟨X5, eg355⟩ : ∃ z, g5 355 = z := ⟨_, rfl⟩
  rw [eg355] at qL
  have hI := qL
  refine z_ald_0 (TX0_fromTo.at 6 rfl) ?_
  refine zc_getA (m := 11) (s := 3) (k := 355) (hH.lv (by decide)) (TX0_fromTo.at 7 rfl) fl0_22 hH rfl rfl (by decide) (by decide) ?_
  refine z_ild_3 (TX0_fromTo.at 8 rfl) ?_
  refine zcf_iald (k := 355) (N := 8) (hH.lv (by decide)) (by decide) rfl eg355 (TX0_fromTo.at 9 rfl) hH (by decide) (by omega) (show _ < ((8 : Nat) : Int) by omega) (fun r13 => ?_)
  refine zc_iret (TX0_fromTo.at 10 rfl) rfl hH hA (by omega) ?_
  exact ⟨hI.2.1 c c0 c1, hfE, hgE, rfl⟩

set_option maxHeartbeats 4000000 in
set_option maxRecDepth 100000 in
theorem lp_every {l : Launch} {E : cE} {d : Nat} {Pz : Option Value → zH → Prop} {h0 : zH} {f0 : mF} {g0 : mA} {j : mA} (hd : 1 ≤ d) {X C : Int → Int} (hX : cm8 X C) (hC : COK C) (kx : ∀ (f : mF) (g : mA) (h : zH), 0 ≤ mosN C 8 → mosN C 8 ≤ 4000 → eqx [] f0 f → eqx [] g0 g → HC E f g j h → cAg E h0 h → Z l MX0_comesEverywhere d 0 0 Pz 39 [some (.ref (E.1 383)), some (vI (mosN C 8)), some (vI 8)] [] h 0 0) (ePz : Pz = CP E h0 (PI (fun r f' g' j' => r = orN (mosN C 8) ∧ eqx [] f0 f' ∧ eqx [] g0 g' ∧ j' = j)))  : ∀ (n : Nat) (i : Int) (la : Int) (f : mF) (g : mA) (h : zH) (i0 : 0 ≤ i) (i1 : i ≤ 8) (i2 : 8 < i + n) (el : la = mosN C i.toNat) (lb : 0 ≤ la ∧ la ≤ 4000) (eg355 : g 355 = X) (hfE : eqx [] f0 f) (hgE : eqx [] g0 g) (hH : HC E f g j h) (hA : cAg E h0 h), Z l MX0_comesEverywhere d 0 0 Pz 4 [some (.ref (E.1 383)), some (vI la), some (vI i)] [] h 0 0 := by
  intro n
  induction n with
  | zero => intro i la f g h i0 i1 i2 el lb eg355 hfE hgE hH hA; exfalso; omega
  | succ n ih =>
    intro i la f g h i0 i1 i2 el lb eg355 hfE hgE hH hA
    subst ePz
    refine z_ild_2 (TX0_comesEverywhere.at 4 rfl) ?_
    refine z_bipush (by decide) (TX0_comesEverywhere.at 5 rfl) ?_
    refine z_icmp_ge (tgt := 39) (TX0_comesEverywhere.at 6 rfl) rfl (by omega) (by omega) (fun c1 => ?_) (fun c1 => ?_)
    · skip
      obtain rfl : i = 8 := by omega
      rw [el] at lb ⊢
      exact kx _ _ _ lb.1 lb.2 hfE hgE hH hA
    · skip
      have hca := cm_a hX hC i0 (by omega)
      refine z_ald_0 (TX0_comesEverywhere.at 7 rfl) ?_
      refine zc_getA (m := 11) (s := 3) (k := 355) (hH.lv (by decide)) (TX0_comesEverywhere.at 8 rfl) fl0_22 hH rfl rfl (by decide) (by decide) ?_
      refine z_ild_2 (TX0_comesEverywhere.at 9 rfl) ?_
      refine zcf_iald (k := 355) (N := 8) (hH.lv (by decide)) (by decide) rfl eg355 (TX0_comesEverywhere.at 10 rfl) hH (by decide) (by omega) (show _ < ((8 : Nat) : Int) by omega) (fun r15 => ?_)
      refine z_iconst (TX0_comesEverywhere.at 11 rfl) ?_
      refine z_icmp_ne (tgt := 22) (TX0_comesEverywhere.at 12 rfl) rfl (by omega) (by omega) (fun c2 => ?_) (fun c2 => ?_)
      · skip
        refine z_ild_1 (TX0_comesEverywhere.at 15 rfl) ?_
        refine z_ald_0 (TX0_comesEverywhere.at 16 rfl) ?_
        refine zc_getA (m := 11) (s := 3) (k := 355) (hH.lv (by decide)) (TX0_comesEverywhere.at 17 rfl) fl0_22 hH rfl rfl (by decide) (by decide) ?_
        refine z_ild_2 (TX0_comesEverywhere.at 18 rfl) ?_
        refine zcf_iald (k := 355) (N := 8) (hH.lv (by decide)) (by decide) rfl eg355 (TX0_comesEverywhere.at 19 rfl) hH (by decide) (by omega) (show _ < ((8 : Nat) : Int) by omega) (fun r28 => ?_)
        refine z_max (TX0_comesEverywhere.at 20 rfl) cm0_84 (by omega) (by omega) (by omega) (Nat.le_of_ble_eq_true rfl) ?_
        refine z_ist_1 (TX0_comesEverywhere.at 21 rfl) (Nat.le_of_ble_eq_true rfl) rfl ?_
        refine z_iinc_2 (TX0_comesEverywhere.at 22 rfl) (Nat.le_of_ble_eq_true rfl) rfl ?_
        refine z_goto (tgt := 4) (TX0_comesEverywhere.at 23 rfl) rfl ?_
        exact ih (i + 1) _ _ _ _ (by omega) (by omega) (by omega) (by rw [mosN_s i0, ← el]; omega) (by omega) eg355 hfE hgE hH hA
      · skip
        refine z_iconst (TX0_comesEverywhere.at 13 rfl) ?_
        refine zc_iret (TX0_comesEverywhere.at 14 rfl) rfl hH hA (by omega) ?_
        exact ⟨by rw [mosN_top (i := i) (fun t t0 t1 => (hC.bd t0 (by omega)).2.1) i0 (by omega) (by omega)]; rfl, hfE, hgE, rfl⟩

set_option maxHeartbeats 4000000 in
set_option maxRecDepth 100000 in
theorem c_every {l : Launch} {E : cE} {f : mF} {g j : mA} {X : Int → Int} {C : Int → Int} (eg355 : g 355 = X) (hX : cm8 X C) (hC : COK C) : CM l E MX0_comesEverywhere 1 [.ref (E.1 383)] f g j (PI (fun r f' g' j' => (r = orN (mosN C 8)) ∧ eqx [] f f' ∧ eqx [] g g' ∧ j' = j)) := by
  refine CM.intro [some (.ref (E.1 383)), none, none] (by decide) (Nat.le_of_ble_eq_true rfl) rfl (fun d hd h0 h hH hA => ?_)
  have hfE : eqx [] f f := eqx.rf
  have hgE : eqx [] g g := eqx.rf
  refine z_iconst (TX0_comesEverywhere.at 0 rfl) ?_
  refine z_ist_1 (TX0_comesEverywhere.at 1 rfl) (Nat.le_of_ble_eq_true rfl) rfl ?_
  refine z_iconst (TX0_comesEverywhere.at 2 rfl) ?_
  refine z_ist_2 (TX0_comesEverywhere.at 3 rfl) (Nat.le_of_ble_eq_true rfl) rfl ?_
  refine lp_every hd hX hC (fun f3 g3 h3 l0 l1 hfE hgE hH hA => ?_) rfl 9 0 0 _ _ _ (by omega) (by omega) (by omega) rfl (by omega) eg355 eqx.rf eqx.rf hH hA
  refine z_ild_1 (TX0_comesEverywhere.at 24 rfl) ?_
  refine zc_iret (TX0_comesEverywhere.at 25 rfl) rfl hH hA (by omega) ?_
  exact ⟨by unfold orN; rw [if_neg (by omega)], hfE, hgE, rfl⟩

theorem alB_no {p : Int → Bool} {i : Int} {n : Nat} (i0 : 0 ≤ i) (h : i < n) (hp : p i = false) : ¬ alB p n = true := by
  induction n with
  | zero => omega
  | succ n ih =>
    intro z
    simp only [alB, Bool.and_eq_true] at z
    by_cases e : i = n
    · subst e; rw [hp] at z; exact absurd z.2 (by decide)
    · exact ih (by omega) z.1
set_option maxHeartbeats 4000000 in
set_option maxRecDepth 100000 in
theorem lp_seen {l : Launch} {E : cE} {d : Nat} {Pz : Option Value → zH → Prop} {h0 : zH} {f0 : mF} {g0 : mA} {j : mA}  {X C Sk Ss : Int → Int} {sn : Int} (hX : cm8 X C) (hC : COK C) (n6 : sn ≤ 6) (hsk : ∀ i : Int, 0 ≤ i → i < sn → (0 ≤ Sk i ∧ Sk i ≤ 7) ∧ 0 ≤ Ss i ∧ Ss i ≤ 9999) (kx : ∀ (f : mF) (g : mA) (h : zH), alB (fun i => decide (C (Sk i) = Ss i)) sn.toNat = true → eqx [] f0 f → eqx [] g0 g → HC E f g j h → cAg E h0 h → Z l MX0_isAsSeen d 0 0 Pz 38 [some (.ref (E.1 383)), some (.ref (E.1 63)), some (vI sn)] [] h 0 0) (ePz : Pz = CP E h0 (PI (fun r f' g' j' => r = b2i (alB (fun i => decide (C (Sk i) = Ss i)) sn.toNat = true) ∧ eqx [] f0 f' ∧ eqx [] g0 g' ∧ j' = j)))  : ∀ (n : Nat) (i : Int) (f : mF) (g : mA) (h : zH) (i0 : 0 ≤ i) (i1 : i ≤ sn) (i2 : sn < i + n) (el : alB (fun i => decide (C (Sk i) = Ss i)) i.toNat = true) (eg355 : g 355 = X) (eg42 : g 42 = Sk) (eg43 : g 43 = Ss) (ef41 : f 41 = sn) (hfE : eqx [] f0 f) (hgE : eqx [] g0 g) (hH : HC E f g j h) (hA : cAg E h0 h), Z l MX0_isAsSeen d 0 0 Pz 2 [some (.ref (E.1 383)), some (.ref (E.1 63)), some (vI i)] [] h 0 0 := by
  intro n
  induction n with
  | zero => intro i f g h i0 i1 i2 el eg355 eg42 eg43 ef41 hfE hgE hH hA; exfalso; omega
  | succ n ih =>
    intro i f g h i0 i1 i2 el eg355 eg42 eg43 ef41 hfE hgE hH hA
    subst ePz
    refine z_ild_2 (TX0_isAsSeen.at 2 rfl) ?_
    refine z_ald_1 (TX0_isAsSeen.at 3 rfl) ?_
    refine zc_getIE (m := 1) (s := 9) (k := 41) (hH.lv (by decide)) ef41 (TX0_isAsSeen.at 4 rfl) fl0_139 hH rfl rfl (by decide) (by decide) (fun r4 => ?_)
    refine z_icmp_ge (tgt := 38) (TX0_isAsSeen.at 5 rfl) rfl (by omega) (by omega) (fun c1 => ?_) (fun c1 => ?_)
    · skip
      obtain rfl : i = sn := by omega
      exact kx _ _ _ el hfE hgE hH hA
    · skip
      have hks := hsk i i0 (by omega)
      have hca := cm_a hX hC hks.1.1 hks.1.2
      refine z_ald_0 (TX0_isAsSeen.at 6 rfl) ?_
      refine zc_getA (m := 11) (s := 3) (k := 355) (hH.lv (by decide)) (TX0_isAsSeen.at 7 rfl) fl0_22 hH rfl rfl (by decide) (by decide) ?_
      refine z_ald_1 (TX0_isAsSeen.at 8 rfl) ?_
      refine zc_getA (m := 1) (s := 10) (k := 42) (hH.lv (by decide)) (TX0_isAsSeen.at 9 rfl) fl0_142 hH rfl rfl (by decide) (by decide) ?_
      refine z_ild_2 (TX0_isAsSeen.at 10 rfl) ?_
      refine zcf_iald (k := 42) (N := 6) (hH.lv (by decide)) (by decide) rfl eg42 (TX0_isAsSeen.at 11 rfl) hH (by decide) (by omega) (show _ < ((6 : Nat) : Int) by omega) (fun r19 => ?_)
      refine zcf_iald (k := 355) (N := 8) (hH.lv (by decide)) (by decide) rfl eg355 (TX0_isAsSeen.at 12 rfl) hH (by decide) (by omega) (show _ < ((8 : Nat) : Int) by omega) (fun r20 => ?_)
      refine z_ald_1 (TX0_isAsSeen.at 13 rfl) ?_
      refine zc_getA (m := 1) (s := 11) (k := 43) (hH.lv (by decide)) (TX0_isAsSeen.at 14 rfl) fl0_145 hH rfl rfl (by decide) (by decide) ?_
      refine z_ild_2 (TX0_isAsSeen.at 15 rfl) ?_
      refine zcf_iald (k := 43) (N := 6) (hH.lv (by decide)) (by decide) rfl eg43 (TX0_isAsSeen.at 16 rfl) hH (by decide) (by omega) (show _ < ((6 : Nat) : Int) by omega) (fun r26 => ?_)
      refine z_icmp_eq (tgt := 32) (TX0_isAsSeen.at 17 rfl) rfl (by omega) (by omega) (fun c2 => ?_) (fun c2 => ?_)
      · skip
        refine z_iinc_2 (TX0_isAsSeen.at 20 rfl) (Nat.le_of_ble_eq_true rfl) rfl ?_
        refine z_goto (tgt := 2) (TX0_isAsSeen.at 21 rfl) rfl ?_
        exact ih (i + 1) _ _ _ (by omega) (by omega) (by omega) (by rw [alB_s i0, el, decide_eq_true (show C (Sk i) = Ss i by omega)]; rfl) eg355 eg42 eg43 ef41 hfE hgE hH hA
      · skip
        refine z_iconst (TX0_isAsSeen.at 18 rfl) ?_
        refine zc_zret (TX0_isAsSeen.at 19 rfl) rfl hH hA (by first | omega | exact b2i_01 _) ?_
        exact ⟨by rw [b2i_f (fun z => alB_no i0 (show (i : Int) < sn.toNat by omega) (decide_eq_false (show ¬ C (Sk i) = Ss i by omega)) z)], hfE, hgE, rfl⟩

set_option maxHeartbeats 4000000 in
set_option maxRecDepth 100000 in
theorem c_seen {l : Launch} {E : cE} {f : mF} {g j : mA} {X : Int → Int} {Sk : Int → Int} {Ss : Int → Int} {sn : Int} {C : Int → Int} (eg355 : g 355 = X) (eg42 : g 42 = Sk) (eg43 : g 43 = Ss) (ef41 : f 41 = sn) (hX : cm8 X C) (hC : COK C) (n0 : 0 ≤ sn) (n6 : sn ≤ 6) (hsk : ∀ i : Int, 0 ≤ i → i < sn → (0 ≤ Sk i ∧ Sk i ≤ 7) ∧ 0 ≤ Ss i ∧ Ss i ≤ 9999) : CM l E MX0_isAsSeen 0 [.ref (E.1 383), .ref (E.1 63)] f g j (PI (fun r f' g' j' => (r = b2i (alB (fun i => decide (C (Sk i) = Ss i)) sn.toNat = true)) ∧ eqx [] f f' ∧ eqx [] g g' ∧ j' = j)) := by
  refine CM.intro [some (.ref (E.1 383)), some (.ref (E.1 63)), none] (by decide) (Nat.le_of_ble_eq_true rfl) rfl (fun d hd h0 h hH hA => ?_)
  have hfE : eqx [] f f := eqx.rf
  have hgE : eqx [] g g := eqx.rf
  refine z_iconst (TX0_isAsSeen.at 0 rfl) ?_
  refine z_ist_2 (TX0_isAsSeen.at 1 rfl) (Nat.le_of_ble_eq_true rfl) rfl ?_
  refine lp_seen hX hC n6 hsk (fun f3 g3 h3 el hfE hgE hH hA => ?_) rfl 7 0 _ _ _ (by omega) (by omega) (by omega) rfl eg355 eg42 eg43 ef41 eqx.rf eqx.rf hH hA
  refine z_iconst (TX0_isAsSeen.at 22 rfl) ?_
  refine zc_zret (TX0_isAsSeen.at 23 rfl) rfl hH hA (by omega) ?_
  exact ⟨by rw [b2i_t el], hfE, hgE, rfl⟩

theorem b2i_iff {p q : Prop} [Decidable p] [Decidable q] : b2i p = b2i q ↔ (p ↔ q) := by
  by_cases a : p
  · by_cases c : q
    · rw [b2i_t a, b2i_t c]; simp [a, c]
    · rw [b2i_t a, b2i_f c]; simp [a, c]
  · by_cases c : q
    · rw [b2i_f a, b2i_t c]; simp [a, c]
    · rw [b2i_f a, b2i_f c]; simp [a, c]
set_option maxHeartbeats 4000000 in
set_option maxRecDepth 100000 in
theorem lp_betw {l : Launch} {E : cE} {d : Nat} {Pz : Option Value → zH → Prop} {h0 : zH} {f0 : mF} {g0 : mA} {j : mA} (hd : 1 ≤ d) {Fr To fr to : Int → Int} {n9 sd : Int} (hsd : z31 sd) (n1 : n9 ≤ 10) (hft : ∀ i : Int, 0 ≤ i → i < n9 → Fr i = fr i ∧ To i = to i ∧ (0 ≤ fr i ∧ fr i ≤ 7) ∧ (0 ≤ to i ∧ to i ≤ 7)) (kx : ∀ (f : mF) (g : mA) (h : zH), f 32 = n9 → eqx [] f0 f → eqx [] g0 g → HC E f g j h → cAg E h0 h → Z l MX0_between d 0 0 Pz 52 [some (.ref (E.1 383)), some (.ref (E.1 63)), some (vI sd), some (vI (msk (fun x => decide (¬ (bt sd (fr x) ↔ bt sd (to x)))) n9.toNat)), some (vI n9)] [] h 0 0)  : ∀ (n : Nat) (i : Int) (v : Int) (f : mF) (g : mA) (h : zH) (i0 : 0 ≤ i) (i1 : i ≤ n9) (i2 : n9 < i + n) (el : v = msk (fun x => decide (¬ (bt sd (fr x) ↔ bt sd (to x)))) i.toNat) (eg33 : g 33 = Fr) (eg34 : g 34 = To) (ef32 : f 32 = n9) (hfE : eqx [] f0 f) (hgE : eqx [] g0 g) (hH : HC E f g j h) (hA : cAg E h0 h), Z l MX0_between d 0 0 Pz 5 [some (.ref (E.1 383)), some (.ref (E.1 63)), some (vI sd), some (vI v), some (vI i)] [] h 0 0 := by
  intro n
  induction n with
  | zero => intro i v f g h i0 i1 i2 el eg33 eg34 ef32 hfE hgE hH hA; exfalso; omega
  | succ n ih =>
    intro i v f g h i0 i1 i2 el eg33 eg34 ef32 hfE hgE hH hA
    refine z_ild_4 (TX0_between.at 4 rfl) ?_
    refine z_ald_1 (TX0_between.at 5 rfl) ?_
    refine zc_getIE (m := 1) (s := 0) (k := 32) (hH.lv (by decide)) ef32 (TX0_between.at 6 rfl) fl0_43 hH rfl rfl (by decide) (by decide) (fun r8 => ?_)
    refine z_icmp_ge (tgt := 52) (TX0_between.at 7 rfl) rfl (by omega) (by omega) (fun c1 => ?_) (fun c1 => ?_)
    · skip
      obtain rfl : i = n9 := by omega
      rw [el]
      exact kx _ _ _ ef32 hfE hgE hH hA
    · skip
      have hx := hft i i0 (by omega)
      refine z_ild_2 (TX0_between.at 8 rfl) ?_
      refine z_ald_1 (TX0_between.at 9 rfl) ?_
      refine zc_getA (m := 1) (s := 1) (k := 33) (hH.lv (by decide)) (TX0_between.at 10 rfl) fl0_59 hH rfl rfl (by decide) (by decide) ?_
      refine z_ild_4 (TX0_between.at 11 rfl) ?_
      refine zcf_iald (k := 33) (N := 10) (hH.lv (by decide)) (by decide) rfl eg33 (TX0_between.at 12 rfl) hH (by decide) (by omega) (show _ < ((10 : Nat) : Int) by omega) (fun r21 => ?_)
      rw [hx.1]
      refine zs_callN2 (c_bit hsd ⟨by omega, by omega⟩) (TX0_between.at 13 rfl) c0_90 rfl (by omega) (Nat.le_of_ble_eq_true rfl) (fun r22 => ?_)
      refine z_ild_2 (TX0_between.at 14 rfl) ?_
      refine z_ald_1 (TX0_between.at 15 rfl) ?_
      refine zc_getA (m := 1) (s := 2) (k := 34) (hH.lv (by decide)) (TX0_between.at 16 rfl) fl0_62 hH rfl rfl (by decide) (by decide) ?_
      refine z_ild_4 (TX0_between.at 17 rfl) ?_
      refine zcf_iald (k := 34) (N := 10) (hH.lv (by decide)) (by decide) rfl eg34 (TX0_between.at 18 rfl) hH (by decide) (by omega) (show _ < ((10 : Nat) : Int) by omega) (fun r32 => ?_)
      rw [hx.2.1]
      refine zs_callN2 (c_bit hsd ⟨by omega, by omega⟩) (TX0_between.at 19 rfl) c0_90 rfl (by omega) (Nat.le_of_ble_eq_true rfl) (fun r33 => ?_)
      refine z_icmp_eq (tgt := 46) (TX0_between.at 20 rfl) rfl (by omega) (by omega) (fun c2 => ?_) (fun c2 => ?_)
      · skip
        have heq : (bt sd (fr i) ↔ bt sd (to i)) := b2i_iff.mp (by assumption)
        refine z_iinc_4 (TX0_between.at 27 rfl) (Nat.le_of_ble_eq_true rfl) rfl ?_
        refine z_goto (tgt := 5) (TX0_between.at 28 rfl) rfl ?_
        exact ih (i + 1) _ _ _ _ (by omega) (by omega) (by omega) (by first | exact msk_1 i0 (decide_eq_true hne) (by rw [el]) | exact msk_00 i0 (fun z => of_decide_eq_true z heq) (by omega) el) eg33 eg34 ef32 hfE hgE hH hA
      · skip
        have hne : ¬ (bt sd (fr i) ↔ bt sd (to i)) := fun z => absurd (b2i_iff.mpr z) (by assumption)
        refine z_ild_3 (TX0_between.at 21 rfl) ?_
        refine z_iconst (TX0_between.at 22 rfl) ?_
        refine z_ild_4 (TX0_between.at 23 rfl) ?_
        refine z_ishl (TX0_between.at 24 rfl) ?_
        refine z_ior (TX0_between.at 25 rfl) ?_
        refine z_ist_3 (TX0_between.at 26 rfl) (Nat.le_of_ble_eq_true rfl) rfl ?_
        refine z_iinc_4 (TX0_between.at 27 rfl) (Nat.le_of_ble_eq_true rfl) rfl ?_
        refine z_goto (tgt := 5) (TX0_between.at 28 rfl) rfl ?_
        exact ih (i + 1) _ _ _ _ (by omega) (by omega) (by omega) (by first | exact msk_1 i0 (decide_eq_true hne) (by rw [el]) | exact msk_00 i0 (fun z => of_decide_eq_true z heq) (by omega) el) eg33 eg34 ef32 hfE hgE hH hA

set_option maxHeartbeats 4000000 in
set_option maxRecDepth 100000 in
theorem c_betw {l : Launch} {E : cE} {f : mF} {g j : mA} {Fr : Int → Int} {To : Int → Int} {n9 : Int} {S : Int} {sd : Int} {fr to : Int → Int} (eg33 : g 33 = Fr) (eg34 : g 34 = To) (ef32 : f 32 = n9) (ef354 : f 354 = S) (hsd : zIn sd) (hsd : z31 sd) (hS : z31 S) (n0 : 0 ≤ n9) (n1 : n9 ≤ 10) (hft : ∀ i : Int, 0 ≤ i → i < n9 → Fr i = fr i ∧ To i = to i ∧ (0 ≤ fr i ∧ fr i ≤ 7) ∧ (0 ≤ to i ∧ to i ≤ 7)) : CM l E MX0_between 1 [.ref (E.1 383), .ref (E.1 63), vI sd] f g j (PI (fun r f' g' j' => (r = zand (msk (fun x => decide (¬ (bt sd (fr x) ↔ bt sd (to x)))) n9.toNat) S) ∧ eqx [] f f' ∧ eqx [] g g' ∧ j' = j)) := by
  refine CM.intro [some (.ref (E.1 383)), some (.ref (E.1 63)), some (vI sd), none, none] (by decide) (Nat.le_of_ble_eq_true rfl) rfl (fun d hd h0 h hH hA => ?_)
  have hfE : eqx [] f f := eqx.rf
  have hgE : eqx [] g g := eqx.rf
  have hm := msk_31 (p := (fun x => decide (¬ (bt sd (fr x) ↔ bt sd (to x))))) (n := n9.toNat) (by omega)
  have hza := zand_le hm hS
  refine z_iconst (TX0_between.at 0 rfl) ?_
  refine z_ist_3 (TX0_between.at 1 rfl) (Nat.le_of_ble_eq_true rfl) rfl ?_
  refine z_iconst (TX0_between.at 2 rfl) ?_
  refine z_ist_4 (TX0_between.at 3 rfl) (Nat.le_of_ble_eq_true rfl) rfl ?_
  refine lp_betw hd hsd n1 hft (fun f5 g5 h ef32 xf xg hH hA => ?_) 11 0 0 _ _ _ (by omega) (by omega) (by omega) rfl eg33 eg34 ef32 eqx.rf eqx.rf hH hA
  have ef354 := (xf 354 (by decide)).trans ef354
  have hfE := hfE.trans xf (by decide)
  have eg33 := (xg 33 (by decide)).trans eg33
  have eg34 := (xg 34 (by decide)).trans eg34
  have hgE := hgE.trans xg (by decide)
  refine z_ild_3 (TX0_between.at 29 rfl) ?_
  refine z_ald_0 (TX0_between.at 30 rfl) ?_
  refine zc_getIE (m := 11) (s := 2) (k := 354) (hH.lv (by decide)) ef354 (TX0_between.at 31 rfl) fl0_18 hH rfl rfl (by decide) (by decide) (fun r54 => ?_)
  refine z_iand (TX0_between.at 32 rfl) ?_
  refine zc_iret (TX0_between.at 33 rfl) rfl hH hA (by omega) ?_
  exact ⟨rfl, hfE, hgE, rfl⟩

