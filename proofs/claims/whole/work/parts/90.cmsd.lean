/-! ===== the class itself: measured, was, look, wet, compare ===== -/
theorem msk_cg {p q : Int → Bool} : ∀ n : Nat, (∀ t : Int, 0 ≤ t → t < n → p t = q t) → msk p n = msk q n := by
  intro n
  induction n with
  | zero => intro _; rfl
  | succ n ih =>
    intro h
    simp only [msk]
    rw [ih (fun t t0 t1 => h t t0 (by omega)), h n (by omega) (by omega)]
theorem twI_cg {v v' : Int → Int} {h a s : Int} : ∀ m : Nat, v a = v' a → (∀ t : Int, a < t → t < a + 1 + m → v t = v' t) → twI v h a s m = twI v' h a s m := by
  intro m
  induction m with
  | zero => intro _ _; rfl
  | succ m ih =>
    intro e h2
    simp only [twI]
    rw [ih e (fun t t0 t1 => h2 t t0 (by omega)), e, h2 (a + 1 + m) (by omega) (by omega)]
theorem twO_cg {v v' : Int → Int} {h : Int} {n : Nat} (hv : ∀ t : Int, 0 ≤ t → t < n → v t = v' t) : ∀ m : Nat, m ≤ n → twO v h n m = twO v' h n m := by
  intro m
  induction m with
  | zero => intro _; rfl
  | succ m ih =>
    intro hm
    simp only [twO]
    rw [ih (by omega), hv m (by omega) (by omega)]
    split
    · rfl
    · exact twI_cg _ (hv m (by omega) (by omega)) (fun t t0 t1 => hv t (by omega) (by omega))
theorem fire_tw {K : Int → Int} {cl : List Cla} {S q h : Int} (hK : KOK K) (hct : ∀ x : Int, 0 ≤ x → x < K 76 → (bt S x ↔ ctc K cl x)) : twO (outC (frK K) (toK K) (brn K cl) (hld K cl) S (cmP K cl q)) h (K 76).toNat (K 76).toNat = twP K cl q h := twO_cg (fun t t0 t1 => fire_o hK hct t0 (by have := hK.1; omega)) _ (Nat.le_refl _)
theorem fstP_i {p : Int → Bool} {i : Int} {n : Nat} (i0 : 0 ≤ i) (i1 : i < n) (hb : ∀ t : Int, 0 ≤ t → t < i → ¬ p t = true) (hp : p i = true) : fstP p n = i := by
  have h1 := fstP_none i.toNat (fun t t0 t1 => hb t t0 (by omega))
  have key : ∀ m : Nat, i.toNat + 1 + m ≤ n → fstP p (i.toNat + 1 + m) = i := by
    intro m
    induction m with
    | zero => intro _; simp only [Nat.add_zero, fstP, h1, ne_eq, not_true_eq_false, if_false]; rw [show ((i.toNat : Nat) : Int) = i by omega, if_pos hp]
    | succ m ih =>
      intro hm
      have := ih (by omega)
      show fstP p (i.toNat + 1 + m + 1) = i
      simp only [fstP, this]
      rw [if_pos (by omega)]
  have := key (n - i.toNat - 1) (by omega)
  rwa [show i.toNat + 1 + (n - i.toNat - 1) = n by omega] at this
set_option maxHeartbeats 4000000 in
set_option maxRecDepth 100000 in
theorem lp_cmsd {l : Launch} {E : cE} {d : Nat} {Pz : Option Value → zH → Prop} {h0 : zH} {f0 : mF} {g0 : mA} {j : mA} {h1 : zH} {f1 : mF} {g1 : mA} (hd : 4 ≤ d) {Fr To BX HX K : Int → Int} {S2 : Int} {cl : List Cla} (hK : KOK K) (hT : FiT Fr To BX HX (frK K) (toK K) (brn K cl) (hld K cl) (K 76) S2) (hct : ∀ x : Int, 0 ≤ x → x < K 76 → (bt S2 x ↔ ctc K cl x)) {m w : Int} (hm : 1 ≤ m ∧ m ≤ 400) (hw : 0 ≤ w ∧ w ≤ 1) (ePz : Pz = CP E h1 (PI (fun r f' g' j' => r = msV K cl m w ∧ eqx [354] f1 f' ∧ eqx [352, 353, 355, 356, 384] g1 g' ∧ j' = j))) (hf1 : eqx [354] f1 f0) (hg1 : eqx [352, 353, 355, 356, 384] g1 g0) (hA1 : cAg E h1 h0) (kx : ∀ (o4 : Option Value) (f : mF) (g : mA) (h : zH), (∀ t : Int, 0 ≤ t → t < 8 → ¬ (fun k => decide (0 < twP K cl (zshl 1 k) m)) t = true) → eqx [] f0 f → eqx [355] g0 g → HC E f g j h → cAg E h0 h → Z l MX7_measured d 0 0 Pz 97 [some (.ref (E.1 31)), some (vI m), some (vI w), some (vI 8), o4] [] h 0 0)  : ∀ (n : Nat) (k : Int) (o4 : Option Value) (X : Int → Int) (f : mF) (g : mA) (h : zH) (k0 : 0 ≤ k) (k1 : k ≤ 8) (k2 : 8 < k + n) (es : ∀ t : Int, 0 ≤ t → t < k → ¬ (fun k => decide (0 < twP K cl (zshl 1 k) m)) t = true) (eg33 : g 33 = Fr) (eg34 : g 34 = To) (eg352 : g 352 = BX) (eg353 : g 353 = HX) (eg355 : g 355 = X) (ef32 : f 32 = (K 76)) (ef354 : f 354 = S2) (hfE : eqx [] f0 f) (hgE : eqx [355] g0 g) (hH : HC E f g j h) (hA : cAg E h0 h), Z l MX7_measured d 0 0 Pz 41 [some (.ref (E.1 31)), some (vI m), some (vI w), some (vI k), o4] [] h 0 0 := by
  intro n
  induction n with
  | zero => intro k o4 X f g h k0 k1 k2 es eg33 eg34 eg352 eg353 eg355 ef32 ef354 hfE hgE hH hA; exfalso; omega
  | succ n ih =>
    intro k o4 X f g h k0 k1 k2 es eg33 eg34 eg352 eg353 eg355 ef32 ef354 hfE hgE hH hA
    have hn := hK.1
    subst ePz
    refine z_ild_3 (TX7_measured.at 21 rfl) ?_
    refine z_bipush (by decide) (TX7_measured.at 22 rfl) ?_
    refine z_icmp_ge (tgt := 97) (TX7_measured.at 23 rfl) rfl (by omega) (by omega) (fun c1 => ?_) (fun c1 => ?_)
    · skip
      obtain rfl : k = 8 := by omega
      exact kx _ _ _ _ es hfE hgE hH hA
    · skip
      refine z_ald_0 (TX7_measured.at 24 rfl) ?_
      refine zc_getO (m := 0) (s := 9) (k := 383) (hH.lv (by decide)) (TX7_measured.at 25 rfl) fl7_60 hH rfl rfl (by decide) (by decide) ?_
      refine z_ald_0 (TX7_measured.at 26 rfl) ?_
      refine zc_getO (m := 0) (s := 0) (k := 63) (hH.lv (by decide)) (TX7_measured.at 27 rfl) fl7_12 hH rfl rfl (by decide) (by decide) ?_
      refine z_iconst (TX7_measured.at 28 rfl) ?_
      refine z_ild_3 (TX7_measured.at 29 rfl) ?_
      refine z_ishl (TX7_measured.at 30 rfl) ?_
      have hz1 := shl_31 (i := k) (by omega) (by omega)
      refine zc_callV2 (m := 11) (c_sprF1 eg33 eg34 eg352 eg353 rfl ef32 ef354 hz1.zin hz1 hT) (hH.lv (by decide)) (TX7_measured.at 31 rfl) c7_314 rfl rfl hH hA (by omega) (Nat.le_of_ble_eq_true rfl) (fun f58 g58 j58 h q58 hH hA => ?_)
      obtain ⟨q58, xf, xg, xj⟩ := q58
      rw [xj] at hH
      have ef32 := (xf 32 (by decide)).trans ef32
      have ef354 := (xf 354 (by decide)).trans ef354
      have hfE := hfE.trans xf (by decide)
      have eg33 := (xg 33 (by decide)).trans eg33
      have eg34 := (xg 34 (by decide)).trans eg34
      have eg352 := (xg 352 (by decide)).trans eg352
      have eg353 := (xg 353 (by decide)).trans eg353
      have hgE := hgE.trans xg (by decide)
      have qL := q58
      have hI := qL
      rw [fire_cm hK hct] at hI
      obtain ⟨X58, eg355⟩ : ∃ z, g58 355 = z := ⟨_, rfl⟩
      rw [eg355] at hI
      refine z_ald_0 (TX7_measured.at 32 rfl) ?_
      refine zc_getO (m := 0) (s := 9) (k := 383) (hH.lv (by decide)) (TX7_measured.at 33 rfl) fl7_60 hH rfl rfl (by decide) (by decide) ?_
      refine z_ald_0 (TX7_measured.at 34 rfl) ?_
      refine zc_getO (m := 0) (s := 0) (k := 63) (hH.lv (by decide)) (TX7_measured.at 35 rfl) fl7_12 hH rfl rfl (by decide) (by decide) ?_
      refine z_ild_1 (TX7_measured.at 36 rfl) ?_
      refine zc_callI2 (m := 11) (c_spans eg33 eg34 eg352 eg353 eg355 ef32 ef354 (by omega) hI (by omega) (by omega)) (hH.lv (by decide)) (TX7_measured.at 37 rfl) c7_365 rfl rfl hH hA (by omega) (Nat.le_of_ble_eq_true rfl) (fun x70 f70 g70 j70 h r70 q70 hH hA => ?_)
      obtain ⟨q70, xf, xg, xj⟩ := q70
      rw [xj] at hH
      have ef32 := (xf 32 (by decide)).trans ef32
      have ef354 := (xf 354 (by decide)).trans ef354
      have hfE := hfE.trans xf (by decide)
      have eg33 := (xg 33 (by decide)).trans eg33
      have eg34 := (xg 34 (by decide)).trans eg34
      have eg352 := (xg 352 (by decide)).trans eg352
      have eg353 := (xg 353 (by decide)).trans eg353
      have eg355 := (xg 355 (by decide)).trans eg355
      have hgE := hgE.trans xg (by decide)
      have qL := q70
      rw [fire_tw hK hct] at qL
      subst qL
      refine z_ist_4 (TX7_measured.at 38 rfl) (Nat.le_of_ble_eq_true rfl) rfl ?_
      refine z_ild_4 (TX7_measured.at 39 rfl) ?_
      refine z_if_le (tgt := 91) (TX7_measured.at 40 rfl) rfl (by omega) (fun c2 => ?_) (fun c2 => ?_)
      · skip
        refine z_iinc_3 (TX7_measured.at 47 rfl) (Nat.le_of_ble_eq_true rfl) rfl ?_
        refine z_goto (tgt := 41) (TX7_measured.at 48 rfl) rfl ?_
        exact ih (k + 1) _ _ _ _ _ (by omega) (by omega) (by omega) (fun t t0 t1 => by by_cases e : t = k; subst e; exact fun z => absurd (of_decide_eq_true z) (by omega); exact es t t0 (by omega)) eg33 eg34 eg352 eg353 eg355 ef32 ef354 hfE hgE hH hA
      · skip
        refine z_ild_2 (TX7_measured.at 41 rfl) ?_
        refine z_if_ne (tgt := 88) (TX7_measured.at 42 rfl) rfl (by omega) (fun c3 => ?_) (fun c3 => ?_)
        · skip
          refine z_ild_4 (TX7_measured.at 45 rfl) ?_
          have hA := hA1.trans hA
          have hp : (fun k => decide (0 < twP K cl (zshl 1 k) m)) k = true := decide_eq_true (by omega)
          have hfp : msP K cl m = k := fstP_i k0 (by omega) es hp
          refine zc_iret (TX7_measured.at 46 rfl) rfl hH hA (by omega) ?_
          exact ⟨by unfold msV; rw [if_pos ⟨hm, hw⟩, hfp, if_neg (by omega)]; split <;> omega, hf1.trans hfE (by decide), hg1.trans hgE (by decide), rfl⟩
        · skip
          refine z_ild_3 (TX7_measured.at 43 rfl) ?_
          refine z_goto (tgt := 90) (TX7_measured.at 44 rfl) rfl ?_
          have hA := hA1.trans hA
          have hp : (fun k => decide (0 < twP K cl (zshl 1 k) m)) k = true := decide_eq_true (by omega)
          have hfp : msP K cl m = k := fstP_i k0 (by omega) es hp
          refine zc_iret (TX7_measured.at 46 rfl) rfl hH hA (by omega) ?_
          exact ⟨by unfold msV; rw [if_pos ⟨hm, hw⟩, hfp, if_neg (by omega)]; split <;> omega, hf1.trans hfE (by decide), hg1.trans hgE (by decide), rfl⟩

set_option maxHeartbeats 4000000 in
set_option maxRecDepth 100000 in
theorem c_measured {l : Launch} {E : cE} {f : mF} {g j : mA} {Fr : Int → Int} {To : Int → Int} {Ln : Int → Int} {Kd : Int → Int} {Tm : Int → Int} {Lw : Int → Int} {dp : Int} {S : Int} {m w : Int} {K : Int → Int} {cl : List Cla} (eg33 : g 33 = Fr) (eg34 : g 34 = To) (eg35 : g 35 = Ln) (eg36 : g 36 = Kd) (eg44 : g 44 = Tm) (eg46 : g 46 = Lw) (ef32 : f 32 = (K 76)) (ef37 : f 37 = dp) (ef354 : f 354 = S) (ef45 : f 45 = (K 79)) (ef47 : f 47 = (K 80)) (hm : zIn m) (hw : zIn w) (hL : LwN E f g (if 0 ≤ K 80 ∧ K 80 < K 79 then Lw (K 80) else -1) cl) (hK : KOK K) (hP : FrA Fr To Ln Kd dp K) (hS : z31 S) (t0 : Tm 0 = K 28) (t2 : Tm 2 = K 75) : CM l E MX7_measured 7 [.ref (E.1 31), vI m, vI w] f g j (PI (fun r f' g' j' => (r = msV K cl m w) ∧ eqx [354] f f' ∧ eqx [352, 353, 355, 356, 384] g g' ∧ j' = j)) := by
  refine CM.intro [some (.ref (E.1 31)), some (vI m), some (vI w), none, none] (by decide) (Nat.le_of_ble_eq_true rfl) rfl (fun d hd h0 h hH hA => ?_)
  have hfE : eqx [354] f f := eqx.rf
  have hgE : eqx [352, 353, 355, 356, 384] g g := eqx.rf
  have h79 := hK.2.2.2.2.2.2.2.2.2.2.1
  have hn := hK.1
  refine z_ild_1 (TX7_measured.at 0 rfl) ?_
  refine z_iconst (TX7_measured.at 1 rfl) ?_
  refine z_icmp_lt (tgt := 19) (TX7_measured.at 2 rfl) rfl (by omega) (by omega) (fun c1 => ?_) (fun c1 => ?_)
  · skip
    refine z_iconst (TX7_measured.at 9 rfl) ?_
    refine zc_iret (TX7_measured.at 10 rfl) rfl hH hA (by omega) ?_
    exact ⟨by unfold msV; rw [if_neg (by omega)], hfE, hgE, rfl⟩
  · skip
    refine z_ild_1 (TX7_measured.at 3 rfl) ?_
    refine z_sipush (by decide) (TX7_measured.at 4 rfl) ?_
    refine z_icmp_gt (tgt := 19) (TX7_measured.at 5 rfl) rfl (by omega) (by omega) (fun c2 => ?_) (fun c2 => ?_)
    · skip
      refine z_iconst (TX7_measured.at 9 rfl) ?_
      refine zc_iret (TX7_measured.at 10 rfl) rfl hH hA (by omega) ?_
      exact ⟨by unfold msV; rw [if_neg (by omega)], hfE, hgE, rfl⟩
    · skip
      refine z_ild_2 (TX7_measured.at 6 rfl) ?_
      refine zs_call1 (c_isPair (by omega)) (TX7_measured.at 7 rfl) c7_321 rfl (by omega) (Nat.le_of_ble_eq_true rfl) (fun r13 => ?_)
      refine z_if_neB (tgt := 21) (TX7_measured.at 8 rfl) rfl (fun c3 => ?_) (fun c3 => ?_)
      · skip
        refine z_ald_0 (TX7_measured.at 11 rfl) ?_
        refine zc_getO (m := 0) (s := 9) (k := 383) (hH.lv (by decide)) (TX7_measured.at 12 rfl) fl7_60 hH rfl rfl (by decide) (by decide) ?_
        refine z_ald_0 (TX7_measured.at 13 rfl) ?_
        refine zc_getO (m := 0) (s := 0) (k := 63) (hH.lv (by decide)) (TX7_measured.at 14 rfl) fl7_12 hH rfl rfl (by decide) (by decide) ?_
        refine z_ald_0 (TX7_measured.at 15 rfl) ?_
        refine zc_getO (m := 0) (s := 0) (k := 63) (hH.lv (by decide)) (TX7_measured.at 16 rfl) fl7_12 hH rfl rfl (by decide) (by decide) ?_
        refine zc_callO (m := 1) (As := []) (c_lawIn1 eg46 ef45 ef47 h79.1 h79.2) (hH.lv (by decide)) (TX7_measured.at 17 rfl) c7_135 rfl rfl hH hA (by omega) (Nat.le_of_ble_eq_true rfl) (fun y33 f33 g33 j33 h q33 hH hA => ?_)
        obtain ⟨q33, xf, xg, xj⟩ := q33
        rw [xj] at hH
        have ef32 := (xf 32 (by decide)).trans ef32
        have ef37 := (xf 37 (by decide)).trans ef37
        have ef354 := (xf 354 (by decide)).trans ef354
        have ef45 := (xf 45 (by decide)).trans ef45
        have ef47 := (xf 47 (by decide)).trans ef47
        have hfE := hfE.trans xf (by decide)
        have eg33 := (xg 33 (by decide)).trans eg33
        have eg34 := (xg 34 (by decide)).trans eg34
        have eg35 := (xg 35 (by decide)).trans eg35
        have eg36 := (xg 36 (by decide)).trans eg36
        have eg44 := (xg 44 (by decide)).trans eg44
        have eg46 := (xg 46 (by decide)).trans eg46
        have hgE := hgE.trans xg (by decide)
        have qL := q33
        have hL := LwN_cg hL xf xg
        rw [← qL] at hL
        refine zc_callV2 (m := 11) (c_measY1 eg33 eg34 eg35 eg36 eg44 ef32 ef37 ef354 hL hK hP hS t0 t2) (hH.lv (by decide)) (TX7_measured.at 18 rfl) c7_139 rfl rfl hH hA (by omega) (Nat.le_of_ble_eq_true rfl) (fun f36 g36 j36 h q36 hH hA => ?_)
        obtain ⟨q36, xf, xg, xj⟩ := q36
        rw [xj] at hH
        have ef32 := (xf 32 (by decide)).trans ef32
        have ef37 := (xf 37 (by decide)).trans ef37
        have ef45 := (xf 45 (by decide)).trans ef45
        have ef47 := (xf 47 (by decide)).trans ef47
        have hfE := hfE.trans xf (by decide)
        have eg33 := (xg 33 (by decide)).trans eg33
        have eg34 := (xg 34 (by decide)).trans eg34
        have eg35 := (xg 35 (by decide)).trans eg35
        have eg36 := (xg 36 (by decide)).trans eg36
        have eg44 := (xg 44 (by decide)).trans eg44
        have eg46 := (xg 46 (by decide)).trans eg46
        have hgE := hgE.trans xg (by decide)
        have qL := q36
        obtain ⟨hT, hct⟩ := qL
        obtain ⟨BX, eg352⟩ : ∃ z, g36 352 = z := ⟨_, rfl⟩
        obtain ⟨HX, eg353⟩ : ∃ z, g36 353 = z := ⟨_, rfl⟩
        obtain ⟨S2, ef354⟩ : ∃ z, f36 354 = z := ⟨_, rfl⟩
        rw [eg352, eg353, ef354] at hT
        rw [ef354] at hct
        refine z_iconst (TX7_measured.at 19 rfl) ?_
        refine z_ist_3 (TX7_measured.at 20 rfl) (Nat.le_of_ble_eq_true rfl) rfl ?_
        refine lp_cmsd (by omega) hK hT hct (by omega) (by omega) rfl hfE hgE hA (fun o4 f41 g41 h es xf xg hH hA2 => ?_) 9 0 _ _ _ _ _ (by omega) (by omega) (by omega) (fun t t0 t1 => by omega) eg33 eg34 eg352 eg353 rfl ef32 ef354 eqx.rf eqx.rf hH cAg.refl
        have hA := hA.trans hA2
        refine z_iconst (TX7_measured.at 49 rfl) ?_
        refine zc_iret (TX7_measured.at 50 rfl) rfl hH hA (by omega) ?_
        exact ⟨by unfold msV; rw [if_pos (by omega), show msP K cl m = -1 from fstP_none 8 es, if_pos rfl], hfE.trans xf (by decide), hgE.trans xg (by decide), rfl⟩
      · skip
        refine z_iconst (TX7_measured.at 9 rfl) ?_
        refine zc_iret (TX7_measured.at 10 rfl) rfl hH hA (by omega) ?_
        exact ⟨by unfold msV; rw [if_neg (by omega)], hfE, hgE, rfl⟩

theorem fire_see {K Sk Ss : Int → Int} {cl : List Cla} {k : Int} (hsk : ∀ i : Int, 0 ≤ i → i < K 78 → Sk i = K (62 + 2 * i) ∧ Ss i = K (62 + 2 * i + 1)) (h78 : 0 ≤ K 78) : alB (fun i => decide (cmP K cl (zshl 1 k) (Sk i) = Ss i)) (K 78).toNat = wasB K cl k := by
  unfold wasB
  have key : ∀ n : Nat, (n : Int) ≤ K 78 → alB (fun i => decide (cmP K cl (zshl 1 k) (Sk i) = Ss i)) n = alB (seeB K cl k) n := by
    intro n
    induction n with
    | zero => intro _; rfl
    | succ n ih =>
      intro hn
      have a := hsk n (by omega) (by omega)
      simp only [alB]
      rw [ih (by omega)]
      simp only [seeB, a.1, a.2]
  exact key _ (by omega)
set_option maxHeartbeats 4000000 in
set_option maxRecDepth 100000 in
theorem lp_cwas {l : Launch} {E : cE} {d : Nat} {Pz : Option Value → zH → Prop} {h0 : zH} {f0 : mF} {g0 : mA} {j : mA} (hd : 4 ≤ d) {Fr To BX HX K : Int → Int} {S2 : Int} {cl : List Cla} (hK : KOK K) (hT : FiT Fr To BX HX (frK K) (toK K) (brn K cl) (hld K cl) (K 76) S2) (hct : ∀ x : Int, 0 ≤ x → x < K 76 → (bt S2 x ↔ ctc K cl x)) {Sk Ss : Int → Int} (hsk : ∀ i : Int, 0 ≤ i → i < K 78 → Sk i = K (62 + 2 * i) ∧ Ss i = K (62 + 2 * i + 1)) (kx : ∀  (f : mF) (g : mA) (h : zH), eqx [] f0 f → eqx [355] g0 g → HC E f g j h → cAg E h0 h → Z l MX7_wasAt d 0 0 Pz 50 [some (.ref (E.1 31)), some (vI (wasV K cl)), some (vI 8)] [] h 0 0)  : ∀ (n : Nat) (k : Int) (v : Int) (X : Int → Int) (f : mF) (g : mA) (h : zH) (k0 : 0 ≤ k) (k1 : k ≤ 8) (k2 : 8 < k + n) (ev : v = msk (wasB K cl) k.toNat) (eg33 : g 33 = Fr) (eg34 : g 34 = To) (eg352 : g 352 = BX) (eg353 : g 353 = HX) (eg355 : g 355 = X) (eg42 : g 42 = Sk) (eg43 : g 43 = Ss) (ef32 : f 32 = (K 76)) (ef354 : f 354 = S2) (ef41 : f 41 = (K 78)) (hfE : eqx [] f0 f) (hgE : eqx [355] g0 g) (hH : HC E f g j h) (hA : cAg E h0 h), Z l MX7_wasAt d 0 0 Pz 4 [some (.ref (E.1 31)), some (vI v), some (vI k)] [] h 0 0 := by
  intro n
  induction n with
  | zero => intro k v X f g h k0 k1 k2 ev eg33 eg34 eg352 eg353 eg355 eg42 eg43 ef32 ef354 ef41 hfE hgE hH hA; exfalso; omega
  | succ n ih =>
    intro k v X f g h k0 k1 k2 ev eg33 eg34 eg352 eg353 eg355 eg42 eg43 ef32 ef354 ef41 hfE hgE hH hA
    have hn := hK.1
    have h78 := hK.2.2.2.2.2.2.1
    have hv1 := msk_31 (p := wasB K cl) (n := k.toNat) (by omega)
    refine z_ild_2 (TX7_wasAt.at 4 rfl) ?_
    refine z_bipush (by decide) (TX7_wasAt.at 5 rfl) ?_
    refine z_icmp_ge (tgt := 50) (TX7_wasAt.at 6 rfl) rfl (by omega) (by omega) (fun c1 => ?_) (fun c1 => ?_)
    · skip
      obtain rfl : k = 8 := by omega
      rw [ev]
      exact kx _ _ _ hfE hgE hH hA
    · skip
      refine z_ald_0 (TX7_wasAt.at 7 rfl) ?_
      refine zc_getO (m := 0) (s := 9) (k := 383) (hH.lv (by decide)) (TX7_wasAt.at 8 rfl) fl7_60 hH rfl rfl (by decide) (by decide) ?_
      refine z_ald_0 (TX7_wasAt.at 9 rfl) ?_
      refine zc_getO (m := 0) (s := 0) (k := 63) (hH.lv (by decide)) (TX7_wasAt.at 10 rfl) fl7_12 hH rfl rfl (by decide) (by decide) ?_
      refine z_iconst (TX7_wasAt.at 11 rfl) ?_
      refine z_ild_2 (TX7_wasAt.at 12 rfl) ?_
      refine z_ishl (TX7_wasAt.at 13 rfl) ?_
      have hz1 := shl_31 (i := k) (by omega) (by omega)
      refine zc_callV2 (m := 11) (c_sprF1 eg33 eg34 eg352 eg353 rfl ef32 ef354 hz1.zin hz1 hT) (hH.lv (by decide)) (TX7_wasAt.at 14 rfl) c7_314 rfl rfl hH hA (by omega) (Nat.le_of_ble_eq_true rfl) (fun f21 g21 j21 h q21 hH hA => ?_)
      obtain ⟨q21, xf, xg, xj⟩ := q21
      rw [xj] at hH
      have ef32 := (xf 32 (by decide)).trans ef32
      have ef354 := (xf 354 (by decide)).trans ef354
      have ef41 := (xf 41 (by decide)).trans ef41
      have hfE := hfE.trans xf (by decide)
      have eg33 := (xg 33 (by decide)).trans eg33
      have eg34 := (xg 34 (by decide)).trans eg34
      have eg352 := (xg 352 (by decide)).trans eg352
      have eg353 := (xg 353 (by decide)).trans eg353
      have eg42 := (xg 42 (by decide)).trans eg42
      have eg43 := (xg 43 (by decide)).trans eg43
      have hgE := hgE.trans xg (by decide)
      have qL := q21
      have hI := qL
      rw [fire_cm hK hct] at hI
      obtain ⟨X21, eg355⟩ : ∃ z, g21 355 = z := ⟨_, rfl⟩
      rw [eg355] at hI
      refine z_ald_0 (TX7_wasAt.at 15 rfl) ?_
      refine zc_getO (m := 0) (s := 9) (k := 383) (hH.lv (by decide)) (TX7_wasAt.at 16 rfl) fl7_60 hH rfl rfl (by decide) (by decide) ?_
      refine z_ald_0 (TX7_wasAt.at 17 rfl) ?_
      refine zc_getO (m := 0) (s := 0) (k := 63) (hH.lv (by decide)) (TX7_wasAt.at 18 rfl) fl7_12 hH rfl rfl (by decide) (by decide) ?_
      refine zc_callI1 (m := 11) (c_seen eg355 eg42 eg43 ef41 hI.2.1 hI.2.2.1 h78.1 h78.2 (fun i i0 i1 => by have a := hsk i i0 i1; have c := hK.2.2.2.2.2.2.2.1 i i0 i1; omega)) (hH.lv (by decide)) (TX7_wasAt.at 19 rfl) c7_380 rfl rfl hH hA (by omega) (Nat.le_of_ble_eq_true rfl) (fun x32 f32 g32 j32 h r32 q32 hH hA => ?_)
      obtain ⟨q32, xf, xg, xj⟩ := q32
      rw [xj] at hH
      have ef32 := (xf 32 (by decide)).trans ef32
      have ef354 := (xf 354 (by decide)).trans ef354
      have ef41 := (xf 41 (by decide)).trans ef41
      have hfE := hfE.trans xf (by decide)
      have eg33 := (xg 33 (by decide)).trans eg33
      have eg34 := (xg 34 (by decide)).trans eg34
      have eg352 := (xg 352 (by decide)).trans eg352
      have eg353 := (xg 353 (by decide)).trans eg353
      have eg355 := (xg 355 (by decide)).trans eg355
      have eg42 := (xg 42 (by decide)).trans eg42
      have eg43 := (xg 43 (by decide)).trans eg43
      have hgE := hgE.trans xg (by decide)
      have qL := q32
      rw [fire_see hsk h78.1] at qL
      subst qL
      refine z_if_eqB (tgt := 44) (TX7_wasAt.at 20 rfl) rfl (fun c2 => ?_) (fun c2 => ?_)
      · skip
        refine z_iinc_2 (TX7_wasAt.at 27 rfl) (Nat.le_of_ble_eq_true rfl) rfl ?_
        refine z_goto (tgt := 4) (TX7_wasAt.at 28 rfl) rfl ?_
        exact ih (k + 1) _ _ _ _ _ (by omega) (by omega) (by omega) (by first | (rw [msk_s k0, if_pos (by assumption), ev]; done) | exact msk_00 k0 (by assumption) (by omega) ev) eg33 eg34 eg352 eg353 eg355 eg42 eg43 ef32 ef354 ef41 hfE hgE hH hA
      · skip
        refine z_ild_1 (TX7_wasAt.at 21 rfl) ?_
        refine z_iconst (TX7_wasAt.at 22 rfl) ?_
        refine z_ild_2 (TX7_wasAt.at 23 rfl) ?_
        refine z_ishl (TX7_wasAt.at 24 rfl) ?_
        refine z_ior (TX7_wasAt.at 25 rfl) ?_
        refine z_ist_1 (TX7_wasAt.at 26 rfl) (Nat.le_of_ble_eq_true rfl) rfl ?_
        refine z_iinc_2 (TX7_wasAt.at 27 rfl) (Nat.le_of_ble_eq_true rfl) rfl ?_
        refine z_goto (tgt := 4) (TX7_wasAt.at 28 rfl) rfl ?_
        exact ih (k + 1) _ _ _ _ _ (by omega) (by omega) (by omega) (by first | (rw [msk_s k0, if_pos (by assumption), ev]; done) | exact msk_00 k0 (by assumption) (by omega) ev) eg33 eg34 eg352 eg353 eg355 eg42 eg43 ef32 ef354 ef41 hfE hgE hH hA

set_option maxHeartbeats 4000000 in
set_option maxRecDepth 100000 in
theorem c_wasAt {l : Launch} {E : cE} {f : mF} {g j : mA} {Fr : Int → Int} {To : Int → Int} {BX : Int → Int} {HX : Int → Int} {X : Int → Int} {Sk : Int → Int} {Ss : Int → Int} {S2 : Int} {K : Int → Int} {cl : List Cla} (eg33 : g 33 = Fr) (eg34 : g 34 = To) (eg352 : g 352 = BX) (eg353 : g 353 = HX) (eg355 : g 355 = X) (eg42 : g 42 = Sk) (eg43 : g 43 = Ss) (ef32 : f 32 = (K 76)) (ef354 : f 354 = S2) (ef41 : f 41 = (K 78)) (hK : KOK K) (hT : FiT Fr To BX HX (frK K) (toK K) (brn K cl) (hld K cl) (K 76) S2) (hct : ∀ x : Int, 0 ≤ x → x < K 76 → (bt S2 x ↔ ctc K cl x)) (hsk : ∀ i : Int, 0 ≤ i → i < K 78 → Sk i = K (62 + 2 * i) ∧ Ss i = K (62 + 2 * i + 1)) : CM l E MX7_wasAt 5 [.ref (E.1 31)] f g j (PI (fun r f' g' j' => (r = wasV K cl) ∧ eqx [] f f' ∧ eqx [355] g g' ∧ j' = j)) := by
  refine CM.intro [some (.ref (E.1 31)), none, none] (by decide) (Nat.le_of_ble_eq_true rfl) rfl (fun d hd h0 h hH hA => ?_)
  have hfE : eqx [] f f := eqx.rf
  have hgE : eqx [355] g g := eqx.rf
  have hv1 := msk_31 (p := wasB K cl) (n := 8) (by omega)
  have hv2 : zIn (wasV K cl) := hv1.zin
  refine z_iconst (TX7_wasAt.at 0 rfl) ?_
  refine z_ist_1 (TX7_wasAt.at 1 rfl) (Nat.le_of_ble_eq_true rfl) rfl ?_
  refine z_iconst (TX7_wasAt.at 2 rfl) ?_
  refine z_ist_2 (TX7_wasAt.at 3 rfl) (Nat.le_of_ble_eq_true rfl) rfl ?_
  refine lp_cwas (by omega) hK hT hct hsk (fun f4 g4 h  xf xg hH hA => ?_) 9 0 0 _ _ _ _ (by omega) (by omega) (by omega) rfl eg33 eg34 eg352 eg353 eg355 eg42 eg43 ef32 ef354 ef41 eqx.rf eqx.rf hH hA
  have ef32 := (xf 32 (by decide)).trans ef32
  have ef354 := (xf 354 (by decide)).trans ef354
  have ef41 := (xf 41 (by decide)).trans ef41
  have hfE := hfE.trans xf (by decide)
  have eg33 := (xg 33 (by decide)).trans eg33
  have eg34 := (xg 34 (by decide)).trans eg34
  have eg352 := (xg 352 (by decide)).trans eg352
  have eg353 := (xg 353 (by decide)).trans eg353
  have eg42 := (xg 42 (by decide)).trans eg42
  have eg43 := (xg 43 (by decide)).trans eg43
  have hgE := hgE.trans xg (by decide)
  refine z_ild_1 (TX7_wasAt.at 29 rfl) ?_
  refine zc_iret (TX7_wasAt.at 30 rfl) rfl hH hA (by omega) ?_
  exact ⟨rfl, hfE, hgE, rfl⟩

set_option maxHeartbeats 4000000 in
set_option maxRecDepth 100000 in
theorem c_was {l : Launch} {E : cE} {f : mF} {g j : mA} {Fr : Int → Int} {To : Int → Int} {Ln : Int → Int} {Kd : Int → Int} {Tm : Int → Int} {Lw : Int → Int} {Sk : Int → Int} {Ss : Int → Int} {dp : Int} {S : Int} {K : Int → Int} {cl : List Cla} (eg33 : g 33 = Fr) (eg34 : g 34 = To) (eg35 : g 35 = Ln) (eg36 : g 36 = Kd) (eg44 : g 44 = Tm) (eg46 : g 46 = Lw) (eg42 : g 42 = Sk) (eg43 : g 43 = Ss) (ef32 : f 32 = (K 76)) (ef37 : f 37 = dp) (ef354 : f 354 = S) (ef45 : f 45 = (K 79)) (ef47 : f 47 = (K 80)) (ef41 : f 41 = (K 78)) (hL : LwN E f g (if 0 ≤ K 80 ∧ K 80 < K 79 then Lw (K 80) else -1) cl) (hK : KOK K) (hP : FrA Fr To Ln Kd dp K) (hS : z31 S) (t0 : Tm 0 = K 28) (t2 : Tm 2 = K 75) (hsk : ∀ i : Int, 0 ≤ i → i < K 78 → Sk i = K (62 + 2 * i) ∧ Ss i = K (62 + 2 * i + 1)) : CM l E MX7_was 7 [.ref (E.1 31)] f g j (PI (fun r f' g' j' => (r = wasV K cl) ∧ eqx [354] f f' ∧ eqx [352, 353, 355, 356, 384] g g' ∧ j' = j)) := by
  refine CM.intro [some (.ref (E.1 31))] (by decide) (Nat.le_of_ble_eq_true rfl) rfl (fun d hd h0 h hH hA => ?_)
  have hfE : eqx [354] f f := eqx.rf
  have hgE : eqx [352, 353, 355, 356, 384] g g := eqx.rf
  have h79 := hK.2.2.2.2.2.2.2.2.2.2.1
  have hn := hK.1
  refine z_ald_0 (TX7_was.at 0 rfl) ?_
  refine zc_getO (m := 0) (s := 9) (k := 383) (hH.lv (by decide)) (TX7_was.at 1 rfl) fl7_60 hH rfl rfl (by decide) (by decide) ?_
  refine z_ald_0 (TX7_was.at 2 rfl) ?_
  refine zc_getO (m := 0) (s := 0) (k := 63) (hH.lv (by decide)) (TX7_was.at 3 rfl) fl7_12 hH rfl rfl (by decide) (by decide) ?_
  refine z_ald_0 (TX7_was.at 4 rfl) ?_
  refine zc_getO (m := 0) (s := 0) (k := 63) (hH.lv (by decide)) (TX7_was.at 5 rfl) fl7_12 hH rfl rfl (by decide) (by decide) ?_
  refine zc_callO (m := 1) (As := []) (c_lawIn1 eg46 ef45 ef47 h79.1 h79.2) (hH.lv (by decide)) (TX7_was.at 6 rfl) c7_135 rfl rfl hH hA (by omega) (Nat.le_of_ble_eq_true rfl) (fun y12 f12 g12 j12 h q12 hH hA => ?_)
  obtain ⟨q12, xf, xg, xj⟩ := q12
  rw [xj] at hH
  have ef32 := (xf 32 (by decide)).trans ef32
  have ef37 := (xf 37 (by decide)).trans ef37
  have ef354 := (xf 354 (by decide)).trans ef354
  have ef45 := (xf 45 (by decide)).trans ef45
  have ef47 := (xf 47 (by decide)).trans ef47
  have ef41 := (xf 41 (by decide)).trans ef41
  have hfE := hfE.trans xf (by decide)
  have eg33 := (xg 33 (by decide)).trans eg33
  have eg34 := (xg 34 (by decide)).trans eg34
  have eg35 := (xg 35 (by decide)).trans eg35
  have eg36 := (xg 36 (by decide)).trans eg36
  have eg44 := (xg 44 (by decide)).trans eg44
  have eg46 := (xg 46 (by decide)).trans eg46
  have eg42 := (xg 42 (by decide)).trans eg42
  have eg43 := (xg 43 (by decide)).trans eg43
  have hgE := hgE.trans xg (by decide)
  have qL := q12
  have hL := LwN_cg hL xf xg
  rw [← qL] at hL
  refine zc_callV2 (m := 11) (c_measY1 eg33 eg34 eg35 eg36 eg44 ef32 ef37 ef354 hL hK hP hS t0 t2) (hH.lv (by decide)) (TX7_was.at 7 rfl) c7_139 rfl rfl hH hA (by omega) (Nat.le_of_ble_eq_true rfl) (fun f15 g15 j15 h q15 hH hA => ?_)
  obtain ⟨q15, xf, xg, xj⟩ := q15
  rw [xj] at hH
  have ef32 := (xf 32 (by decide)).trans ef32
  have ef37 := (xf 37 (by decide)).trans ef37
  have ef45 := (xf 45 (by decide)).trans ef45
  have ef47 := (xf 47 (by decide)).trans ef47
  have ef41 := (xf 41 (by decide)).trans ef41
  have hfE := hfE.trans xf (by decide)
  have eg33 := (xg 33 (by decide)).trans eg33
  have eg34 := (xg 34 (by decide)).trans eg34
  have eg35 := (xg 35 (by decide)).trans eg35
  have eg36 := (xg 36 (by decide)).trans eg36
  have eg44 := (xg 44 (by decide)).trans eg44
  have eg46 := (xg 46 (by decide)).trans eg46
  have eg42 := (xg 42 (by decide)).trans eg42
  have eg43 := (xg 43 (by decide)).trans eg43
  have hgE := hgE.trans xg (by decide)
  have qL := q15
  obtain ⟨hT, hct⟩ := qL
  obtain ⟨BX, eg352⟩ : ∃ z, g15 352 = z := ⟨_, rfl⟩
  obtain ⟨HX, eg353⟩ : ∃ z, g15 353 = z := ⟨_, rfl⟩
  obtain ⟨S2, ef354⟩ : ∃ z, f15 354 = z := ⟨_, rfl⟩
  rw [eg352, eg353, ef354] at hT
  rw [ef354] at hct
  refine z_ald_0 (TX7_was.at 8 rfl) ?_
  refine zc_callI0 (m := 0) (c_wasAt eg33 eg34 eg352 eg353 rfl eg42 eg43 ef32 ef354 ef41 hK hT hct hsk) (hH.lv (by decide)) (TX7_was.at 9 rfl) c7_377 rfl rfl hH hA (by omega) (Nat.le_of_ble_eq_true rfl) (fun x19 f19 g19 j19 h r19 q19 hH hA => ?_)
  obtain ⟨q19, xf, xg, xj⟩ := q19
  rw [xj] at hH
  have ef32 := (xf 32 (by decide)).trans ef32
  have ef37 := (xf 37 (by decide)).trans ef37
  have ef354 := (xf 354 (by decide)).trans ef354
  have ef45 := (xf 45 (by decide)).trans ef45
  have ef47 := (xf 47 (by decide)).trans ef47
  have ef41 := (xf 41 (by decide)).trans ef41
  have hfE := hfE.trans xf (by decide)
  have eg33 := (xg 33 (by decide)).trans eg33
  have eg34 := (xg 34 (by decide)).trans eg34
  have eg35 := (xg 35 (by decide)).trans eg35
  have eg36 := (xg 36 (by decide)).trans eg36
  have eg44 := (xg 44 (by decide)).trans eg44
  have eg46 := (xg 46 (by decide)).trans eg46
  have eg42 := (xg 42 (by decide)).trans eg42
  have eg43 := (xg 43 (by decide)).trans eg43
  have eg352 := (xg 352 (by decide)).trans eg352
  have eg353 := (xg 353 (by decide)).trans eg353
  have hgE := hgE.trans xg (by decide)
  have qL := q19
  subst qL
  refine zc_iret (TX7_was.at 10 rfl) rfl hH hA (by omega) ?_
  exact ⟨rfl, hfE, hgE, rfl⟩

theorem mAl8 {w : Int → Int} {s : Int} : 0 ≤ mAl w s ∧ mAl w s ≤ 8 := mAl_in
theorem fire_al {K : Int → Int} {cl : List Cla} {S kn tt : Int} (hK : KOK K) (hct : ∀ x : Int, 0 ≤ x → x < K 76 → (bt S x ↔ ctc K cl x)) : mAl (fun k => dist (frK K) (toK K) (brn K cl) (hld K cl) S (K 76).toNat (src (zshl 1 k)) tt) kn = mAl (fun a => cmP K cl (zshl 1 a) tt) kn := by
  congr 1
  funext k
  rw [fire_cm hK hct]
theorem orN_8 {x : Int} (h : x ≤ 8) : orN x = x := by unfold orN; rw [if_neg (by omega)]
set_option maxHeartbeats 4000000 in
set_option maxRecDepth 100000 in
theorem lp_clook {l : Launch} {E : cE} {d : Nat} {Pz : Option Value → zH → Prop} {h0 : zH} {f0 : mF} {g0 : mA} {j : mA} (hd : 6 ≤ d) {Fr To BX HX K : Int → Int} {S2 : Int} {cl : List Cla} (hK : KOK K) (hT : FiT Fr To BX HX (frK K) (toK K) (brn K cl) (hld K cl) (K 76) S2) (hct : ∀ x : Int, 0 ≤ x → x < K 76 → (bt S2 x ↔ ctc K cl x)) {w : Int} (kx : ∀ (a b : Int) (o6 : Option Value) (f : mF) (g : mA) (h : zH), (a, b) = srch (fun _ => true) (fun t => mAl (fun a => cmP K cl (zshl 1 a) t) (wasV K cl)) 8 → eqx [] f0 f → eqx [355, 357] g0 g → HC E f g j h → cAg E h0 h → Z l MX7_look d 0 0 Pz 91 [some (.ref (E.1 31)), some (vI w), some (vI (wasV K cl)), some (vI (orN a)), some (vI b), some (vI 8), o6] [] h 0 0)  : ∀ (n : Nat) (k : Int) (a : Int) (b : Int) (o6 : Option Value) (X : Int → Int) (f : mF) (g : mA) (h : zH) (k0 : 0 ≤ k) (k1 : k ≤ 8) (k2 : 8 < k + n) (es : (a, b) = srch (fun _ => true) (fun t => mAl (fun a => cmP K cl (zshl 1 a) t) (wasV K cl)) k.toNat) (eg33 : g 33 = Fr) (eg34 : g 34 = To) (eg352 : g 352 = BX) (eg353 : g 353 = HX) (eg355 : g 355 = X) (ef32 : f 32 = (K 76)) (ef354 : f 354 = S2) (hfE : eqx [] f0 f) (hgE : eqx [355, 357] g0 g) (hH : HC E f g j h) (hA : cAg E h0 h), Z l MX7_look d 0 0 Pz 46 [some (.ref (E.1 31)), some (vI w), some (vI (wasV K cl)), some (vI (orN a)), some (vI b), some (vI k), o6] [] h 0 0 := by
  intro n
  induction n with
  | zero => intro k a b o6 X f g h k0 k1 k2 es eg33 eg34 eg352 eg353 eg355 ef32 ef354 hfE hgE hH hA; exfalso; omega
  | succ n ih =>
    intro k a b o6 X f g h k0 k1 k2 es eg33 eg34 eg352 eg353 eg355 ef32 ef354 hfE hgE hH hA
    have hn := hK.1
    have hz1 : z31 (wasV K cl) := msk_31 (p := wasB K cl) (n := 8) (by omega)
    have hsi := srch_in (p := (fun _ => true)) (v := (fun t => mAl (fun a => cmP K cl (zshl 1 a) t) (wasV K cl))) k.toNat (fun t _ _ => mAl8.1)
    rw [← es] at hsi
    simp only at hsi
    have hoa := orN_a hsi.1 hsi.2.1
    refine z_ild_5 (TX7_look.at 26 rfl) ?_
    refine z_bipush (by decide) (TX7_look.at 27 rfl) ?_
    refine z_icmp_ge (tgt := 91) (TX7_look.at 28 rfl) rfl (by omega) (by omega) (fun c1 => ?_) (fun c1 => ?_)
    · skip
      obtain rfl : k = 8 := by omega
      exact kx a b _ _ _ _ es hfE hgE hH hA
    · skip
      refine z_ald_0 (TX7_look.at 29 rfl) ?_
      refine zc_getO (m := 0) (s := 9) (k := 383) (hH.lv (by decide)) (TX7_look.at 30 rfl) fl7_60 hH rfl rfl (by decide) (by decide) ?_
      refine z_ald_0 (TX7_look.at 31 rfl) ?_
      refine zc_getO (m := 0) (s := 0) (k := 63) (hH.lv (by decide)) (TX7_look.at 32 rfl) fl7_12 hH rfl rfl (by decide) (by decide) ?_
      refine z_ild_2 (TX7_look.at 33 rfl) ?_
      refine z_ild_5 (TX7_look.at 34 rfl) ?_
      refine zc_callI3 (m := 11) (c_alike eg33 eg34 eg352 eg353 eg355 rfl ef32 ef354 hz1.zin (by omega) hT hz1 (by omega) (by omega)) (hH.lv (by decide)) (TX7_look.at 35 rfl) c7_384 rfl rfl hH hA (by omega) (Nat.le_of_ble_eq_true rfl) (fun x64 f64 g64 j64 h r64 q64 hH hA => ?_)
      obtain ⟨q64, xf, xg, xj⟩ := q64
      rw [xj] at hH
      have ef32 := (xf 32 (by decide)).trans ef32
      have ef354 := (xf 354 (by decide)).trans ef354
      have hfE := hfE.trans xf (by decide)
      have eg33 := (xg 33 (by decide)).trans eg33
      have eg34 := (xg 34 (by decide)).trans eg34
      have eg352 := (xg 352 (by decide)).trans eg352
      have eg353 := (xg 353 (by decide)).trans eg353
      have hgE := hgE.trans xg (by decide)
      have qL := q64
      rw [fire_al hK hct] at qL
      obtain ⟨X64, eg355⟩ : ∃ z, g64 355 = z := ⟨_, rfl⟩
      have hla := mAl8 (w := fun a => cmP K cl (zshl 1 a) k) (s := wasV K cl)
      rw [← orN_8 hla.2] at qL
      subst qL
      have hov := orN_a hla.1 (by omega)
      refine z_ist_6 (TX7_look.at 36 rfl) (Nat.le_of_ble_eq_true rfl) rfl ?_
      refine z_ild_6 (TX7_look.at 37 rfl) ?_
      refine z_ild_3 (TX7_look.at 38 rfl) ?_
      refine zs_call2 (c_isSooner (by omega) (by omega)) (TX7_look.at 39 rfl) c7_324 rfl (by omega) (Nat.le_of_ble_eq_true rfl) (fun r72 => ?_)
      refine z_if_eqB (tgt := 85) (TX7_look.at 40 rfl) rfl (fun c2 => ?_) (fun c2 => ?_)
      · skip
        refine z_iinc_5 (TX7_look.at 45 rfl) (Nat.le_of_ble_eq_true rfl) rfl ?_
        refine z_goto (tgt := 46) (TX7_look.at 46 rfl) rfl ?_
        exact ih (k + 1) _ _ _ _ _ _ _ (by omega) (by omega) (by omega) (by first | exact srch_t k0 es rfl (by first | omega | (simp only; omega)) | exact srch_f k0 es (fun z => absurd z.2 (by first | omega | (simp only; omega)))) eg33 eg34 eg352 eg353 eg355 ef32 ef354 hfE hgE hH hA
      · skip
        refine z_ild_6 (TX7_look.at 41 rfl) ?_
        refine z_ist_3 (TX7_look.at 42 rfl) (Nat.le_of_ble_eq_true rfl) rfl ?_
        refine z_ild_5 (TX7_look.at 43 rfl) ?_
        refine z_ist_4 (TX7_look.at 44 rfl) (Nat.le_of_ble_eq_true rfl) rfl ?_
        refine z_iinc_5 (TX7_look.at 45 rfl) (Nat.le_of_ble_eq_true rfl) rfl ?_
        refine z_goto (tgt := 46) (TX7_look.at 46 rfl) rfl ?_
        exact ih (k + 1) _ _ _ _ _ _ _ (by omega) (by omega) (by omega) (by first | exact srch_t k0 es rfl (by first | omega | (simp only; omega)) | exact srch_f k0 es (fun z => absurd z.2 (by first | omega | (simp only; omega)))) eg33 eg34 eg352 eg353 eg355 ef32 ef354 hfE hgE hH hA

set_option maxHeartbeats 4000000 in
set_option maxRecDepth 100000 in
theorem c_look {l : Launch} {E : cE} {f : mF} {g j : mA} {Fr : Int → Int} {To : Int → Int} {Ln : Int → Int} {Kd : Int → Int} {Tm : Int → Int} {Lw : Int → Int} {Sk : Int → Int} {Ss : Int → Int} {dp : Int} {S : Int} {w : Int} {K : Int → Int} {cl : List Cla} (eg33 : g 33 = Fr) (eg34 : g 34 = To) (eg35 : g 35 = Ln) (eg36 : g 36 = Kd) (eg44 : g 44 = Tm) (eg46 : g 46 = Lw) (eg42 : g 42 = Sk) (eg43 : g 43 = Ss) (ef32 : f 32 = (K 76)) (ef37 : f 37 = dp) (ef354 : f 354 = S) (ef45 : f 45 = (K 79)) (ef47 : f 47 = (K 80)) (ef41 : f 41 = (K 78)) (hw : zIn w) (hL : LwN E f g (if 0 ≤ K 80 ∧ K 80 < K 79 then Lw (K 80) else -1) cl) (hK : KOK K) (hP : FrA Fr To Ln Kd dp K) (hS : z31 S) (t0 : Tm 0 = K 28) (t2 : Tm 2 = K 75) (hsk : ∀ i : Int, 0 ≤ i → i < K 78 → Sk i = K (62 + 2 * i) ∧ Ss i = K (62 + 2 * i + 1)) : CM l E MX7_look 7 [.ref (E.1 31), vI w] f g j (PI (fun r f' g' j' => (r = lkV K cl w) ∧ eqx [354] f f' ∧ eqx [352, 353, 355, 356, 384, 357] g g' ∧ j' = j)) := by
  refine CM.intro [some (.ref (E.1 31)), some (vI w), none, none, none, none, none] (by decide) (Nat.le_of_ble_eq_true rfl) rfl (fun d hd h0 h hH hA => ?_)
  have hfE : eqx [354] f f := eqx.rf
  have hgE : eqx [352, 353, 355, 356, 384, 357] g g := eqx.rf
  have h79 := hK.2.2.2.2.2.2.2.2.2.2.1
  have hn := hK.1
  refine z_ild_1 (TX7_look.at 0 rfl) ?_
  refine zs_call1 (c_isPair (by omega)) (TX7_look.at 1 rfl) c7_321 rfl (by omega) (Nat.le_of_ble_eq_true rfl) (fun r1 => ?_)
  refine z_if_neB (tgt := 9) (TX7_look.at 2 rfl) rfl (fun c1 => ?_) (fun c1 => ?_)
  · skip
    refine z_ald_0 (TX7_look.at 5 rfl) ?_
    refine zc_getO (m := 0) (s := 9) (k := 383) (hH.lv (by decide)) (TX7_look.at 6 rfl) fl7_60 hH rfl rfl (by decide) (by decide) ?_
    refine z_ald_0 (TX7_look.at 7 rfl) ?_
    refine zc_getO (m := 0) (s := 0) (k := 63) (hH.lv (by decide)) (TX7_look.at 8 rfl) fl7_12 hH rfl rfl (by decide) (by decide) ?_
    refine z_ald_0 (TX7_look.at 9 rfl) ?_
    refine zc_getO (m := 0) (s := 0) (k := 63) (hH.lv (by decide)) (TX7_look.at 10 rfl) fl7_12 hH rfl rfl (by decide) (by decide) ?_
    refine zc_callO (m := 1) (As := []) (c_lawIn1 eg46 ef45 ef47 h79.1 h79.2) (hH.lv (by decide)) (TX7_look.at 11 rfl) c7_135 rfl rfl hH hA (by omega) (Nat.le_of_ble_eq_true rfl) (fun y21 f21 g21 j21 h q21 hH hA => ?_)
    obtain ⟨q21, xf, xg, xj⟩ := q21
    rw [xj] at hH
    have ef32 := (xf 32 (by decide)).trans ef32
    have ef37 := (xf 37 (by decide)).trans ef37
    have ef354 := (xf 354 (by decide)).trans ef354
    have ef45 := (xf 45 (by decide)).trans ef45
    have ef47 := (xf 47 (by decide)).trans ef47
    have ef41 := (xf 41 (by decide)).trans ef41
    have hfE := hfE.trans xf (by decide)
    have eg33 := (xg 33 (by decide)).trans eg33
    have eg34 := (xg 34 (by decide)).trans eg34
    have eg35 := (xg 35 (by decide)).trans eg35
    have eg36 := (xg 36 (by decide)).trans eg36
    have eg44 := (xg 44 (by decide)).trans eg44
    have eg46 := (xg 46 (by decide)).trans eg46
    have eg42 := (xg 42 (by decide)).trans eg42
    have eg43 := (xg 43 (by decide)).trans eg43
    have hgE := hgE.trans xg (by decide)
    have qL := q21
    have hL := LwN_cg hL xf xg
    rw [← qL] at hL
    refine zc_callV2 (m := 11) (c_measY1 eg33 eg34 eg35 eg36 eg44 ef32 ef37 ef354 hL hK hP hS t0 t2) (hH.lv (by decide)) (TX7_look.at 12 rfl) c7_139 rfl rfl hH hA (by omega) (Nat.le_of_ble_eq_true rfl) (fun f24 g24 j24 h q24 hH hA => ?_)
    obtain ⟨q24, xf, xg, xj⟩ := q24
    rw [xj] at hH
    have ef32 := (xf 32 (by decide)).trans ef32
    have ef37 := (xf 37 (by decide)).trans ef37
    have ef45 := (xf 45 (by decide)).trans ef45
    have ef47 := (xf 47 (by decide)).trans ef47
    have ef41 := (xf 41 (by decide)).trans ef41
    have hfE := hfE.trans xf (by decide)
    have eg33 := (xg 33 (by decide)).trans eg33
    have eg34 := (xg 34 (by decide)).trans eg34
    have eg35 := (xg 35 (by decide)).trans eg35
    have eg36 := (xg 36 (by decide)).trans eg36
    have eg44 := (xg 44 (by decide)).trans eg44
    have eg46 := (xg 46 (by decide)).trans eg46
    have eg42 := (xg 42 (by decide)).trans eg42
    have eg43 := (xg 43 (by decide)).trans eg43
    have hgE := hgE.trans xg (by decide)
    have qL := q24
    obtain ⟨hT, hct⟩ := qL
    obtain ⟨BX, eg352⟩ : ∃ z, g24 352 = z := ⟨_, rfl⟩
    obtain ⟨HX, eg353⟩ : ∃ z, g24 353 = z := ⟨_, rfl⟩
    obtain ⟨S2, ef354⟩ : ∃ z, f24 354 = z := ⟨_, rfl⟩
    rw [eg352, eg353, ef354] at hT
    rw [ef354] at hct
    refine z_ald_0 (TX7_look.at 13 rfl) ?_
    refine zc_callI0 (m := 0) (c_wasAt eg33 eg34 eg352 eg353 rfl eg42 eg43 ef32 ef354 ef41 hK hT hct hsk) (hH.lv (by decide)) (TX7_look.at 14 rfl) c7_377 rfl rfl hH hA (by omega) (Nat.le_of_ble_eq_true rfl) (fun x28 f28 g28 j28 h r28 q28 hH hA => ?_)
    obtain ⟨q28, xf, xg, xj⟩ := q28
    rw [xj] at hH
    have ef32 := (xf 32 (by decide)).trans ef32
    have ef37 := (xf 37 (by decide)).trans ef37
    have ef354 := (xf 354 (by decide)).trans ef354
    have ef45 := (xf 45 (by decide)).trans ef45
    have ef47 := (xf 47 (by decide)).trans ef47
    have ef41 := (xf 41 (by decide)).trans ef41
    have hfE := hfE.trans xf (by decide)
    have eg33 := (xg 33 (by decide)).trans eg33
    have eg34 := (xg 34 (by decide)).trans eg34
    have eg35 := (xg 35 (by decide)).trans eg35
    have eg36 := (xg 36 (by decide)).trans eg36
    have eg44 := (xg 44 (by decide)).trans eg44
    have eg46 := (xg 46 (by decide)).trans eg46
    have eg42 := (xg 42 (by decide)).trans eg42
    have eg43 := (xg 43 (by decide)).trans eg43
    have eg352 := (xg 352 (by decide)).trans eg352
    have eg353 := (xg 353 (by decide)).trans eg353
    have hgE := hgE.trans xg (by decide)
    have qL := q28
    subst qL
    refine z_ist_2 (TX7_look.at 15 rfl) (Nat.le_of_ble_eq_true rfl) rfl ?_
    refine z_ild_2 (TX7_look.at 16 rfl) ?_
    refine z_if_ne (tgt := 38) (TX7_look.at 17 rfl) rfl (by omega) (fun c2 => ?_) (fun c2 => ?_)
    · skip
      refine z_iconst (TX7_look.at 20 rfl) ?_
      refine z_ist_3 (TX7_look.at 21 rfl) (Nat.le_of_ble_eq_true rfl) rfl ?_
      refine z_iconst (TX7_look.at 22 rfl) ?_
      refine z_ist_4 (TX7_look.at 23 rfl) (Nat.le_of_ble_eq_true rfl) rfl ?_
      refine z_iconst (TX7_look.at 24 rfl) ?_
      refine z_ist_5 (TX7_look.at 25 rfl) (Nat.le_of_ble_eq_true rfl) rfl ?_
      refine lp_clook (by omega) hK hT hct (w := w) (fun a b o6 f46 g46 h es xf xg hH hA => ?_) 9 0 1000000 (-1) none _ _ _ _ (by omega) (by omega) (by omega) rfl eg33 eg34 eg352 eg353 rfl  ef32 ef354  eqx.rf eqx.rf hH hA
      have ef32 := (xf 32 (by decide)).trans ef32
      have ef37 := (xf 37 (by decide)).trans ef37
      have ef354 := (xf 354 (by decide)).trans ef354
      have ef45 := (xf 45 (by decide)).trans ef45
      have ef47 := (xf 47 (by decide)).trans ef47
      have ef41 := (xf 41 (by decide)).trans ef41
      have hfE := hfE.trans xf (by decide)
      have eg33 := (xg 33 (by decide)).trans eg33
      have eg34 := (xg 34 (by decide)).trans eg34
      have eg35 := (xg 35 (by decide)).trans eg35
      have eg36 := (xg 36 (by decide)).trans eg36
      have eg44 := (xg 44 (by decide)).trans eg44
      have eg46 := (xg 46 (by decide)).trans eg46
      have eg42 := (xg 42 (by decide)).trans eg42
      have eg43 := (xg 43 (by decide)).trans eg43
      have eg352 := (xg 352 (by decide)).trans eg352
      have eg353 := (xg 353 (by decide)).trans eg353
      have hgE := hgE.trans xg (by decide)
      have hsi := srch_in (p := (fun _ => true)) (v := (fun t => mAl (fun a => cmP K cl (zshl 1 a) t) (wasV K cl))) 8 (fun t _ _ => mAl8.1)
      rw [← es] at hsi
      simp only at hsi
      have hoa := orN_a hsi.1 hsi.2.1
      have hb1 := srch_n es
      refine z_ild_1 (TX7_look.at 47 rfl) ?_
      refine z_if_ne (tgt := 100) (TX7_look.at 48 rfl) rfl (by omega) (fun c3 => ?_) (fun c3 => ?_)
      · skip
        refine z_ild_3 (TX7_look.at 51 rfl) ?_
        refine zc_iret (TX7_look.at 52 rfl) rfl hH hA (by omega) ?_
        exact ⟨by have hw : lkS K cl = srch (fun _ => true) (fun t => mAl (fun a => cmP K cl (zshl 1 a) t) (wasV K cl)) 8 := (if_neg (by omega)); unfold lkV; rw [if_pos (by omega), hw, ← es]; unfold srchR; simp only; split <;> omega, hfE, hgE, rfl⟩
      · skip
        refine z_ild_4 (TX7_look.at 49 rfl) ?_
        refine z_goto (tgt := 101) (TX7_look.at 50 rfl) rfl ?_
        refine zc_iret (TX7_look.at 52 rfl) rfl hH hA (by omega) ?_
        exact ⟨by have hw : lkS K cl = srch (fun _ => true) (fun t => mAl (fun a => cmP K cl (zshl 1 a) t) (wasV K cl)) 8 := (if_neg (by omega)); unfold lkV; rw [if_pos (by omega), hw, ← es]; unfold srchR; simp only; split <;> omega, hfE, hgE, rfl⟩
    · skip
      refine z_iconst (TX7_look.at 18 rfl) ?_
      refine zc_iret (TX7_look.at 19 rfl) rfl hH hA (by omega) ?_
      exact ⟨by have hw : lkS K cl = (1000000, -1) := (if_pos (by omega)); unfold lkV; rw [if_pos (by omega), hw]; exact (if_pos (Or.inl rfl)).symm, hfE, hgE, rfl⟩
  · skip
    refine z_iconst (TX7_look.at 3 rfl) ?_
    refine zc_iret (TX7_look.at 4 rfl) rfl hH hA (by omega) ?_
    exact ⟨by unfold lkV; rw [if_neg (by omega)], hfE, hgE, rfl⟩

theorem rdN_cg80 {fr to B Hd fr' to' B' : Int → Int} {S : Int} {p : (Int → Int) × Int} : ∀ n : Nat, (∀ x : Int, 0 ≤ x → x < n → fr x = fr' x ∧ to x = to' x ∧ B x = B' x) → rdN fr to B Hd S p n = rdN fr' to' B' Hd S p n := by
  intro n
  induction n with
  | zero => intro _; rfl
  | succ n ih =>
    intro h
    have a := h n (by omega) (by omega)
    simp only [rdN]
    rw [ih (fun x x0 x1 => h x x0 (by omega))]
    unfold rdS gC gIs
    rw [a.1, a.2.1, a.2.2]
theorem dist_cg80 {fr to B Hd fr' to' B' C : Int → Int} {S : Int} {n : Nat} (h : ∀ x : Int, 0 ≤ x → x < n → fr x = fr' x ∧ to x = to' x ∧ B x = B' x) : dist fr to B Hd S n C = dist fr' to' B' Hd S n C := by
  have e : ∀ C, rd fr to B Hd S n C = rd fr' to' B' Hd S n C := fun C => by unfold rd; rw [rdN_cg80 n h]
  unfold dist
  have key : ∀ k : Nat, rdI fr to B Hd S n C k = rdI fr' to' B' Hd S n C k := by
    intro k
    induction k with
    | zero => rfl
    | succ k ih => simp only [rdI]; rw [ih, e]
  exact key 8
theorem laP_cg80 {K K' : Int → Int} {cl : List Cla} {q s : Int} (hK : KOK K) (e76 : K' 76 = K 76) (nb : ∀ i : Int, i ≠ 80 → K' i = K i) (eB : ∀ t : Int, 0 ≤ t → t < K 76 → brn K' cl t = brn K cl t) (eH : hld K' cl = hld K cl) (eS : ctS K' cl = ctS K cl) : laP K' cl q s = laP K cl q s := by
  have hn := hK.1
  have ed : ∀ C, dK K' cl (ctS K cl) C = dK K cl (ctS K cl) C := by
    intro C
    unfold dK
    rw [e76, eH]
    exact dist_cg80 (fun x x0 x1 => ⟨nb _ (by omega), nb _ (by omega), eB x x0 (by omega)⟩)
  unfold laP
  rw [e76]
  refine lastN_cg _ (fun t t0 t1 => ⟨?_, Iff.rfl⟩)
  unfold otP cmP oK
  rw [eS, ed, eH]
  unfold outC
  simp only [frK, toK]
  rw [nb (29 + t) (by omega), nb (39 + t) (by omega), eB t t0 (by omega)]
theorem lasF_80 {K : Int → Int} {cl : List Cla} {x k : Int} (hK : KOK K) : lasF (iu K 80 x) cl k = laP K cl (zshl 1 k) 1023 := by
  have hn := hK.1
  have nb : ∀ i : Int, i ≠ 80 → iu K 80 x i = K i := fun i h => iu_ne h
  have e76 : iu K 80 x 76 = K 76 := nb _ (by decide)
  have eF : ∀ t : Int, 0 ≤ t → t < K 76 → askF (iu K 80 x) t = askF K t := by
    intro t t0 t1
    funext a
    unfold askF
    rw [nb (49 + t) (by omega), nb (29 + t) (by omega), nb (39 + t) (by omega), nb 75 (by decide), nb (10 + t) (by omega), nb 28 (by decide)]
  have eN : ∀ t : Int, askN (iu K 80 x) t = askN K t := by
    intro t
    funext a
    unfold askN
    rw [nb 75 (by decide), nb 28 (by decide)]
    have e5 : ends (iu K 80 x) t = ends K t := by
      unfold ends
      rw [e76]
      refine sm_cg (fun i i0 i1 => ?_)
      rw [nb (29 + i) (by omega), nb (39 + i) (by omega)]
    rw [e5]
  have eB : ∀ t : Int, 0 ≤ t → t < K 76 → brn (iu K 80 x) cl t = brn K cl t := by
    intro t t0 t1
    unfold brn
    rw [eF t t0 t1, nb (10 + t) (by omega)]
  have eH : hld (iu K 80 x) cl = hld K cl := by
    funext t
    unfold hld
    rw [eN t]
  have eS : ctS (iu K 80 x) cl = ctS K cl := by
    unfold ctS
    rw [e76]
    refine msk_cg _ (fun t t0 t1 => ?_)
    simp only [ctc]
    rw [eF t t0 (by omega), nb t (by omega)]
  unfold lasF
  exact laP_cg80 hK e76 nb eB eH eS
set_option maxHeartbeats 4000000 in
set_option maxRecDepth 100000 in
theorem c_compare {l : Launch} {E : cE} {f : mF} {g j : mA} {Fr : Int → Int} {To : Int → Int} {Ln : Int → Int} {Kd : Int → Int} {Tm : Int → Int} {Lw : Int → Int} {dp : Int} {S : Int} {x k : Int} {K : Int → Int} {cl : List Cla} (eg33 : g 33 = Fr) (eg34 : g 34 = To) (eg35 : g 35 = Ln) (eg36 : g 36 = Kd) (eg44 : g 44 = Tm) (eg46 : g 46 = Lw) (ef32 : f 32 = (K 76)) (ef37 : f 37 = dp) (ef354 : f 354 = S) (ef45 : f 45 = (K 79)) (ef47 : f 47 = (K 80)) (hx : zIn x) (hk : zIn k) (hL : LwN E f g (if 0 ≤ x ∧ x < K 79 then Lw x else -1) cl) (hK : KOK K) (hP : FrA Fr To Ln Kd dp K) (hS : z31 S) (t0 : Tm 0 = K 28) (t2 : Tm 2 = K 75) : CM l E MX7_compare 7 [.ref (E.1 31), vI x, vI k] f g j (PI (fun r f' g' j' => (r = cmpV K cl x k) ∧ eqx [354] f f' ∧ eqx [352, 353, 355, 356, 384] g g' ∧ j' = j)) := by
  refine CM.intro [some (.ref (E.1 31)), some (vI x), some (vI k)] (by decide) (Nat.le_of_ble_eq_true rfl) rfl (fun d hd h0 h hH hA => ?_)
  have hfE : eqx [354] f f := eqx.rf
  have hgE : eqx [352, 353, 355, 356, 384] g g := eqx.rf
  have h79 := hK.2.2.2.2.2.2.2.2.2.2.1
  have hn := hK.1
  have hz2 : z31 1023 := by decide
  refine z_ild_1 (TX7_compare.at 0 rfl) ?_
  refine z_iconst (TX7_compare.at 1 rfl) ?_
  refine z_icmp_lt (tgt := 23) (TX7_compare.at 2 rfl) rfl (by omega) (by omega) (fun c1 => ?_) (fun c1 => ?_)
  · skip
    refine z_iconst (TX7_compare.at 11 rfl) ?_
    refine zc_iret (TX7_compare.at 12 rfl) rfl hH hA (by omega) ?_
    exact ⟨by unfold cmpV; rw [if_neg (by omega)], hfE, hgE, rfl⟩
  · skip
    refine z_ild_1 (TX7_compare.at 3 rfl) ?_
    refine z_ald_0 (TX7_compare.at 4 rfl) ?_
    refine zc_getO (m := 0) (s := 0) (k := 63) (hH.lv (by decide)) (TX7_compare.at 5 rfl) fl7_12 hH rfl rfl (by decide) (by decide) ?_
    refine zc_getIE (m := 1) (s := 13) (k := 45) (hH.lv (by decide)) ef45 (TX7_compare.at 6 rfl) fl7_193 hH rfl rfl (by decide) (by decide) (fun r10 => ?_)
    refine z_icmp_ge (tgt := 23) (TX7_compare.at 7 rfl) rfl (by omega) (by omega) (fun c2 => ?_) (fun c2 => ?_)
    · skip
      refine z_iconst (TX7_compare.at 11 rfl) ?_
      refine zc_iret (TX7_compare.at 12 rfl) rfl hH hA (by omega) ?_
      exact ⟨by unfold cmpV; rw [if_neg (by omega)], hfE, hgE, rfl⟩
    · skip
      refine z_ild_2 (TX7_compare.at 8 rfl) ?_
      refine zs_call1 (c_isKnot (by omega)) (TX7_compare.at 9 rfl) c7_157 rfl (by omega) (Nat.le_of_ble_eq_true rfl) (fun r17 => ?_)
      refine z_if_neB (tgt := 25) (TX7_compare.at 10 rfl) rfl (fun c3 => ?_) (fun c3 => ?_)
      · skip
        refine z_ald_0 (TX7_compare.at 13 rfl) ?_
        refine zc_getO (m := 0) (s := 9) (k := 383) (hH.lv (by decide)) (TX7_compare.at 14 rfl) fl7_60 hH rfl rfl (by decide) (by decide) ?_
        refine z_ald_0 (TX7_compare.at 15 rfl) ?_
        refine zc_getO (m := 0) (s := 0) (k := 63) (hH.lv (by decide)) (TX7_compare.at 16 rfl) fl7_12 hH rfl rfl (by decide) (by decide) ?_
        refine z_ald_0 (TX7_compare.at 17 rfl) ?_
        refine zc_getO (m := 0) (s := 0) (k := 63) (hH.lv (by decide)) (TX7_compare.at 18 rfl) fl7_12 hH rfl rfl (by decide) (by decide) ?_
        refine z_ild_1 (TX7_compare.at 19 rfl) ?_
        refine zc_callO (m := 1) (As := [vI x]) (c_lawOf1 eg46 ef45 (by omega) h79.1 h79.2) (hH.lv (by decide)) (TX7_compare.at 20 rfl) c7_399 rfl rfl hH hA (by omega) (Nat.le_of_ble_eq_true rfl) (fun y38 f38 g38 j38 h q38 hH hA => ?_)
        obtain ⟨q38, xf, xg, xj⟩ := q38
        rw [xj] at hH
        have ef32 := (xf 32 (by decide)).trans ef32
        have ef37 := (xf 37 (by decide)).trans ef37
        have ef354 := (xf 354 (by decide)).trans ef354
        have ef45 := (xf 45 (by decide)).trans ef45
        have ef47 := (xf 47 (by decide)).trans ef47
        have hfE := hfE.trans xf (by decide)
        have eg33 := (xg 33 (by decide)).trans eg33
        have eg34 := (xg 34 (by decide)).trans eg34
        have eg35 := (xg 35 (by decide)).trans eg35
        have eg36 := (xg 36 (by decide)).trans eg36
        have eg44 := (xg 44 (by decide)).trans eg44
        have eg46 := (xg 46 (by decide)).trans eg46
        have hgE := hgE.trans xg (by decide)
        have qL := q38
        have hL := LwN_cg hL xf xg
        rw [← qL] at hL
        refine zc_callV2 (m := 11) (c_measY1 eg33 eg34 eg35 eg36 eg44 ef32 ef37 ef354 hL hK hP hS t0 t2) (hH.lv (by decide)) (TX7_compare.at 21 rfl) c7_139 rfl rfl hH hA (by omega) (Nat.le_of_ble_eq_true rfl) (fun f41 g41 j41 h q41 hH hA => ?_)
        obtain ⟨q41, xf, xg, xj⟩ := q41
        rw [xj] at hH
        have ef32 := (xf 32 (by decide)).trans ef32
        have ef37 := (xf 37 (by decide)).trans ef37
        have ef45 := (xf 45 (by decide)).trans ef45
        have ef47 := (xf 47 (by decide)).trans ef47
        have hfE := hfE.trans xf (by decide)
        have eg33 := (xg 33 (by decide)).trans eg33
        have eg34 := (xg 34 (by decide)).trans eg34
        have eg35 := (xg 35 (by decide)).trans eg35
        have eg36 := (xg 36 (by decide)).trans eg36
        have eg44 := (xg 44 (by decide)).trans eg44
        have eg46 := (xg 46 (by decide)).trans eg46
        have hgE := hgE.trans xg (by decide)
        have qL := q41
        obtain ⟨hT, hct⟩ := qL
        obtain ⟨BX, eg352⟩ : ∃ z, g41 352 = z := ⟨_, rfl⟩
        obtain ⟨HX, eg353⟩ : ∃ z, g41 353 = z := ⟨_, rfl⟩
        obtain ⟨S2, ef354⟩ : ∃ z, f41 354 = z := ⟨_, rfl⟩
        rw [eg352, eg353, ef354] at hT
        rw [ef354] at hct
        refine z_ald_0 (TX7_compare.at 22 rfl) ?_
        refine zc_getO (m := 0) (s := 9) (k := 383) (hH.lv (by decide)) (TX7_compare.at 23 rfl) fl7_60 hH rfl rfl (by decide) (by decide) ?_
        refine z_ald_0 (TX7_compare.at 24 rfl) ?_
        refine zc_getO (m := 0) (s := 0) (k := 63) (hH.lv (by decide)) (TX7_compare.at 25 rfl) fl7_12 hH rfl rfl (by decide) (by decide) ?_
        refine z_iconst (TX7_compare.at 26 rfl) ?_
        refine z_ild_2 (TX7_compare.at 27 rfl) ?_
        refine z_ishl (TX7_compare.at 28 rfl) ?_
        have hz1 := shl_31 (i := k) (by omega) (by omega)
        refine zc_callV2 (m := 11) (c_sprF1 eg33 eg34 eg352 eg353 rfl ef32 ef354 hz1.zin hz1 hT) (hH.lv (by decide)) (TX7_compare.at 29 rfl) c7_314 rfl rfl hH hA (by omega) (Nat.le_of_ble_eq_true rfl) (fun f55 g55 j55 h q55 hH hA => ?_)
        obtain ⟨q55, xf, xg, xj⟩ := q55
        rw [xj] at hH
        have ef32 := (xf 32 (by decide)).trans ef32
        have ef37 := (xf 37 (by decide)).trans ef37
        have ef354 := (xf 354 (by decide)).trans ef354
        have ef45 := (xf 45 (by decide)).trans ef45
        have ef47 := (xf 47 (by decide)).trans ef47
        have hfE := hfE.trans xf (by decide)
        have eg33 := (xg 33 (by decide)).trans eg33
        have eg34 := (xg 34 (by decide)).trans eg34
        have eg35 := (xg 35 (by decide)).trans eg35
        have eg36 := (xg 36 (by decide)).trans eg36
        have eg44 := (xg 44 (by decide)).trans eg44
        have eg46 := (xg 46 (by decide)).trans eg46
        have eg352 := (xg 352 (by decide)).trans eg352
        have eg353 := (xg 353 (by decide)).trans eg353
        have hgE := hgE.trans xg (by decide)
        have qL := q55
        have hI := qL
        rw [fire_cm hK hct] at hI
        obtain ⟨X55, eg355⟩ : ∃ z, g55 355 = z := ⟨_, rfl⟩
        rw [eg355] at hI
        refine z_ald_0 (TX7_compare.at 30 rfl) ?_
        refine zc_getO (m := 0) (s := 9) (k := 383) (hH.lv (by decide)) (TX7_compare.at 31 rfl) fl7_60 hH rfl rfl (by decide) (by decide) ?_
        refine z_ald_0 (TX7_compare.at 32 rfl) ?_
        refine zc_getO (m := 0) (s := 0) (k := 63) (hH.lv (by decide)) (TX7_compare.at 33 rfl) fl7_12 hH rfl rfl (by decide) (by decide) ?_
        refine z_sipush (by decide) (TX7_compare.at 34 rfl) ?_
        refine zc_callI2 (m := 11) (c_lastOut1 eg33 eg34 eg352 eg353 eg355 ef32 ef354 hz2.zin hI hz2) (hH.lv (by decide)) (TX7_compare.at 35 rfl) c7_318 rfl rfl hH hA (by omega) (Nat.le_of_ble_eq_true rfl) (fun x69 f69 g69 j69 h r69 q69 hH hA => ?_)
        obtain ⟨q69, xf, xg, xj⟩ := q69
        rw [xj] at hH
        have ef32 := (xf 32 (by decide)).trans ef32
        have ef37 := (xf 37 (by decide)).trans ef37
        have ef354 := (xf 354 (by decide)).trans ef354
        have ef45 := (xf 45 (by decide)).trans ef45
        have ef47 := (xf 47 (by decide)).trans ef47
        have hfE := hfE.trans xf (by decide)
        have eg33 := (xg 33 (by decide)).trans eg33
        have eg34 := (xg 34 (by decide)).trans eg34
        have eg35 := (xg 35 (by decide)).trans eg35
        have eg36 := (xg 36 (by decide)).trans eg36
        have eg44 := (xg 44 (by decide)).trans eg44
        have eg46 := (xg 46 (by decide)).trans eg46
        have eg352 := (xg 352 (by decide)).trans eg352
        have eg353 := (xg 353 (by decide)).trans eg353
        have eg355 := (xg 355 (by decide)).trans eg355
        have hgE := hgE.trans xg (by decide)
        have qL := q69
        have hv := lastN_b (S := 1023) (K 76).toNat (fun t t0 t1 => out_b hI t0 (by omega))
        rw [fire_la hK hct] at hv qL
        have hov := orN_b hv
        subst qL
        refine zc_iret (TX7_compare.at 36 rfl) rfl hH hA (by omega) ?_
        exact ⟨by unfold cmpV; rw [if_pos (by omega), lasF_80 hK], hfE, hgE, rfl⟩
      · skip
        refine z_iconst (TX7_compare.at 11 rfl) ?_
        refine zc_iret (TX7_compare.at 12 rfl) rfl hH hA (by omega) ?_
        exact ⟨by unfold cmpV; rw [if_neg (by omega)], hfE, hgE, rfl⟩

