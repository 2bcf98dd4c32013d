/-! ===== the class: what has come of fire ===== -/
/-- the fire's rows picture the times by which the reference's fire goes -/
def FiT (Fr To BX HX fr to B Hd : Int → Int) (n9 S : Int) : Prop := z31 S ∧ (0 ≤ n9 ∧ n9 ≤ 10) ∧ FrOK fr to B Hd n9.toNat ∧ (∀ i : Int, 0 ≤ i → i < n9 → Fr i = fr i ∧ To i = to i ∧ BX i = B i) ∧ ∀ k : Int, 0 ≤ k → k ≤ 7 → HX k = Hd k
def FiH (Fr To BX HX fr to B Hd : Int → Int) (n9 S : Int) (X C : Int → Int) : Prop := FiT Fr To BX HX fr to B Hd n9 S ∧ cm8 X C ∧ COK C ∧ ∀ x : Int, 0 ≤ x → x < n9 → bt S x → (C (fr x) = 1000000 ↔ C (to x) = 1000000)
theorem dist_both {fr to B Hd C : Int → Int} {S : Int} {n : Nat} (hF : FrOK fr to B Hd n) (hC : COK C) {x : Int} (x0 : 0 ≤ x) (x1 : x < n) (hb : bt S x) : dist fr to B Hd S n C (fr x) = 1000000 ↔ dist fr to B Hd S n C (to x) = 1000000 := by
  have h := dist_ok (S := S) hF hC
  have q := h.2.2.2 x.toNat (by omega) (by rw [show ((x.toNat : Nat) : Int) = x by omega]; exact hb)
  rw [show ((x.toNat : Nat) : Int) = x by omega] at q
  have k := hF.2.1 x x0 x1
  have b1 := h.1.bd k.1.1 k.1.2
  have b2 := h.1.bd k.2.1.1 k.2.1.2
  have d1 := hF.2.2 _ k.1.1 k.1.2
  have d2 := hF.2.2 _ k.2.1.1 k.2.1.2
  unfold gIs at q
  constructor
  · intro e
    rw [if_pos e] at q
    by_cases e2 : dist fr to B Hd S n C (to x) = 1000000
    · exact e2
    · rw [if_neg e2] at q
      have := b2.2.2 e2
      omega
  · intro e
    rw [if_pos e] at q
    by_cases e2 : dist fr to B Hd S n C (fr x) = 1000000
    · exact e2
    · rw [if_neg e2] at q
      have := b1.2.2 e2
      omega
theorem FiT.fire {Fr To BX HX fr to B Hd X C : Int → Int} {S n9 : Int} (h : FiT Fr To BX HX fr to B Hd n9 S) (hC : COK C) (hX : cm8 X (dist fr to B Hd S n9.toNat C)) : FiH Fr To BX HX fr to B Hd n9 S X (dist fr to B Hd S n9.toNat C) :=
  ⟨h, hX, (dist_ok h.2.2.1 hC).1, fun x x0 x1 hb => dist_both h.2.2.1 hC x0 (by have := h.2.1; omega) hb⟩
theorem FiH.at {Fr To BX HX fr to B Hd X C : Int → Int} {S n9 : Int} (h : FiH Fr To BX HX fr to B Hd n9 S X C) {x : Int} (x0 : 0 ≤ x) (x1 : x < n9) : (Fr x = fr x ∧ To x = to x ∧ BX x = B x) ∧ ((0 ≤ fr x ∧ fr x ≤ 7) ∧ (0 ≤ to x ∧ to x ≤ 7) ∧ 1 ≤ B x ∧ B x ≤ 99) ∧ (HX (fr x) = Hd (fr x) ∧ 0 ≤ Hd (fr x) ∧ Hd (fr x) ≤ 9) ∧ (HX (to x) = Hd (to x) ∧ 0 ≤ Hd (to x) ∧ Hd (to x) ≤ 9) ∧ ((X (fr x) = -1 ∧ C (fr x) = 1000000) ∨ (X (fr x) = C (fr x) ∧ 0 ≤ C (fr x) ∧ C (fr x) ≤ 1863)) ∧ ((X (to x) = -1 ∧ C (to x) = 1000000) ∨ (X (to x) = C (to x) ∧ 0 ≤ C (to x) ∧ C (to x) ≤ 1863)) := by
  obtain ⟨⟨hS, hn, hF, hft, hhd⟩, hX, hC, hb⟩ := h
  have k := hF.2.1 x x0 (by omega)
  exact ⟨hft x x0 x1, k, ⟨hhd _ k.1.1 k.1.2, hF.2.2 _ k.1.1 k.1.2⟩, ⟨hhd _ k.2.1.1 k.2.1.2, hF.2.2 _ k.2.1.1 k.2.1.2⟩, cm_a hX hC k.1.1 k.1.2, cm_a hX hC k.2.1.1 k.2.1.2⟩
theorem out_b {Fr To BX HX fr to B Hd X C : Int → Int} {S n9 : Int} (h : FiH Fr To BX HX fr to B Hd n9 S X C) {x : Int} (x0 : 0 ≤ x) (x1 : x < n9) : outC fr to B Hd S C x = 1000000 ∨ (0 ≤ outC fr to B Hd S C x ∧ outC fr to B Hd S C x ≤ 4000) := by
  have k := h.at x0 x1
  have hb := h.2.2.2 x x0 x1
  unfold outC
  by_cases e : ¬ bt S x ∨ C (fr x) = 1000000
  · rw [if_pos e]; exact Or.inl rfl
  · rw [if_neg e]
    right
    have e1 : bt S x := Classical.byContradiction (fun q => e (Or.inl q))
    have e2 : ¬ C (fr x) = 1000000 := fun q => e (Or.inr q)
    have e3 : ¬ C (to x) = 1000000 := fun q => e2 ((hb e1).mpr q)
    omega
theorem orN_b {v : Int} (h : v = 1000000 ∨ (0 ≤ v ∧ v ≤ 4000)) : (orN v = -1 ∧ v = 1000000) ∨ (orN v = v ∧ 0 ≤ v ∧ v ≤ 4000) := by
  unfold orN
  rcases h with e | e
  · rw [if_pos e]; exact Or.inl ⟨rfl, e⟩
  · rw [if_neg (by omega)]; exact Or.inr ⟨rfl, e⟩
theorem out_n {Fr To BX HX fr to B Hd X C : Int → Int} {S n9 : Int} (h : FiH Fr To BX HX fr to B Hd n9 S X C) {x : Int} (x0 : 0 ≤ x) (x1 : x < n9) (e : ¬ bt S x ∨ X (fr x) = -1 ∨ X (to x) = -1) : -1 = orN (outC fr to B Hd S C x) := by
  have k := h.at x0 x1
  have hb := h.2.2.2 x x0 x1
  have e1 : ¬ bt S x ∨ C (fr x) = 1000000 := by
    by_cases q : bt S x
    · right
      rcases e with z | z | z
      · exact absurd q z
      · omega
      · exact (hb q).mpr (by omega)
    · exact Or.inl q
  unfold outC orN
  rw [if_pos e1, if_pos rfl]
theorem out_v {Fr To BX HX fr to B Hd X C : Int → Int} {S n9 : Int} (h : FiH Fr To BX HX fr to B Hd n9 S X C) {x : Int} (x0 : 0 ≤ x) (x1 : x < n9) (hbt : bt S x) (e1 : X (fr x) ≠ -1) (e2 : X (to x) ≠ -1) : min (2 * (min (X (fr x) + HX (fr x)) (X (to x) + HX (to x)) + BX x)) (X (fr x) + HX (fr x) + (X (to x) + HX (to x)) + BX x) = orN (outC fr to B Hd S C x) := by
  have k := h.at x0 x1
  have q : ¬ (¬ bt S x ∨ C (fr x) = 1000000) := fun z => z.elim (fun z => z hbt) (fun z => by omega)
  unfold outC
  rw [if_neg q]
  unfold orN
  rw [if_neg (by omega)]
  omega
theorem lastN_top {v : Int → Int} {S i : Int} {n : Nat} (h : ∀ t : Int, 0 ≤ t → t < n → v t ≤ 1000000) (i0 : 0 ≤ i) (i1 : i < n) (hb : bt S i) (e : v i = 1000000) : lastN v S n = 1000000 := by
  have a := lastN_in (S := S) (b := 1000000) (by decide) n h
  have c : ∀ m : Nat, i < m → 1000000 ≤ lastN v S m := by
    intro m
    induction m with
    | zero => intro q; omega
    | succ m ih =>
      intro q
      simp only [lastN]
      by_cases z : i = m
      · subst z; rw [if_pos hb]; omega
      · have := ih (by omega)
        split <;> omega
  have := c n i1
  omega
theorem mosN_top {v : Int → Int} {i : Int} {n : Nat} (h : ∀ t : Int, 0 ≤ t → t < n → v t ≤ 1000000) (i0 : 0 ≤ i) (i1 : i < n) (e : v i = 1000000) : mosN v n = 1000000 := by
  have a : ∀ m : Nat, m ≤ n → mosN v m ≤ 1000000 := by
    intro m
    induction m with
    | zero => intro _; simp [mosN]
    | succ m ih =>
      intro q
      have := ih (by omega)
      have := h m (by omega) (by omega)
      simp only [mosN]
      omega
  have c : ∀ m : Nat, i < m → 1000000 ≤ mosN v m := by
    intro m
    induction m with
    | zero => intro q; omega
    | succ m ih =>
      intro q
      simp only [mosN]
      by_cases z : i = m
      · subst z; omega
      · have := ih (by omega)
        omega
  have := c n i1
  have := a n (Nat.le_refl n)
  omega
set_option maxHeartbeats 4000000 in
set_option maxRecDepth 100000 in
theorem c_outOf1 {l : Launch} {E : cE} {f : mF} {g j : mA} {Fr : Int → Int} {To : Int → Int} {BX : Int → Int} {HX : Int → Int} {X : Int → Int} {n9 : Int} {S : Int} {x : Int} {fr to B Hd C : Int → Int} (eg33 : g 33 = Fr) (eg34 : g 34 = To) (eg352 : g 352 = BX) (eg353 : g 353 = HX) (eg355 : g 355 = X) (ef32 : f 32 = n9) (ef354 : f 354 = S) (hx : zIn x) (hI : FiH Fr To BX HX fr to B Hd n9 S X C) (x0 : 0 ≤ x) (x1 : x < n9) : CM l E MX0_outOf 1 [.ref (E.1 383), .ref (E.1 63), vI x] f g j (PI (fun r f' g' j' => (r = orN (outC fr to B Hd S C x)) ∧ eqx [] f f' ∧ eqx [] g g' ∧ j' = j)) := by
  refine CM.intro [some (.ref (E.1 383)), some (.ref (E.1 63)), some (vI x), none, none, none, none] (by decide) (Nat.le_of_ble_eq_true rfl) rfl (fun d hd h0 h hH hA => ?_)
  have hfE : eqx [] f f := eqx.rf
  have hgE : eqx [] g g := eqx.rf
  have k := hI.at x0 x1
  have hn := hI.1.2.1
  refine z_ald_1 (TX0_outOf_0.at 0 rfl) ?_
  refine zc_getA (m := 1) (s := 1) (k := 33) (hH.lv (by decide)) (TX0_outOf_0.at 1 rfl) fl0_59 hH rfl rfl (by decide) (by decide) ?_
  refine z_ild_2 (TX0_outOf_0.at 2 rfl) ?_
  refine zcf_iald (k := 33) (N := 10) (hH.lv (by decide)) (by decide) rfl eg33 (TX0_outOf_0.at 3 rfl) hH (by decide) (by omega) (show _ < ((10 : Nat) : Int) by omega) (fun r5 => ?_)
  rw [k.1.1]
  refine z_ist_3 (TX0_outOf_0.at 4 rfl) (Nat.le_of_ble_eq_true rfl) rfl ?_
  refine z_ald_1 (TX0_outOf_0.at 5 rfl) ?_
  refine zc_getA (m := 1) (s := 2) (k := 34) (hH.lv (by decide)) (TX0_outOf_0.at 6 rfl) fl0_62 hH rfl rfl (by decide) (by decide) ?_
  refine z_ild_2 (TX0_outOf_0.at 7 rfl) ?_
  refine zcf_iald (k := 34) (N := 10) (hH.lv (by decide)) (by decide) rfl eg34 (TX0_outOf_0.at 8 rfl) hH (by decide) (by omega) (show _ < ((10 : Nat) : Int) by omega) (fun r12 => ?_)
  rw [k.1.2.1]
  refine z_ist_4 (TX0_outOf_0.at 9 rfl) (Nat.le_of_ble_eq_true rfl) rfl ?_
  refine z_ald_0 (TX0_outOf_0.at 10 rfl) ?_
  refine zc_getIE (m := 11) (s := 2) (k := 354) (hH.lv (by decide)) ef354 (TX0_outOf_0.at 11 rfl) fl0_18 hH rfl rfl (by decide) (by decide) (fun r16 => ?_)
  refine z_ild_2 (TX0_outOf_0.at 12 rfl) ?_
  refine zs_callN2 (c_bit hI.1.1 ⟨by omega, by omega⟩) (TX0_outOf_0.at 13 rfl) c0_90 rfl (by omega) (Nat.le_of_ble_eq_true rfl) (fun r20 => ?_)
  refine z_if_eqB (tgt := 47) (TX0_outOf_0.at 14 rfl) rfl (fun c1 => ?_) (fun c1 => ?_)
  · skip
    refine z_iconst (TX0_outOf_0.at 27 rfl) ?_
    refine zc_iret (TX0_outOf_0.at 28 rfl) rfl hH hA (by omega) ?_
    exact ⟨by first | exact out_n hI x0 x1 (Or.inl (by assumption)) | exact out_n hI x0 x1 (Or.inr (Or.inl (by assumption))) | exact out_n hI x0 x1 (Or.inr (Or.inr (by assumption))), hfE, hgE, rfl⟩
  · skip
    refine z_ald_0 (TX0_outOf_0.at 15 rfl) ?_
    refine zc_getA (m := 11) (s := 3) (k := 355) (hH.lv (by decide)) (TX0_outOf_0.at 16 rfl) fl0_22 hH rfl rfl (by decide) (by decide) ?_
    refine z_ild_3 (TX0_outOf_0.at 17 rfl) ?_
    refine zcf_iald (k := 355) (N := 8) (hH.lv (by decide)) (by decide) rfl eg355 (TX0_outOf_0.at 18 rfl) hH (by decide) (by omega) (show _ < ((8 : Nat) : Int) by omega) (fun r31 => ?_)
    refine z_iconst (TX0_outOf_0.at 19 rfl) ?_
    refine z_icmp_eq (tgt := 47) (TX0_outOf_0.at 20 rfl) rfl (by omega) (by omega) (fun c2 => ?_) (fun c2 => ?_)
    · skip
      refine z_iconst (TX0_outOf_0.at 27 rfl) ?_
      refine zc_iret (TX0_outOf_0.at 28 rfl) rfl hH hA (by omega) ?_
      exact ⟨by first | exact out_n hI x0 x1 (Or.inl (by assumption)) | exact out_n hI x0 x1 (Or.inr (Or.inl (by assumption))) | exact out_n hI x0 x1 (Or.inr (Or.inr (by assumption))), hfE, hgE, rfl⟩
    · skip
      refine z_ald_0 (TX0_outOf_0.at 21 rfl) ?_
      refine zc_getA (m := 11) (s := 3) (k := 355) (hH.lv (by decide)) (TX0_outOf_0.at 22 rfl) fl0_22 hH rfl rfl (by decide) (by decide) ?_
      refine z_ild_4 (TX0_outOf_0.at 23 rfl) ?_
      refine zcf_iald (k := 355) (N := 8) (hH.lv (by decide)) (by decide) rfl eg355 (TX0_outOf_0.at 24 rfl) hH (by decide) (by omega) (show _ < ((8 : Nat) : Int) by omega) (fun r42 => ?_)
      refine z_iconst (TX0_outOf_0.at 25 rfl) ?_
      refine z_icmp_ne (tgt := 49) (TX0_outOf_0.at 26 rfl) rfl (by omega) (by omega) (fun c3 => ?_) (fun c3 => ?_)
      · skip
        refine z_ald_0 (TX0_outOf_0.at 29 rfl) ?_
        refine zc_getA (m := 11) (s := 3) (k := 355) (hH.lv (by decide)) (TX0_outOf_0.at 30 rfl) fl0_22 hH rfl rfl (by decide) (by decide) ?_
        refine z_ild_3 (TX0_outOf_0.at 31 rfl) ?_
        refine zcf_iald (k := 355) (N := 8) (hH.lv (by decide)) (by decide) rfl eg355 (TX0_outOf_0.at 32 rfl) hH (by decide) (by omega) (show _ < ((8 : Nat) : Int) by omega) (fun r54 => ?_)
        refine z_ald_0 (TX0_outOf_0.at 33 rfl) ?_
        refine zc_getA (m := 11) (s := 1) (k := 353) (hH.lv (by decide)) (TX0_outOf_0.at 34 rfl) fl0_15 hH rfl rfl (by decide) (by decide) ?_
        refine z_ild_3 (TX0_outOf_0.at 35 rfl) ?_
        refine zcf_iald (k := 353) (N := 8) (hH.lv (by decide)) (by decide) rfl eg353 (TX0_outOf_0.at 36 rfl) hH (by decide) (by omega) (show _ < ((8 : Nat) : Int) by omega) (fun r60 => ?_)
        refine z_iadd (TX0_outOf_0.at 37 rfl) ?_
        refine z_ist_5 (TX0_outOf_0.at 38 rfl) (Nat.le_of_ble_eq_true rfl) rfl ?_
        refine z_ald_0 (TX0_outOf_0.at 39 rfl) ?_
        refine zc_getA (m := 11) (s := 3) (k := 355) (hH.lv (by decide)) (TX0_outOf_1.at 0 rfl) fl0_22 hH rfl rfl (by decide) (by decide) ?_
        refine z_ild_4 (TX0_outOf_1.at 1 rfl) ?_
        refine zcf_iald (k := 355) (N := 8) (hH.lv (by decide)) (by decide) rfl eg355 (TX0_outOf_1.at 2 rfl) hH (by decide) (by omega) (show _ < ((8 : Nat) : Int) by omega) (fun r70 => ?_)
        refine z_ald_0 (TX0_outOf_1.at 3 rfl) ?_
        refine zc_getA (m := 11) (s := 1) (k := 353) (hH.lv (by decide)) (TX0_outOf_1.at 4 rfl) fl0_15 hH rfl rfl (by decide) (by decide) ?_
        refine z_ild_4 (TX0_outOf_1.at 5 rfl) ?_
        refine zcf_iald (k := 353) (N := 8) (hH.lv (by decide)) (by decide) rfl eg353 (TX0_outOf_1.at 6 rfl) hH (by decide) (by omega) (show _ < ((8 : Nat) : Int) by omega) (fun r77 => ?_)
        refine z_iadd (TX0_outOf_1.at 7 rfl) ?_
        refine z_ist_6 (TX0_outOf_1.at 8 rfl) (Nat.le_of_ble_eq_true rfl) rfl ?_
        refine z_iconst (TX0_outOf_1.at 9 rfl) ?_
        refine z_ild_5 (TX0_outOf_1.at 10 rfl) ?_
        refine z_ild_6 (TX0_outOf_1.at 11 rfl) ?_
        refine z_min (TX0_outOf_1.at 12 rfl) cm0_78 (by omega) (by omega) (by omega) (Nat.le_of_ble_eq_true rfl) ?_
        refine z_ald_0 (TX0_outOf_1.at 13 rfl) ?_
        refine zc_getA (m := 11) (s := 0) (k := 352) (hH.lv (by decide)) (TX0_outOf_1.at 14 rfl) fl0_9 hH rfl rfl (by decide) (by decide) ?_
        refine z_ild_2 (TX0_outOf_1.at 15 rfl) ?_
        refine zcf_iald (k := 352) (N := 10) (hH.lv (by decide)) (by decide) rfl eg352 (TX0_outOf_1.at 16 rfl) hH (by decide) (by omega) (show _ < ((10 : Nat) : Int) by omega) (fun r94 => ?_)
        refine z_iadd (TX0_outOf_1.at 17 rfl) ?_
        refine z_imul (TX0_outOf_1.at 18 rfl) ?_
        refine z_ild_5 (TX0_outOf_1.at 19 rfl) ?_
        refine z_ild_6 (TX0_outOf_1.at 20 rfl) ?_
        refine z_iadd (TX0_outOf_1.at 21 rfl) ?_
        refine z_ald_0 (TX0_outOf_1.at 22 rfl) ?_
        refine zc_getA (m := 11) (s := 0) (k := 352) (hH.lv (by decide)) (TX0_outOf_1.at 23 rfl) fl0_9 hH rfl rfl (by decide) (by decide) ?_
        refine z_ild_2 (TX0_outOf_1.at 24 rfl) ?_
        refine zcf_iald (k := 352) (N := 10) (hH.lv (by decide)) (by decide) rfl eg352 (TX0_outOf_1.at 25 rfl) hH (by decide) (by omega) (show _ < ((10 : Nat) : Int) by omega) (fun r107 => ?_)
        refine z_iadd (TX0_outOf_1.at 26 rfl) ?_
        refine z_min (TX0_outOf_1.at 27 rfl) cm0_78 (by omega) (by omega) (by omega) (Nat.le_of_ble_eq_true rfl) ?_
        refine zc_iret (TX0_outOf_1.at 28 rfl) rfl hH hA (by omega) ?_
        exact ⟨out_v hI x0 x1 (by assumption) (by assumption) (by assumption), hfE, hgE, rfl⟩
      · skip
        refine z_iconst (TX0_outOf_0.at 27 rfl) ?_
        refine zc_iret (TX0_outOf_0.at 28 rfl) rfl hH hA (by omega) ?_
        exact ⟨by first | exact out_n hI x0 x1 (Or.inl (by assumption)) | exact out_n hI x0 x1 (Or.inr (Or.inl (by assumption))) | exact out_n hI x0 x1 (Or.inr (Or.inr (by assumption))), hfE, hgE, rfl⟩

set_option maxHeartbeats 4000000 in
set_option maxRecDepth 100000 in
theorem lp_lastOut1 {l : Launch} {E : cE} {d : Nat} {Pz : Option Value → zH → Prop} {h0 : zH} {f0 : mF} {g0 : mA} {j : mA} (hd : 2 ≤ d) {Fr To BX HX fr to B Hd X C : Int → Int} {S n9 : Int} (hI : FiH Fr To BX HX fr to B Hd n9 S X C) {s : Int} (hs : z31 s) (kx : ∀ (o5 : Option Value) (f : mF) (g : mA) (h : zH), lastN (outC fr to B Hd S C) s n9.toNat ≤ 4000 → eqx [] f0 f → eqx [] g0 g → HC E f g j h → cAg E h0 h → Z l MX0_lastOut d 0 0 Pz 54 [some (.ref (E.1 383)), some (.ref (E.1 63)), some (vI s), some (vI (lastN (outC fr to B Hd S C) s n9.toNat)), some (vI n9), o5] [] h 0 0) (ePz : Pz = CP E h0 (PI (fun r f' g' j' => r = orN (lastN (outC fr to B Hd S C) s n9.toNat) ∧ eqx [] f0 f' ∧ eqx [] g0 g' ∧ j' = j)))  : ∀ (n : Nat) (i : Int) (la : Int) (o5 : Option Value) (f : mF) (g : mA) (h : zH) (i0 : 0 ≤ i) (i1 : i ≤ n9) (i2 : n9 < i + n) (el : la = lastN (outC fr to B Hd S C) s i.toNat) (lb : 0 ≤ la ∧ la ≤ 4000) (eg33 : g 33 = Fr) (eg34 : g 34 = To) (eg352 : g 352 = BX) (eg353 : g 353 = HX) (eg355 : g 355 = X) (ef32 : f 32 = n9) (ef354 : f 354 = S) (hfE : eqx [] f0 f) (hgE : eqx [] g0 g) (hH : HC E f g j h) (hA : cAg E h0 h), Z l MX0_lastOut d 0 0 Pz 5 [some (.ref (E.1 383)), some (.ref (E.1 63)), some (vI s), some (vI la), some (vI i), o5] [] h 0 0 := by
  intro n
  induction n with
  | zero => intro i la o5 f g h i0 i1 i2 el lb eg33 eg34 eg352 eg353 eg355 ef32 ef354 hfE hgE hH hA; exfalso; omega
  | succ n ih =>
    intro i la o5 f g h i0 i1 i2 el lb eg33 eg34 eg352 eg353 eg355 ef32 ef354 hfE hgE hH hA
    subst ePz
    have hn := hI.1.2.1
    refine z_ild_4 (TX0_lastOut.at 4 rfl) ?_
    refine z_ald_1 (TX0_lastOut.at 5 rfl) ?_
    refine zc_getIE (m := 1) (s := 0) (k := 32) (hH.lv (by decide)) ef32 (TX0_lastOut.at 6 rfl) fl0_43 hH rfl rfl (by decide) (by decide) (fun r8 => ?_)
    refine z_icmp_ge (tgt := 54) (TX0_lastOut.at 7 rfl) rfl (by omega) (by omega) (fun c1 => ?_) (fun c1 => ?_)
    · skip
      obtain rfl : i = n9 := by omega
      rw [el] at lb ⊢
      exact kx _ _ _ _ lb.2 hfE hgE hH hA
    · skip
      refine z_ild_2 (TX0_lastOut.at 8 rfl) ?_
      refine z_ild_4 (TX0_lastOut.at 9 rfl) ?_
      refine zs_callN2 (c_bit hs ⟨by omega, by omega⟩) (TX0_lastOut.at 10 rfl) c0_90 rfl (by omega) (Nat.le_of_ble_eq_true rfl) (fun r17 => ?_)
      refine z_iconst (TX0_lastOut.at 11 rfl) ?_
      refine z_icmp_ne (tgt := 48) (TX0_lastOut.at 12 rfl) rfl (by omega) (by omega) (fun c2 => ?_) (fun c2 => ?_)
      · skip
        have hnb : ¬ bt s i := b2n (by assumption)
        refine z_iinc_4 (TX0_lastOut.at 27 rfl) (Nat.le_of_ble_eq_true rfl) rfl ?_
        refine z_goto (tgt := 5) (TX0_lastOut.at 28 rfl) rfl ?_
        exact ih (i + 1) _ _ _ _ _ (by omega) (by omega) (by omega) (by rw [lastN_s i0]; first | (rw [if_neg (by assumption)]; exact el) | (rw [if_pos (by assumption), ← el]; omega)) (by omega) eg33 eg34 eg352 eg353 eg355 ef32 ef354 hfE hgE hH hA
      · skip
        have hbt : bt s i := b2y (by assumption)
        have hoi := out_b hI i0 (by omega)
        have hon := orN_b hoi
        refine z_ald_0 (TX0_lastOut.at 13 rfl) ?_
        refine z_ald_1 (TX0_lastOut.at 14 rfl) ?_
        refine z_ild_4 (TX0_lastOut.at 15 rfl) ?_
        refine zc_callI2 (m := 11) (c_outOf1 eg33 eg34 eg352 eg353 eg355 ef32 ef354 (by omega) hI (by omega) (by omega)) (hH.lv (by decide)) (TX0_lastOut.at 16 rfl) c0_132 rfl rfl hH hA (by omega) (Nat.le_of_ble_eq_true rfl) (fun x28 f28 g28 j28 h r28 q28 hH hA => ?_)
        obtain ⟨q28, xf, xg, xj⟩ := q28
        rw [xj] at hH
        have ef32 := (xf 32 (by decide)).trans ef32
        have ef354 := (xf 354 (by decide)).trans ef354
        have hfE := hfE.trans xf (by decide)
        have eg33 := (xg 33 (by decide)).trans eg33
        have eg34 := (xg 34 (by decide)).trans eg34
        have eg352 := (xg 352 (by decide)).trans eg352
        have eg353 := (xg 353 (by decide)).trans eg353
        have eg355 := (xg 355 (by decide)).trans eg355
        have hgE := hgE.trans xg (by decide)
        have qL := q28
        obtain rfl := qL
        refine z_ist_5 (TX0_lastOut.at 17 rfl) (Nat.le_of_ble_eq_true rfl) rfl ?_
        refine z_ild_5 (TX0_lastOut.at 18 rfl) ?_
        refine z_iconst (TX0_lastOut.at 19 rfl) ?_
        refine z_icmp_ne (tgt := 41) (TX0_lastOut.at 20 rfl) rfl (by omega) (by omega) (fun c3 => ?_) (fun c3 => ?_)
        · skip
          refine z_ild_3 (TX0_lastOut.at 23 rfl) ?_
          refine z_ild_5 (TX0_lastOut.at 24 rfl) ?_
          refine z_max (TX0_lastOut.at 25 rfl) cm0_84 (by omega) (by omega) (by omega) (Nat.le_of_ble_eq_true rfl) ?_
          refine z_ist_3 (TX0_lastOut.at 26 rfl) (Nat.le_of_ble_eq_true rfl) rfl ?_
          refine z_iinc_4 (TX0_lastOut.at 27 rfl) (Nat.le_of_ble_eq_true rfl) rfl ?_
          refine z_goto (tgt := 5) (TX0_lastOut.at 28 rfl) rfl ?_
          exact ih (i + 1) _ _ _ _ _ (by omega) (by omega) (by omega) (by rw [lastN_s i0]; first | (rw [if_neg (by assumption)]; exact el) | (rw [if_pos (by assumption), ← el]; omega)) (by omega) eg33 eg34 eg352 eg353 eg355 ef32 ef354 hfE hgE hH hA
        · skip
          refine z_iconst (TX0_lastOut.at 21 rfl) ?_
          refine zc_iret (TX0_lastOut.at 22 rfl) rfl hH hA (by omega) ?_
          exact ⟨by rw [lastN_top (i := i) (fun t t0 t1 => by have := out_b hI t0 (by omega); omega) i0 (by omega) hbt (by omega)]; rfl, hfE, hgE, rfl⟩

set_option maxHeartbeats 4000000 in
set_option maxRecDepth 100000 in
theorem c_lastOut1 {l : Launch} {E : cE} {f : mF} {g j : mA} {Fr : Int → Int} {To : Int → Int} {BX : Int → Int} {HX : Int → Int} {X : Int → Int} {n9 : Int} {S : Int} {s : Int} {fr to B Hd C : Int → Int} (eg33 : g 33 = Fr) (eg34 : g 34 = To) (eg352 : g 352 = BX) (eg353 : g 353 = HX) (eg355 : g 355 = X) (ef32 : f 32 = n9) (ef354 : f 354 = S) (hs : zIn s) (hI : FiH Fr To BX HX fr to B Hd n9 S X C) (hs : z31 s) : CM l E MX0_lastOut 2 [.ref (E.1 383), .ref (E.1 63), vI s] f g j (PI (fun r f' g' j' => (r = orN (lastN (outC fr to B Hd S C) s n9.toNat)) ∧ eqx [] f f' ∧ eqx [] g g' ∧ j' = j)) := by
  refine CM.intro [some (.ref (E.1 383)), some (.ref (E.1 63)), some (vI s), none, none, none] (by decide) (Nat.le_of_ble_eq_true rfl) rfl (fun d hd h0 h hH hA => ?_)
  have hfE : eqx [] f f := eqx.rf
  have hgE : eqx [] g g := eqx.rf
  refine z_iconst (TX0_lastOut.at 0 rfl) ?_
  refine z_ist_3 (TX0_lastOut.at 1 rfl) (Nat.le_of_ble_eq_true rfl) rfl ?_
  refine z_iconst (TX0_lastOut.at 2 rfl) ?_
  refine z_ist_4 (TX0_lastOut.at 3 rfl) (Nat.le_of_ble_eq_true rfl) rfl ?_
  have hn := hI.1.2.1
  refine lp_lastOut1 hd hI hs (fun o5 f3 g3 h3 lb hfE hgE hH hA => ?_) rfl 11 0 0 _ _ _ _ (by omega) (by omega) (by omega) rfl (by omega) eg33 eg34 eg352 eg353 eg355 ef32 ef354 eqx.rf eqx.rf hH hA
  have hla := lastN_in (v := outC fr to B Hd S C) (S := s) (b := 1000000) (by decide) n9.toNat (fun t t0 t1 => by have := out_b hI t0 (by omega); omega)
  refine z_ild_3 (TX0_lastOut.at 29 rfl) ?_
  refine zc_iret (TX0_lastOut.at 30 rfl) rfl hH hA (by omega) ?_
  exact ⟨by unfold orN; rw [if_neg (by omega)], hfE, hgE, rfl⟩

set_option maxHeartbeats 4000000 in
set_option maxRecDepth 100000 in
theorem lp_gone1 {l : Launch} {E : cE} {d : Nat} {Pz : Option Value → zH → Prop} {h0 : zH} {f0 : mF} {g0 : mA} {j : mA} (hd : 2 ≤ d) {Fr To BX HX fr to B Hd X C : Int → Int} {S n9 : Int} (hI : FiH Fr To BX HX fr to B Hd n9 S X C) {Tm : Int → Int} (ht0 : 0 ≤ Tm 0) (ht1 : Tm 0 ≤ 999) (kx : ∀ (o4 : Option Value) (f : mF) (g : mA) (h : zH), eqx [] f0 f → eqx [] g0 g → HC E f g j h → cAg E h0 h → Z l MX0_gone d 0 0 Pz 48 [some (.ref (E.1 383)), some (.ref (E.1 63)), some (vI (sm (fun x => b2i (outC fr to B Hd S C x ≤ 2 * Tm 0)) n9)), some (vI n9), o4] [] h 0 0)  : ∀ (n : Nat) (i : Int) (s : Int) (o4 : Option Value) (f : mF) (g : mA) (h : zH) (i0 : 0 ≤ i) (i1 : i ≤ n9) (i2 : n9 < i + n) (el : s = sm (fun x => b2i (outC fr to B Hd S C x ≤ 2 * Tm 0)) i) (eg33 : g 33 = Fr) (eg34 : g 34 = To) (eg352 : g 352 = BX) (eg353 : g 353 = HX) (eg355 : g 355 = X) (eg44 : g 44 = Tm) (ef32 : f 32 = n9) (ef354 : f 354 = S) (hfE : eqx [] f0 f) (hgE : eqx [] g0 g) (hH : HC E f g j h) (hA : cAg E h0 h), Z l MX0_gone d 0 0 Pz 4 [some (.ref (E.1 383)), some (.ref (E.1 63)), some (vI s), some (vI i), o4] [] h 0 0 := by
  intro n
  induction n with
  | zero => intro i s o4 f g h i0 i1 i2 el eg33 eg34 eg352 eg353 eg355 eg44 ef32 ef354 hfE hgE hH hA; exfalso; omega
  | succ n ih =>
    intro i s o4 f g h i0 i1 i2 el eg33 eg34 eg352 eg353 eg355 eg44 ef32 ef354 hfE hgE hH hA
    have hn := hI.1.2.1
    have hs := sm_in (p := fun x => b2i (outC fr to B Hd S C x ≤ 2 * Tm 0)) i0 (fun t _ _ => by have := b2i_01 (outC fr to B Hd S C t ≤ 2 * Tm 0); omega)
    rw [← el] at hs
    refine z_ild_3 (TX0_gone.at 4 rfl) ?_
    refine z_ald_1 (TX0_gone.at 5 rfl) ?_
    refine zc_getIE (m := 1) (s := 0) (k := 32) (hH.lv (by decide)) ef32 (TX0_gone.at 6 rfl) fl0_43 hH rfl rfl (by decide) (by decide) (fun r6 => ?_)
    refine z_icmp_ge (tgt := 48) (TX0_gone.at 7 rfl) rfl (by omega) (by omega) (fun c1 => ?_) (fun c1 => ?_)
    · skip
      obtain rfl : i = n9 := by omega
      rw [el]
      exact kx _ _ _ _ hfE hgE hH hA
    · skip
      have hon := orN_b (out_b hI i0 (by omega))
      refine z_ald_0 (TX0_gone.at 8 rfl) ?_
      refine z_ald_1 (TX0_gone.at 9 rfl) ?_
      refine z_ild_3 (TX0_gone.at 10 rfl) ?_
      refine zc_callI2 (m := 11) (c_outOf1 eg33 eg34 eg352 eg353 eg355 ef32 ef354 (by omega) hI (by omega) (by omega)) (hH.lv (by decide)) (TX0_gone.at 11 rfl) c0_132 rfl rfl hH hA (by omega) (Nat.le_of_ble_eq_true rfl) (fun x15 f15 g15 j15 h r15 q15 hH hA => ?_)
      obtain ⟨q15, xf, xg, xj⟩ := q15
      rw [xj] at hH
      have ef32 := (xf 32 (by decide)).trans ef32
      have ef354 := (xf 354 (by decide)).trans ef354
      have hfE := hfE.trans xf (by decide)
      have eg33 := (xg 33 (by decide)).trans eg33
      have eg34 := (xg 34 (by decide)).trans eg34
      have eg352 := (xg 352 (by decide)).trans eg352
      have eg353 := (xg 353 (by decide)).trans eg353
      have eg355 := (xg 355 (by decide)).trans eg355
      have eg44 := (xg 44 (by decide)).trans eg44
      have hgE := hgE.trans xg (by decide)
      have qL := q15
      obtain rfl := qL
      refine z_ist_4 (TX0_gone.at 12 rfl) (Nat.le_of_ble_eq_true rfl) rfl ?_
      refine z_ild_4 (TX0_gone.at 13 rfl) ?_
      refine z_iconst (TX0_gone.at 14 rfl) ?_
      refine z_icmp_eq (tgt := 42) (TX0_gone.at 15 rfl) rfl (by omega) (by omega) (fun c2 => ?_) (fun c2 => ?_)
      · skip
        refine z_iinc_3 (TX0_gone.at 25 rfl) (Nat.le_of_ble_eq_true rfl) rfl ?_
        refine z_goto (tgt := 4) (TX0_gone.at 26 rfl) rfl ?_
        exact ih (i + 1) _ _ _ _ _ (by omega) (by omega) (by omega) (by rw [sm_s i0, ← el]; first | rw [b2i_t (by omega)] | (rw [b2i_f (by omega)]; omega)) eg33 eg34 eg352 eg353 eg355 eg44 ef32 ef354 hfE hgE hH hA
      · skip
        refine z_ild_4 (TX0_gone.at 16 rfl) ?_
        refine z_iconst (TX0_gone.at 17 rfl) ?_
        refine z_ald_1 (TX0_gone.at 18 rfl) ?_
        refine zc_getA (m := 1) (s := 12) (k := 44) (hH.lv (by decide)) (TX0_gone.at 19 rfl) fl0_38 hH rfl rfl (by decide) (by decide) ?_
        refine z_iconst (TX0_gone.at 20 rfl) ?_
        refine zcf_iald (k := 44) (N := 3) (hH.lv (by decide)) (by decide) rfl eg44 (TX0_gone.at 21 rfl) hH (by decide) (by omega) (show _ < ((3 : Nat) : Int) by omega) (fun r34 => ?_)
        refine z_imul (TX0_gone.at 22 rfl) ?_
        refine z_icmp_gt (tgt := 42) (TX0_gone.at 23 rfl) rfl (by omega) (by omega) (fun c3 => ?_) (fun c3 => ?_)
        · skip
          refine z_iinc_3 (TX0_gone.at 25 rfl) (Nat.le_of_ble_eq_true rfl) rfl ?_
          refine z_goto (tgt := 4) (TX0_gone.at 26 rfl) rfl ?_
          exact ih (i + 1) _ _ _ _ _ (by omega) (by omega) (by omega) (by rw [sm_s i0, ← el]; first | rw [b2i_t (by omega)] | (rw [b2i_f (by omega)]; omega)) eg33 eg34 eg352 eg353 eg355 eg44 ef32 ef354 hfE hgE hH hA
        · skip
          refine z_iinc_2 (TX0_gone.at 24 rfl) (Nat.le_of_ble_eq_true rfl) rfl ?_
          refine z_iinc_3 (TX0_gone.at 25 rfl) (Nat.le_of_ble_eq_true rfl) rfl ?_
          refine z_goto (tgt := 4) (TX0_gone.at 26 rfl) rfl ?_
          exact ih (i + 1) _ _ _ _ _ (by omega) (by omega) (by omega) (by rw [sm_s i0, ← el]; first | rw [b2i_t (by omega)] | (rw [b2i_f (by omega)]; omega)) eg33 eg34 eg352 eg353 eg355 eg44 ef32 ef354 hfE hgE hH hA

set_option maxHeartbeats 4000000 in
set_option maxRecDepth 100000 in
theorem c_gone1 {l : Launch} {E : cE} {f : mF} {g j : mA} {Fr : Int → Int} {To : Int → Int} {BX : Int → Int} {HX : Int → Int} {X : Int → Int} {Tm : Int → Int} {n9 : Int} {S : Int} {fr to B Hd C : Int → Int} (eg33 : g 33 = Fr) (eg34 : g 34 = To) (eg352 : g 352 = BX) (eg353 : g 353 = HX) (eg355 : g 355 = X) (eg44 : g 44 = Tm) (ef32 : f 32 = n9) (ef354 : f 354 = S) (hI : FiH Fr To BX HX fr to B Hd n9 S X C) (ht0 : 0 ≤ Tm 0) (ht1 : Tm 0 ≤ 999) : CM l E MX0_gone 2 [.ref (E.1 383), .ref (E.1 63)] f g j (PI (fun r f' g' j' => (r = sm (fun x => b2i (outC fr to B Hd S C x ≤ 2 * Tm 0)) n9) ∧ eqx [] f f' ∧ eqx [] g g' ∧ j' = j)) := by
  refine CM.intro [some (.ref (E.1 383)), some (.ref (E.1 63)), none, none, none] (by decide) (Nat.le_of_ble_eq_true rfl) rfl (fun d hd h0 h hH hA => ?_)
  have hfE : eqx [] f f := eqx.rf
  have hgE : eqx [] g g := eqx.rf
  refine z_iconst (TX0_gone.at 0 rfl) ?_
  refine z_ist_2 (TX0_gone.at 1 rfl) (Nat.le_of_ble_eq_true rfl) rfl ?_
  refine z_iconst (TX0_gone.at 2 rfl) ?_
  refine z_ist_3 (TX0_gone.at 3 rfl) (Nat.le_of_ble_eq_true rfl) rfl ?_
  have hn := hI.1.2.1
  refine lp_gone1 hd hI ht0 ht1 (fun o4 f3 g3 h3 hfE hgE hH hA => ?_) 11 0 0 _ _ _ _ (by omega) (by omega) (by omega) rfl eg33 eg34 eg352 eg353 eg355 eg44 ef32 ef354 eqx.rf eqx.rf hH hA
  have hs := sm_in (p := fun x => b2i (outC fr to B Hd S C x ≤ 2 * Tm 0)) hn.1 (fun t _ _ => by have := b2i_01 (outC fr to B Hd S C t ≤ 2 * Tm 0); omega)
  refine z_ild_2 (TX0_gone.at 27 rfl) ?_
  refine zc_iret (TX0_gone.at 28 rfl) rfl hH hA (by omega) ?_
  exact ⟨rfl, hfE, hgE, rfl⟩

set_option maxHeartbeats 4000000 in
set_option maxRecDepth 100000 in
theorem lp_sprF1 {l : Launch} {E : cE} {d : Nat} {Pz : Option Value → zH → Prop} {h0 : zH} {f0 : mF} {g0 : mA} {j : mA} (hd : 1 ≤ d) {X : Int → Int} {q : Int} (hq : z31 q) (kx : ∀ (f : mF) (g : mA) (h : zH), g 355 = cpF X (nC (src q)) 0 8 → eqx [] f0 f → eqx [355] g0 g → HC E f g j h → cAg E h0 h → Z l MX0_spreadFrom d 0 0 Pz 34 [some (.ref (E.1 383)), some (.ref (E.1 63)), some (vI q), some (vI 8)] [] h 0 0)  : ∀ (n : Nat) (i : Int) (f : mF) (g : mA) (h : zH) (i0 : 0 ≤ i) (i1 : i ≤ 8) (i2 : 8 < i + n) (eg355 : g 355 = cpF X (nC (src q)) 0 i) (hfE : eqx [] f0 f) (hgE : eqx [355] g0 g) (hH : HC E f g j h) (hA : cAg E h0 h), Z l MX0_spreadFrom d 0 0 Pz 2 [some (.ref (E.1 383)), some (.ref (E.1 63)), some (vI q), some (vI i)] [] h 0 0 := by
  intro n
  induction n with
  | zero => intro i f g h i0 i1 i2 eg355 hfE hgE hH hA; exfalso; omega
  | succ n ih =>
    intro i f g h i0 i1 i2 eg355 hfE hgE hH hA
    refine z_ild_3 (TX0_spreadFrom.at 2 rfl) ?_
    refine z_bipush (by decide) (TX0_spreadFrom.at 3 rfl) ?_
    refine z_icmp_ge (tgt := 34) (TX0_spreadFrom.at 4 rfl) rfl (by omega) (by omega) (fun c1 => ?_) (fun c1 => ?_)
    · skip
      obtain rfl : i = 8 := by omega
      exact kx _ _ _ eg355 hfE hgE hH hA
    · skip
      refine z_ald_0 (TX0_spreadFrom.at 5 rfl) ?_
      refine zc_getA (m := 11) (s := 3) (k := 355) (hH.lv (by decide)) (TX0_spreadFrom.at 6 rfl) fl0_22 hH rfl rfl (by decide) (by decide) ?_
      refine z_ild_3 (TX0_spreadFrom.at 7 rfl) ?_
      refine z_ild_2 (TX0_spreadFrom.at 8 rfl) ?_
      refine z_ild_3 (TX0_spreadFrom.at 9 rfl) ?_
      refine zs_callN2 (c_bit hq ⟨by omega, by omega⟩) (TX0_spreadFrom.at 10 rfl) c0_90 rfl (by omega) (Nat.le_of_ble_eq_true rfl) (fun r15 => ?_)
      refine z_iconst (TX0_spreadFrom.at 11 rfl) ?_
      refine z_icmp_ne (tgt := 26) (TX0_spreadFrom.at 12 rfl) rfl (by omega) (by omega) (fun c2 => ?_) (fun c2 => ?_)
      · skip
        refine z_iconst (TX0_spreadFrom.at 15 rfl) ?_
        refine zcf_iast (k := 355) (N := 8) (hH.lv (by decide)) (by decide) rfl (TX0_spreadFrom.at 16 rfl) hH hA (by decide) (by omega) (show _ < ((8 : Nat) : Int) by omega) (by omega) (fun h g27 e1 e2 hH hA => ?_)
        rw [eg355] at e2; have eg355 := e2
        have hgE := hgE.put e1 (by decide)
        refine z_iinc_3 (TX0_spreadFrom.at 17 rfl) (Nat.le_of_ble_eq_true rfl) rfl ?_
        refine z_goto (tgt := 2) (TX0_spreadFrom.at 18 rfl) rfl ?_
        exact ih (i + 1) _ _ _ (by omega) (by omega) (by omega) (eg355.trans (cpF_s i0 (by omega) (by unfold nC src; first | (rw [if_pos (show bt q i from b2y (by assumption))]; rfl) | (rw [if_neg (show ¬ bt q i from b2n (by assumption))]; rfl)))) hfE hgE hH hA
      · skip
        refine z_iconst (TX0_spreadFrom.at 13 rfl) ?_
        refine z_goto (tgt := 27) (TX0_spreadFrom.at 14 rfl) rfl ?_
        refine zcf_iast (k := 355) (N := 8) (hH.lv (by decide)) (by decide) rfl (TX0_spreadFrom.at 16 rfl) hH hA (by decide) (by omega) (show _ < ((8 : Nat) : Int) by omega) (by omega) (fun h g27 e1 e2 hH hA => ?_)
        rw [eg355] at e2; have eg355 := e2
        have hgE := hgE.put e1 (by decide)
        refine z_iinc_3 (TX0_spreadFrom.at 17 rfl) (Nat.le_of_ble_eq_true rfl) rfl ?_
        refine z_goto (tgt := 2) (TX0_spreadFrom.at 18 rfl) rfl ?_
        exact ih (i + 1) _ _ _ (by omega) (by omega) (by omega) (eg355.trans (cpF_s i0 (by omega) (by unfold nC src; first | (rw [if_pos (show bt q i from b2y (by assumption))]; rfl) | (rw [if_neg (show ¬ bt q i from b2n (by assumption))]; rfl)))) hfE hgE hH hA

set_option maxHeartbeats 4000000 in
set_option maxRecDepth 100000 in
theorem c_sprF1 {l : Launch} {E : cE} {f : mF} {g j : mA} {Fr : Int → Int} {To : Int → Int} {BX : Int → Int} {HX : Int → Int} {X : Int → Int} {n9 : Int} {S : Int} {q : Int} {fr to B Hd : Int → Int} (eg33 : g 33 = Fr) (eg34 : g 34 = To) (eg352 : g 352 = BX) (eg353 : g 353 = HX) (eg355 : g 355 = X) (ef32 : f 32 = n9) (ef354 : f 354 = S) (hq : zIn q) (hq1 : z31 q) (hT : FiT Fr To BX HX fr to B Hd n9 S) : CM l E MX0_spreadFrom 3 [.ref (E.1 383), .ref (E.1 63), vI q] f g j (PV (fun f' g' j' => (FiH Fr To BX HX fr to B Hd n9 S (g' 355) (dist fr to B Hd S n9.toNat (src q))) ∧ eqx [] f f' ∧ eqx [355] g g' ∧ j' = j)) := by
  refine CM.intro [some (.ref (E.1 383)), some (.ref (E.1 63)), some (vI q), none] (by decide) (Nat.le_of_ble_eq_true rfl) rfl (fun d hd h0 h hH hA => ?_)
  have hfE : eqx [] f f := eqx.rf
  have hgE : eqx [355] g g := eqx.rf
  have hn := hT.2.1
  refine z_iconst (TX0_spreadFrom.at 0 rfl) ?_
  refine z_ist_3 (TX0_spreadFrom.at 1 rfl) (Nat.le_of_ble_eq_true rfl) rfl ?_
  refine lp_sprF1 (by omega) hq1 (fun f2 g2 h eg355 xf xg hH hA => ?_) 9 0 _ _ _ (by omega) (by omega) (by omega) (eg355.trans (cpF_0 _ _ _).symm) eqx.rf eqx.rf hH hA
  have ef32 := (xf 32 (by decide)).trans ef32
  have ef354 := (xf 354 (by decide)).trans ef354
  have hfE := hfE.trans xf (by decide)
  have eg33 := (xg 33 (by decide)).trans eg33
  have eg34 := (xg 34 (by decide)).trans eg34
  have eg352 := (xg 352 (by decide)).trans eg352
  have eg353 := (xg 353 (by decide)).trans eg353
  have hgE := hgE.trans xg (by decide)
  have hx8 : cm8 (cpF X (nC (src q)) 0 8) (src q) := fun t h0 h7 => by unfold cpF; rw [if_pos (by omega), show t - 0 = t by omega]
  refine z_ald_0 (TX0_spreadFrom.at 19 rfl) ?_
  refine z_ald_1 (TX0_spreadFrom.at 20 rfl) ?_
  refine zc_callV1 (m := 11) (c_spread1 eg33 eg34 eg352 eg353 eg355 ef32 ef354 hT.1 (by omega) (by omega) hT.2.2.1 hT.2.2.2.1 hT.2.2.2.2 (COK_src q) hx8) (hH.lv (by decide)) (TX0_spreadFrom.at 21 rfl) c0_116 rfl rfl hH hA (by omega) (Nat.le_of_ble_eq_true rfl) (fun f36 g36 j36 h q36 hH hA => ?_)
  obtain ⟨q36, xf, xg, xj⟩ := q36
  rw [xj] at hH
  have ef32 := (xf 32 (by decide)).trans ef32
  have ef354 := (xf 354 (by decide)).trans ef354
  have hfE := hfE.trans xf (by decide)
  have eg33 := (xg 33 (by decide)).trans eg33
  have eg34 := (xg 34 (by decide)).trans eg34
  have eg352 := (xg 352 (by decide)).trans eg352
  have eg353 := (xg 353 (by decide)).trans eg353
  have hgE := hgE.trans xg (by decide)
  have qL := q36
  refine zc_vret (TX0_spreadFrom.at 22 rfl) rfl hH hA ?_
  exact ⟨hT.fire (COK_src q) qL, hfE, hgE, rfl⟩

set_option maxHeartbeats 4000000 in
set_option maxRecDepth 100000 in
theorem c_sprM1 {l : Launch} {E : cE} {f : mF} {g j : mA} {Fr : Int → Int} {To : Int → Int} {BX : Int → Int} {HX : Int → Int} {X : Int → Int} {Mt : Int → Int} {n9 : Int} {S : Int} {fr to B Hd K : Int → Int} (eg33 : g 33 = Fr) (eg34 : g 34 = To) (eg352 : g 352 = BX) (eg353 : g 353 = HX) (eg355 : g 355 = X) (eg38 : g 38 = Mt) (ef32 : f 32 = n9) (ef354 : f 354 = S) (hT : FiT Fr To BX HX fr to B Hd n9 S) (hM : ∀ k : Int, 0 ≤ k → k ≤ 7 → Mt k = K (20 + k)) (hK : ∀ k, 0 ≤ k → k ≤ 7 → -1 ≤ K (20 + k) ∧ K (20 + k) ≤ 999) : CM l E MX0_spreadFromMatches 3 [.ref (E.1 383), .ref (E.1 63)] f g j (PV (fun f' g' j' => (FiH Fr To BX HX fr to B Hd n9 S (g' 355) (dist fr to B Hd S n9.toNat (lit K))) ∧ eqx [] f f' ∧ eqx [355] g g' ∧ j' = j)) := by
  refine CM.intro [some (.ref (E.1 383)), some (.ref (E.1 63))] (by decide) (Nat.le_of_ble_eq_true rfl) rfl (fun d hd h0 h hH hA => ?_)
  have hfE : eqx [] f f := eqx.rf
  have hgE : eqx [355] g g := eqx.rf
  have hn := hT.2.1
  have hx8 : cm8 (cpy X Mt 0 0 8) (lit K) := fun t h0 h7 => by
    have a := hK t h0 h7
    unfold cpy nC lit
    rw [if_pos (by omega), show t - 0 + 0 = t by omega, hM t h0 h7]
    by_cases e : K (20 + t) = -1
    · rw [if_pos e, if_pos rfl, e]
    · rw [if_neg e, if_neg (by omega)]
  refine z_ald_1 (TX0_spreadFromMatches.at 0 rfl) ?_
  refine zc_getA (m := 1) (s := 6) (k := 38) (hH.lv (by decide)) (TX0_spreadFromMatches.at 1 rfl) fl0_107 hH rfl rfl (by decide) (by decide) ?_
  refine z_iconst (TX0_spreadFromMatches.at 2 rfl) ?_
  refine z_ald_0 (TX0_spreadFromMatches.at 3 rfl) ?_
  refine zc_getA (m := 11) (s := 3) (k := 355) (hH.lv (by decide)) (TX0_spreadFromMatches.at 4 rfl) fl0_22 hH rfl rfl (by decide) (by decide) ?_
  refine z_iconst (TX0_spreadFromMatches.at 5 rfl) ?_
  refine z_bipush (by decide) (TX0_spreadFromMatches.at 6 rfl) ?_
  refine zcf_copy (ks := 38) (kd := 355) (Ns := 8) (Nd := 8) (hH.lv (by decide)) (hH.lv (by decide)) (by decide) (by decide) rfl rfl eg38 (TX0_spreadFromMatches.at 7 rfl) cp0_110 hH hA (by decide) (by decide) (by omega) (by omega) (by omega) (show _ ≤ ((8 : Nat) : Int) by omega) (show _ ≤ ((8 : Nat) : Int) by omega) (by omega) (fun h g12 e1 e2 hH hA => ?_)
  have eg33 := (e1 33 (by decide)).trans eg33
  have eg34 := (e1 34 (by decide)).trans eg34
  have eg352 := (e1 352 (by decide)).trans eg352
  have eg353 := (e1 353 (by decide)).trans eg353
  rw [eg355] at e2; have eg355 := e2
  have eg38 := (e1 38 (by decide)).trans eg38
  have hgE := hgE.put e1 (by decide)
  refine z_ald_0 (TX0_spreadFromMatches.at 8 rfl) ?_
  refine z_ald_1 (TX0_spreadFromMatches.at 9 rfl) ?_
  refine zc_callV1 (m := 11) (c_spread1 eg33 eg34 eg352 eg353 eg355 ef32 ef354 hT.1 (by omega) (by omega) hT.2.2.1 hT.2.2.2.1 hT.2.2.2.2 (COK_lit hK) hx8) (hH.lv (by decide)) (TX0_spreadFromMatches.at 10 rfl) c0_116 rfl rfl hH hA (by omega) (Nat.le_of_ble_eq_true rfl) (fun f17 g17 j17 h q17 hH hA => ?_)
  obtain ⟨q17, xf, xg, xj⟩ := q17
  rw [xj] at hH
  have ef32 := (xf 32 (by decide)).trans ef32
  have ef354 := (xf 354 (by decide)).trans ef354
  have hfE := hfE.trans xf (by decide)
  have eg33 := (xg 33 (by decide)).trans eg33
  have eg34 := (xg 34 (by decide)).trans eg34
  have eg352 := (xg 352 (by decide)).trans eg352
  have eg353 := (xg 353 (by decide)).trans eg353
  have eg38 := (xg 38 (by decide)).trans eg38
  have hgE := hgE.trans xg (by decide)
  have qL := q17
  refine zc_vret (TX0_spreadFromMatches.at 11 rfl) rfl hH hA ?_
  exact ⟨hT.fire (COK_lit hK) qL, hfE, hgE, rfl⟩

set_option maxHeartbeats 4000000 in
set_option maxRecDepth 100000 in
theorem c_outOf3 {l : Launch} {E : cE} {f : mF} {g j : mA} {Fr : Int → Int} {To : Int → Int} {BX : Int → Int} {HX : Int → Int} {X : Int → Int} {n9 : Int} {S : Int} {x : Int} {fr to B Hd C : Int → Int} (eg97 : g 97 = Fr) (eg98 : g 98 = To) (eg352 : g 352 = BX) (eg353 : g 353 = HX) (eg355 : g 355 = X) (ef96 : f 96 = n9) (ef354 : f 354 = S) (hx : zIn x) (hI : FiH Fr To BX HX fr to B Hd n9 S X C) (x0 : 0 ≤ x) (x1 : x < n9) : CM l E MX0_outOf 1 [.ref (E.1 383), .ref (E.1 127), vI x] f g j (PI (fun r f' g' j' => (r = orN (outC fr to B Hd S C x)) ∧ eqx [] f f' ∧ eqx [] g g' ∧ j' = j)) := by
  refine CM.intro [some (.ref (E.1 383)), some (.ref (E.1 127)), some (vI x), none, none, none, none] (by decide) (Nat.le_of_ble_eq_true rfl) rfl (fun d hd h0 h hH hA => ?_)
  have hfE : eqx [] f f := eqx.rf
  have hgE : eqx [] g g := eqx.rf
  have k := hI.at x0 x1
  have hn := hI.1.2.1
  refine z_ald_1 (TX0_outOf_0.at 0 rfl) ?_
  refine zc_getA (m := 3) (s := 1) (k := 97) (hH.lv (by decide)) (TX0_outOf_0.at 1 rfl) fl0_59 hH rfl rfl (by decide) (by decide) ?_
  refine z_ild_2 (TX0_outOf_0.at 2 rfl) ?_
  refine zcf_iald (k := 97) (N := 10) (hH.lv (by decide)) (by decide) rfl eg97 (TX0_outOf_0.at 3 rfl) hH (by decide) (by omega) (show _ < ((10 : Nat) : Int) by omega) (fun r5 => ?_)
  rw [k.1.1]
  refine z_ist_3 (TX0_outOf_0.at 4 rfl) (Nat.le_of_ble_eq_true rfl) rfl ?_
  refine z_ald_1 (TX0_outOf_0.at 5 rfl) ?_
  refine zc_getA (m := 3) (s := 2) (k := 98) (hH.lv (by decide)) (TX0_outOf_0.at 6 rfl) fl0_62 hH rfl rfl (by decide) (by decide) ?_
  refine z_ild_2 (TX0_outOf_0.at 7 rfl) ?_
  refine zcf_iald (k := 98) (N := 10) (hH.lv (by decide)) (by decide) rfl eg98 (TX0_outOf_0.at 8 rfl) hH (by decide) (by omega) (show _ < ((10 : Nat) : Int) by omega) (fun r12 => ?_)
  rw [k.1.2.1]
  refine z_ist_4 (TX0_outOf_0.at 9 rfl) (Nat.le_of_ble_eq_true rfl) rfl ?_
  refine z_ald_0 (TX0_outOf_0.at 10 rfl) ?_
  refine zc_getIE (m := 11) (s := 2) (k := 354) (hH.lv (by decide)) ef354 (TX0_outOf_0.at 11 rfl) fl0_18 hH rfl rfl (by decide) (by decide) (fun r16 => ?_)
  refine z_ild_2 (TX0_outOf_0.at 12 rfl) ?_
  refine zs_callN2 (c_bit hI.1.1 ⟨by omega, by omega⟩) (TX0_outOf_0.at 13 rfl) c0_90 rfl (by omega) (Nat.le_of_ble_eq_true rfl) (fun r20 => ?_)
  refine z_if_eqB (tgt := 47) (TX0_outOf_0.at 14 rfl) rfl (fun c1 => ?_) (fun c1 => ?_)
  · skip
    refine z_iconst (TX0_outOf_0.at 27 rfl) ?_
    refine zc_iret (TX0_outOf_0.at 28 rfl) rfl hH hA (by omega) ?_
    exact ⟨by first | exact out_n hI x0 x1 (Or.inl (by assumption)) | exact out_n hI x0 x1 (Or.inr (Or.inl (by assumption))) | exact out_n hI x0 x1 (Or.inr (Or.inr (by assumption))), hfE, hgE, rfl⟩
  · skip
    refine z_ald_0 (TX0_outOf_0.at 15 rfl) ?_
    refine zc_getA (m := 11) (s := 3) (k := 355) (hH.lv (by decide)) (TX0_outOf_0.at 16 rfl) fl0_22 hH rfl rfl (by decide) (by decide) ?_
    refine z_ild_3 (TX0_outOf_0.at 17 rfl) ?_
    refine zcf_iald (k := 355) (N := 8) (hH.lv (by decide)) (by decide) rfl eg355 (TX0_outOf_0.at 18 rfl) hH (by decide) (by omega) (show _ < ((8 : Nat) : Int) by omega) (fun r31 => ?_)
    refine z_iconst (TX0_outOf_0.at 19 rfl) ?_
    refine z_icmp_eq (tgt := 47) (TX0_outOf_0.at 20 rfl) rfl (by omega) (by omega) (fun c2 => ?_) (fun c2 => ?_)
    · skip
      refine z_iconst (TX0_outOf_0.at 27 rfl) ?_
      refine zc_iret (TX0_outOf_0.at 28 rfl) rfl hH hA (by omega) ?_
      exact ⟨by first | exact out_n hI x0 x1 (Or.inl (by assumption)) | exact out_n hI x0 x1 (Or.inr (Or.inl (by assumption))) | exact out_n hI x0 x1 (Or.inr (Or.inr (by assumption))), hfE, hgE, rfl⟩
    · skip
      refine z_ald_0 (TX0_outOf_0.at 21 rfl) ?_
      refine zc_getA (m := 11) (s := 3) (k := 355) (hH.lv (by decide)) (TX0_outOf_0.at 22 rfl) fl0_22 hH rfl rfl (by decide) (by decide) ?_
      refine z_ild_4 (TX0_outOf_0.at 23 rfl) ?_
      refine zcf_iald (k := 355) (N := 8) (hH.lv (by decide)) (by decide) rfl eg355 (TX0_outOf_0.at 24 rfl) hH (by decide) (by omega) (show _ < ((8 : Nat) : Int) by omega) (fun r42 => ?_)
      refine z_iconst (TX0_outOf_0.at 25 rfl) ?_
      refine z_icmp_ne (tgt := 49) (TX0_outOf_0.at 26 rfl) rfl (by omega) (by omega) (fun c3 => ?_) (fun c3 => ?_)
      · skip
        refine z_ald_0 (TX0_outOf_0.at 29 rfl) ?_
        refine zc_getA (m := 11) (s := 3) (k := 355) (hH.lv (by decide)) (TX0_outOf_0.at 30 rfl) fl0_22 hH rfl rfl (by decide) (by decide) ?_
        refine z_ild_3 (TX0_outOf_0.at 31 rfl) ?_
        refine zcf_iald (k := 355) (N := 8) (hH.lv (by decide)) (by decide) rfl eg355 (TX0_outOf_0.at 32 rfl) hH (by decide) (by omega) (show _ < ((8 : Nat) : Int) by omega) (fun r54 => ?_)
        refine z_ald_0 (TX0_outOf_0.at 33 rfl) ?_
        refine zc_getA (m := 11) (s := 1) (k := 353) (hH.lv (by decide)) (TX0_outOf_0.at 34 rfl) fl0_15 hH rfl rfl (by decide) (by decide) ?_
        refine z_ild_3 (TX0_outOf_0.at 35 rfl) ?_
        refine zcf_iald (k := 353) (N := 8) (hH.lv (by decide)) (by decide) rfl eg353 (TX0_outOf_0.at 36 rfl) hH (by decide) (by omega) (show _ < ((8 : Nat) : Int) by omega) (fun r60 => ?_)
        refine z_iadd (TX0_outOf_0.at 37 rfl) ?_
        refine z_ist_5 (TX0_outOf_0.at 38 rfl) (Nat.le_of_ble_eq_true rfl) rfl ?_
        refine z_ald_0 (TX0_outOf_0.at 39 rfl) ?_
        refine zc_getA (m := 11) (s := 3) (k := 355) (hH.lv (by decide)) (TX0_outOf_1.at 0 rfl) fl0_22 hH rfl rfl (by decide) (by decide) ?_
        refine z_ild_4 (TX0_outOf_1.at 1 rfl) ?_
        refine zcf_iald (k := 355) (N := 8) (hH.lv (by decide)) (by decide) rfl eg355 (TX0_outOf_1.at 2 rfl) hH (by decide) (by omega) (show _ < ((8 : Nat) : Int) by omega) (fun r70 => ?_)
        refine z_ald_0 (TX0_outOf_1.at 3 rfl) ?_
        refine zc_getA (m := 11) (s := 1) (k := 353) (hH.lv (by decide)) (TX0_outOf_1.at 4 rfl) fl0_15 hH rfl rfl (by decide) (by decide) ?_
        refine z_ild_4 (TX0_outOf_1.at 5 rfl) ?_
        refine zcf_iald (k := 353) (N := 8) (hH.lv (by decide)) (by decide) rfl eg353 (TX0_outOf_1.at 6 rfl) hH (by decide) (by omega) (show _ < ((8 : Nat) : Int) by omega) (fun r77 => ?_)
        refine z_iadd (TX0_outOf_1.at 7 rfl) ?_
        refine z_ist_6 (TX0_outOf_1.at 8 rfl) (Nat.le_of_ble_eq_true rfl) rfl ?_
        refine z_iconst (TX0_outOf_1.at 9 rfl) ?_
        refine z_ild_5 (TX0_outOf_1.at 10 rfl) ?_
        refine z_ild_6 (TX0_outOf_1.at 11 rfl) ?_
        refine z_min (TX0_outOf_1.at 12 rfl) cm0_78 (by omega) (by omega) (by omega) (Nat.le_of_ble_eq_true rfl) ?_
        refine z_ald_0 (TX0_outOf_1.at 13 rfl) ?_
        refine zc_getA (m := 11) (s := 0) (k := 352) (hH.lv (by decide)) (TX0_outOf_1.at 14 rfl) fl0_9 hH rfl rfl (by decide) (by decide) ?_
        refine z_ild_2 (TX0_outOf_1.at 15 rfl) ?_
        refine zcf_iald (k := 352) (N := 10) (hH.lv (by decide)) (by decide) rfl eg352 (TX0_outOf_1.at 16 rfl) hH (by decide) (by omega) (show _ < ((10 : Nat) : Int) by omega) (fun r94 => ?_)
        refine z_iadd (TX0_outOf_1.at 17 rfl) ?_
        refine z_imul (TX0_outOf_1.at 18 rfl) ?_
        refine z_ild_5 (TX0_outOf_1.at 19 rfl) ?_
        refine z_ild_6 (TX0_outOf_1.at 20 rfl) ?_
        refine z_iadd (TX0_outOf_1.at 21 rfl) ?_
        refine z_ald_0 (TX0_outOf_1.at 22 rfl) ?_
        refine zc_getA (m := 11) (s := 0) (k := 352) (hH.lv (by decide)) (TX0_outOf_1.at 23 rfl) fl0_9 hH rfl rfl (by decide) (by decide) ?_
        refine z_ild_2 (TX0_outOf_1.at 24 rfl) ?_
        refine zcf_iald (k := 352) (N := 10) (hH.lv (by decide)) (by decide) rfl eg352 (TX0_outOf_1.at 25 rfl) hH (by decide) (by omega) (show _ < ((10 : Nat) : Int) by omega) (fun r107 => ?_)
        refine z_iadd (TX0_outOf_1.at 26 rfl) ?_
        refine z_min (TX0_outOf_1.at 27 rfl) cm0_78 (by omega) (by omega) (by omega) (Nat.le_of_ble_eq_true rfl) ?_
        refine zc_iret (TX0_outOf_1.at 28 rfl) rfl hH hA (by omega) ?_
        exact ⟨out_v hI x0 x1 (by assumption) (by assumption) (by assumption), hfE, hgE, rfl⟩
      · skip
        refine z_iconst (TX0_outOf_0.at 27 rfl) ?_
        refine zc_iret (TX0_outOf_0.at 28 rfl) rfl hH hA (by omega) ?_
        exact ⟨by first | exact out_n hI x0 x1 (Or.inl (by assumption)) | exact out_n hI x0 x1 (Or.inr (Or.inl (by assumption))) | exact out_n hI x0 x1 (Or.inr (Or.inr (by assumption))), hfE, hgE, rfl⟩

set_option maxHeartbeats 4000000 in
set_option maxRecDepth 100000 in
theorem lp_lastOut3 {l : Launch} {E : cE} {d : Nat} {Pz : Option Value → zH → Prop} {h0 : zH} {f0 : mF} {g0 : mA} {j : mA} (hd : 2 ≤ d) {Fr To BX HX fr to B Hd X C : Int → Int} {S n9 : Int} (hI : FiH Fr To BX HX fr to B Hd n9 S X C) {s : Int} (hs : z31 s) (kx : ∀ (o5 : Option Value) (f : mF) (g : mA) (h : zH), lastN (outC fr to B Hd S C) s n9.toNat ≤ 4000 → eqx [] f0 f → eqx [] g0 g → HC E f g j h → cAg E h0 h → Z l MX0_lastOut d 0 0 Pz 54 [some (.ref (E.1 383)), some (.ref (E.1 127)), some (vI s), some (vI (lastN (outC fr to B Hd S C) s n9.toNat)), some (vI n9), o5] [] h 0 0) (ePz : Pz = CP E h0 (PI (fun r f' g' j' => r = orN (lastN (outC fr to B Hd S C) s n9.toNat) ∧ eqx [] f0 f' ∧ eqx [] g0 g' ∧ j' = j)))  : ∀ (n : Nat) (i : Int) (la : Int) (o5 : Option Value) (f : mF) (g : mA) (h : zH) (i0 : 0 ≤ i) (i1 : i ≤ n9) (i2 : n9 < i + n) (el : la = lastN (outC fr to B Hd S C) s i.toNat) (lb : 0 ≤ la ∧ la ≤ 4000) (eg97 : g 97 = Fr) (eg98 : g 98 = To) (eg352 : g 352 = BX) (eg353 : g 353 = HX) (eg355 : g 355 = X) (ef96 : f 96 = n9) (ef354 : f 354 = S) (hfE : eqx [] f0 f) (hgE : eqx [] g0 g) (hH : HC E f g j h) (hA : cAg E h0 h), Z l MX0_lastOut d 0 0 Pz 5 [some (.ref (E.1 383)), some (.ref (E.1 127)), some (vI s), some (vI la), some (vI i), o5] [] h 0 0 := by
  intro n
  induction n with
  | zero => intro i la o5 f g h i0 i1 i2 el lb eg97 eg98 eg352 eg353 eg355 ef96 ef354 hfE hgE hH hA; exfalso; omega
  | succ n ih =>
    intro i la o5 f g h i0 i1 i2 el lb eg97 eg98 eg352 eg353 eg355 ef96 ef354 hfE hgE hH hA
    subst ePz
    have hn := hI.1.2.1
    refine z_ild_4 (TX0_lastOut.at 4 rfl) ?_
    refine z_ald_1 (TX0_lastOut.at 5 rfl) ?_
    refine zc_getIE (m := 3) (s := 0) (k := 96) (hH.lv (by decide)) ef96 (TX0_lastOut.at 6 rfl) fl0_43 hH rfl rfl (by decide) (by decide) (fun r8 => ?_)
    refine z_icmp_ge (tgt := 54) (TX0_lastOut.at 7 rfl) rfl (by omega) (by omega) (fun c1 => ?_) (fun c1 => ?_)
    · skip
      obtain rfl : i = n9 := by omega
      rw [el] at lb ⊢
      exact kx _ _ _ _ lb.2 hfE hgE hH hA
    · skip
      refine z_ild_2 (TX0_lastOut.at 8 rfl) ?_
      refine z_ild_4 (TX0_lastOut.at 9 rfl) ?_
      refine zs_callN2 (c_bit hs ⟨by omega, by omega⟩) (TX0_lastOut.at 10 rfl) c0_90 rfl (by omega) (Nat.le_of_ble_eq_true rfl) (fun r17 => ?_)
      refine z_iconst (TX0_lastOut.at 11 rfl) ?_
      refine z_icmp_ne (tgt := 48) (TX0_lastOut.at 12 rfl) rfl (by omega) (by omega) (fun c2 => ?_) (fun c2 => ?_)
      · skip
        have hnb : ¬ bt s i := b2n (by assumption)
        refine z_iinc_4 (TX0_lastOut.at 27 rfl) (Nat.le_of_ble_eq_true rfl) rfl ?_
        refine z_goto (tgt := 5) (TX0_lastOut.at 28 rfl) rfl ?_
        exact ih (i + 1) _ _ _ _ _ (by omega) (by omega) (by omega) (by rw [lastN_s i0]; first | (rw [if_neg (by assumption)]; exact el) | (rw [if_pos (by assumption), ← el]; omega)) (by omega) eg97 eg98 eg352 eg353 eg355 ef96 ef354 hfE hgE hH hA
      · skip
        have hbt : bt s i := b2y (by assumption)
        have hoi := out_b hI i0 (by omega)
        have hon := orN_b hoi
        refine z_ald_0 (TX0_lastOut.at 13 rfl) ?_
        refine z_ald_1 (TX0_lastOut.at 14 rfl) ?_
        refine z_ild_4 (TX0_lastOut.at 15 rfl) ?_
        refine zc_callI2 (m := 11) (c_outOf3 eg97 eg98 eg352 eg353 eg355 ef96 ef354 (by omega) hI (by omega) (by omega)) (hH.lv (by decide)) (TX0_lastOut.at 16 rfl) c0_132 rfl rfl hH hA (by omega) (Nat.le_of_ble_eq_true rfl) (fun x28 f28 g28 j28 h r28 q28 hH hA => ?_)
        obtain ⟨q28, xf, xg, xj⟩ := q28
        rw [xj] at hH
        have ef96 := (xf 96 (by decide)).trans ef96
        have ef354 := (xf 354 (by decide)).trans ef354
        have hfE := hfE.trans xf (by decide)
        have eg97 := (xg 97 (by decide)).trans eg97
        have eg98 := (xg 98 (by decide)).trans eg98
        have eg352 := (xg 352 (by decide)).trans eg352
        have eg353 := (xg 353 (by decide)).trans eg353
        have eg355 := (xg 355 (by decide)).trans eg355
        have hgE := hgE.trans xg (by decide)
        have qL := q28
        obtain rfl := qL
        refine z_ist_5 (TX0_lastOut.at 17 rfl) (Nat.le_of_ble_eq_true rfl) rfl ?_
        refine z_ild_5 (TX0_lastOut.at 18 rfl) ?_
        refine z_iconst (TX0_lastOut.at 19 rfl) ?_
        refine z_icmp_ne (tgt := 41) (TX0_lastOut.at 20 rfl) rfl (by omega) (by omega) (fun c3 => ?_) (fun c3 => ?_)
        · skip
          refine z_ild_3 (TX0_lastOut.at 23 rfl) ?_
          refine z_ild_5 (TX0_lastOut.at 24 rfl) ?_
          refine z_max (TX0_lastOut.at 25 rfl) cm0_84 (by omega) (by omega) (by omega) (Nat.le_of_ble_eq_true rfl) ?_
          refine z_ist_3 (TX0_lastOut.at 26 rfl) (Nat.le_of_ble_eq_true rfl) rfl ?_
          refine z_iinc_4 (TX0_lastOut.at 27 rfl) (Nat.le_of_ble_eq_true rfl) rfl ?_
          refine z_goto (tgt := 5) (TX0_lastOut.at 28 rfl) rfl ?_
          exact ih (i + 1) _ _ _ _ _ (by omega) (by omega) (by omega) (by rw [lastN_s i0]; first | (rw [if_neg (by assumption)]; exact el) | (rw [if_pos (by assumption), ← el]; omega)) (by omega) eg97 eg98 eg352 eg353 eg355 ef96 ef354 hfE hgE hH hA
        · skip
          refine z_iconst (TX0_lastOut.at 21 rfl) ?_
          refine zc_iret (TX0_lastOut.at 22 rfl) rfl hH hA (by omega) ?_
          exact ⟨by rw [lastN_top (i := i) (fun t t0 t1 => by have := out_b hI t0 (by omega); omega) i0 (by omega) hbt (by omega)]; rfl, hfE, hgE, rfl⟩

set_option maxHeartbeats 4000000 in
set_option maxRecDepth 100000 in
theorem c_lastOut3 {l : Launch} {E : cE} {f : mF} {g j : mA} {Fr : Int → Int} {To : Int → Int} {BX : Int → Int} {HX : Int → Int} {X : Int → Int} {n9 : Int} {S : Int} {s : Int} {fr to B Hd C : Int → Int} (eg97 : g 97 = Fr) (eg98 : g 98 = To) (eg352 : g 352 = BX) (eg353 : g 353 = HX) (eg355 : g 355 = X) (ef96 : f 96 = n9) (ef354 : f 354 = S) (hs : zIn s) (hI : FiH Fr To BX HX fr to B Hd n9 S X C) (hs : z31 s) : CM l E MX0_lastOut 2 [.ref (E.1 383), .ref (E.1 127), vI s] f g j (PI (fun r f' g' j' => (r = orN (lastN (outC fr to B Hd S C) s n9.toNat)) ∧ eqx [] f f' ∧ eqx [] g g' ∧ j' = j)) := by
  refine CM.intro [some (.ref (E.1 383)), some (.ref (E.1 127)), some (vI s), none, none, none] (by decide) (Nat.le_of_ble_eq_true rfl) rfl (fun d hd h0 h hH hA => ?_)
  have hfE : eqx [] f f := eqx.rf
  have hgE : eqx [] g g := eqx.rf
  refine z_iconst (TX0_lastOut.at 0 rfl) ?_
  refine z_ist_3 (TX0_lastOut.at 1 rfl) (Nat.le_of_ble_eq_true rfl) rfl ?_
  refine z_iconst (TX0_lastOut.at 2 rfl) ?_
  refine z_ist_4 (TX0_lastOut.at 3 rfl) (Nat.le_of_ble_eq_true rfl) rfl ?_
  have hn := hI.1.2.1
  refine lp_lastOut3 hd hI hs (fun o5 f3 g3 h3 lb hfE hgE hH hA => ?_) rfl 11 0 0 _ _ _ _ (by omega) (by omega) (by omega) rfl (by omega) eg97 eg98 eg352 eg353 eg355 ef96 ef354 eqx.rf eqx.rf hH hA
  have hla := lastN_in (v := outC fr to B Hd S C) (S := s) (b := 1000000) (by decide) n9.toNat (fun t t0 t1 => by have := out_b hI t0 (by omega); omega)
  refine z_ild_3 (TX0_lastOut.at 29 rfl) ?_
  refine zc_iret (TX0_lastOut.at 30 rfl) rfl hH hA (by omega) ?_
  exact ⟨by unfold orN; rw [if_neg (by omega)], hfE, hgE, rfl⟩

set_option maxHeartbeats 4000000 in
set_option maxRecDepth 100000 in
theorem lp_gone3 {l : Launch} {E : cE} {d : Nat} {Pz : Option Value → zH → Prop} {h0 : zH} {f0 : mF} {g0 : mA} {j : mA} (hd : 2 ≤ d) {Fr To BX HX fr to B Hd X C : Int → Int} {S n9 : Int} (hI : FiH Fr To BX HX fr to B Hd n9 S X C) {Tm : Int → Int} (ht0 : 0 ≤ Tm 0) (ht1 : Tm 0 ≤ 999) (kx : ∀ (o4 : Option Value) (f : mF) (g : mA) (h : zH), eqx [] f0 f → eqx [] g0 g → HC E f g j h → cAg E h0 h → Z l MX0_gone d 0 0 Pz 48 [some (.ref (E.1 383)), some (.ref (E.1 127)), some (vI (sm (fun x => b2i (outC fr to B Hd S C x ≤ 2 * Tm 0)) n9)), some (vI n9), o4] [] h 0 0)  : ∀ (n : Nat) (i : Int) (s : Int) (o4 : Option Value) (f : mF) (g : mA) (h : zH) (i0 : 0 ≤ i) (i1 : i ≤ n9) (i2 : n9 < i + n) (el : s = sm (fun x => b2i (outC fr to B Hd S C x ≤ 2 * Tm 0)) i) (eg97 : g 97 = Fr) (eg98 : g 98 = To) (eg352 : g 352 = BX) (eg353 : g 353 = HX) (eg355 : g 355 = X) (eg108 : g 108 = Tm) (ef96 : f 96 = n9) (ef354 : f 354 = S) (hfE : eqx [] f0 f) (hgE : eqx [] g0 g) (hH : HC E f g j h) (hA : cAg E h0 h), Z l MX0_gone d 0 0 Pz 4 [some (.ref (E.1 383)), some (.ref (E.1 127)), some (vI s), some (vI i), o4] [] h 0 0 := by
  intro n
  induction n with
  | zero => intro i s o4 f g h i0 i1 i2 el eg97 eg98 eg352 eg353 eg355 eg108 ef96 ef354 hfE hgE hH hA; exfalso; omega
  | succ n ih =>
    intro i s o4 f g h i0 i1 i2 el eg97 eg98 eg352 eg353 eg355 eg108 ef96 ef354 hfE hgE hH hA
    have hn := hI.1.2.1
    have hs := sm_in (p := fun x => b2i (outC fr to B Hd S C x ≤ 2 * Tm 0)) i0 (fun t _ _ => by have := b2i_01 (outC fr to B Hd S C t ≤ 2 * Tm 0); omega)
    rw [← el] at hs
    refine z_ild_3 (TX0_gone.at 4 rfl) ?_
    refine z_ald_1 (TX0_gone.at 5 rfl) ?_
    refine zc_getIE (m := 3) (s := 0) (k := 96) (hH.lv (by decide)) ef96 (TX0_gone.at 6 rfl) fl0_43 hH rfl rfl (by decide) (by decide) (fun r6 => ?_)
    refine z_icmp_ge (tgt := 48) (TX0_gone.at 7 rfl) rfl (by omega) (by omega) (fun c1 => ?_) (fun c1 => ?_)
    · skip
      obtain rfl : i = n9 := by omega
      rw [el]
      exact kx _ _ _ _ hfE hgE hH hA
    · skip
      have hon := orN_b (out_b hI i0 (by omega))
      refine z_ald_0 (TX0_gone.at 8 rfl) ?_
      refine z_ald_1 (TX0_gone.at 9 rfl) ?_
      refine z_ild_3 (TX0_gone.at 10 rfl) ?_
      refine zc_callI2 (m := 11) (c_outOf3 eg97 eg98 eg352 eg353 eg355 ef96 ef354 (by omega) hI (by omega) (by omega)) (hH.lv (by decide)) (TX0_gone.at 11 rfl) c0_132 rfl rfl hH hA (by omega) (Nat.le_of_ble_eq_true rfl) (fun x15 f15 g15 j15 h r15 q15 hH hA => ?_)
      obtain ⟨q15, xf, xg, xj⟩ := q15
      rw [xj] at hH
      have ef96 := (xf 96 (by decide)).trans ef96
      have ef354 := (xf 354 (by decide)).trans ef354
      have hfE := hfE.trans xf (by decide)
      have eg97 := (xg 97 (by decide)).trans eg97
      have eg98 := (xg 98 (by decide)).trans eg98
      have eg352 := (xg 352 (by decide)).trans eg352
      have eg353 := (xg 353 (by decide)).trans eg353
      have eg355 := (xg 355 (by decide)).trans eg355
      have eg108 := (xg 108 (by decide)).trans eg108
      have hgE := hgE.trans xg (by decide)
      have qL := q15
      obtain rfl := qL
      refine z_ist_4 (TX0_gone.at 12 rfl) (Nat.le_of_ble_eq_true rfl) rfl ?_
      refine z_ild_4 (TX0_gone.at 13 rfl) ?_
      refine z_iconst (TX0_gone.at 14 rfl) ?_
      refine z_icmp_eq (tgt := 42) (TX0_gone.at 15 rfl) rfl (by omega) (by omega) (fun c2 => ?_) (fun c2 => ?_)
      · skip
        refine z_iinc_3 (TX0_gone.at 25 rfl) (Nat.le_of_ble_eq_true rfl) rfl ?_
        refine z_goto (tgt := 4) (TX0_gone.at 26 rfl) rfl ?_
        exact ih (i + 1) _ _ _ _ _ (by omega) (by omega) (by omega) (by rw [sm_s i0, ← el]; first | rw [b2i_t (by omega)] | (rw [b2i_f (by omega)]; omega)) eg97 eg98 eg352 eg353 eg355 eg108 ef96 ef354 hfE hgE hH hA
      · skip
        refine z_ild_4 (TX0_gone.at 16 rfl) ?_
        refine z_iconst (TX0_gone.at 17 rfl) ?_
        refine z_ald_1 (TX0_gone.at 18 rfl) ?_
        refine zc_getA (m := 3) (s := 12) (k := 108) (hH.lv (by decide)) (TX0_gone.at 19 rfl) fl0_38 hH rfl rfl (by decide) (by decide) ?_
        refine z_iconst (TX0_gone.at 20 rfl) ?_
        refine zcf_iald (k := 108) (N := 3) (hH.lv (by decide)) (by decide) rfl eg108 (TX0_gone.at 21 rfl) hH (by decide) (by omega) (show _ < ((3 : Nat) : Int) by omega) (fun r34 => ?_)
        refine z_imul (TX0_gone.at 22 rfl) ?_
        refine z_icmp_gt (tgt := 42) (TX0_gone.at 23 rfl) rfl (by omega) (by omega) (fun c3 => ?_) (fun c3 => ?_)
        · skip
          refine z_iinc_3 (TX0_gone.at 25 rfl) (Nat.le_of_ble_eq_true rfl) rfl ?_
          refine z_goto (tgt := 4) (TX0_gone.at 26 rfl) rfl ?_
          exact ih (i + 1) _ _ _ _ _ (by omega) (by omega) (by omega) (by rw [sm_s i0, ← el]; first | rw [b2i_t (by omega)] | (rw [b2i_f (by omega)]; omega)) eg97 eg98 eg352 eg353 eg355 eg108 ef96 ef354 hfE hgE hH hA
        · skip
          refine z_iinc_2 (TX0_gone.at 24 rfl) (Nat.le_of_ble_eq_true rfl) rfl ?_
          refine z_iinc_3 (TX0_gone.at 25 rfl) (Nat.le_of_ble_eq_true rfl) rfl ?_
          refine z_goto (tgt := 4) (TX0_gone.at 26 rfl) rfl ?_
          exact ih (i + 1) _ _ _ _ _ (by omega) (by omega) (by omega) (by rw [sm_s i0, ← el]; first | rw [b2i_t (by omega)] | (rw [b2i_f (by omega)]; omega)) eg97 eg98 eg352 eg353 eg355 eg108 ef96 ef354 hfE hgE hH hA

set_option maxHeartbeats 4000000 in
set_option maxRecDepth 100000 in
theorem c_gone3 {l : Launch} {E : cE} {f : mF} {g j : mA} {Fr : Int → Int} {To : Int → Int} {BX : Int → Int} {HX : Int → Int} {X : Int → Int} {Tm : Int → Int} {n9 : Int} {S : Int} {fr to B Hd C : Int → Int} (eg97 : g 97 = Fr) (eg98 : g 98 = To) (eg352 : g 352 = BX) (eg353 : g 353 = HX) (eg355 : g 355 = X) (eg108 : g 108 = Tm) (ef96 : f 96 = n9) (ef354 : f 354 = S) (hI : FiH Fr To BX HX fr to B Hd n9 S X C) (ht0 : 0 ≤ Tm 0) (ht1 : Tm 0 ≤ 999) : CM l E MX0_gone 2 [.ref (E.1 383), .ref (E.1 127)] f g j (PI (fun r f' g' j' => (r = sm (fun x => b2i (outC fr to B Hd S C x ≤ 2 * Tm 0)) n9) ∧ eqx [] f f' ∧ eqx [] g g' ∧ j' = j)) := by
  refine CM.intro [some (.ref (E.1 383)), some (.ref (E.1 127)), none, none, none] (by decide) (Nat.le_of_ble_eq_true rfl) rfl (fun d hd h0 h hH hA => ?_)
  have hfE : eqx [] f f := eqx.rf
  have hgE : eqx [] g g := eqx.rf
  refine z_iconst (TX0_gone.at 0 rfl) ?_
  refine z_ist_2 (TX0_gone.at 1 rfl) (Nat.le_of_ble_eq_true rfl) rfl ?_
  refine z_iconst (TX0_gone.at 2 rfl) ?_
  refine z_ist_3 (TX0_gone.at 3 rfl) (Nat.le_of_ble_eq_true rfl) rfl ?_
  have hn := hI.1.2.1
  refine lp_gone3 hd hI ht0 ht1 (fun o4 f3 g3 h3 hfE hgE hH hA => ?_) 11 0 0 _ _ _ _ (by omega) (by omega) (by omega) rfl eg97 eg98 eg352 eg353 eg355 eg108 ef96 ef354 eqx.rf eqx.rf hH hA
  have hs := sm_in (p := fun x => b2i (outC fr to B Hd S C x ≤ 2 * Tm 0)) hn.1 (fun t _ _ => by have := b2i_01 (outC fr to B Hd S C t ≤ 2 * Tm 0); omega)
  refine z_ild_2 (TX0_gone.at 27 rfl) ?_
  refine zc_iret (TX0_gone.at 28 rfl) rfl hH hA (by omega) ?_
  exact ⟨rfl, hfE, hgE, rfl⟩

set_option maxHeartbeats 4000000 in
set_option maxRecDepth 100000 in
theorem lp_sprF3 {l : Launch} {E : cE} {d : Nat} {Pz : Option Value → zH → Prop} {h0 : zH} {f0 : mF} {g0 : mA} {j : mA} (hd : 1 ≤ d) {X : Int → Int} {q : Int} (hq : z31 q) (kx : ∀ (f : mF) (g : mA) (h : zH), g 355 = cpF X (nC (src q)) 0 8 → eqx [] f0 f → eqx [355] g0 g → HC E f g j h → cAg E h0 h → Z l MX0_spreadFrom d 0 0 Pz 34 [some (.ref (E.1 383)), some (.ref (E.1 127)), some (vI q), some (vI 8)] [] h 0 0)  : ∀ (n : Nat) (i : Int) (f : mF) (g : mA) (h : zH) (i0 : 0 ≤ i) (i1 : i ≤ 8) (i2 : 8 < i + n) (eg355 : g 355 = cpF X (nC (src q)) 0 i) (hfE : eqx [] f0 f) (hgE : eqx [355] g0 g) (hH : HC E f g j h) (hA : cAg E h0 h), Z l MX0_spreadFrom d 0 0 Pz 2 [some (.ref (E.1 383)), some (.ref (E.1 127)), some (vI q), some (vI i)] [] h 0 0 := by
  intro n
  induction n with
  | zero => intro i f g h i0 i1 i2 eg355 hfE hgE hH hA; exfalso; omega
  | succ n ih =>
    intro i f g h i0 i1 i2 eg355 hfE hgE hH hA
    refine z_ild_3 (TX0_spreadFrom.at 2 rfl) ?_
    refine z_bipush (by decide) (TX0_spreadFrom.at 3 rfl) ?_
    refine z_icmp_ge (tgt := 34) (TX0_spreadFrom.at 4 rfl) rfl (by omega) (by omega) (fun c1 => ?_) (fun c1 => ?_)
    · skip
      obtain rfl : i = 8 := by omega
      exact kx _ _ _ eg355 hfE hgE hH hA
    · skip
      refine z_ald_0 (TX0_spreadFrom.at 5 rfl) ?_
      refine zc_getA (m := 11) (s := 3) (k := 355) (hH.lv (by decide)) (TX0_spreadFrom.at 6 rfl) fl0_22 hH rfl rfl (by decide) (by decide) ?_
      refine z_ild_3 (TX0_spreadFrom.at 7 rfl) ?_
      refine z_ild_2 (TX0_spreadFrom.at 8 rfl) ?_
      refine z_ild_3 (TX0_spreadFrom.at 9 rfl) ?_
      refine zs_callN2 (c_bit hq ⟨by omega, by omega⟩) (TX0_spreadFrom.at 10 rfl) c0_90 rfl (by omega) (Nat.le_of_ble_eq_true rfl) (fun r15 => ?_)
      refine z_iconst (TX0_spreadFrom.at 11 rfl) ?_
      refine z_icmp_ne (tgt := 26) (TX0_spreadFrom.at 12 rfl) rfl (by omega) (by omega) (fun c2 => ?_) (fun c2 => ?_)
      · skip
        refine z_iconst (TX0_spreadFrom.at 15 rfl) ?_
        refine zcf_iast (k := 355) (N := 8) (hH.lv (by decide)) (by decide) rfl (TX0_spreadFrom.at 16 rfl) hH hA (by decide) (by omega) (show _ < ((8 : Nat) : Int) by omega) (by omega) (fun h g27 e1 e2 hH hA => ?_)
        rw [eg355] at e2; have eg355 := e2
        have hgE := hgE.put e1 (by decide)
        refine z_iinc_3 (TX0_spreadFrom.at 17 rfl) (Nat.le_of_ble_eq_true rfl) rfl ?_
        refine z_goto (tgt := 2) (TX0_spreadFrom.at 18 rfl) rfl ?_
        exact ih (i + 1) _ _ _ (by omega) (by omega) (by omega) (eg355.trans (cpF_s i0 (by omega) (by unfold nC src; first | (rw [if_pos (show bt q i from b2y (by assumption))]; rfl) | (rw [if_neg (show ¬ bt q i from b2n (by assumption))]; rfl)))) hfE hgE hH hA
      · skip
        refine z_iconst (TX0_spreadFrom.at 13 rfl) ?_
        refine z_goto (tgt := 27) (TX0_spreadFrom.at 14 rfl) rfl ?_
        refine zcf_iast (k := 355) (N := 8) (hH.lv (by decide)) (by decide) rfl (TX0_spreadFrom.at 16 rfl) hH hA (by decide) (by omega) (show _ < ((8 : Nat) : Int) by omega) (by omega) (fun h g27 e1 e2 hH hA => ?_)
        rw [eg355] at e2; have eg355 := e2
        have hgE := hgE.put e1 (by decide)
        refine z_iinc_3 (TX0_spreadFrom.at 17 rfl) (Nat.le_of_ble_eq_true rfl) rfl ?_
        refine z_goto (tgt := 2) (TX0_spreadFrom.at 18 rfl) rfl ?_
        exact ih (i + 1) _ _ _ (by omega) (by omega) (by omega) (eg355.trans (cpF_s i0 (by omega) (by unfold nC src; first | (rw [if_pos (show bt q i from b2y (by assumption))]; rfl) | (rw [if_neg (show ¬ bt q i from b2n (by assumption))]; rfl)))) hfE hgE hH hA

set_option maxHeartbeats 4000000 in
set_option maxRecDepth 100000 in
theorem c_sprF3 {l : Launch} {E : cE} {f : mF} {g j : mA} {Fr : Int → Int} {To : Int → Int} {BX : Int → Int} {HX : Int → Int} {X : Int → Int} {n9 : Int} {S : Int} {q : Int} {fr to B Hd : Int → Int} (eg97 : g 97 = Fr) (eg98 : g 98 = To) (eg352 : g 352 = BX) (eg353 : g 353 = HX) (eg355 : g 355 = X) (ef96 : f 96 = n9) (ef354 : f 354 = S) (hq : zIn q) (hq1 : z31 q) (hT : FiT Fr To BX HX fr to B Hd n9 S) : CM l E MX0_spreadFrom 3 [.ref (E.1 383), .ref (E.1 127), vI q] f g j (PV (fun f' g' j' => (FiH Fr To BX HX fr to B Hd n9 S (g' 355) (dist fr to B Hd S n9.toNat (src q))) ∧ eqx [] f f' ∧ eqx [355] g g' ∧ j' = j)) := by
  refine CM.intro [some (.ref (E.1 383)), some (.ref (E.1 127)), some (vI q), none] (by decide) (Nat.le_of_ble_eq_true rfl) rfl (fun d hd h0 h hH hA => ?_)
  have hfE : eqx [] f f := eqx.rf
  have hgE : eqx [355] g g := eqx.rf
  have hn := hT.2.1
  refine z_iconst (TX0_spreadFrom.at 0 rfl) ?_
  refine z_ist_3 (TX0_spreadFrom.at 1 rfl) (Nat.le_of_ble_eq_true rfl) rfl ?_
  refine lp_sprF3 (by omega) hq1 (fun f2 g2 h eg355 xf xg hH hA => ?_) 9 0 _ _ _ (by omega) (by omega) (by omega) (eg355.trans (cpF_0 _ _ _).symm) eqx.rf eqx.rf hH hA
  have ef96 := (xf 96 (by decide)).trans ef96
  have ef354 := (xf 354 (by decide)).trans ef354
  have hfE := hfE.trans xf (by decide)
  have eg97 := (xg 97 (by decide)).trans eg97
  have eg98 := (xg 98 (by decide)).trans eg98
  have eg352 := (xg 352 (by decide)).trans eg352
  have eg353 := (xg 353 (by decide)).trans eg353
  have hgE := hgE.trans xg (by decide)
  have hx8 : cm8 (cpF X (nC (src q)) 0 8) (src q) := fun t h0 h7 => by unfold cpF; rw [if_pos (by omega), show t - 0 = t by omega]
  refine z_ald_0 (TX0_spreadFrom.at 19 rfl) ?_
  refine z_ald_1 (TX0_spreadFrom.at 20 rfl) ?_
  refine zc_callV1 (m := 11) (c_spread3 eg97 eg98 eg352 eg353 eg355 ef96 ef354 hT.1 (by omega) (by omega) hT.2.2.1 hT.2.2.2.1 hT.2.2.2.2 (COK_src q) hx8) (hH.lv (by decide)) (TX0_spreadFrom.at 21 rfl) c0_116 rfl rfl hH hA (by omega) (Nat.le_of_ble_eq_true rfl) (fun f36 g36 j36 h q36 hH hA => ?_)
  obtain ⟨q36, xf, xg, xj⟩ := q36
  rw [xj] at hH
  have ef96 := (xf 96 (by decide)).trans ef96
  have ef354 := (xf 354 (by decide)).trans ef354
  have hfE := hfE.trans xf (by decide)
  have eg97 := (xg 97 (by decide)).trans eg97
  have eg98 := (xg 98 (by decide)).trans eg98
  have eg352 := (xg 352 (by decide)).trans eg352
  have eg353 := (xg 353 (by decide)).trans eg353
  have hgE := hgE.trans xg (by decide)
  have qL := q36
  refine zc_vret (TX0_spreadFrom.at 22 rfl) rfl hH hA ?_
  exact ⟨hT.fire (COK_src q) qL, hfE, hgE, rfl⟩

set_option maxHeartbeats 4000000 in
set_option maxRecDepth 100000 in
theorem c_sprM3 {l : Launch} {E : cE} {f : mF} {g j : mA} {Fr : Int → Int} {To : Int → Int} {BX : Int → Int} {HX : Int → Int} {X : Int → Int} {Mt : Int → Int} {n9 : Int} {S : Int} {fr to B Hd K : Int → Int} (eg97 : g 97 = Fr) (eg98 : g 98 = To) (eg352 : g 352 = BX) (eg353 : g 353 = HX) (eg355 : g 355 = X) (eg102 : g 102 = Mt) (ef96 : f 96 = n9) (ef354 : f 354 = S) (hT : FiT Fr To BX HX fr to B Hd n9 S) (hM : ∀ k : Int, 0 ≤ k → k ≤ 7 → Mt k = K (20 + k)) (hK : ∀ k, 0 ≤ k → k ≤ 7 → -1 ≤ K (20 + k) ∧ K (20 + k) ≤ 999) : CM l E MX0_spreadFromMatches 3 [.ref (E.1 383), .ref (E.1 127)] f g j (PV (fun f' g' j' => (FiH Fr To BX HX fr to B Hd n9 S (g' 355) (dist fr to B Hd S n9.toNat (lit K))) ∧ eqx [] f f' ∧ eqx [355] g g' ∧ j' = j)) := by
  refine CM.intro [some (.ref (E.1 383)), some (.ref (E.1 127))] (by decide) (Nat.le_of_ble_eq_true rfl) rfl (fun d hd h0 h hH hA => ?_)
  have hfE : eqx [] f f := eqx.rf
  have hgE : eqx [355] g g := eqx.rf
  have hn := hT.2.1
  have hx8 : cm8 (cpy X Mt 0 0 8) (lit K) := fun t h0 h7 => by
    have a := hK t h0 h7
    unfold cpy nC lit
    rw [if_pos (by omega), show t - 0 + 0 = t by omega, hM t h0 h7]
    by_cases e : K (20 + t) = -1
    · rw [if_pos e, if_pos rfl, e]
    · rw [if_neg e, if_neg (by omega)]
  refine z_ald_1 (TX0_spreadFromMatches.at 0 rfl) ?_
  refine zc_getA (m := 3) (s := 6) (k := 102) (hH.lv (by decide)) (TX0_spreadFromMatches.at 1 rfl) fl0_107 hH rfl rfl (by decide) (by decide) ?_
  refine z_iconst (TX0_spreadFromMatches.at 2 rfl) ?_
  refine z_ald_0 (TX0_spreadFromMatches.at 3 rfl) ?_
  refine zc_getA (m := 11) (s := 3) (k := 355) (hH.lv (by decide)) (TX0_spreadFromMatches.at 4 rfl) fl0_22 hH rfl rfl (by decide) (by decide) ?_
  refine z_iconst (TX0_spreadFromMatches.at 5 rfl) ?_
  refine z_bipush (by decide) (TX0_spreadFromMatches.at 6 rfl) ?_
  refine zcf_copy (ks := 102) (kd := 355) (Ns := 8) (Nd := 8) (hH.lv (by decide)) (hH.lv (by decide)) (by decide) (by decide) rfl rfl eg102 (TX0_spreadFromMatches.at 7 rfl) cp0_110 hH hA (by decide) (by decide) (by omega) (by omega) (by omega) (show _ ≤ ((8 : Nat) : Int) by omega) (show _ ≤ ((8 : Nat) : Int) by omega) (by omega) (fun h g12 e1 e2 hH hA => ?_)
  have eg97 := (e1 97 (by decide)).trans eg97
  have eg98 := (e1 98 (by decide)).trans eg98
  have eg352 := (e1 352 (by decide)).trans eg352
  have eg353 := (e1 353 (by decide)).trans eg353
  rw [eg355] at e2; have eg355 := e2
  have eg102 := (e1 102 (by decide)).trans eg102
  have hgE := hgE.put e1 (by decide)
  refine z_ald_0 (TX0_spreadFromMatches.at 8 rfl) ?_
  refine z_ald_1 (TX0_spreadFromMatches.at 9 rfl) ?_
  refine zc_callV1 (m := 11) (c_spread3 eg97 eg98 eg352 eg353 eg355 ef96 ef354 hT.1 (by omega) (by omega) hT.2.2.1 hT.2.2.2.1 hT.2.2.2.2 (COK_lit hK) hx8) (hH.lv (by decide)) (TX0_spreadFromMatches.at 10 rfl) c0_116 rfl rfl hH hA (by omega) (Nat.le_of_ble_eq_true rfl) (fun f17 g17 j17 h q17 hH hA => ?_)
  obtain ⟨q17, xf, xg, xj⟩ := q17
  rw [xj] at hH
  have ef96 := (xf 96 (by decide)).trans ef96
  have ef354 := (xf 354 (by decide)).trans ef354
  have hfE := hfE.trans xf (by decide)
  have eg97 := (xg 97 (by decide)).trans eg97
  have eg98 := (xg 98 (by decide)).trans eg98
  have eg352 := (xg 352 (by decide)).trans eg352
  have eg353 := (xg 353 (by decide)).trans eg353
  have eg102 := (xg 102 (by decide)).trans eg102
  have hgE := hgE.trans xg (by decide)
  have qL := q17
  refine zc_vret (TX0_spreadFromMatches.at 11 rfl) rfl hH hA ?_
  exact ⟨hT.fire (COK_lit hK) qL, hfE, hgE, rfl⟩

