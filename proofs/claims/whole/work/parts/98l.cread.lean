/-! ===== the class: a text is read ===== -/
section AV
variable {lw : Bool} {c v : Int → Int}
def advC (c : Int → Int) (t : Nat) (r : Except Nat (Nat × Nat × Cla)) : Prop := match r with
  | .error e => t ≤ e ∧ nz c t e
  | .ok (t', _, _) => t < t' ∧ nz c t t'
theorem adv_fin {t0 t p : Nat} {vb tm : Int} {d1 d2 : Den} (h1 : t0 < t) (h2 : nz c t0 t) : advC c t0 (finC lw c v vb d1 d2 tm t p) := by
  unfold finC pIf
  by_cases h : c t = 4
  · rw [if_pos h]
    have a := Adv_test lw c v 8 (t + 1) p
    cases hg : pTestD lw c v 8 (t + 1) p with
    | error e =>
      rw [hg] at a
      exact ⟨by have := a.1; omega, nz_t h2 (nz_1 (by omega) a.2)⟩
    | ok r =>
      obtain ⟨t', p', k⟩ := r
      rw [hg] at a
      exact ⟨by have : t + 1 < t' := a.1; omega, nz_t h2 (nz_1 (by omega) a.2)⟩
  · rw [if_neg h]
    exact ⟨h1, h2⟩
theorem adv_tim {t0 t p : Nat} {vb : Int} {d1 d2 : Den} (h1 : t0 < t) (h2 : nz c t0 t) : advC c t0 (timC lw c v vb d1 d2 t p) := by
  unfold timC
  by_cases h : c t = 27
  · rw [if_pos h]
    have n1 : nz c t0 (t + 1) := nz_s h2 (by omega)
    by_cases h3 : c (t + 1) = 50 ∧ 1 ≤ v (t + 1) ∧ v (t + 1) ≤ 20
    · rw [if_pos h3]
      exact adv_fin (by omega) (nz_s n1 (by have := h3.1; rw [show ((t + 1 : Nat) : Int) = (t : Int) + 1 by omega]; omega))
    · rw [if_neg h3]
      exact ⟨by omega, n1⟩
  · rw [if_neg h]
    exact adv_fin h1 h2
theorem adv_cla {t p : Nat} : advC c t (pCla lw c v t p) := by
  by_cases hv : vbR lw (c t)
  · have n1 : nz c t (t + 1) := nz_s nz_rf (by unfold vbR at hv; split at hv <;> omega)
    have a := Adv_sum lw c v 8 (t + 1) p
    cases lw with
    | true =>
      unfold vbR at hv
      rw [if_pos rfl] at hv
      by_cases h3 : c t = 3
      · rw [cl_3 h3]; exact adv_fin (by omega) n1
      · rw [cl_1 (by omega)]
        cases hg : pSumD true c v 8 (t + 1) p with
        | error e => rw [hg] at a; exact ⟨by have := a.1; omega, nz_t n1 a.2⟩
        | ok r =>
          obtain ⟨t', p', k⟩ := r
          rw [hg] at a
          exact adv_fin (by have : t + 1 < t' := a.1; omega) (nz_t n1 a.2)
    | false =>
      unfold vbR at hv
      rw [if_neg (by decide)] at hv
      by_cases h26 : c t = 26
      · rw [cl_26 h26]; exact adv_tim (by omega) n1
      · by_cases h24 : c t = 24
        · rw [cl_24 h24]
          cases hg : pSumD false c v 8 (t + 1) p with
          | error e => rw [hg] at a; exact ⟨by have := a.1; omega, nz_t n1 a.2⟩
          | ok r =>
            obtain ⟨t', p', k⟩ := r
            rw [hg] at a
            have a1 : t + 1 < t' := a.1
            have a2 : nz c t t' := nz_t n1 a.2
            show advC c t (if c t' = 25 then _ else _)
            by_cases h25 : c t' = 25
            · rw [if_pos h25]
              have b := Adv_sum false c v 8 (t' + 1) p'
              cases hg2 : pSumD false c v 8 (t' + 1) p' with
              | error e => rw [hg2] at b; exact ⟨by have := b.1; omega, nz_t a2 (nz_1 (by omega) b.2)⟩
              | ok r =>
                obtain ⟨t2, p2, k2⟩ := r
                rw [hg2] at b
                exact adv_tim (by have : t' + 1 < t2 := b.1; omega) (nz_t a2 (nz_1 (by omega) b.2))
            · rw [if_neg h25]; exact ⟨by omega, a2⟩
        · rw [cl_22 (by omega)]
          cases hg : pSumD false c v 8 (t + 1) p with
          | error e => rw [hg] at a; exact ⟨by have := a.1; omega, nz_t n1 a.2⟩
          | ok r =>
            obtain ⟨t', p', k⟩ := r
            rw [hg] at a
            exact adv_tim (by have : t + 1 < t' := a.1; omega) (nz_t n1 a.2)
  · rw [cl_er hv]; exact ⟨Nat.le_refl _, nz_rf⟩
theorem adv_text {n : Nat} : ∀ (m t p e : Nat), pText lw c v n m t p = .error e → t ≤ e ∧ nz c t e := by
  intro m
  induction m with
  | zero => intro t p e h; cases h; exact ⟨Nat.le_refl _, nz_rf⟩
  | succ m ih =>
    intro t p e h
    have a := adv_cla (lw := lw) (c := c) (v := v) (t := t) (p := p)
    simp only [pText] at h
    cases hg : pCla lw c v t p with
    | error e2 => rw [hg] at a h; cases h; exact a
    | ok r =>
      obtain ⟨t', p', k⟩ := r
      rw [hg] at a h
      have a1 : t < t' := a.1
      have a2 : nz c t t' := a.2
      simp only at h
      by_cases h9 : c t' = 159
      · rw [if_pos h9] at h
        cases hg2 : pText lw c v n m (t' + 1) p' with
        | error e2 =>
          rw [hg2] at h
          cases h
          have b := ih _ _ _ hg2
          exact ⟨by omega, nz_t a2 (nz_1 (by omega) b.2)⟩
        | ok l => rw [hg2] at h; cases h
      · rw [if_neg h9] at h
        by_cases hn : t' < n
        · rw [if_pos hn] at h; cases h; exact ⟨by omega, a2⟩
        · rw [if_neg hn] at h; cases h
def preL (l0 : List Cla) (R : Except Nat (List Cla)) : Except Nat (List Cla) := match R with
  | .error e => .error e
  | .ok l => .ok (l0 ++ l)
variable {l0 : List Cla} {n m t p t' p' e : Nat} {k : Cla}
theorem preL_e (h : pCla lw c v t p = .error e) : preL l0 (pText lw c v n (m + 1) t p) = .error e := by
  simp only [pText]; rw [h]; rfl
theorem preL_n (h : pCla lw c v t p = .ok (t', p', k)) (h9 : c t' = 159) : preL l0 (pText lw c v n (m + 1) t p) = preL (l0 ++ [k]) (pText lw c v n m (t' + 1) p') := by
  simp only [pText]; rw [h]; simp only; rw [if_pos h9]
  cases pText lw c v n m (t' + 1) p' with
  | error e => rfl
  | ok l => show Except.ok (l0 ++ k :: l) = Except.ok ((l0 ++ [k]) ++ l); rw [List.append_assoc]; rfl
theorem preL_x (h : pCla lw c v t p = .ok (t', p', k)) (h9 : c t' ≠ 159) (hn : t' < n) : preL l0 (pText lw c v n (m + 1) t p) = .error t' := by
  simp only [pText]; rw [h]; simp only; rw [if_neg h9, if_pos hn]; rfl
theorem preL_f (h : pCla lw c v t p = .ok (t', p', k)) (h9 : c t' ≠ 159) (hn : ¬ t' < n) : preL l0 (pText lw c v n (m + 1) t p) = .ok (l0 ++ [k]) := by
  simp only [pText]; rw [h]; simp only; rw [if_neg h9, if_neg hn]; rfl
end AV
def RdR (lw : Bool) (Vb Tm On Ot Te C : Int → Int) (N ag : Int) (cl : List Cla) : Prop := ∀ (i : Nat) (k : Cla), cl[i]? = some k → CLz Vb Tm On Ot Te C N i k ∧ (ag = 0 → NgC k) ∧ vbR lw k.1
def RdQ (Pl : Int → Int) (lw : Bool) (R : Except Nat (List Cla)) (f' : mF) (g' : mA) : Prop := match R with
  | .error e => f' 289 = Pl e
  | .ok cl => f' 289 = -1 ∧ f' 416 = (cl.length : Int) ∧ (0 ≤ f' 417 ∧ f' 417 ≤ 400) ∧ in01 (f' 418) ∧ RdR lw (g' 419) (g' 420) (g' 421) (g' 422) (g' 423) (g' 424) (f' 417) (f' 418) cl
theorem RdR.s {lw : Bool} {Vb Tm On Ot Te C Vb2 Tm2 On2 Ot2 Te2 C2 : Int → Int} {N ag N2 ag2 : Int} {l0 : List Cla} {k : Cla} {cc : Int} (h : RdR lw Vb Tm On Ot Te C N ag l0) (hcc : cc = (l0.length : Int)) (hr : Rw5 cc Vb Tm On Ot Te Vb2 Tm2 On2 Ot2 Te2) (hC : ∀ q : Int, q < N → C2 q = C q) (hN : N ≤ N2) (ha : in01 ag) (hag : ag = 1 → ag2 = 1) (hk : CLz Vb2 Tm2 On2 Ot2 Te2 C2 N2 cc k) (hng : ag2 = 0 → NgC k) (hvb : vbR lw k.1) : RdR lw Vb2 Tm2 On2 Ot2 Te2 C2 N2 ag2 (l0 ++ [k]) := by
  intro i q hq
  by_cases hi : i < l0.length
  · rw [List.getElem?_append_left hi] at hq
    obtain ⟨a, b, cx⟩ := h i q hq
    exact ⟨a.keep (by omega) hr hC hN, fun z => b (by rcases ha with w | w; exact w; exact absurd (hag w) (by omega)), cx⟩
  · rw [List.getElem?_append_right (by omega)] at hq
    have hi2 : i = l0.length := by
      by_cases z : i - l0.length = 0
      · omega
      · rw [List.getElem?_eq_none (by simp only [List.length_cons, List.length_nil]; omega)] at hq; cases hq
    subst hi2
    rw [Nat.sub_self] at hq
    cases hq
    rw [← hcc]
    exact ⟨hk, hng, hvb⟩
set_option maxHeartbeats 4000000 in
set_option maxRecDepth 100000 in
theorem dd_rd82 {l : Launch} {E : cE} {d : Nat} {Pz : Option Value → zH → Prop} {h0 h : zH} {f0 f : mF} {g0 g j : mA} {lf i tk fl ag : Int} {Qx : mF → mA → Prop} (hd : 38 ≤ d) (hS : DdS tk fl ag f) (i0 : 0 ≤ i) (i1 : i ≤ 12) (hQ : ∀ f' g', f' 289 = fl → Qx f' g') (ePz : Pz = CP E h0 (PV (fun f' g' j' => Qx f' g' ∧ eqx [289, 293, 294, 295, 296, 416, 417, 418] f0 f' ∧ eqx [290, 291, 292, 419, 420, 421, 422, 423, 424] g0 g' ∧ j' = j)))  (hfE : eqx [289, 293, 294, 295, 296, 416, 417, 418] f0 f) (hgE : eqx [290, 291, 292, 419, 420, 421, 422, 423, 424] g0 g) (hH : HC E f g j h) (hA : cAg E h0 h) : Z l MX3_read d 0 0 Pz 82 [some (.ref (E.1 319)), some (.ref (E.1 287)), some (vI lf), some (vI i)] [] h 0 0 := by
  subst ePz
  have s1 := hS.1
  have s2 := hS.2.1
  have s3 := hS.2.2.1
  have s4 := hS.2.2.2.1
  have s5 := hS.2.2.2.2.1
  have s8 := hS.2.2.2.2.2.2.2.1
  have s9 := hS.2.2.2.2.2.2.2.2
  refine z_iinc_3 (TX3_read.at 45 rfl) (Nat.le_of_ble_eq_true rfl) rfl ?_
  refine z_goto (tgt := 34) (TX3_read.at 46 rfl) rfl ?_
  refine z_ild_3 (TX3_read.at 20 rfl) ?_
  refine z_bipush (by decide) (TX3_read.at 21 rfl) ?_
  refine z_icmp_gt (tgt := 88) (TX3_read.at 22 rfl) rfl (by omega) (by omega) (fun c1 => ?_) (fun c1 => ?_)
  · skip
    refine zc_vret (TX3_read.at 47 rfl) rfl hH hA ?_
    exact ⟨hQ _ _ hS.2.2.2.2.2.2.2.1, hfE, hgE, rfl⟩
  · skip
    refine z_ald_0 (TX3_read.at 23 rfl) ?_
    refine zc_getI (m := 9) (s := 1) (k := 289) (hH.lv (by decide)) (TX3_read.at 24 rfl) fl3_20 hH rfl rfl (by decide) (by decide) (fun r41 => ?_)
    refine z_iconst (TX3_read.at 25 rfl) ?_
    refine z_icmp_ne (tgt := 88) (TX3_read.at 26 rfl) rfl (by omega) (by omega) (fun c2 => ?_) (fun c2 => absurd c2 (by omega))
    refine zc_vret (TX3_read.at 47 rfl) rfl hH hA ?_
    exact ⟨hQ _ _ hS.2.2.2.2.2.2.2.1, hfE, hgE, rfl⟩

set_option maxHeartbeats 4000000 in
set_option maxRecDepth 100000 in
theorem dd_rd63 {l : Launch} {E : cE} {d : Nat} {Pz : Option Value → zH → Prop} {h0 h : zH} {f0 f : mF} {g0 g j : mA} {lf i tk fl ag : Int} {Qx : mF → mA → Prop} (hd : 38 ≤ d) (hS : DdS tk fl ag f) (i0 : 0 ≤ i) (i1 : i ≤ 12) (hQ : ∀ f' g', f' 289 = fl → Qx f' g') (ePz : Pz = CP E h0 (PV (fun f' g' j' => Qx f' g' ∧ eqx [289, 293, 294, 295, 296, 416, 417, 418] f0 f' ∧ eqx [290, 291, 292, 419, 420, 421, 422, 423, 424] g0 g' ∧ j' = j)))  (hfE : eqx [289, 293, 294, 295, 296, 416, 417, 418] f0 f) (hgE : eqx [290, 291, 292, 419, 420, 421, 422, 423, 424] g0 g) (hH : HC E f g j h) (hA : cAg E h0 h) : Z l MX3_read d 0 0 Pz 63 [some (.ref (E.1 319)), some (.ref (E.1 287)), some (vI lf), some (vI i)] [] h 0 0 := by
  subst ePz
  have s1 := hS.1
  have s2 := hS.2.1
  have s3 := hS.2.2.1
  have s4 := hS.2.2.2.1
  have s5 := hS.2.2.2.2.1
  have s8 := hS.2.2.2.2.2.2.2.1
  have s9 := hS.2.2.2.2.2.2.2.2
  refine z_ald_0 (TX3_read.at 35 rfl) ?_
  refine zc_getA (m := 9) (s := 2) (k := 290) (hH.lv (by decide)) (TX3_read.at 36 rfl) fl3_24 hH rfl rfl (by decide) (by decide) ?_
  refine z_ald_0 (TX3_read.at 37 rfl) ?_
  refine zc_getI (m := 9) (s := 6) (k := 294) (hH.lv (by decide)) (TX3_read.at 38 rfl) fl3_37 hH rfl rfl (by decide) (by decide) (fun r68 => ?_)
  refine zcf_iald (k := 290) (N := 401) (hH.lv (by decide)) (by decide) rfl rfl (TX3_read.at 39 rfl) hH (by decide) (by omega) (show _ < ((401 : Nat) : Int) by omega) (fun r71 => ?_)
  refine z_if_ne (tgt := 76) (TX3_read.at 40 rfl) rfl (by omega) (fun c1 => ?_) (fun c1 => ?_)
  · skip
    refine z_ald_0 (TX3_read.at 42 rfl) ?_
    refine z_bipush (by decide) (TX3_read.at 43 rfl) ?_
    refine zc_callV1 (m := 9) (c_take rfl rfl rfl rfl rfl rfl (by omega) (by omega) (by omega) (by omega) (by omega) ) (hH.lv (by decide)) (TX3_read.at 44 rfl) c3_60 rfl rfl hH hA (by omega) (Nat.le_of_ble_eq_true rfl) (fun f79 g79 j79 h q79 hH hA => ?_)
    obtain ⟨q79, xf, xg, xj⟩ := q79
    rw [xj] at hH
    have hfE := hfE.trans xf (by decide)
    have hgE := hgE.trans xg (by decide)
    have qL := q79
    have hS := hS.c xf qL.1 qL.2
    have s1 := hS.1
    have s2 := hS.2.1
    have s3 := hS.2.2.1
    have s4 := hS.2.2.2.1
    have s5 := hS.2.2.2.2.1
    have s8 := hS.2.2.2.2.2.2.2.1
    have s9 := hS.2.2.2.2.2.2.2.2
    exact dd_rd82 (lf := lf) (i := i) hd hS i0 i1 hQ rfl hfE hgE hH hA
  · skip
    refine zc_vret (TX3_read.at 41 rfl) rfl hH hA ?_
    exact ⟨hQ _ _ hS.2.2.2.2.2.2.2.1, hfE, hgE, rfl⟩

set_option maxHeartbeats 4000000 in
set_option maxRecDepth 100000 in
theorem lp_read_true {l : Launch} {E : cE} {d : Nat} {Pz : Option Value → zH → Prop} {h0 : zH} {f0 : mF} {g0 : mA} {j : mA} (hd : 38 ≤ d) {tk : Int} {Kd Vl Pl c v : Int → Int} {nn : Nat} {R0 : Except Nat (List Cla)} {Qx : mF → mA → Prop} (hk : TkH Kd Vl Pl tk c v) (etk : tk = (nn : Int) + 1) (hz : ∀ i : Int, 0 ≤ i → i < tk → (Kd i = 0 ↔ i = (nn : Int))) (hQ : ∀ f' g', RdQ Pl true R0 f' g' → Qx f' g') (ePz : Pz = CP E h0 (PV (fun f' g' j' => Qx f' g' ∧ eqx [289, 293, 294, 295, 296, 416, 417, 418] f0 f' ∧ eqx [290, 291, 292, 419, 420, 421, 422, 423, 424] g0 g' ∧ j' = j)))  : ∀ (n : Nat) (iN : Nat) (t : Nat) (p : Nat) (i : Int) (N : Int) (ag : Int) (Vb : Int → Int) (Tm : Int → Int) (On : Int → Int) (Ot : Int → Int) (Te : Int → Int) (C : Int → Int) (l0 : List Cla) (f : mF) (g : mA) (h : zH) (ci : i = (iN : Int)) (i1 : i ≤ 12) (i2 : 12 < i + n) (hl : l0.length = iN) (hr : RdR true Vb Tm On Ot Te C N ag l0) (hT : R0 = preL l0 (pText true c v nn (12 - iN) t p)) (t1 : (t : Int) < tk) (p1 : p ≤ 50) (hN : 0 ≤ N ∧ N ≤ t) (ha : in01 ag) (eg290 : g 290 = Kd) (eg291 : g 291 = Vl) (eg292 : g 292 = Pl) (eg419 : g 419 = Vb) (eg420 : g 420 = Tm) (eg421 : g 421 = On) (eg422 : g 422 = Ot) (eg423 : g 423 = Te) (eg424 : g 424 = C) (ef289 : f 289 = (-1)) (ef293 : f 293 = tk) (ef294 : f 294 = (t : Int)) (ef295 : f 295 = (p : Int)) (ef296 : f 296 = 1) (ef416 : f 416 = i) (ef417 : f 417 = N) (ef418 : f 418 = ag) (hfE : eqx [289, 293, 294, 295, 296, 416, 417, 418] f0 f) (hgE : eqx [290, 291, 292, 419, 420, 421, 422, 423, 424] g0 g) (hH : HC E f g j h) (hA : cAg E h0 h), Z l MX3_read d 0 0 Pz 34 [some (.ref (E.1 319)), some (.ref (E.1 287)), some (vI 1), some (vI i)] [] h 0 0 := by
  subst ePz
  intro n
  induction n with
  | zero => intro iN t p i N ag Vb Tm On Ot Te C l0 f g h ci i1 i2 hl hr hT t1 p1 hN ha eg290 eg291 eg292 eg419 eg420 eg421 eg422 eg423 eg424 ef289 ef293 ef294 ef295 ef296 ef416 ef417 ef418 hfE hgE hH hA; exfalso; omega
  | succ n ih =>
    intro iN t p i N ag Vb Tm On Ot Te C l0 f g h ci i1 i2 hl hr hT t1 p1 hN ha eg290 eg291 eg292 eg419 eg420 eg421 eg422 eg423 eg424 ef289 ef293 ef294 ef295 ef296 ef416 ef417 ef418 hfE hgE hH hA
    have htk := hk.1
    have hp0 := (hk.2.1 t (by omega) t1).2
    refine z_ild_3 (TX3_read.at 20 rfl) ?_
    refine z_bipush (by decide) (TX3_read.at 21 rfl) ?_
    refine z_icmp_gt (tgt := 88) (TX3_read.at 22 rfl) rfl (by omega) (by omega) (fun c1 => absurd c1 (by omega)) (fun c1 => ?_)
    refine z_ald_0 (TX3_read.at 23 rfl) ?_
    refine zc_getIE (m := 9) (s := 1) (k := 289) (hH.lv (by decide)) ef289 (TX3_read.at 24 rfl) fl3_20 hH rfl rfl (by decide) (by decide) (fun r41 => ?_)
    refine z_iconst (TX3_read.at 25 rfl) ?_
    refine z_icmp_ne (tgt := 88) (TX3_read.at 26 rfl) rfl (by omega) (by omega) (fun c2 => absurd c2 (by decide)) (fun c2 => ?_)
    refine z_ild_3 (TX3_read.at 27 rfl) ?_
    refine z_bipush (by decide) (TX3_read.at 28 rfl) ?_
    refine z_icmp_ne (tgt := 59) (TX3_read.at 29 rfl) rfl (by omega) (by omega) (fun c3 => ?_) (fun c3 => ?_)
    · skip
      refine z_ald_0 (TX3_read.at 33 rfl) ?_
      refine zc_callV0 (m := 9) (v_clause_true eg290 eg291 eg292 eg419 eg420 eg421 eg422 eg423 eg424 ef289 ef293 ef294 ef295 ef296 ef416 ef417 ef418 hk t1 p1 hN ha (by omega) (by omega)) (hH.lv (by decide)) (TX3_read.at 34 rfl) c3_57 rfl rfl hH hA (by omega) (Nat.le_of_ble_eq_true rfl) (fun f60 g60 j60 h q60 hH hA => ?_)
      obtain ⟨q60, xf, xg, xj⟩ := q60
      rw [xj] at hH
      have ef293 := (xf 293 (by decide)).trans ef293
      have ef296 := (xf 296 (by decide)).trans ef296
      have hfE := hfE.trans xf (by decide)
      have eg290 := (xg 290 (by decide)).trans eg290
      have eg291 := (xg 291 (by decide)).trans eg291
      have eg292 := (xg 292 (by decide)).trans eg292
      have hgE := hgE.trans xg (by decide)
      have qL := q60
      have hcq := qL
      rcases hs : pCla true c v t p with e | r
      · rw [hs] at hcq
        exact dd_rd63 (lf := 1) (i := i) hd (show DdS tk (Pl e) ag _ from hcq) (by omega) (by omega) (fun f' g' hX => hQ _ _ (by rw [hT, show 12 - iN = (11 - iN) + 1 by omega, preL_e hs]; exact hX)) rfl hfE hgE hH hA
      obtain ⟨t2, p2, k1⟩ := r
      rw [hs] at hcq
      obtain ⟨w1, w2, w3, w4, w5, w6, w7, w8, w9, w10, w11, w12, w13, w14, w15, w16⟩ := hcq
      have ef289 := w1
      have ef293 := w2
      have ef294 := w3
      have ef295 := w4
      have ef416 := w12
      obtain ⟨N2, ef417⟩ : ∃ z, f60 417 = z := ⟨_, rfl⟩
      obtain ⟨ag2, ef418⟩ : ∃ z, f60 418 = z := ⟨_, rfl⟩
      obtain ⟨Vb2, eg419⟩ : ∃ z, g60 419 = z := ⟨_, rfl⟩
      obtain ⟨Tm2, eg420⟩ : ∃ z, g60 420 = z := ⟨_, rfl⟩
      obtain ⟨On2, eg421⟩ : ∃ z, g60 421 = z := ⟨_, rfl⟩
      obtain ⟨Ot2, eg422⟩ : ∃ z, g60 422 = z := ⟨_, rfl⟩
      obtain ⟨Te2, eg423⟩ : ∃ z, g60 423 = z := ⟨_, rfl⟩
      obtain ⟨C2, eg424⟩ : ∃ z, g60 424 = z := ⟨_, rfl⟩
      rw [ef417] at w7 w8 w14
      rw [ef418] at w9 w10 w15
      rw [eg424] at w11 w14
      rw [eg419, eg420, eg421, eg422, eg423] at w13 w14
      have hrs := RdR.s hr (show i = (l0.length : Int) by omega) w13 w11 w7 ha w10 w14 w15 w16
      have h2k := hk.2.1 t2 (by omega) w5
      have h2z := hz t2 (by omega) w5
      refine z_ald_0 (TX3_read.at 35 rfl) ?_
      refine zc_getA (m := 9) (s := 2) (k := 290) (hH.lv (by decide)) (TX3_read.at 36 rfl) fl3_24 hH rfl rfl (by decide) (by decide) ?_
      refine z_ald_0 (TX3_read.at 37 rfl) ?_
      refine zc_getIE (m := 9) (s := 6) (k := 294) (hH.lv (by decide)) ef294 (TX3_read.at 38 rfl) fl3_37 hH rfl rfl (by decide) (by decide) (fun r68 => ?_)
      refine zcf_iald (k := 290) (N := 401) (hH.lv (by decide)) (by decide) rfl eg290 (TX3_read.at 39 rfl) hH (by decide) (by omega) (show _ < ((401 : Nat) : Int) by omega) (fun r71 => ?_)
      refine z_if_ne (tgt := 76) (TX3_read.at 40 rfl) rfl (by omega) (fun c4 => ?_) (fun c4 => ?_)
      · skip
        refine z_ald_0 (TX3_read.at 42 rfl) ?_
        refine z_bipush (by decide) (TX3_read.at 43 rfl) ?_
        refine zc_callV1 (m := 9) (c_take eg290 eg291 eg292 ef289 ef293 ef294 (by omega) (by omega) (by omega) (by omega) (by omega) ) (hH.lv (by decide)) (TX3_read.at 44 rfl) c3_60 rfl rfl hH hA (by omega) (Nat.le_of_ble_eq_true rfl) (fun f79 g79 j79 h q79 hH hA => ?_)
        obtain ⟨q79, xf, xg, xj⟩ := q79
        rw [xj] at hH
        have ef293 := (xf 293 (by decide)).trans ef293
        have ef295 := (xf 295 (by decide)).trans ef295
        have ef296 := (xf 296 (by decide)).trans ef296
        have ef416 := (xf 416 (by decide)).trans ef416
        have ef417 := (xf 417 (by decide)).trans ef417
        have ef418 := (xf 418 (by decide)).trans ef418
        have hfE := hfE.trans xf (by decide)
        have eg290 := (xg 290 (by decide)).trans eg290
        have eg291 := (xg 291 (by decide)).trans eg291
        have eg292 := (xg 292 (by decide)).trans eg292
        have eg419 := (xg 419 (by decide)).trans eg419
        have eg420 := (xg 420 (by decide)).trans eg420
        have eg421 := (xg 421 (by decide)).trans eg421
        have eg422 := (xg 422 (by decide)).trans eg422
        have eg423 := (xg 423 (by decide)).trans eg423
        have eg424 := (xg 424 (by decide)).trans eg424
        have hgE := hgE.trans xg (by decide)
        have qL := q79
        have hsg := tk_sg (s := 59) h2k.1 (by decide)
        obtain ⟨q5, q6⟩ := qL
        clear q79
        by_cases h9 : c t2 = 159
        case neg =>
          rw [if_neg (fun q => h9 (hsg.mp q))] at q5 q6
          have e7 := q5.trans (if_pos rfl)
          clear q5 hsg
          have hlt : t2 < nn := by
            have z2 : (t2 : Int) ≠ nn := fun q => absurd (h2z.mpr q) (by assumption)
            omega
          clear h2z
          exact dd_rd82 (lf := 1) (i := i) hd (mkD ef293 q6 ef295 ef417 ef418 e7 htk (by omega) (by omega) (by omega) w9 w10 (by have := h2k.2; omega)) (by omega) (by omega) (fun f' g' hX => hQ _ _ (by rw [hT, show 12 - iN = (11 - iN) + 1 by omega, preL_x hs h9 hlt]; exact hX)) rfl hfE hgE hH hA
        rw [if_pos (hsg.mpr h9)] at q5 q6
        clear h2z hsg
        have ef289 := q5
        have hgo := hk.go (i := t2) w5 (by omega)
        have ef294 := q6.trans hgo.1
        clear q5 q6
        have t3 := hgo.2
        refine z_iinc_3 (TX3_read.at 45 rfl) (Nat.le_of_ble_eq_true rfl) rfl ?_
        refine z_goto (tgt := 34) (TX3_read.at 46 rfl) rfl ?_
        exact ih (iN + 1) (t2 + 1) p2 _ _ _ _ _ _ _ _ _ (l0 ++ [k1]) _ _ _ (by omega) (by omega) (by omega) (by rw [List.length_append]; simp only [List.length_cons, List.length_nil]; omega) hrs (by rw [hT, show 12 - iN = (11 - iN) + 1 by omega, preL_n hs h9, show 12 - (iN + 1) = 11 - iN by omega]) (by omega) w6 (by omega) w9 eg290 eg291 eg292 eg419 eg420 eg421 eg422 eg423 eg424 ef289 ef293 (ef294.trans (by omega)) ef295 ef296 (ef416.trans (by omega)) ef417 ef418 hfE hgE hH hA
      · skip
        refine zc_vret (TX3_read.at 41 rfl) rfl hH hA ?_
        exact ⟨hQ _ _ (by rw [hT, show 12 - iN = (11 - iN) + 1 by omega, preL_f hs (by have h5 := h2k.1; unfold TkA at h5; clear h2z; omega) (by have := h2z.mp (by assumption); clear h2z; omega)]; exact ⟨ef289, by rw [List.length_append, ef416]; simp only [List.length_cons, List.length_nil]; omega, by rw [ef417]; omega, by rw [ef418]; exact w9, by rw [eg419, eg420, eg421, eg422, eg423, eg424, ef417, ef418]; exact hrs⟩), hfE, hgE, rfl⟩
    · skip
      refine z_ald_0 (TX3_read.at 30 rfl) ?_
      refine zc_callV0 (m := 9) (c_fail eg292 ef289 ef294 (by omega) (by omega) ) (hH.lv (by decide)) (TX3_read.at 31 rfl) c3_54 rfl rfl hH hA (by omega) (Nat.le_of_ble_eq_true rfl) (fun f55 g55 j55 h q55 hH hA => ?_)
      obtain ⟨q55, xf, xg, xj⟩ := q55
      rw [xj] at hH
      have ef293 := (xf 293 (by decide)).trans ef293
      have ef294 := (xf 294 (by decide)).trans ef294
      have ef295 := (xf 295 (by decide)).trans ef295
      have ef296 := (xf 296 (by decide)).trans ef296
      have ef416 := (xf 416 (by decide)).trans ef416
      have ef417 := (xf 417 (by decide)).trans ef417
      have ef418 := (xf 418 (by decide)).trans ef418
      have hfE := hfE.trans xf (by decide)
      have eg290 := (xg 290 (by decide)).trans eg290
      have eg291 := (xg 291 (by decide)).trans eg291
      have eg292 := (xg 292 (by decide)).trans eg292
      have eg419 := (xg 419 (by decide)).trans eg419
      have eg420 := (xg 420 (by decide)).trans eg420
      have eg421 := (xg 421 (by decide)).trans eg421
      have eg422 := (xg 422 (by decide)).trans eg422
      have eg423 := (xg 423 (by decide)).trans eg423
      have eg424 := (xg 424 (by decide)).trans eg424
      have hgE := hgE.trans xg (by decide)
      have qL := q55
      have ef289 := qL.trans (if_pos rfl)
      refine zc_vret (TX3_read.at 32 rfl) rfl hH hA ?_
      exact ⟨hQ _ _ (by rw [hT, show 12 - iN = 0 by omega]; exact ef289), hfE, hgE, rfl⟩

set_option maxHeartbeats 4000000 in
set_option maxRecDepth 100000 in
theorem lp_read_false {l : Launch} {E : cE} {d : Nat} {Pz : Option Value → zH → Prop} {h0 : zH} {f0 : mF} {g0 : mA} {j : mA} (hd : 38 ≤ d) {tk : Int} {Kd Vl Pl c v : Int → Int} {nn : Nat} {R0 : Except Nat (List Cla)} {Qx : mF → mA → Prop} (hk : TkH Kd Vl Pl tk c v) (etk : tk = (nn : Int) + 1) (hz : ∀ i : Int, 0 ≤ i → i < tk → (Kd i = 0 ↔ i = (nn : Int))) (hQ : ∀ f' g', RdQ Pl false R0 f' g' → Qx f' g') (ePz : Pz = CP E h0 (PV (fun f' g' j' => Qx f' g' ∧ eqx [289, 293, 294, 295, 296, 416, 417, 418] f0 f' ∧ eqx [290, 291, 292, 419, 420, 421, 422, 423, 424] g0 g' ∧ j' = j)))  : ∀ (n : Nat) (iN : Nat) (t : Nat) (p : Nat) (i : Int) (N : Int) (ag : Int) (Vb : Int → Int) (Tm : Int → Int) (On : Int → Int) (Ot : Int → Int) (Te : Int → Int) (C : Int → Int) (l0 : List Cla) (f : mF) (g : mA) (h : zH) (ci : i = (iN : Int)) (i1 : i ≤ 12) (i2 : 12 < i + n) (hl : l0.length = iN) (hr : RdR false Vb Tm On Ot Te C N ag l0) (hT : R0 = preL l0 (pText false c v nn (12 - iN) t p)) (t1 : (t : Int) < tk) (p1 : p ≤ 50) (hN : 0 ≤ N ∧ N ≤ t) (ha : in01 ag) (eg290 : g 290 = Kd) (eg291 : g 291 = Vl) (eg292 : g 292 = Pl) (eg419 : g 419 = Vb) (eg420 : g 420 = Tm) (eg421 : g 421 = On) (eg422 : g 422 = Ot) (eg423 : g 423 = Te) (eg424 : g 424 = C) (ef289 : f 289 = (-1)) (ef293 : f 293 = tk) (ef294 : f 294 = (t : Int)) (ef295 : f 295 = (p : Int)) (ef296 : f 296 = 0) (ef416 : f 416 = i) (ef417 : f 417 = N) (ef418 : f 418 = ag) (hfE : eqx [289, 293, 294, 295, 296, 416, 417, 418] f0 f) (hgE : eqx [290, 291, 292, 419, 420, 421, 422, 423, 424] g0 g) (hH : HC E f g j h) (hA : cAg E h0 h), Z l MX3_read d 0 0 Pz 34 [some (.ref (E.1 319)), some (.ref (E.1 287)), some (vI 0), some (vI i)] [] h 0 0 := by
  subst ePz
  intro n
  induction n with
  | zero => intro iN t p i N ag Vb Tm On Ot Te C l0 f g h ci i1 i2 hl hr hT t1 p1 hN ha eg290 eg291 eg292 eg419 eg420 eg421 eg422 eg423 eg424 ef289 ef293 ef294 ef295 ef296 ef416 ef417 ef418 hfE hgE hH hA; exfalso; omega
  | succ n ih =>
    intro iN t p i N ag Vb Tm On Ot Te C l0 f g h ci i1 i2 hl hr hT t1 p1 hN ha eg290 eg291 eg292 eg419 eg420 eg421 eg422 eg423 eg424 ef289 ef293 ef294 ef295 ef296 ef416 ef417 ef418 hfE hgE hH hA
    have htk := hk.1
    have hp0 := (hk.2.1 t (by omega) t1).2
    refine z_ild_3 (TX3_read.at 20 rfl) ?_
    refine z_bipush (by decide) (TX3_read.at 21 rfl) ?_
    refine z_icmp_gt (tgt := 88) (TX3_read.at 22 rfl) rfl (by omega) (by omega) (fun c1 => absurd c1 (by omega)) (fun c1 => ?_)
    refine z_ald_0 (TX3_read.at 23 rfl) ?_
    refine zc_getIE (m := 9) (s := 1) (k := 289) (hH.lv (by decide)) ef289 (TX3_read.at 24 rfl) fl3_20 hH rfl rfl (by decide) (by decide) (fun r41 => ?_)
    refine z_iconst (TX3_read.at 25 rfl) ?_
    refine z_icmp_ne (tgt := 88) (TX3_read.at 26 rfl) rfl (by omega) (by omega) (fun c2 => absurd c2 (by decide)) (fun c2 => ?_)
    refine z_ild_3 (TX3_read.at 27 rfl) ?_
    refine z_bipush (by decide) (TX3_read.at 28 rfl) ?_
    refine z_icmp_ne (tgt := 59) (TX3_read.at 29 rfl) rfl (by omega) (by omega) (fun c3 => ?_) (fun c3 => ?_)
    · skip
      refine z_ald_0 (TX3_read.at 33 rfl) ?_
      refine zc_callV0 (m := 9) (v_clause_false eg290 eg291 eg292 eg419 eg420 eg421 eg422 eg423 eg424 ef289 ef293 ef294 ef295 ef296 ef416 ef417 ef418 hk t1 p1 hN ha (by omega) (by omega)) (hH.lv (by decide)) (TX3_read.at 34 rfl) c3_57 rfl rfl hH hA (by omega) (Nat.le_of_ble_eq_true rfl) (fun f60 g60 j60 h q60 hH hA => ?_)
      obtain ⟨q60, xf, xg, xj⟩ := q60
      rw [xj] at hH
      have ef293 := (xf 293 (by decide)).trans ef293
      have ef296 := (xf 296 (by decide)).trans ef296
      have hfE := hfE.trans xf (by decide)
      have eg290 := (xg 290 (by decide)).trans eg290
      have eg291 := (xg 291 (by decide)).trans eg291
      have eg292 := (xg 292 (by decide)).trans eg292
      have hgE := hgE.trans xg (by decide)
      have qL := q60
      have hcq := qL
      rcases hs : pCla false c v t p with e | r
      · rw [hs] at hcq
        exact dd_rd63 (lf := 0) (i := i) hd (show DdS tk (Pl e) ag _ from hcq) (by omega) (by omega) (fun f' g' hX => hQ _ _ (by rw [hT, show 12 - iN = (11 - iN) + 1 by omega, preL_e hs]; exact hX)) rfl hfE hgE hH hA
      obtain ⟨t2, p2, k1⟩ := r
      rw [hs] at hcq
      obtain ⟨w1, w2, w3, w4, w5, w6, w7, w8, w9, w10, w11, w12, w13, w14, w15, w16⟩ := hcq
      have ef289 := w1
      have ef293 := w2
      have ef294 := w3
      have ef295 := w4
      have ef416 := w12
      obtain ⟨N2, ef417⟩ : ∃ z, f60 417 = z := ⟨_, rfl⟩
      obtain ⟨ag2, ef418⟩ : ∃ z, f60 418 = z := ⟨_, rfl⟩
      obtain ⟨Vb2, eg419⟩ : ∃ z, g60 419 = z := ⟨_, rfl⟩
      obtain ⟨Tm2, eg420⟩ : ∃ z, g60 420 = z := ⟨_, rfl⟩
      obtain ⟨On2, eg421⟩ : ∃ z, g60 421 = z := ⟨_, rfl⟩
      obtain ⟨Ot2, eg422⟩ : ∃ z, g60 422 = z := ⟨_, rfl⟩
      obtain ⟨Te2, eg423⟩ : ∃ z, g60 423 = z := ⟨_, rfl⟩
      obtain ⟨C2, eg424⟩ : ∃ z, g60 424 = z := ⟨_, rfl⟩
      rw [ef417] at w7 w8 w14
      rw [ef418] at w9 w10 w15
      rw [eg424] at w11 w14
      rw [eg419, eg420, eg421, eg422, eg423] at w13 w14
      have hrs := RdR.s hr (show i = (l0.length : Int) by omega) w13 w11 w7 ha w10 w14 w15 w16
      have h2k := hk.2.1 t2 (by omega) w5
      have h2z := hz t2 (by omega) w5
      refine z_ald_0 (TX3_read.at 35 rfl) ?_
      refine zc_getA (m := 9) (s := 2) (k := 290) (hH.lv (by decide)) (TX3_read.at 36 rfl) fl3_24 hH rfl rfl (by decide) (by decide) ?_
      refine z_ald_0 (TX3_read.at 37 rfl) ?_
      refine zc_getIE (m := 9) (s := 6) (k := 294) (hH.lv (by decide)) ef294 (TX3_read.at 38 rfl) fl3_37 hH rfl rfl (by decide) (by decide) (fun r68 => ?_)
      refine zcf_iald (k := 290) (N := 401) (hH.lv (by decide)) (by decide) rfl eg290 (TX3_read.at 39 rfl) hH (by decide) (by omega) (show _ < ((401 : Nat) : Int) by omega) (fun r71 => ?_)
      refine z_if_ne (tgt := 76) (TX3_read.at 40 rfl) rfl (by omega) (fun c4 => ?_) (fun c4 => ?_)
      · skip
        refine z_ald_0 (TX3_read.at 42 rfl) ?_
        refine z_bipush (by decide) (TX3_read.at 43 rfl) ?_
        refine zc_callV1 (m := 9) (c_take eg290 eg291 eg292 ef289 ef293 ef294 (by omega) (by omega) (by omega) (by omega) (by omega) ) (hH.lv (by decide)) (TX3_read.at 44 rfl) c3_60 rfl rfl hH hA (by omega) (Nat.le_of_ble_eq_true rfl) (fun f79 g79 j79 h q79 hH hA => ?_)
        obtain ⟨q79, xf, xg, xj⟩ := q79
        rw [xj] at hH
        have ef293 := (xf 293 (by decide)).trans ef293
        have ef295 := (xf 295 (by decide)).trans ef295
        have ef296 := (xf 296 (by decide)).trans ef296
        have ef416 := (xf 416 (by decide)).trans ef416
        have ef417 := (xf 417 (by decide)).trans ef417
        have ef418 := (xf 418 (by decide)).trans ef418
        have hfE := hfE.trans xf (by decide)
        have eg290 := (xg 290 (by decide)).trans eg290
        have eg291 := (xg 291 (by decide)).trans eg291
        have eg292 := (xg 292 (by decide)).trans eg292
        have eg419 := (xg 419 (by decide)).trans eg419
        have eg420 := (xg 420 (by decide)).trans eg420
        have eg421 := (xg 421 (by decide)).trans eg421
        have eg422 := (xg 422 (by decide)).trans eg422
        have eg423 := (xg 423 (by decide)).trans eg423
        have eg424 := (xg 424 (by decide)).trans eg424
        have hgE := hgE.trans xg (by decide)
        have qL := q79
        have hsg := tk_sg (s := 59) h2k.1 (by decide)
        obtain ⟨q5, q6⟩ := qL
        clear q79
        by_cases h9 : c t2 = 159
        case neg =>
          rw [if_neg (fun q => h9 (hsg.mp q))] at q5 q6
          have e7 := q5.trans (if_pos rfl)
          clear q5 hsg
          have hlt : t2 < nn := by
            have z2 : (t2 : Int) ≠ nn := fun q => absurd (h2z.mpr q) (by assumption)
            omega
          clear h2z
          exact dd_rd82 (lf := 0) (i := i) hd (mkD ef293 q6 ef295 ef417 ef418 e7 htk (by omega) (by omega) (by omega) w9 w10 (by have := h2k.2; omega)) (by omega) (by omega) (fun f' g' hX => hQ _ _ (by rw [hT, show 12 - iN = (11 - iN) + 1 by omega, preL_x hs h9 hlt]; exact hX)) rfl hfE hgE hH hA
        rw [if_pos (hsg.mpr h9)] at q5 q6
        clear h2z hsg
        have ef289 := q5
        have hgo := hk.go (i := t2) w5 (by omega)
        have ef294 := q6.trans hgo.1
        clear q5 q6
        have t3 := hgo.2
        refine z_iinc_3 (TX3_read.at 45 rfl) (Nat.le_of_ble_eq_true rfl) rfl ?_
        refine z_goto (tgt := 34) (TX3_read.at 46 rfl) rfl ?_
        exact ih (iN + 1) (t2 + 1) p2 _ _ _ _ _ _ _ _ _ (l0 ++ [k1]) _ _ _ (by omega) (by omega) (by omega) (by rw [List.length_append]; simp only [List.length_cons, List.length_nil]; omega) hrs (by rw [hT, show 12 - iN = (11 - iN) + 1 by omega, preL_n hs h9, show 12 - (iN + 1) = 11 - iN by omega]) (by omega) w6 (by omega) w9 eg290 eg291 eg292 eg419 eg420 eg421 eg422 eg423 eg424 ef289 ef293 (ef294.trans (by omega)) ef295 ef296 (ef416.trans (by omega)) ef417 ef418 hfE hgE hH hA
      · skip
        refine zc_vret (TX3_read.at 41 rfl) rfl hH hA ?_
        exact ⟨hQ _ _ (by rw [hT, show 12 - iN = (11 - iN) + 1 by omega, preL_f hs (by have h5 := h2k.1; unfold TkA at h5; clear h2z; omega) (by have := h2z.mp (by assumption); clear h2z; omega)]; exact ⟨ef289, by rw [List.length_append, ef416]; simp only [List.length_cons, List.length_nil]; omega, by rw [ef417]; omega, by rw [ef418]; exact w9, by rw [eg419, eg420, eg421, eg422, eg423, eg424, ef417, ef418]; exact hrs⟩), hfE, hgE, rfl⟩
    · skip
      refine z_ald_0 (TX3_read.at 30 rfl) ?_
      refine zc_callV0 (m := 9) (c_fail eg292 ef289 ef294 (by omega) (by omega) ) (hH.lv (by decide)) (TX3_read.at 31 rfl) c3_54 rfl rfl hH hA (by omega) (Nat.le_of_ble_eq_true rfl) (fun f55 g55 j55 h q55 hH hA => ?_)
      obtain ⟨q55, xf, xg, xj⟩ := q55
      rw [xj] at hH
      have ef293 := (xf 293 (by decide)).trans ef293
      have ef294 := (xf 294 (by decide)).trans ef294
      have ef295 := (xf 295 (by decide)).trans ef295
      have ef296 := (xf 296 (by decide)).trans ef296
      have ef416 := (xf 416 (by decide)).trans ef416
      have ef417 := (xf 417 (by decide)).trans ef417
      have ef418 := (xf 418 (by decide)).trans ef418
      have hfE := hfE.trans xf (by decide)
      have eg290 := (xg 290 (by decide)).trans eg290
      have eg291 := (xg 291 (by decide)).trans eg291
      have eg292 := (xg 292 (by decide)).trans eg292
      have eg419 := (xg 419 (by decide)).trans eg419
      have eg420 := (xg 420 (by decide)).trans eg420
      have eg421 := (xg 421 (by decide)).trans eg421
      have eg422 := (xg 422 (by decide)).trans eg422
      have eg423 := (xg 423 (by decide)).trans eg423
      have eg424 := (xg 424 (by decide)).trans eg424
      have hgE := hgE.trans xg (by decide)
      have qL := q55
      have ef289 := qL.trans (if_pos rfl)
      refine zc_vret (TX3_read.at 32 rfl) rfl hH hA ?_
      exact ⟨hQ _ _ (by rw [hT, show 12 - iN = 0 by omega]; exact ef289), hfE, hgE, rfl⟩

set_option maxHeartbeats 4000000 in
set_option maxRecDepth 100000 in
theorem c_read_true {l : Launch} {E : cE} {f : mF} {g j : mA} {U : Int → Int} {z : Int} {y1 : Int} {y2 : Int} {y3 : Int} {y4 : Int} {y5 : Int} {y6 : Int} {y7 : Int}  (eg257 : g 257 = U) (ef256 : f 256 = z) (ef289 : f 289 = y1) (ef294 : f 294 = y2) (ef295 : f 295 = y3) (ef296 : f 296 = y4) (ef416 : f 416 = y5) (ef417 : f 417 = y6) (ef418 : f 418 = y7) (z0 : 0 ≤ z) (z4 : z ≤ 400) (hU : ∀ i : Int, 0 ≤ i → i < 400 → 0 ≤ U i ∧ U i ≤ 255) : CM l E MX3_read 38 [.ref (E.1 319), .ref (E.1 287), vI 1] f g j (PV (fun f' g' j' => (match txtS true U z with | .error e => f' 289 = pT U z e ∧ 0 ≤ f' 289 | .ok cl => f' 289 = -1 ∧ f' 416 = (cl.length : Int) ∧ (0 ≤ f' 417 ∧ f' 417 ≤ 400) ∧ in01 (f' 418) ∧ RdR true (g' 419) (g' 420) (g' 421) (g' 422) (g' 423) (g' 424) (f' 417) (f' 418) cl) ∧ eqx [289, 293, 294, 295, 296, 416, 417, 418] f f' ∧ eqx [290, 291, 292, 419, 420, 421, 422, 423, 424] g g' ∧ j' = j)) := by
  refine CM.intro [some (.ref (E.1 319)), some (.ref (E.1 287)), some (vI 1), none] (by decide) (Nat.le_of_ble_eq_true rfl) rfl (fun d hd h0 h hH hA => ?_)
  have hfE : eqx [289, 293, 294, 295, 296, 416, 417, 418] f f := eqx.rf
  have hgE : eqx [290, 291, 292, 419, 420, 421, 422, 423, 424] g g := eqx.rf
  refine z_ald_0 (TX3_read.at 0 rfl) ?_
  refine z_ild_2 (TX3_read.at 1 rfl) ?_
  refine zc_putZ (m := 9) (s := 8) (k := 296) (hH.lv (by decide)) (TX3_read.at 2 rfl) fp3_43 hH hA rfl rfl (by decide) (by decide) (by first | omega | exact b2i_01 _) (fun h f2 e1 e2 hH hA => ?_)
  have ef256 := (e1 256 (by decide)).trans ef256
  have ef289 := (e1 289 (by decide)).trans ef289
  have ef294 := (e1 294 (by decide)).trans ef294
  have ef295 := (e1 295 (by decide)).trans ef295
  have ef296 := e2
  have ef416 := (e1 416 (by decide)).trans ef416
  have ef417 := (e1 417 (by decide)).trans ef417
  have ef418 := (e1 418 (by decide)).trans ef418
  have hfE := hfE.put e1 (by decide)
  refine z_ald_0 (TX3_read.at 3 rfl) ?_
  refine z_iconst (TX3_read.at 4 rfl) ?_
  refine zc_putI (m := 9) (s := 1) (k := 289) (hH.lv (by decide)) (TX3_read.at 5 rfl) fp3_20 hH hA rfl rfl (by decide) (by decide) (by first | omega | exact b2i_01 _) (fun h f7 e1 e2 hH hA => ?_)
  have ef256 := (e1 256 (by decide)).trans ef256
  have ef289 := e2
  have ef294 := (e1 294 (by decide)).trans ef294
  have ef295 := (e1 295 (by decide)).trans ef295
  have ef296 := (e1 296 (by decide)).trans ef296
  have ef416 := (e1 416 (by decide)).trans ef416
  have ef417 := (e1 417 (by decide)).trans ef417
  have ef418 := (e1 418 (by decide)).trans ef418
  have hfE := hfE.put e1 (by decide)
  refine z_ald_0 (TX3_read.at 6 rfl) ?_
  refine z_iconst (TX3_read.at 7 rfl) ?_
  refine zc_putI (m := 9) (s := 7) (k := 295) (hH.lv (by decide)) (TX3_read.at 8 rfl) fp3_40 hH hA rfl rfl (by decide) (by decide) (by first | omega | exact b2i_01 _) (fun h f12 e1 e2 hH hA => ?_)
  have ef256 := (e1 256 (by decide)).trans ef256
  have ef289 := (e1 289 (by decide)).trans ef289
  have ef294 := (e1 294 (by decide)).trans ef294
  have ef295 := e2
  have ef296 := (e1 296 (by decide)).trans ef296
  have ef416 := (e1 416 (by decide)).trans ef416
  have ef417 := (e1 417 (by decide)).trans ef417
  have ef418 := (e1 418 (by decide)).trans ef418
  have hfE := hfE.put e1 (by decide)
  refine z_ald_0 (TX3_read.at 9 rfl) ?_
  refine z_iconst (TX3_read.at 10 rfl) ?_
  refine zc_putI (m := 9) (s := 6) (k := 294) (hH.lv (by decide)) (TX3_read.at 11 rfl) fp3_37 hH hA rfl rfl (by decide) (by decide) (by first | omega | exact b2i_01 _) (fun h f17 e1 e2 hH hA => ?_)
  have ef256 := (e1 256 (by decide)).trans ef256
  have ef289 := (e1 289 (by decide)).trans ef289
  have ef294 := e2
  have ef295 := (e1 295 (by decide)).trans ef295
  have ef296 := (e1 296 (by decide)).trans ef296
  have ef416 := (e1 416 (by decide)).trans ef416
  have ef417 := (e1 417 (by decide)).trans ef417
  have ef418 := (e1 418 (by decide)).trans ef418
  have hfE := hfE.put e1 (by decide)
  refine z_ald_0 (TX3_read.at 12 rfl) ?_
  refine zc_getO (m := 9) (s := 0) (k := 447) (hH.lv (by decide)) (TX3_read.at 13 rfl) fl3_14 hH rfl rfl (by decide) (by decide) ?_
  refine zc_callV0 (m := 13) (c_clear ef416 ef417 ef418) (hH.lv (by decide)) (TX3_read.at 14 rfl) c3_47 rfl rfl hH hA (by omega) (Nat.le_of_ble_eq_true rfl) (fun f24 g24 j24 h q24 hH hA => ?_)
  obtain ⟨q24, xf, xg, xj⟩ := q24
  rw [xj] at hH
  have ef256 := (xf 256 (by decide)).trans ef256
  have ef289 := (xf 289 (by decide)).trans ef289
  have ef294 := (xf 294 (by decide)).trans ef294
  have ef295 := (xf 295 (by decide)).trans ef295
  have ef296 := (xf 296 (by decide)).trans ef296
  have hfE := hfE.trans xf (by decide)
  have eg257 := (xg 257 (by decide)).trans eg257
  have hgE := hgE.trans xg (by decide)
  have qL := q24
  obtain ⟨ef416, ef417, ef418⟩ := qL
  refine z_ald_0 (TX3_read.at 15 rfl) ?_
  refine z_ald_1 (TX3_read.at 16 rfl) ?_
  refine zc_callV1 (m := 9) (c_split eg257 ef256 z0 z4 hU) (hH.lv (by decide)) (TX3_read.at 17 rfl) c3_50 rfl rfl hH hA (by omega) (Nat.le_of_ble_eq_true rfl) (fun f29 g29 j29 h q29 hH hA => ?_)
  obtain ⟨q29, xf, xg, xj⟩ := q29
  rw [xj] at hH
  have ef256 := (xf 256 (by decide)).trans ef256
  have ef289 := (xf 289 (by decide)).trans ef289
  have ef294 := (xf 294 (by decide)).trans ef294
  have ef295 := (xf 295 (by decide)).trans ef295
  have ef296 := (xf 296 (by decide)).trans ef296
  have ef416 := (xf 416 (by decide)).trans ef416
  have ef417 := (xf 417 (by decide)).trans ef417
  have ef418 := (xf 418 (by decide)).trans ef418
  have hfE := hfE.trans xf (by decide)
  have eg257 := (xg 257 (by decide)).trans eg257
  have hgE := hgE.trans xg (by decide)
  have qL := q29
  obtain ⟨ef293, hk, hpz⟩ := qL
  refine z_iconst (TX3_read.at 18 rfl) ?_
  refine z_ist_3 (TX3_read.at 19 rfl) (Nat.le_of_ble_eq_true rfl) rfl ?_
  have hn := tN_in (U := U) z0
  obtain ⟨nn, enn⟩ : ∃ nn : Nat, tN U z = (nn : Int) := ⟨(tN U z).toNat, by omega⟩
  refine lp_read_true (nn := nn) (R0 := txtS true U z) hd hk (by omega) (fun i i0 i1 => by rw [← enn]; exact (hpz i i0 (by omega)).2) (fun f' g' hX => ?_) rfl 13 0 0 0 0 0 0 _ _ _ _ _ _ [] _ _ _ rfl (by omega) (by omega) rfl (fun i k hq => by cases hq) (by unfold txtS; rw [enn]; show _ = preL [] (pText true (cT U z) (vT U z) nn 12 0 0); rw [Int.toNat_natCast]; cases pText true (cT U z) (vT U z) nn 12 0 0 <;> rfl) (by omega) (by omega) (by omega) (Or.inl rfl) rfl rfl rfl rfl rfl rfl rfl rfl rfl ef289 ef293 ef294 ef295 ef296 ef416 ef417 ef418 hfE hgE hH hA
  rcases htx : txtS true U z with e | cl
  · rw [htx] at hX
    have ha := adv_text _ _ _ _ htx
    have he : (e : Int) ≤ tN U z := by
      by_cases q : (e : Int) ≤ tN U z
      · exact q
      · exact absurd (hk.2.2 nn (by omega)) (ha.2 nn (by omega) (by omega))
    have h5 := hpz e (by omega) he
    have h6 := (hk.2.1 e (by omega) (by omega)).2
    have h7 : f' 289 = _ := hX
    exact ⟨h7.trans h5.1, by rw [h7]; exact h6⟩
  · rw [htx] at hX
    exact hX

set_option maxHeartbeats 4000000 in
set_option maxRecDepth 100000 in
theorem c_read_false {l : Launch} {E : cE} {f : mF} {g j : mA} {U : Int → Int} {z : Int} {y1 : Int} {y2 : Int} {y3 : Int} {y4 : Int} {y5 : Int} {y6 : Int} {y7 : Int}  (eg257 : g 257 = U) (ef256 : f 256 = z) (ef289 : f 289 = y1) (ef294 : f 294 = y2) (ef295 : f 295 = y3) (ef296 : f 296 = y4) (ef416 : f 416 = y5) (ef417 : f 417 = y6) (ef418 : f 418 = y7) (z0 : 0 ≤ z) (z4 : z ≤ 400) (hU : ∀ i : Int, 0 ≤ i → i < 400 → 0 ≤ U i ∧ U i ≤ 255) : CM l E MX3_read 38 [.ref (E.1 319), .ref (E.1 287), vI 0] f g j (PV (fun f' g' j' => (match txtS false U z with | .error e => f' 289 = pT U z e ∧ 0 ≤ f' 289 | .ok cl => f' 289 = -1 ∧ f' 416 = (cl.length : Int) ∧ (0 ≤ f' 417 ∧ f' 417 ≤ 400) ∧ in01 (f' 418) ∧ RdR false (g' 419) (g' 420) (g' 421) (g' 422) (g' 423) (g' 424) (f' 417) (f' 418) cl) ∧ eqx [289, 293, 294, 295, 296, 416, 417, 418] f f' ∧ eqx [290, 291, 292, 419, 420, 421, 422, 423, 424] g g' ∧ j' = j)) := by
  refine CM.intro [some (.ref (E.1 319)), some (.ref (E.1 287)), some (vI 0), none] (by decide) (Nat.le_of_ble_eq_true rfl) rfl (fun d hd h0 h hH hA => ?_)
  have hfE : eqx [289, 293, 294, 295, 296, 416, 417, 418] f f := eqx.rf
  have hgE : eqx [290, 291, 292, 419, 420, 421, 422, 423, 424] g g := eqx.rf
  refine z_ald_0 (TX3_read.at 0 rfl) ?_
  refine z_ild_2 (TX3_read.at 1 rfl) ?_
  refine zc_putZ (m := 9) (s := 8) (k := 296) (hH.lv (by decide)) (TX3_read.at 2 rfl) fp3_43 hH hA rfl rfl (by decide) (by decide) (by first | omega | exact b2i_01 _) (fun h f2 e1 e2 hH hA => ?_)
  have ef256 := (e1 256 (by decide)).trans ef256
  have ef289 := (e1 289 (by decide)).trans ef289
  have ef294 := (e1 294 (by decide)).trans ef294
  have ef295 := (e1 295 (by decide)).trans ef295
  have ef296 := e2
  have ef416 := (e1 416 (by decide)).trans ef416
  have ef417 := (e1 417 (by decide)).trans ef417
  have ef418 := (e1 418 (by decide)).trans ef418
  have hfE := hfE.put e1 (by decide)
  refine z_ald_0 (TX3_read.at 3 rfl) ?_
  refine z_iconst (TX3_read.at 4 rfl) ?_
  refine zc_putI (m := 9) (s := 1) (k := 289) (hH.lv (by decide)) (TX3_read.at 5 rfl) fp3_20 hH hA rfl rfl (by decide) (by decide) (by first | omega | exact b2i_01 _) (fun h f7 e1 e2 hH hA => ?_)
  have ef256 := (e1 256 (by decide)).trans ef256
  have ef289 := e2
  have ef294 := (e1 294 (by decide)).trans ef294
  have ef295 := (e1 295 (by decide)).trans ef295
  have ef296 := (e1 296 (by decide)).trans ef296
  have ef416 := (e1 416 (by decide)).trans ef416
  have ef417 := (e1 417 (by decide)).trans ef417
  have ef418 := (e1 418 (by decide)).trans ef418
  have hfE := hfE.put e1 (by decide)
  refine z_ald_0 (TX3_read.at 6 rfl) ?_
  refine z_iconst (TX3_read.at 7 rfl) ?_
  refine zc_putI (m := 9) (s := 7) (k := 295) (hH.lv (by decide)) (TX3_read.at 8 rfl) fp3_40 hH hA rfl rfl (by decide) (by decide) (by first | omega | exact b2i_01 _) (fun h f12 e1 e2 hH hA => ?_)
  have ef256 := (e1 256 (by decide)).trans ef256
  have ef289 := (e1 289 (by decide)).trans ef289
  have ef294 := (e1 294 (by decide)).trans ef294
  have ef295 := e2
  have ef296 := (e1 296 (by decide)).trans ef296
  have ef416 := (e1 416 (by decide)).trans ef416
  have ef417 := (e1 417 (by decide)).trans ef417
  have ef418 := (e1 418 (by decide)).trans ef418
  have hfE := hfE.put e1 (by decide)
  refine z_ald_0 (TX3_read.at 9 rfl) ?_
  refine z_iconst (TX3_read.at 10 rfl) ?_
  refine zc_putI (m := 9) (s := 6) (k := 294) (hH.lv (by decide)) (TX3_read.at 11 rfl) fp3_37 hH hA rfl rfl (by decide) (by decide) (by first | omega | exact b2i_01 _) (fun h f17 e1 e2 hH hA => ?_)
  have ef256 := (e1 256 (by decide)).trans ef256
  have ef289 := (e1 289 (by decide)).trans ef289
  have ef294 := e2
  have ef295 := (e1 295 (by decide)).trans ef295
  have ef296 := (e1 296 (by decide)).trans ef296
  have ef416 := (e1 416 (by decide)).trans ef416
  have ef417 := (e1 417 (by decide)).trans ef417
  have ef418 := (e1 418 (by decide)).trans ef418
  have hfE := hfE.put e1 (by decide)
  refine z_ald_0 (TX3_read.at 12 rfl) ?_
  refine zc_getO (m := 9) (s := 0) (k := 447) (hH.lv (by decide)) (TX3_read.at 13 rfl) fl3_14 hH rfl rfl (by decide) (by decide) ?_
  refine zc_callV0 (m := 13) (c_clear ef416 ef417 ef418) (hH.lv (by decide)) (TX3_read.at 14 rfl) c3_47 rfl rfl hH hA (by omega) (Nat.le_of_ble_eq_true rfl) (fun f24 g24 j24 h q24 hH hA => ?_)
  obtain ⟨q24, xf, xg, xj⟩ := q24
  rw [xj] at hH
  have ef256 := (xf 256 (by decide)).trans ef256
  have ef289 := (xf 289 (by decide)).trans ef289
  have ef294 := (xf 294 (by decide)).trans ef294
  have ef295 := (xf 295 (by decide)).trans ef295
  have ef296 := (xf 296 (by decide)).trans ef296
  have hfE := hfE.trans xf (by decide)
  have eg257 := (xg 257 (by decide)).trans eg257
  have hgE := hgE.trans xg (by decide)
  have qL := q24
  obtain ⟨ef416, ef417, ef418⟩ := qL
  refine z_ald_0 (TX3_read.at 15 rfl) ?_
  refine z_ald_1 (TX3_read.at 16 rfl) ?_
  refine zc_callV1 (m := 9) (c_split eg257 ef256 z0 z4 hU) (hH.lv (by decide)) (TX3_read.at 17 rfl) c3_50 rfl rfl hH hA (by omega) (Nat.le_of_ble_eq_true rfl) (fun f29 g29 j29 h q29 hH hA => ?_)
  obtain ⟨q29, xf, xg, xj⟩ := q29
  rw [xj] at hH
  have ef256 := (xf 256 (by decide)).trans ef256
  have ef289 := (xf 289 (by decide)).trans ef289
  have ef294 := (xf 294 (by decide)).trans ef294
  have ef295 := (xf 295 (by decide)).trans ef295
  have ef296 := (xf 296 (by decide)).trans ef296
  have ef416 := (xf 416 (by decide)).trans ef416
  have ef417 := (xf 417 (by decide)).trans ef417
  have ef418 := (xf 418 (by decide)).trans ef418
  have hfE := hfE.trans xf (by decide)
  have eg257 := (xg 257 (by decide)).trans eg257
  have hgE := hgE.trans xg (by decide)
  have qL := q29
  obtain ⟨ef293, hk, hpz⟩ := qL
  refine z_iconst (TX3_read.at 18 rfl) ?_
  refine z_ist_3 (TX3_read.at 19 rfl) (Nat.le_of_ble_eq_true rfl) rfl ?_
  have hn := tN_in (U := U) z0
  obtain ⟨nn, enn⟩ : ∃ nn : Nat, tN U z = (nn : Int) := ⟨(tN U z).toNat, by omega⟩
  refine lp_read_false (nn := nn) (R0 := txtS false U z) hd hk (by omega) (fun i i0 i1 => by rw [← enn]; exact (hpz i i0 (by omega)).2) (fun f' g' hX => ?_) rfl 13 0 0 0 0 0 0 _ _ _ _ _ _ [] _ _ _ rfl (by omega) (by omega) rfl (fun i k hq => by cases hq) (by unfold txtS; rw [enn]; show _ = preL [] (pText false (cT U z) (vT U z) nn 12 0 0); rw [Int.toNat_natCast]; cases pText false (cT U z) (vT U z) nn 12 0 0 <;> rfl) (by omega) (by omega) (by omega) (Or.inl rfl) rfl rfl rfl rfl rfl rfl rfl rfl rfl ef289 ef293 ef294 ef295 ef296 ef416 ef417 ef418 hfE hgE hH hA
  rcases htx : txtS false U z with e | cl
  · rw [htx] at hX
    have ha := adv_text _ _ _ _ htx
    have he : (e : Int) ≤ tN U z := by
      by_cases q : (e : Int) ≤ tN U z
      · exact q
      · exact absurd (hk.2.2 nn (by omega)) (ha.2 nn (by omega) (by omega))
    have h5 := hpz e (by omega) he
    have h6 := (hk.2.1 e (by omega) (by omega)).2
    have h7 : f' 289 = _ := hX
    exact ⟨h7.trans h5.1, by rw [h7]; exact h6⟩
  · rw [htx] at hX
    exact hX

