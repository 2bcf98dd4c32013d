/-! ===== the class: reading sums ===== -/
def WdA (c u : Int) : Prop := (c = 0 ∧ u = -1) ∨ (1 ≤ c ∧ c ≤ 3 ∧ u = c - 1) ∨ (c = 4 ∧ u = 7) ∨ (5 ≤ c ∧ c ≤ 21 ∧ u = c + 5) ∨ (22 ≤ c ∧ c ≤ 24 ∧ u = c - 19) ∨ (c = 25 ∧ u = 9) ∨ (c = 26 ∧ u = 6) ∨ (c = 27 ∧ u = 8)
def TkA (Kd Vl c v : Int → Int) (i : Int) : Prop := (Kd i = 0 ∧ c i = 0) ∨ (Kd i = 1 ∧ c i = 50 ∧ 0 ≤ v i ∧ ((Vl i = v i ∧ v i ≤ 1000) ∨ (Vl i = 1001 ∧ 1000 < v i))) ∨ (Kd i = 3 ∧ c i = 100 + Vl i ∧ 0 ≤ Vl i ∧ Vl i ≤ 255) ∨ (Kd i = 2 ∧ WdA (c i) (Vl i))
def TkH (Kd Vl Pl : Int → Int) (tk : Int) (c v : Int → Int) : Prop := (1 ≤ tk ∧ tk ≤ 401) ∧ (∀ i : Int, 0 ≤ i → i < tk → TkA Kd Vl c v i ∧ 0 ≤ Pl i) ∧ ∀ i : Int, tk - 1 ≤ i → c i = 0
section TK
variable {Kd Vl Pl c v : Int → Int} {tk i : Int}
theorem TkH.go (h : TkH Kd Vl Pl tk c v) (h1 : i < tk) (hc : c i ≠ 0) : gnF tk i = i + 1 ∧ i + 1 < tk := by
  have q : i < tk - 1 := by
    by_cases z : i < tk - 1
    · exact z
    · exact absurd (h.2.2 i (by omega)) hc
  unfold gnF
  rw [if_pos q]
  omega
theorem tk_sg {s : Int} (h : TkA Kd Vl c v i) (s0 : 0 ≤ s) : isK Kd Vl i 3 s ↔ c i = 100 + s := by
  unfold TkA WdA at h
  unfold isK
  omega
theorem tk_or (h : TkA Kd Vl c v i) : isK Kd Vl i 2 10 ↔ c i = 5 := by unfold TkA WdA at h; unfold isK; omega
theorem tk_an (h : TkA Kd Vl c v i) : isK Kd Vl i 2 11 ↔ c i = 6 := by unfold TkA WdA at h; unfold isK; omega
theorem tk_no (h : TkA Kd Vl c v i) : isK Kd Vl i 2 12 ↔ c i = 7 := by unfold TkA WdA at h; unfold isK; omega
theorem tk_if (h : TkA Kd Vl c v i) : isK Kd Vl i 2 7 ↔ c i = 4 := by unfold TkA WdA at h; unfold isK; omega
theorem tk_ti (h : TkA Kd Vl c v i) : isK Kd Vl i 2 8 ↔ c i = 27 := by unfold TkA WdA at h; unfold isK; omega
theorem tk_wi (h : TkA Kd Vl c v i) : isK Kd Vl i 2 9 ↔ c i = 25 := by unfold TkA WdA at h; unfold isK; omega
theorem tk_1 (h : TkA Kd Vl c v i) : Kd i = 1 ↔ c i = 50 := by unfold TkA WdA at h; omega
theorem tk_nm {a b : Int} (h : TkA Kd Vl c v i) (a0 : 0 ≤ a) (b1 : b ≤ 1000) : isN Kd Vl i a b ↔ (c i = 50 ∧ a ≤ v i ∧ v i ≤ b) := by unfold TkA WdA at h; unfold isN; omega
theorem tk_word (h : TkA Kd Vl c v i) : (Kd i ≠ 2 ∧ ¬ (1 ≤ c i ∧ c i ≤ 27)) ∨ (Kd i = 2 ∧ ((5 ≤ c i ∧ c i ≤ 21 ∧ Vl i = c i + 5) ∨ (¬ (5 ≤ c i ∧ c i ≤ 21) ∧ ¬ (10 ≤ Vl i ∧ Vl i ≤ 26)))) := by unfold TkA WdA at h; omega
theorem tk_num (h : TkA Kd Vl c v i) (e : Kd i = 1) : Vl i = v i ∨ (Vl i = 1001 ∧ 1000 < v i) := by unfold TkA WdA at h; omega
theorem small_tk {a b r F1 F2 : Int} (h : TkH Kd Vl Pl tk c v) (i0 : 0 ≤ i) (i1 : i < tk) (a0 : 0 ≤ a) (b1 : b ≤ 1000) (q : r = (if isN Kd Vl i a b then Vl i else a) ∧ F1 = (if isN Kd Vl i a b then -1 else flF (-1) (Pl i)) ∧ F2 = (if isN Kd Vl i a b then gnF tk i else i)) : ((c i = 50 ∧ a ≤ v i ∧ v i ≤ b) ∧ r = v i ∧ F1 = -1 ∧ F2 = i + 1 ∧ i + 1 < tk) ∨ (¬ (c i = 50 ∧ a ≤ v i ∧ v i ≤ b) ∧ r = a ∧ F1 = Pl i ∧ F2 = i) := by
  have hi := (h.2.1 i i0 i1).1
  have e := tk_nm (a := a) (b := b) hi a0 b1
  by_cases z : isN Kd Vl i a b
  · rw [if_pos z, if_pos z, if_pos z] at q
    have y := e.mp z
    have g := h.go i1 (by omega)
    have n := tk_num hi z.1
    refine Or.inl ⟨y, by omega, q.2.1, by omega, g.2⟩
  · rw [if_neg z, if_neg z, if_neg z] at q
    exact Or.inr ⟨fun y => z (e.mpr y), q.1, q.2.1.trans (if_pos rfl), q.2.2⟩
end TK
/-- it does not look at how many are gone, nor at what the latest pass told -/
def Ng (k : Den) : Prop := ∀ φ ψ : Int → Int, (∀ i : Int, i ≠ 10 → i ≠ 11 → φ i = ψ i) → k φ = k ψ
theorem Ng_num {a : Int} : Ng (fun _ => some a) := fun _ _ _ => rfl
theorem Ng_fact {a : Int} (h1 : a ≠ 10) (h2 : a ≠ 11) : Ng (fun φ => some (φ a)) := fun φ ψ h => by simp only [h a h1 h2]
theorem Ng_bin {o : Int} {k1 k2 : Den} (h1 : Ng k1) (h2 : Ng k2) : Ng (dBin o k1 k2) := fun φ ψ h => by unfold dBin; rw [h1 φ ψ h, h2 φ ψ h]
theorem Ng_not {b : Bool} {k : Den} (h1 : Ng k) : Ng (dNot b k) := fun φ ψ h => by unfold dNot; rw [h1 φ ψ h]
theorem Ng_or {k1 k2 : Den} (h1 : Ng k1) (h2 : Ng k2) : Ng (dOr k1 k2) := fun φ ψ h => by unfold dOr; rw [h1 φ ψ h, h2 φ ψ h]
theorem Ng_and {k1 k2 : Den} (h1 : Ng k1) (h2 : Ng k2) : Ng (dAnd k1 k2) := fun φ ψ h => by unfold dAnd; rw [h1 φ ψ h, h2 φ ψ h]
def LvQ (Pl : Int → Int) (w : Nat) (R : PR) (t : Nat) (N ag tk : Int) (C : Int → Int) (f' : mF) (g' : mA) : Prop := match R with
  | .error e => DdS tk (Pl e) ag f'
  | .ok (t', p', k) => f' 289 = -1 ∧ f' 293 = tk ∧ f' 294 = (t' : Int) ∧ f' 295 = (p' : Int) ∧ (t' : Int) < tk ∧ p' ≤ 50 ∧ N < f' 417 ∧ f' 417 + t ≤ t' + N ∧ in01 (f' 418) ∧ (ag = 1 → f' 418 = 1) ∧ (∀ q : Int, q < N → g' 424 q = C q) ∧ Cod (g' 424) N (f' 417) w k ∧ (f' 418 = 0 → Ng k)
def PsS (tk ag : Int) (f : mF) : Prop := f 293 = tk ∧ (1 ≤ tk ∧ tk ≤ 401) ∧ (0 ≤ f 294 ∧ f 294 < tk) ∧ (0 ≤ f 295 ∧ f 295 ≤ 50) ∧ (0 ≤ f 417 ∧ f 417 ≤ 400) ∧ in01 (f 418) ∧ (ag = 1 → f 418 = 1)
section LV
variable {Pl : Int → Int} {w : Nat} {R : PR} {t : Nat} {N ag tk : Int} {C : Int → Int} {f f' : mF} {g' : mA}
theorem LvQ.ps (h : LvQ Pl w R t N ag tk C f' g') (htk : 1 ≤ tk ∧ tk ≤ 401) (hN : 0 ≤ N ∧ N ≤ t) : PsS tk ag f' := by
  cases R with
  | error e =>
    obtain ⟨h1, h2, h3, h4, h5, h6, h7, h8, h9⟩ := (show DdS tk (Pl e) ag f' from h)
    exact ⟨h1, h2, h3, h4, h5, h6, h7⟩
  | ok r =>
    obtain ⟨t', p', k⟩ := r
    obtain ⟨h1, h2, h3, h4, h5, h6, h7, h8, h9, h10, -, -, -⟩ := (show _ ∧ _ ∧ _ ∧ _ ∧ _ ∧ _ ∧ _ ∧ _ ∧ _ ∧ _ ∧ _ ∧ _ ∧ _ from h)
    exact ⟨h2, htk, ⟨by omega, by omega⟩, ⟨by omega, by omega⟩, ⟨by omega, by omega⟩, h9, h10⟩
theorem mkD {fl ag' : Int} {t p : Int} (e293 : f 293 = tk) (e294 : f 294 = t) (e295 : f 295 = p) (e417 : f 417 = N) (e418 : f 418 = ag') (e289 : f 289 = fl) (ht : 1 ≤ tk ∧ tk ≤ 401) (t1 : 0 ≤ t ∧ t < tk) (p1 : 0 ≤ p ∧ p ≤ 50) (hN : 0 ≤ N ∧ N ≤ 400) (ha : in01 ag') (hm : ag = 1 → ag' = 1) (hf : fl ≠ -1) : DdS tk fl ag f := by
  unfold DdS
  rw [e293, e294, e295, e417, e418, e289]
  exact ⟨rfl, ht, t1, p1, hN, ha, hm, rfl, hf⟩
theorem LvQ.er {e : Nat} (hR : R = .error e) (h : DdS tk (Pl e) ag f') : LvQ Pl w R t N ag tk C f' g' := by
  subst hR; exact h
theorem LvQ.ok1 {t' p' : Nat} {k : Den} {x ag' : Int} (hR : R = .ok (t', p', k)) (e289 : f' 289 = -1) (e293 : f' 293 = tk) (e294 : f' 294 = (t' : Int)) (e295 : f' 295 = (p' : Int)) (t1 : (t' : Int) < tk) (p1 : p' ≤ 50) (e417 : f' 417 = N + 1) (ht : t < t') (e418 : f' 418 = ag') (ha : in01 ag') (hm : ag = 1 → ag' = 1) (e424 : g' 424 = iu C N x) (hc : Cod (iu C N x) N (N + 1) w k) (hn : ag' = 0 → Ng k) : LvQ Pl w R t N ag tk C f' g' := by
  subst hR
  refine ⟨e289, e293, e294, e295, t1, p1, by omega, by omega, by rw [e418]; exact ha, by rw [e418]; exact hm, fun q hq => by rw [e424, iu_ne (by omega)], by rw [e424, e417]; exact hc, by rw [e418]; exact hn⟩
end LV
def LvM (l : Launch) (E : cE) (M : zM) (n : Nat) (as : List Value) (Kd Vl Pl : Int → Int) (tk lf : Int) (w : Nat) (G : Nat → Nat → PR) : Prop := ∀ (t p : Nat) (N ag : Int) (C : Int → Int) (f : mF) (g j : mA), g 290 = Kd → g 291 = Vl → g 292 = Pl → g 424 = C → f 289 = -1 → f 293 = tk → f 294 = (t : Int) → f 295 = (p : Int) → f 296 = lf → f 417 = N → f 418 = ag → (t : Int) < tk → p ≤ 50 → (0 ≤ N ∧ N ≤ t) → in01 ag → CM l E M n (.ref (E.1 319) :: as) f g j (PV (fun f' g' j' => (LvQ Pl w (G t p) t N ag tk C f' g') ∧ eqx [289, 294, 295, 417, 418] f f' ∧ eqx [424] g g' ∧ j' = j))
def pWrd (lw : Bool) (c v : Int → Int) (t p : Nat) : PR :=
  if wLo lw ≤ c t ∧ c t ≤ wHi lw then
    if lw = false ∧ c t = 15 then (if c (t + 1) = 50 ∧ 0 ≤ v (t + 1) ∧ v (t + 1) ≤ 9 then .ok (t + 2, p, fun φ => some (φ (21 + v (t + 1)))) else .error (t + 1))
    else if lw = false ∧ c t = 21 then (if c (t + 1) = 50 ∧ 0 ≤ v (t + 1) ∧ v (t + 1) ≤ 7 then .ok (t + 2, p, fun φ => some (φ (13 + v (t + 1)))) else .error (t + 1))
    else .ok (t + 1, p, fun φ => some (φ (c t - 8)))
  else .error t
section PW
variable {c v : Int → Int} {t p : Nat}
theorem pWrd_no {lw : Bool} (h : ¬ (wLo lw ≤ c t ∧ c t ≤ wHi lw)) : pWrd lw c v t p = .error t := if_neg h
theorem pWrd_pl {lw : Bool} (h : wLo lw ≤ c t ∧ c t ≤ wHi lw) (h1 : ¬ (lw = false ∧ c t = 15)) (h2 : ¬ (lw = false ∧ c t = 21)) : pWrd lw c v t p = .ok (t + 1, p, fun φ => some (φ (c t - 8))) := by
  unfold pWrd; rw [if_pos h, if_neg h1, if_neg h2]
theorem pWrd_g1 (h : c t = 15) (h1 : c (t + 1) = 50 ∧ 0 ≤ v (t + 1) ∧ v (t + 1) ≤ 9) : pWrd false c v t p = .ok (t + 2, p, fun φ => some (φ (21 + v (t + 1)))) := by
  unfold pWrd; rw [if_pos (by rw [h]; decide), if_pos ⟨rfl, h⟩, if_pos h1]
theorem pWrd_g0 (h : c t = 15) (h1 : ¬ (c (t + 1) = 50 ∧ 0 ≤ v (t + 1) ∧ v (t + 1) ≤ 9)) : pWrd false c v t p = .error (t + 1) := by
  unfold pWrd; rw [if_pos (by rw [h]; decide), if_pos ⟨rfl, h⟩, if_neg h1]
theorem pWrd_l1 (h : c t = 21) (h1 : c (t + 1) = 50 ∧ 0 ≤ v (t + 1) ∧ v (t + 1) ≤ 7) : pWrd false c v t p = .ok (t + 2, p, fun φ => some (φ (13 + v (t + 1)))) := by
  unfold pWrd; rw [if_pos (by rw [h]; decide), if_neg (by rw [h]; decide), if_pos ⟨rfl, h⟩, if_pos h1]
theorem pWrd_l0 (h : c t = 21) (h1 : ¬ (c (t + 1) = 50 ∧ 0 ≤ v (t + 1) ∧ v (t + 1) ≤ 7)) : pWrd false c v t p = .error (t + 1) := by
  unfold pWrd; rw [if_pos (by rw [h]; decide), if_neg (by rw [h]; decide), if_pos ⟨rfl, h⟩, if_neg h1]
end PW
set_option maxHeartbeats 4000000 in
set_option maxRecDepth 100000 in
theorem v_word_true {l : Launch} {E : cE} {f : mF} {g j : mA} {Kd : Int → Int} {Vl : Int → Int} {Pl : Int → Int} {C : Int → Int} {tk : Int} {N : Int} {ag : Int} {t p : Nat} {c v : Int → Int} (eg290 : g 290 = Kd) (eg291 : g 291 = Vl) (eg292 : g 292 = Pl) (eg424 : g 424 = C) (ef289 : f 289 = (-1)) (ef293 : f 293 = tk) (ef294 : f 294 = (t : Int)) (ef295 : f 295 = (p : Int)) (ef296 : f 296 = 1) (ef417 : f 417 = N) (ef418 : f 418 = ag) (hk : TkH Kd Vl Pl tk c v) (t1 : (t : Int) < tk) (p1 : p ≤ 50) (hN : 0 ≤ N ∧ N ≤ t) (ha : in01 ag) : CM l E MX3_wordPart 3 [.ref (E.1 319)] f g j (PV (fun f' g' j' => (LvQ Pl 1 (pWrd true c v t p) t N ag tk C f' g') ∧ eqx [289, 294, 295, 417, 418] f f' ∧ eqx [424] g g' ∧ j' = j)) := by
  refine CM.intro [some (.ref (E.1 319)), none] (by decide) (Nat.le_of_ble_eq_true rfl) rfl (fun d hd h0 h hH hA => ?_)
  have hfE : eqx [289, 294, 295, 417, 418] f f := eqx.rf
  have hgE : eqx [424] g g := eqx.rf
  have htk := hk.1
  have hp0 := (hk.2.1 t (by omega) t1).2
  have hti := (hk.2.1 t (by omega) t1).1
  have hw1 : wLo true = 8 := rfl
  have hw2 : wHi true = 16 := rfl
  have tw := tk_word hti
  refine z_ald_0 (TX3_wordPart_0.at 0 rfl) ?_
  refine zc_getA (m := 9) (s := 2) (k := 290) (hH.lv (by decide)) (TX3_wordPart_0.at 1 rfl) fl3_24 hH rfl rfl (by decide) (by decide) ?_
  refine z_ald_0 (TX3_wordPart_0.at 2 rfl) ?_
  refine zc_getIE (m := 9) (s := 6) (k := 294) (hH.lv (by decide)) ef294 (TX3_wordPart_0.at 3 rfl) fl3_37 hH rfl rfl (by decide) (by decide) (fun r5 => ?_)
  refine zcf_iald (k := 290) (N := 401) (hH.lv (by decide)) (by decide) rfl eg290 (TX3_wordPart_0.at 4 rfl) hH (by decide) (by omega) (show _ < ((401 : Nat) : Int) by omega) (fun r8 => ?_)
  refine z_iconst (TX3_wordPart_0.at 5 rfl) ?_
  refine z_icmp_ne (tgt := 25) (TX3_wordPart_0.at 6 rfl) rfl (by omega) (by omega) (fun c1 => ?_) (fun c1 => ?_)
  · skip
    refine z_iconst (TX3_wordPart_0.at 13 rfl) ?_
    refine z_ist_1 (TX3_wordPart_0.at 14 rfl) (Nat.le_of_ble_eq_true rfl) rfl ?_
    refine z_ald_0 (TX3_wordPart_0.at 15 rfl) ?_
    refine zc_getIE (m := 9) (s := 8) (k := 296) (hH.lv (by decide)) ef296 (TX3_wordPart_0.at 16 rfl) fl3_43 hH rfl rfl (by decide) (by decide) (fun r28 => ?_)
    refine z_if_eq (tgt := 49) (TX3_wordPart_0.at 17 rfl) rfl (by omega) (fun c2 => absurd c2 (by decide)) (fun c2 => ?_)
    refine z_ild_1 (TX3_wordPart_0.at 18 rfl) ?_
    refine z_bipush (by decide) (TX3_wordPart_0.at 19 rfl) ?_
    refine z_icmp_lt (tgt := 61) (TX3_wordPart_0.at 20 rfl) rfl (by omega) (by omega) (fun c3 => ?_) (fun c3 => absurd c3 (by decide))
    refine z_ald_0 (TX3_wordPart_0.at 31 rfl) ?_
    refine zc_callV0 (m := 9) (c_fail eg292 ef289 ef294 (by omega) (by omega) ) (hH.lv (by decide)) (TX3_wordPart_0.at 32 rfl) c3_54 rfl rfl hH hA (by omega) (Nat.le_of_ble_eq_true rfl) (fun f62 g62 j62 h q62 hH hA => ?_)
    obtain ⟨q62, xf, xg, xj⟩ := q62
    rw [xj] at hH
    have ef293 := (xf 293 (by decide)).trans ef293
    have ef294 := (xf 294 (by decide)).trans ef294
    have ef295 := (xf 295 (by decide)).trans ef295
    have ef296 := (xf 296 (by decide)).trans ef296
    have ef417 := (xf 417 (by decide)).trans ef417
    have ef418 := (xf 418 (by decide)).trans ef418
    have hfE := hfE.trans xf (by decide)
    have eg290 := (xg 290 (by decide)).trans eg290
    have eg291 := (xg 291 (by decide)).trans eg291
    have eg292 := (xg 292 (by decide)).trans eg292
    have eg424 := (xg 424 (by decide)).trans eg424
    have hgE := hgE.trans xg (by decide)
    have qL := q62
    have ef289 := qL.trans (if_pos rfl)
    refine zc_vret (TX3_wordPart_0.at 33 rfl) rfl hH hA ?_
    exact ⟨LvQ.er (pWrd_no (by omega)) (mkD ef293 ef294 ef295 ef417 ef418 ef289 htk (by omega) (by omega) (by omega) ha id (by omega)), hfE, hgE, rfl⟩
  · skip
    refine z_ald_0 (TX3_wordPart_0.at 7 rfl) ?_
    refine zc_getA (m := 9) (s := 3) (k := 291) (hH.lv (by decide)) (TX3_wordPart_0.at 8 rfl) fl3_28 hH rfl rfl (by decide) (by decide) ?_
    refine z_ald_0 (TX3_wordPart_0.at 9 rfl) ?_
    refine zc_getIE (m := 9) (s := 6) (k := 294) (hH.lv (by decide)) ef294 (TX3_wordPart_0.at 10 rfl) fl3_37 hH rfl rfl (by decide) (by decide) (fun r18 => ?_)
    refine zcf_iald (k := 291) (N := 401) (hH.lv (by decide)) (by decide) rfl eg291 (TX3_wordPart_0.at 11 rfl) hH (by decide) (by omega) (show _ < ((401 : Nat) : Int) by omega) (fun r21 => ?_)
    refine z_goto (tgt := 26) (TX3_wordPart_0.at 12 rfl) rfl ?_
    refine z_ist_1 (TX3_wordPart_0.at 14 rfl) (Nat.le_of_ble_eq_true rfl) rfl ?_
    refine z_ald_0 (TX3_wordPart_0.at 15 rfl) ?_
    refine zc_getIE (m := 9) (s := 8) (k := 296) (hH.lv (by decide)) ef296 (TX3_wordPart_0.at 16 rfl) fl3_43 hH rfl rfl (by decide) (by decide) (fun r28 => ?_)
    refine z_if_eq (tgt := 49) (TX3_wordPart_0.at 17 rfl) rfl (by omega) (fun c4 => absurd c4 (by decide)) (fun c4 => ?_)
    refine z_ild_1 (TX3_wordPart_0.at 18 rfl) ?_
    refine z_bipush (by decide) (TX3_wordPart_0.at 19 rfl) ?_
    refine z_icmp_lt (tgt := 61) (TX3_wordPart_0.at 20 rfl) rfl (by omega) (by omega) (fun c5 => ?_) (fun c5 => ?_)
    · skip
      refine z_ald_0 (TX3_wordPart_0.at 31 rfl) ?_
      refine zc_callV0 (m := 9) (c_fail eg292 ef289 ef294 (by omega) (by omega) ) (hH.lv (by decide)) (TX3_wordPart_0.at 32 rfl) c3_54 rfl rfl hH hA (by omega) (Nat.le_of_ble_eq_true rfl) (fun f62 g62 j62 h q62 hH hA => ?_)
      obtain ⟨q62, xf, xg, xj⟩ := q62
      rw [xj] at hH
      have ef293 := (xf 293 (by decide)).trans ef293
      have ef294 := (xf 294 (by decide)).trans ef294
      have ef295 := (xf 295 (by decide)).trans ef295
      have ef296 := (xf 296 (by decide)).trans ef296
      have ef417 := (xf 417 (by decide)).trans ef417
      have ef418 := (xf 418 (by decide)).trans ef418
      have hfE := hfE.trans xf (by decide)
      have eg290 := (xg 290 (by decide)).trans eg290
      have eg291 := (xg 291 (by decide)).trans eg291
      have eg292 := (xg 292 (by decide)).trans eg292
      have eg424 := (xg 424 (by decide)).trans eg424
      have hgE := hgE.trans xg (by decide)
      have qL := q62
      have ef289 := qL.trans (if_pos rfl)
      refine zc_vret (TX3_wordPart_0.at 33 rfl) rfl hH hA ?_
      exact ⟨LvQ.er (pWrd_no (by omega)) (mkD ef293 ef294 ef295 ef417 ef418 ef289 htk (by omega) (by omega) (by omega) ha id (by omega)), hfE, hgE, rfl⟩
    · skip
      refine z_ild_1 (TX3_wordPart_0.at 21 rfl) ?_
      refine z_bipush (by decide) (TX3_wordPart_0.at 22 rfl) ?_
      refine z_icmp_le (tgt := 66) (TX3_wordPart_0.at 23 rfl) rfl (by omega) (by omega) (fun c6 => ?_) (fun c6 => ?_)
      · skip
        have hu : 8 ≤ c t ∧ c t ≤ 16 ∧ Vl t = c t + 5 := by omega
        refine z_ald_0 (TX3_wordPart_0.at 34 rfl) ?_
        refine zc_callV0 (m := 9) (c_goOn ef293 ef294 (by omega) (by omega) (by omega) (by omega) ) (hH.lv (by decide)) (TX3_wordPart_0.at 35 rfl) c3_179 rfl rfl hH hA (by omega) (Nat.le_of_ble_eq_true rfl) (fun f67 g67 j67 h q67 hH hA => ?_)
        obtain ⟨q67, xf, xg, xj⟩ := q67
        rw [xj] at hH
        have ef289 := (xf 289 (by decide)).trans ef289
        have ef293 := (xf 293 (by decide)).trans ef293
        have ef295 := (xf 295 (by decide)).trans ef295
        have ef296 := (xf 296 (by decide)).trans ef296
        have ef417 := (xf 417 (by decide)).trans ef417
        have ef418 := (xf 418 (by decide)).trans ef418
        have hfE := hfE.trans xf (by decide)
        have eg290 := (xg 290 (by decide)).trans eg290
        have eg291 := (xg 291 (by decide)).trans eg291
        have eg292 := (xg 292 (by decide)).trans eg292
        have eg424 := (xg 424 (by decide)).trans eg424
        have hgE := hgE.trans xg (by decide)
        have qL := q67
        have hgo := hk.go (i := (t : Int)) (by omega) (by omega)
        have ef294 := qL.trans hgo.1
        have t2 := hgo.2
        refine z_ald_0 (TX3_wordPart_0.at 36 rfl) ?_
        refine zc_getIE (m := 9) (s := 8) (k := 296) (hH.lv (by decide)) ef296 (TX3_wordPart_0.at 37 rfl) fl3_43 hH rfl rfl (by decide) (by decide) (fun r71 => ?_)
        refine z_if_ne (tgt := 104) (TX3_wordPart_0.at 38 rfl) rfl (by omega) (fun c7 => ?_) (fun c7 => absurd c7 (by decide))
        refine z_ald_0 (TX3_wordPart_1.at 13 rfl) ?_
        refine zc_getIE (m := 9) (s := 8) (k := 296) (hH.lv (by decide)) ef296 (TX3_wordPart_1.at 14 rfl) fl3_43 hH rfl rfl (by decide) (by decide) (fun r105 => ?_)
        refine z_if_ne (tgt := 138) (TX3_wordPart_1.at 15 rfl) rfl (by omega) (fun c8 => ?_) (fun c8 => absurd c8 (by decide))
        refine z_ald_0 (TX3_wordPart_1.at 30 rfl) ?_
        refine zc_getO (m := 9) (s := 0) (k := 447) (hH.lv (by decide)) (TX3_wordPart_1.at 31 rfl) fl3_14 hH rfl rfl (by decide) (by decide) ?_
        refine z_iconst (TX3_wordPart_1.at 32 rfl) ?_
        refine z_ild_1 (TX3_wordPart_1.at 33 rfl) ?_
        refine z_bipush (by decide) (TX3_wordPart_1.at 34 rfl) ?_
        refine z_isub (TX3_wordPart_1.at 35 rfl) ?_
        rw [show Vl t - 13 = c t - 8 by omega]
        refine zc_callV2 (m := 13) (c_put eg424 ef417 (by omega) (by omega) (by omega) (by omega) (by omega) (by omega) (by omega) ) (hH.lv (by decide)) (TX3_wordPart_1.at 36 rfl) c3_214 rfl rfl hH hA (by omega) (Nat.le_of_ble_eq_true rfl) (fun f147 g147 j147 h q147 hH hA => ?_)
        obtain ⟨q147, xf, xg, xj⟩ := q147
        rw [xj] at hH
        have ef289 := (xf 289 (by decide)).trans ef289
        have ef293 := (xf 293 (by decide)).trans ef293
        have ef294 := (xf 294 (by decide)).trans ef294
        have ef295 := (xf 295 (by decide)).trans ef295
        have ef296 := (xf 296 (by decide)).trans ef296
        have ef418 := (xf 418 (by decide)).trans ef418
        have hfE := hfE.trans xf (by decide)
        have eg290 := (xg 290 (by decide)).trans eg290
        have eg291 := (xg 291 (by decide)).trans eg291
        have eg292 := (xg 292 (by decide)).trans eg292
        have hgE := hgE.trans xg (by decide)
        have qL := q147
        rw [if_pos (show N < 400 by omega), if_pos (show N < 400 by omega)] at qL
        have ef417 := qL.1
        have eg424 := qL.2
        refine z_ild_1 (TX3_wordPart_1.at 37 rfl) ?_
        refine z_bipush (by decide) (TX3_wordPart_1.at 38 rfl) ?_
        refine z_icmp_eq (tgt := 162) (TX3_wordPart_1.at 39 rfl) rfl (by omega) (by omega) (fun c9 => absurd c9 (by omega)) (fun c9 => ?_)
        refine z_ild_1 (TX3_wordPart_2.at 0 rfl) ?_
        refine z_bipush (by decide) (TX3_wordPart_2.at 1 rfl) ?_
        refine z_icmp_ne (tgt := 170) (TX3_wordPart_2.at 2 rfl) rfl (by omega) (by omega) (fun c10 => ?_) (fun c10 => absurd c10 (by omega))
        refine zc_vret (TX3_wordPart_2.at 7 rfl) rfl hH hA ?_
        exact ⟨LvQ.ok1 (t' := t + 1) (pWrd_pl (by omega) (fun z => absurd z.1 (by decide)) (fun z => absurd z.1 (by decide))) ef289 ef293 (ef294.trans (by omega)) ef295 (by omega) p1 ef417 (by omega) ef418 ha (id) eg424 (Cod_fact (iu_self _ _ _) (by omega) (by omega)) (fun _ => Ng_fact (by omega) (by omega)), hfE, hgE, rfl⟩
      · skip
        refine z_goto (tgt := 61) (TX3_wordPart_0.at 24 rfl) rfl ?_
        refine z_ald_0 (TX3_wordPart_0.at 31 rfl) ?_
        refine zc_callV0 (m := 9) (c_fail eg292 ef289 ef294 (by omega) (by omega) ) (hH.lv (by decide)) (TX3_wordPart_0.at 32 rfl) c3_54 rfl rfl hH hA (by omega) (Nat.le_of_ble_eq_true rfl) (fun f62 g62 j62 h q62 hH hA => ?_)
        obtain ⟨q62, xf, xg, xj⟩ := q62
        rw [xj] at hH
        have ef293 := (xf 293 (by decide)).trans ef293
        have ef294 := (xf 294 (by decide)).trans ef294
        have ef295 := (xf 295 (by decide)).trans ef295
        have ef296 := (xf 296 (by decide)).trans ef296
        have ef417 := (xf 417 (by decide)).trans ef417
        have ef418 := (xf 418 (by decide)).trans ef418
        have hfE := hfE.trans xf (by decide)
        have eg290 := (xg 290 (by decide)).trans eg290
        have eg291 := (xg 291 (by decide)).trans eg291
        have eg292 := (xg 292 (by decide)).trans eg292
        have eg424 := (xg 424 (by decide)).trans eg424
        have hgE := hgE.trans xg (by decide)
        have qL := q62
        have ef289 := qL.trans (if_pos rfl)
        refine zc_vret (TX3_wordPart_0.at 33 rfl) rfl hH hA ?_
        exact ⟨LvQ.er (pWrd_no (by omega)) (mkD ef293 ef294 ef295 ef417 ef418 ef289 htk (by omega) (by omega) (by omega) ha id (by omega)), hfE, hgE, rfl⟩

set_option maxHeartbeats 4000000 in
set_option maxRecDepth 100000 in
theorem v_word_false {l : Launch} {E : cE} {f : mF} {g j : mA} {Kd : Int → Int} {Vl : Int → Int} {Pl : Int → Int} {C : Int → Int} {tk : Int} {N : Int} {ag : Int} {t p : Nat} {c v : Int → Int} (eg290 : g 290 = Kd) (eg291 : g 291 = Vl) (eg292 : g 292 = Pl) (eg424 : g 424 = C) (ef289 : f 289 = (-1)) (ef293 : f 293 = tk) (ef294 : f 294 = (t : Int)) (ef295 : f 295 = (p : Int)) (ef296 : f 296 = 0) (ef417 : f 417 = N) (ef418 : f 418 = ag) (hk : TkH Kd Vl Pl tk c v) (t1 : (t : Int) < tk) (p1 : p ≤ 50) (hN : 0 ≤ N ∧ N ≤ t) (ha : in01 ag) : CM l E MX3_wordPart 3 [.ref (E.1 319)] f g j (PV (fun f' g' j' => (LvQ Pl 1 (pWrd false c v t p) t N ag tk C f' g') ∧ eqx [289, 294, 295, 417, 418] f f' ∧ eqx [424] g g' ∧ j' = j)) := by
  refine CM.intro [some (.ref (E.1 319)), none] (by decide) (Nat.le_of_ble_eq_true rfl) rfl (fun d hd h0 h hH hA => ?_)
  have hfE : eqx [289, 294, 295, 417, 418] f f := eqx.rf
  have hgE : eqx [424] g g := eqx.rf
  have htk := hk.1
  have hp0 := (hk.2.1 t (by omega) t1).2
  have hti := (hk.2.1 t (by omega) t1).1
  have hw1 : wLo false = 15 := rfl
  have hw2 : wHi false = 21 := rfl
  have tw := tk_word hti
  refine z_ald_0 (TX3_wordPart_0.at 0 rfl) ?_
  refine zc_getA (m := 9) (s := 2) (k := 290) (hH.lv (by decide)) (TX3_wordPart_0.at 1 rfl) fl3_24 hH rfl rfl (by decide) (by decide) ?_
  refine z_ald_0 (TX3_wordPart_0.at 2 rfl) ?_
  refine zc_getIE (m := 9) (s := 6) (k := 294) (hH.lv (by decide)) ef294 (TX3_wordPart_0.at 3 rfl) fl3_37 hH rfl rfl (by decide) (by decide) (fun r5 => ?_)
  refine zcf_iald (k := 290) (N := 401) (hH.lv (by decide)) (by decide) rfl eg290 (TX3_wordPart_0.at 4 rfl) hH (by decide) (by omega) (show _ < ((401 : Nat) : Int) by omega) (fun r8 => ?_)
  refine z_iconst (TX3_wordPart_0.at 5 rfl) ?_
  refine z_icmp_ne (tgt := 25) (TX3_wordPart_0.at 6 rfl) rfl (by omega) (by omega) (fun c1 => ?_) (fun c1 => ?_)
  · skip
    refine z_iconst (TX3_wordPart_0.at 13 rfl) ?_
    refine z_ist_1 (TX3_wordPart_0.at 14 rfl) (Nat.le_of_ble_eq_true rfl) rfl ?_
    refine z_ald_0 (TX3_wordPart_0.at 15 rfl) ?_
    refine zc_getIE (m := 9) (s := 8) (k := 296) (hH.lv (by decide)) ef296 (TX3_wordPart_0.at 16 rfl) fl3_43 hH rfl rfl (by decide) (by decide) (fun r28 => ?_)
    refine z_if_eq (tgt := 49) (TX3_wordPart_0.at 17 rfl) rfl (by omega) (fun c2 => ?_) (fun c2 => absurd c2 (by decide))
    refine z_ild_1 (TX3_wordPart_0.at 25 rfl) ?_
    refine z_bipush (by decide) (TX3_wordPart_0.at 26 rfl) ?_
    refine z_icmp_lt (tgt := 61) (TX3_wordPart_0.at 27 rfl) rfl (by omega) (by omega) (fun c3 => ?_) (fun c3 => absurd c3 (by decide))
    refine z_ald_0 (TX3_wordPart_0.at 31 rfl) ?_
    refine zc_callV0 (m := 9) (c_fail eg292 ef289 ef294 (by omega) (by omega) ) (hH.lv (by decide)) (TX3_wordPart_0.at 32 rfl) c3_54 rfl rfl hH hA (by omega) (Nat.le_of_ble_eq_true rfl) (fun f62 g62 j62 h q62 hH hA => ?_)
    obtain ⟨q62, xf, xg, xj⟩ := q62
    rw [xj] at hH
    have ef293 := (xf 293 (by decide)).trans ef293
    have ef294 := (xf 294 (by decide)).trans ef294
    have ef295 := (xf 295 (by decide)).trans ef295
    have ef296 := (xf 296 (by decide)).trans ef296
    have ef417 := (xf 417 (by decide)).trans ef417
    have ef418 := (xf 418 (by decide)).trans ef418
    have hfE := hfE.trans xf (by decide)
    have eg290 := (xg 290 (by decide)).trans eg290
    have eg291 := (xg 291 (by decide)).trans eg291
    have eg292 := (xg 292 (by decide)).trans eg292
    have eg424 := (xg 424 (by decide)).trans eg424
    have hgE := hgE.trans xg (by decide)
    have qL := q62
    have ef289 := qL.trans (if_pos rfl)
    refine zc_vret (TX3_wordPart_0.at 33 rfl) rfl hH hA ?_
    exact ⟨LvQ.er (pWrd_no (by omega)) (mkD ef293 ef294 ef295 ef417 ef418 ef289 htk (by omega) (by omega) (by omega) ha id (by omega)), hfE, hgE, rfl⟩
  · skip
    refine z_ald_0 (TX3_wordPart_0.at 7 rfl) ?_
    refine zc_getA (m := 9) (s := 3) (k := 291) (hH.lv (by decide)) (TX3_wordPart_0.at 8 rfl) fl3_28 hH rfl rfl (by decide) (by decide) ?_
    refine z_ald_0 (TX3_wordPart_0.at 9 rfl) ?_
    refine zc_getIE (m := 9) (s := 6) (k := 294) (hH.lv (by decide)) ef294 (TX3_wordPart_0.at 10 rfl) fl3_37 hH rfl rfl (by decide) (by decide) (fun r18 => ?_)
    refine zcf_iald (k := 291) (N := 401) (hH.lv (by decide)) (by decide) rfl eg291 (TX3_wordPart_0.at 11 rfl) hH (by decide) (by omega) (show _ < ((401 : Nat) : Int) by omega) (fun r21 => ?_)
    refine z_goto (tgt := 26) (TX3_wordPart_0.at 12 rfl) rfl ?_
    refine z_ist_1 (TX3_wordPart_0.at 14 rfl) (Nat.le_of_ble_eq_true rfl) rfl ?_
    refine z_ald_0 (TX3_wordPart_0.at 15 rfl) ?_
    refine zc_getIE (m := 9) (s := 8) (k := 296) (hH.lv (by decide)) ef296 (TX3_wordPart_0.at 16 rfl) fl3_43 hH rfl rfl (by decide) (by decide) (fun r28 => ?_)
    refine z_if_eq (tgt := 49) (TX3_wordPart_0.at 17 rfl) rfl (by omega) (fun c4 => ?_) (fun c4 => absurd c4 (by decide))
    refine z_ild_1 (TX3_wordPart_0.at 25 rfl) ?_
    refine z_bipush (by decide) (TX3_wordPart_0.at 26 rfl) ?_
    refine z_icmp_lt (tgt := 61) (TX3_wordPart_0.at 27 rfl) rfl (by omega) (by omega) (fun c5 => ?_) (fun c5 => ?_)
    · skip
      refine z_ald_0 (TX3_wordPart_0.at 31 rfl) ?_
      refine zc_callV0 (m := 9) (c_fail eg292 ef289 ef294 (by omega) (by omega) ) (hH.lv (by decide)) (TX3_wordPart_0.at 32 rfl) c3_54 rfl rfl hH hA (by omega) (Nat.le_of_ble_eq_true rfl) (fun f62 g62 j62 h q62 hH hA => ?_)
      obtain ⟨q62, xf, xg, xj⟩ := q62
      rw [xj] at hH
      have ef293 := (xf 293 (by decide)).trans ef293
      have ef294 := (xf 294 (by decide)).trans ef294
      have ef295 := (xf 295 (by decide)).trans ef295
      have ef296 := (xf 296 (by decide)).trans ef296
      have ef417 := (xf 417 (by decide)).trans ef417
      have ef418 := (xf 418 (by decide)).trans ef418
      have hfE := hfE.trans xf (by decide)
      have eg290 := (xg 290 (by decide)).trans eg290
      have eg291 := (xg 291 (by decide)).trans eg291
      have eg292 := (xg 292 (by decide)).trans eg292
      have eg424 := (xg 424 (by decide)).trans eg424
      have hgE := hgE.trans xg (by decide)
      have qL := q62
      have ef289 := qL.trans (if_pos rfl)
      refine zc_vret (TX3_wordPart_0.at 33 rfl) rfl hH hA ?_
      exact ⟨LvQ.er (pWrd_no (by omega)) (mkD ef293 ef294 ef295 ef417 ef418 ef289 htk (by omega) (by omega) (by omega) ha id (by omega)), hfE, hgE, rfl⟩
    · skip
      refine z_ild_1 (TX3_wordPart_0.at 28 rfl) ?_
      refine z_bipush (by decide) (TX3_wordPart_0.at 29 rfl) ?_
      refine z_icmp_le (tgt := 66) (TX3_wordPart_0.at 30 rfl) rfl (by omega) (by omega) (fun c6 => ?_) (fun c6 => ?_)
      · skip
        have hu : 15 ≤ c t ∧ c t ≤ 21 ∧ Vl t = c t + 5 := by omega
        refine z_ald_0 (TX3_wordPart_0.at 34 rfl) ?_
        refine zc_callV0 (m := 9) (c_goOn ef293 ef294 (by omega) (by omega) (by omega) (by omega) ) (hH.lv (by decide)) (TX3_wordPart_0.at 35 rfl) c3_179 rfl rfl hH hA (by omega) (Nat.le_of_ble_eq_true rfl) (fun f67 g67 j67 h q67 hH hA => ?_)
        obtain ⟨q67, xf, xg, xj⟩ := q67
        rw [xj] at hH
        have ef289 := (xf 289 (by decide)).trans ef289
        have ef293 := (xf 293 (by decide)).trans ef293
        have ef295 := (xf 295 (by decide)).trans ef295
        have ef296 := (xf 296 (by decide)).trans ef296
        have ef417 := (xf 417 (by decide)).trans ef417
        have ef418 := (xf 418 (by decide)).trans ef418
        have hfE := hfE.trans xf (by decide)
        have eg290 := (xg 290 (by decide)).trans eg290
        have eg291 := (xg 291 (by decide)).trans eg291
        have eg292 := (xg 292 (by decide)).trans eg292
        have eg424 := (xg 424 (by decide)).trans eg424
        have hgE := hgE.trans xg (by decide)
        have qL := q67
        have hgo := hk.go (i := (t : Int)) (by omega) (by omega)
        have ef294 := qL.trans hgo.1
        have t2 := hgo.2
        refine z_ald_0 (TX3_wordPart_0.at 36 rfl) ?_
        refine zc_getIE (m := 9) (s := 8) (k := 296) (hH.lv (by decide)) ef296 (TX3_wordPart_0.at 37 rfl) fl3_43 hH rfl rfl (by decide) (by decide) (fun r71 => ?_)
        refine z_if_ne (tgt := 104) (TX3_wordPart_0.at 38 rfl) rfl (by omega) (fun c7 => absurd c7 (by decide)) (fun c7 => ?_)
        refine z_ild_1 (TX3_wordPart_0.at 39 rfl) ?_
        refine z_bipush (by decide) (TX3_wordPart_1.at 0 rfl) ?_
        refine z_icmp_ne (tgt := 104) (TX3_wordPart_1.at 1 rfl) rfl (by omega) (by omega) (fun c8 => ?_) (fun c8 => ?_)
        · skip
          refine z_ald_0 (TX3_wordPart_1.at 13 rfl) ?_
          refine zc_getIE (m := 9) (s := 8) (k := 296) (hH.lv (by decide)) ef296 (TX3_wordPart_1.at 14 rfl) fl3_43 hH rfl rfl (by decide) (by decide) (fun r105 => ?_)
          refine z_if_ne (tgt := 138) (TX3_wordPart_1.at 15 rfl) rfl (by omega) (fun c9 => absurd c9 (by decide)) (fun c9 => ?_)
          refine z_ild_1 (TX3_wordPart_1.at 16 rfl) ?_
          refine z_bipush (by decide) (TX3_wordPart_1.at 17 rfl) ?_
          refine z_icmp_ne (tgt := 138) (TX3_wordPart_1.at 18 rfl) rfl (by omega) (by omega) (fun c10 => ?_) (fun c10 => ?_)
          · skip
            refine z_ald_0 (TX3_wordPart_1.at 30 rfl) ?_
            refine zc_getO (m := 9) (s := 0) (k := 447) (hH.lv (by decide)) (TX3_wordPart_1.at 31 rfl) fl3_14 hH rfl rfl (by decide) (by decide) ?_
            refine z_iconst (TX3_wordPart_1.at 32 rfl) ?_
            refine z_ild_1 (TX3_wordPart_1.at 33 rfl) ?_
            refine z_bipush (by decide) (TX3_wordPart_1.at 34 rfl) ?_
            refine z_isub (TX3_wordPart_1.at 35 rfl) ?_
            rw [show Vl t - 13 = c t - 8 by omega]
            refine zc_callV2 (m := 13) (c_put eg424 ef417 (by omega) (by omega) (by omega) (by omega) (by omega) (by omega) (by omega) ) (hH.lv (by decide)) (TX3_wordPart_1.at 36 rfl) c3_214 rfl rfl hH hA (by omega) (Nat.le_of_ble_eq_true rfl) (fun f147 g147 j147 h q147 hH hA => ?_)
            obtain ⟨q147, xf, xg, xj⟩ := q147
            rw [xj] at hH
            have ef289 := (xf 289 (by decide)).trans ef289
            have ef293 := (xf 293 (by decide)).trans ef293
            have ef294 := (xf 294 (by decide)).trans ef294
            have ef295 := (xf 295 (by decide)).trans ef295
            have ef296 := (xf 296 (by decide)).trans ef296
            have ef418 := (xf 418 (by decide)).trans ef418
            have hfE := hfE.trans xf (by decide)
            have eg290 := (xg 290 (by decide)).trans eg290
            have eg291 := (xg 291 (by decide)).trans eg291
            have eg292 := (xg 292 (by decide)).trans eg292
            have hgE := hgE.trans xg (by decide)
            have qL := q147
            rw [if_pos (show N < 400 by omega), if_pos (show N < 400 by omega)] at qL
            have ef417 := qL.1
            have eg424 := qL.2
            refine z_ild_1 (TX3_wordPart_1.at 37 rfl) ?_
            refine z_bipush (by decide) (TX3_wordPart_1.at 38 rfl) ?_
            refine z_icmp_eq (tgt := 162) (TX3_wordPart_1.at 39 rfl) rfl (by omega) (by omega) (fun c11 => ?_) (fun c11 => ?_)
            · skip
              refine z_ald_0 (TX3_wordPart_2.at 3 rfl) ?_
              refine zc_getO (m := 9) (s := 0) (k := 447) (hH.lv (by decide)) (TX3_wordPart_2.at 4 rfl) fl3_14 hH rfl rfl (by decide) (by decide) ?_
              refine z_iconst (TX3_wordPart_2.at 5 rfl) ?_
              refine zc_putZ (m := 13) (s := 2) (k := 418) (hH.lv (by decide)) (TX3_wordPart_2.at 6 rfl) fp3_241 hH hA rfl rfl (by decide) (by decide) (by first | omega | exact b2i_01 _) (fun h f167 e1 e2 hH hA => ?_)
              have ef289 := (e1 289 (by decide)).trans ef289
              have ef293 := (e1 293 (by decide)).trans ef293
              have ef294 := (e1 294 (by decide)).trans ef294
              have ef295 := (e1 295 (by decide)).trans ef295
              have ef296 := (e1 296 (by decide)).trans ef296
              have ef417 := (e1 417 (by decide)).trans ef417
              have ef418 := e2
              have hfE := hfE.put e1 (by decide)
              refine zc_vret (TX3_wordPart_2.at 7 rfl) rfl hH hA ?_
              exact ⟨LvQ.ok1 (t' := t + 1) (pWrd_pl (by omega) (fun z => absurd z.2 (by omega)) (fun z => absurd z.2 (by omega))) ef289 ef293 (ef294.trans (by omega)) ef295 (by omega) p1 ef417 (by omega) ef418 (Or.inr rfl) (fun _ => rfl) eg424 (Cod_fact (iu_self _ _ _) (by omega) (by omega)) (fun z => absurd z (by decide)), hfE, hgE, rfl⟩
            · skip
              refine z_ild_1 (TX3_wordPart_2.at 0 rfl) ?_
              refine z_bipush (by decide) (TX3_wordPart_2.at 1 rfl) ?_
              refine z_icmp_ne (tgt := 170) (TX3_wordPart_2.at 2 rfl) rfl (by omega) (by omega) (fun c12 => ?_) (fun c12 => ?_)
              · skip
                refine zc_vret (TX3_wordPart_2.at 7 rfl) rfl hH hA ?_
                exact ⟨LvQ.ok1 (t' := t + 1) (pWrd_pl (by omega) (fun z => absurd z.2 (by omega)) (fun z => absurd z.2 (by omega))) ef289 ef293 (ef294.trans (by omega)) ef295 (by omega) p1 ef417 (by omega) ef418 ha (id) eg424 (Cod_fact (iu_self _ _ _) (by omega) (by omega)) (fun _ => Ng_fact (by omega) (by omega)), hfE, hgE, rfl⟩
              · skip
                refine z_ald_0 (TX3_wordPart_2.at 3 rfl) ?_
                refine zc_getO (m := 9) (s := 0) (k := 447) (hH.lv (by decide)) (TX3_wordPart_2.at 4 rfl) fl3_14 hH rfl rfl (by decide) (by decide) ?_
                refine z_iconst (TX3_wordPart_2.at 5 rfl) ?_
                refine zc_putZ (m := 13) (s := 2) (k := 418) (hH.lv (by decide)) (TX3_wordPart_2.at 6 rfl) fp3_241 hH hA rfl rfl (by decide) (by decide) (by first | omega | exact b2i_01 _) (fun h f167 e1 e2 hH hA => ?_)
                have ef289 := (e1 289 (by decide)).trans ef289
                have ef293 := (e1 293 (by decide)).trans ef293
                have ef294 := (e1 294 (by decide)).trans ef294
                have ef295 := (e1 295 (by decide)).trans ef295
                have ef296 := (e1 296 (by decide)).trans ef296
                have ef417 := (e1 417 (by decide)).trans ef417
                have ef418 := e2
                have hfE := hfE.put e1 (by decide)
                refine zc_vret (TX3_wordPart_2.at 7 rfl) rfl hH hA ?_
                exact ⟨LvQ.ok1 (t' := t + 1) (pWrd_pl (by omega) (fun z => absurd z.2 (by omega)) (fun z => absurd z.2 (by omega))) ef289 ef293 (ef294.trans (by omega)) ef295 (by omega) p1 ef417 (by omega) ef418 (Or.inr rfl) (fun _ => rfl) eg424 (Cod_fact (iu_self _ _ _) (by omega) (by omega)) (fun z => absurd z (by decide)), hfE, hgE, rfl⟩
          · skip
            refine z_ald_0 (TX3_wordPart_1.at 19 rfl) ?_
            refine zc_getO (m := 9) (s := 0) (k := 447) (hH.lv (by decide)) (TX3_wordPart_1.at 20 rfl) fl3_14 hH rfl rfl (by decide) (by decide) ?_
            refine z_iconst (TX3_wordPart_1.at 21 rfl) ?_
            refine z_bipush (by decide) (TX3_wordPart_1.at 22 rfl) ?_
            refine z_ald_0 (TX3_wordPart_1.at 23 rfl) ?_
            refine z_iconst (TX3_wordPart_1.at 24 rfl) ?_
            refine z_bipush (by decide) (TX3_wordPart_1.at 25 rfl) ?_
            refine zc_callI2 (m := 9) (c_small eg290 eg291 eg292 ef289 ef293 ef294 (by omega) (by omega) (by omega) (by omega) (by omega) (by omega) ) (hH.lv (by decide)) (TX3_wordPart_1.at 26 rfl) c3_203 rfl rfl hH hA (by omega) (Nat.le_of_ble_eq_true rfl) (fun x128 f128 g128 j128 h r128 q128 hH hA => ?_)
            obtain ⟨q128, xf, xg, xj⟩ := q128
            rw [xj] at hH
            have ef293 := (xf 293 (by decide)).trans ef293
            have ef295 := (xf 295 (by decide)).trans ef295
            have ef296 := (xf 296 (by decide)).trans ef296
            have ef417 := (xf 417 (by decide)).trans ef417
            have ef418 := (xf 418 (by decide)).trans ef418
            have hfE := hfE.trans xf (by decide)
            have eg290 := (xg 290 (by decide)).trans eg290
            have eg291 := (xg 291 (by decide)).trans eg291
            have eg292 := (xg 292 (by decide)).trans eg292
            have eg424 := (xg 424 (by decide)).trans eg424
            have hgE := hgE.trans xg (by decide)
            have qL := q128
            have hsm := small_tk (a := 0) (b := 9) (i := ((t : Int) + 1)) hk (by omega) (by omega) (by decide) (by decide) qL
            obtain ⟨fl9, ef289⟩ : ∃ z, f128 289 = z := ⟨_, rfl⟩
            obtain ⟨nx9, ef294⟩ : ∃ z, f128 294 = z := ⟨_, rfl⟩
            rw [ef289, ef294] at hsm
            refine z_iadd (TX3_wordPart_1.at 27 rfl) ?_
            refine zc_callV2 (m := 13) (c_put eg424 ef417 (by omega) (by omega) (by omega) (by omega) (by omega) (by omega) (by omega) ) (hH.lv (by decide)) (TX3_wordPart_1.at 28 rfl) c3_214 rfl rfl hH hA (by omega) (Nat.le_of_ble_eq_true rfl) (fun f132 g132 j132 h q132 hH hA => ?_)
            obtain ⟨q132, xf, xg, xj⟩ := q132
            rw [xj] at hH
            have ef289 := (xf 289 (by decide)).trans ef289
            have ef293 := (xf 293 (by decide)).trans ef293
            have ef294 := (xf 294 (by decide)).trans ef294
            have ef295 := (xf 295 (by decide)).trans ef295
            have ef296 := (xf 296 (by decide)).trans ef296
            have ef418 := (xf 418 (by decide)).trans ef418
            have hfE := hfE.trans xf (by decide)
            have eg290 := (xg 290 (by decide)).trans eg290
            have eg291 := (xg 291 (by decide)).trans eg291
            have eg292 := (xg 292 (by decide)).trans eg292
            have hgE := hgE.trans xg (by decide)
            have qL := q132
            rw [if_pos (show N < 400 by omega), if_pos (show N < 400 by omega)] at qL
            have ef417 := qL.1
            have eg424 := qL.2
            refine z_goto (tgt := 150) (TX3_wordPart_1.at 29 rfl) rfl ?_
            refine z_ild_1 (TX3_wordPart_1.at 37 rfl) ?_
            refine z_bipush (by decide) (TX3_wordPart_1.at 38 rfl) ?_
            refine z_icmp_eq (tgt := 162) (TX3_wordPart_1.at 39 rfl) rfl (by omega) (by omega) (fun c13 => ?_) (fun c13 => ?_)
            · skip
              refine z_ald_0 (TX3_wordPart_2.at 3 rfl) ?_
              refine zc_getO (m := 9) (s := 0) (k := 447) (hH.lv (by decide)) (TX3_wordPart_2.at 4 rfl) fl3_14 hH rfl rfl (by decide) (by decide) ?_
              refine z_iconst (TX3_wordPart_2.at 5 rfl) ?_
              refine zc_putZ (m := 13) (s := 2) (k := 418) (hH.lv (by decide)) (TX3_wordPart_2.at 6 rfl) fp3_241 hH hA rfl rfl (by decide) (by decide) (by first | omega | exact b2i_01 _) (fun h f167 e1 e2 hH hA => ?_)
              have ef289 := (e1 289 (by decide)).trans ef289
              have ef293 := (e1 293 (by decide)).trans ef293
              have ef294 := (e1 294 (by decide)).trans ef294
              have ef295 := (e1 295 (by decide)).trans ef295
              have ef296 := (e1 296 (by decide)).trans ef296
              have ef417 := (e1 417 (by decide)).trans ef417
              have ef418 := e2
              have hfE := hfE.put e1 (by decide)
              refine zc_vret (TX3_wordPart_2.at 7 rfl) rfl hH hA ?_
              exfalso; omega
            · skip
              refine z_ild_1 (TX3_wordPart_2.at 0 rfl) ?_
              refine z_bipush (by decide) (TX3_wordPart_2.at 1 rfl) ?_
              refine z_icmp_ne (tgt := 170) (TX3_wordPart_2.at 2 rfl) rfl (by omega) (by omega) (fun c14 => ?_) (fun c14 => ?_)
              · skip
                refine zc_vret (TX3_wordPart_2.at 7 rfl) rfl hH hA ?_
                rcases hsm with ⟨h1, h2, h3, h4, h5⟩ | ⟨h1, h2, h3, h4⟩
                · rw [h2] at eg424
                  exact ⟨LvQ.ok1 (t' := t + 2) (pWrd_g1 (by omega) h1) (ef289.trans h3) ef293 (ef294.trans (by omega)) ef295 (by omega) p1 ef417 (by omega) ef418 ha id eg424 (Cod_fact (iu_self _ _ _) (by omega) (by omega)) (fun _ => Ng_fact (by omega) (by omega)), hfE, hgE, rfl⟩
                · exact ⟨LvQ.er (pWrd_g0 (by omega) h1) (mkD ef293 ef294 ef295 ef417 ef418 (ef289.trans h3) htk (by omega) (by omega) (by omega) ha id (by have := (hk.2.1 ((t : Int) + 1) (by omega) t2).2; show Pl ((t : Int) + 1) ≠ -1; omega)), hfE, hgE, rfl⟩
              · skip
                refine z_ald_0 (TX3_wordPart_2.at 3 rfl) ?_
                refine zc_getO (m := 9) (s := 0) (k := 447) (hH.lv (by decide)) (TX3_wordPart_2.at 4 rfl) fl3_14 hH rfl rfl (by decide) (by decide) ?_
                refine z_iconst (TX3_wordPart_2.at 5 rfl) ?_
                refine zc_putZ (m := 13) (s := 2) (k := 418) (hH.lv (by decide)) (TX3_wordPart_2.at 6 rfl) fp3_241 hH hA rfl rfl (by decide) (by decide) (by first | omega | exact b2i_01 _) (fun h f167 e1 e2 hH hA => ?_)
                have ef289 := (e1 289 (by decide)).trans ef289
                have ef293 := (e1 293 (by decide)).trans ef293
                have ef294 := (e1 294 (by decide)).trans ef294
                have ef295 := (e1 295 (by decide)).trans ef295
                have ef296 := (e1 296 (by decide)).trans ef296
                have ef417 := (e1 417 (by decide)).trans ef417
                have ef418 := e2
                have hfE := hfE.put e1 (by decide)
                refine zc_vret (TX3_wordPart_2.at 7 rfl) rfl hH hA ?_
                exfalso; omega
        · skip
          refine z_ald_0 (TX3_wordPart_1.at 2 rfl) ?_
          refine zc_getO (m := 9) (s := 0) (k := 447) (hH.lv (by decide)) (TX3_wordPart_1.at 3 rfl) fl3_14 hH rfl rfl (by decide) (by decide) ?_
          refine z_iconst (TX3_wordPart_1.at 4 rfl) ?_
          refine z_bipush (by decide) (TX3_wordPart_1.at 5 rfl) ?_
          refine z_ald_0 (TX3_wordPart_1.at 6 rfl) ?_
          refine z_iconst (TX3_wordPart_1.at 7 rfl) ?_
          refine z_bipush (by decide) (TX3_wordPart_1.at 8 rfl) ?_
          refine zc_callI2 (m := 9) (c_small eg290 eg291 eg292 ef289 ef293 ef294 (by omega) (by omega) (by omega) (by omega) (by omega) (by omega) ) (hH.lv (by decide)) (TX3_wordPart_1.at 9 rfl) c3_203 rfl rfl hH hA (by omega) (Nat.le_of_ble_eq_true rfl) (fun x94 f94 g94 j94 h r94 q94 hH hA => ?_)
          obtain ⟨q94, xf, xg, xj⟩ := q94
          rw [xj] at hH
          have ef293 := (xf 293 (by decide)).trans ef293
          have ef295 := (xf 295 (by decide)).trans ef295
          have ef296 := (xf 296 (by decide)).trans ef296
          have ef417 := (xf 417 (by decide)).trans ef417
          have ef418 := (xf 418 (by decide)).trans ef418
          have hfE := hfE.trans xf (by decide)
          have eg290 := (xg 290 (by decide)).trans eg290
          have eg291 := (xg 291 (by decide)).trans eg291
          have eg292 := (xg 292 (by decide)).trans eg292
          have eg424 := (xg 424 (by decide)).trans eg424
          have hgE := hgE.trans xg (by decide)
          have qL := q94
          have hsm := small_tk (a := 0) (b := 7) (i := ((t : Int) + 1)) hk (by omega) (by omega) (by decide) (by decide) qL
          obtain ⟨fl9, ef289⟩ : ∃ z, f94 289 = z := ⟨_, rfl⟩
          obtain ⟨nx9, ef294⟩ : ∃ z, f94 294 = z := ⟨_, rfl⟩
          rw [ef289, ef294] at hsm
          refine z_iadd (TX3_wordPart_1.at 10 rfl) ?_
          refine zc_callV2 (m := 13) (c_put eg424 ef417 (by omega) (by omega) (by omega) (by omega) (by omega) (by omega) (by omega) ) (hH.lv (by decide)) (TX3_wordPart_1.at 11 rfl) c3_214 rfl rfl hH hA (by omega) (Nat.le_of_ble_eq_true rfl) (fun f98 g98 j98 h q98 hH hA => ?_)
          obtain ⟨q98, xf, xg, xj⟩ := q98
          rw [xj] at hH
          have ef289 := (xf 289 (by decide)).trans ef289
          have ef293 := (xf 293 (by decide)).trans ef293
          have ef294 := (xf 294 (by decide)).trans ef294
          have ef295 := (xf 295 (by decide)).trans ef295
          have ef296 := (xf 296 (by decide)).trans ef296
          have ef418 := (xf 418 (by decide)).trans ef418
          have hfE := hfE.trans xf (by decide)
          have eg290 := (xg 290 (by decide)).trans eg290
          have eg291 := (xg 291 (by decide)).trans eg291
          have eg292 := (xg 292 (by decide)).trans eg292
          have hgE := hgE.trans xg (by decide)
          have qL := q98
          rw [if_pos (show N < 400 by omega), if_pos (show N < 400 by omega)] at qL
          have ef417 := qL.1
          have eg424 := qL.2
          refine z_goto (tgt := 150) (TX3_wordPart_1.at 12 rfl) rfl ?_
          refine z_ild_1 (TX3_wordPart_1.at 37 rfl) ?_
          refine z_bipush (by decide) (TX3_wordPart_1.at 38 rfl) ?_
          refine z_icmp_eq (tgt := 162) (TX3_wordPart_1.at 39 rfl) rfl (by omega) (by omega) (fun c15 => ?_) (fun c15 => ?_)
          · skip
            refine z_ald_0 (TX3_wordPart_2.at 3 rfl) ?_
            refine zc_getO (m := 9) (s := 0) (k := 447) (hH.lv (by decide)) (TX3_wordPart_2.at 4 rfl) fl3_14 hH rfl rfl (by decide) (by decide) ?_
            refine z_iconst (TX3_wordPart_2.at 5 rfl) ?_
            refine zc_putZ (m := 13) (s := 2) (k := 418) (hH.lv (by decide)) (TX3_wordPart_2.at 6 rfl) fp3_241 hH hA rfl rfl (by decide) (by decide) (by first | omega | exact b2i_01 _) (fun h f167 e1 e2 hH hA => ?_)
            have ef289 := (e1 289 (by decide)).trans ef289
            have ef293 := (e1 293 (by decide)).trans ef293
            have ef294 := (e1 294 (by decide)).trans ef294
            have ef295 := (e1 295 (by decide)).trans ef295
            have ef296 := (e1 296 (by decide)).trans ef296
            have ef417 := (e1 417 (by decide)).trans ef417
            have ef418 := e2
            have hfE := hfE.put e1 (by decide)
            refine zc_vret (TX3_wordPart_2.at 7 rfl) rfl hH hA ?_
            exfalso; omega
          · skip
            refine z_ild_1 (TX3_wordPart_2.at 0 rfl) ?_
            refine z_bipush (by decide) (TX3_wordPart_2.at 1 rfl) ?_
            refine z_icmp_ne (tgt := 170) (TX3_wordPart_2.at 2 rfl) rfl (by omega) (by omega) (fun c16 => ?_) (fun c16 => ?_)
            · skip
              refine zc_vret (TX3_wordPart_2.at 7 rfl) rfl hH hA ?_
              rcases hsm with ⟨h1, h2, h3, h4, h5⟩ | ⟨h1, h2, h3, h4⟩
              · rw [h2] at eg424
                exact ⟨LvQ.ok1 (t' := t + 2) (pWrd_l1 (by omega) h1) (ef289.trans h3) ef293 (ef294.trans (by omega)) ef295 (by omega) p1 ef417 (by omega) ef418 ha id eg424 (Cod_fact (iu_self _ _ _) (by omega) (by omega)) (fun _ => Ng_fact (by omega) (by omega)), hfE, hgE, rfl⟩
              · exact ⟨LvQ.er (pWrd_l0 (by omega) h1) (mkD ef293 ef294 ef295 ef417 ef418 (ef289.trans h3) htk (by omega) (by omega) (by omega) ha id (by have := (hk.2.1 ((t : Int) + 1) (by omega) t2).2; show Pl ((t : Int) + 1) ≠ -1; omega)), hfE, hgE, rfl⟩
            · skip
              refine z_ald_0 (TX3_wordPart_2.at 3 rfl) ?_
              refine zc_getO (m := 9) (s := 0) (k := 447) (hH.lv (by decide)) (TX3_wordPart_2.at 4 rfl) fl3_14 hH rfl rfl (by decide) (by decide) ?_
              refine z_iconst (TX3_wordPart_2.at 5 rfl) ?_
              refine zc_putZ (m := 13) (s := 2) (k := 418) (hH.lv (by decide)) (TX3_wordPart_2.at 6 rfl) fp3_241 hH hA rfl rfl (by decide) (by decide) (by first | omega | exact b2i_01 _) (fun h f167 e1 e2 hH hA => ?_)
              have ef289 := (e1 289 (by decide)).trans ef289
              have ef293 := (e1 293 (by decide)).trans ef293
              have ef294 := (e1 294 (by decide)).trans ef294
              have ef295 := (e1 295 (by decide)).trans ef295
              have ef296 := (e1 296 (by decide)).trans ef296
              have ef417 := (e1 417 (by decide)).trans ef417
              have ef418 := e2
              have hfE := hfE.put e1 (by decide)
              refine zc_vret (TX3_wordPart_2.at 7 rfl) rfl hH hA ?_
              exfalso; omega
      · skip
        refine z_ald_0 (TX3_wordPart_0.at 31 rfl) ?_
        refine zc_callV0 (m := 9) (c_fail eg292 ef289 ef294 (by omega) (by omega) ) (hH.lv (by decide)) (TX3_wordPart_0.at 32 rfl) c3_54 rfl rfl hH hA (by omega) (Nat.le_of_ble_eq_true rfl) (fun f62 g62 j62 h q62 hH hA => ?_)
        obtain ⟨q62, xf, xg, xj⟩ := q62
        rw [xj] at hH
        have ef293 := (xf 293 (by decide)).trans ef293
        have ef294 := (xf 294 (by decide)).trans ef294
        have ef295 := (xf 295 (by decide)).trans ef295
        have ef296 := (xf 296 (by decide)).trans ef296
        have ef417 := (xf 417 (by decide)).trans ef417
        have ef418 := (xf 418 (by decide)).trans ef418
        have hfE := hfE.trans xf (by decide)
        have eg290 := (xg 290 (by decide)).trans eg290
        have eg291 := (xg 291 (by decide)).trans eg291
        have eg292 := (xg 292 (by decide)).trans eg292
        have eg424 := (xg 424 (by decide)).trans eg424
        have hgE := hgE.trans xg (by decide)
        have qL := q62
        have ef289 := qL.trans (if_pos rfl)
        refine zc_vret (TX3_wordPart_0.at 33 rfl) rfl hH hA ?_
        exact ⟨LvQ.er (pWrd_no (by omega)) (mkD ef293 ef294 ef295 ef417 ef418 ef289 htk (by omega) (by omega) (by omega) ha id (by omega)), hfE, hgE, rfl⟩

