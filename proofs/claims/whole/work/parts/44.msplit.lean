/-! ===== the reference's tokens ===== -/
theorem zand_tab : (List.range 256).all (fun n => decide (zand ((n : Int) - 128) 255 = if 128 ≤ n then (n : Int) - 128 else (n : Int) + 128)) = true := by decide +kernel
theorem zand_255 {x u : Int} (h : (x = u ∧ 0 ≤ u ∧ u ≤ 127) ∨ (x = u - 256 ∧ 128 ≤ u ∧ u ≤ 255)) : zand x 255 = u := by
  have t := of_decide_eq_true (List.all_eq_true.mp zand_tab (x + 128).toNat (List.mem_range.mpr (by omega)))
  rw [show (((x + 128).toNat : Nat) : Int) - 128 = x by omega] at t
  rw [t]
  split <;> omega
theorem sm_t {u : Int} (h : 97 ≤ u ∧ u ≤ 122) : smB u = true := decide_eq_true h
theorem sm_f {u : Int} (h : ¬ (97 ≤ u ∧ u ≤ 122)) : ¬ smB u = true := fun q => h (of_decide_eq_true q)
theorem dg_t {u : Int} (h : 48 ≤ u ∧ u ≤ 57) : dgB u = true := decide_eq_true h
theorem dg_f {u : Int} (h : ¬ (48 ≤ u ∧ u ≤ 57)) : ¬ dgB u = true := fun q => h (of_decide_eq_true q)
theorem runE_all {p : Int → Bool} {U : Int → Int} {z : Int} : ∀ (m : Nat) (k j : Int), k ≤ j → j < runE p U z m k → p (U j) = true := by
  intro m
  induction m with
  | zero => intro k j h1 h2; simp only [runE] at h2; omega
  | succ m ih =>
    intro k j h1 h2
    simp only [runE] at h2
    split at h2
    · rename_i hc
      by_cases e : j = k
      · rw [e]; exact hc.2
      · exact ih (k + 1) j (by omega) h2
    · omega
theorem runE_t {p : Int → Bool} {U : Int → Int} {z k : Int} {m : Nat} (h : k < z) (hp : p (U k) = true) : runE p U z (m + 1) k = runE p U z m (k + 1) := by simp only [runE]; rw [if_pos ⟨h, hp⟩]
theorem runE_f {p : Int → Bool} {U : Int → Int} {z k : Int} {m : Nat} (h : ¬ (k < z ∧ p (U k) = true)) : runE p U z (m + 1) k = k := by simp only [runE]; rw [if_neg h]
theorem dig_all {U : Int → Int} {z k j : Int} (hk : k < z) (hd : dgB (U k) = true) (h1 : k ≤ j) (h2 : j < endT U z k) : 48 ≤ U j ∧ U j ≤ 57 := by
  by_cases e : j = k
  · rw [e]; exact of_decide_eq_true hd
  · have hs : ¬ smB (U k) = true := fun z => by have a := of_decide_eq_true z; have b := of_decide_eq_true hd; omega
    unfold endT at h2
    rw [if_neg hs, if_pos hd] at h2
    exact of_decide_eq_true (runE_all 400 (k + 1) j (by omega) h2)
theorem numN_in {U : Int → Int} {k : Int} : ∀ m : Nat, (∀ j : Int, k ≤ j → j < k + m → 48 ≤ U j ∧ U j ≤ 57) → 0 ≤ numN U k m ∧ numN U k m ≤ 10000009 := by
  intro m
  induction m with
  | zero => intro _; simp [numN]
  | succ m ih =>
    intro h
    have a := ih (fun j h1 h2 => h j h1 (by omega))
    have b := h (k + m) (by omega) (by omega)
    simp only [numN]
    split <;> omega
theorem numN_s {U : Int → Int} {k i : Int} (h : k ≤ i) : numN U k (i + 1 - k).toNat = if numN U k (i - k).toNat > 1000000 then numN U k (i - k).toNat else 10 * numN U k (i - k).toNat + U i - 48 := by
  rw [show (i + 1 - k).toNat = (i - k).toNat + 1 by omega, numN, show k + (((i - k).toNat : Nat) : Int) = i by omega]
theorem iu_iu {G : Int → Int} {i a b : Int} : iu (iu G i a) i b = iu G i b := by
  funext t; unfold iu; split <;> rfl
theorem wordC_in (U : Int → Int) (a b : Int) : 0 ≤ wordC U a b ∧ wordC U a b ≤ 27 := by
  have key : ∀ n : Nat, -1 ≤ fstP (wEqB U a b) n ∧ fstP (wEqB U a b) n < n + 1 := by
    intro n
    induction n with
    | zero => simp [fstP]
    | succ n ih => simp only [fstP]; split; omega; split <;> omega
  have := key 27
  have k2 : ∀ n : Nat, fstP (wEqB U a b) n ≤ (n : Int) - 1 ∨ fstP (wEqB U a b) n = -1 := by
    intro n
    induction n with
    | zero => exact Or.inr rfl
    | succ n ih => simp only [fstP]; split; omega; split <;> omega
  have := k2 27
  unfold wordC
  omega
set_option maxHeartbeats 4000000 in
set_option maxRecDepth 100000 in
theorem lp_sp1 {l : Launch} {o : Nat} {ar : Nat → Nat} {d : Nat} {Pz : Option Value → zH → Prop} {h0 : zH} {f0 : mF} {g0 : mA} {j : mA} (hd : 1 ≤ d) {X7 X11 C V Q U : Int → Int} {k b E nn : Int} {z : Int} {o5 : Option Value} (hU : TpU X11 U) (z4 : z ≤ 400) (kx : ∀ (f : mF) (g : mA) (h : zH), g 7 = X7 → g 11 = X11 → g 15 = C → g 16 = V → g 17 = Q → f 18 = nn → eqx [] f0 f → eqx [] g0 g → HM o ar f g j h → zAg o ar h0 h → Z l MX8_splits d 0 0 Pz 68 [some (.ref o), some (vI z), some (vI k), some (vI b), some (vI E), o5] [] h 0 0)  : ∀ (n : Nat) (x : Int) (f : mF) (g : mA) (h : zH) (x0 : 0 ≤ x) (x1 : x ≤ z) (x2 : z < x + n) (hE : runE smB U z n x = E) (eg7 : g 7 = X7) (eg11 : g 11 = X11) (eg15 : g 15 = C) (eg16 : g 16 = V) (eg17 : g 17 = Q) (ef18 : f 18 = nn) (hfE : eqx [] f0 f) (hgE : eqx [] g0 g) (hH : HM o ar f g j h) (hA : zAg o ar h0 h), Z l MX8_splits d 0 0 Pz 43 [some (.ref o), some (vI z), some (vI k), some (vI b), some (vI x), o5] [] h 0 0 := by
  intro n
  induction n with
  | zero => intro x f g h x0 x1 x2 hE eg7 eg11 eg15 eg16 eg17 ef18 hfE hgE hH hA; exfalso; omega
  | succ n ih =>
    intro x f g h x0 x1 x2 hE eg7 eg11 eg15 eg16 eg17 ef18 hfE hgE hH hA
    refine z_ild_4 (TX8_splits_0.at 25 rfl) ?_
    refine z_ild_1 (TX8_splits_0.at 26 rfl) ?_
    refine z_icmp_ge (tgt := 68) (TX8_splits_0.at 27 rfl) rfl (by omega) (by omega) (fun c1 => ?_) (fun c1 => ?_)
    · skip
      have hx : x = E := (by rw [← hE, runE_f (fun q => by have q2 := of_decide_eq_true q.2; omega)])
      subst hx
      exact kx _ _ _ eg7 eg11 eg15 eg16 eg17 ef18 hfE hgE hH hA
    · skip
      have hu := hU x x0 (by omega)
      refine z_ald_0 (TX8_splits_0.at 28 rfl) ?_
      refine zm_getA (TX8_splits_0.at 29 rfl) fl8_45 hH (by decide) (by decide) ?_
      refine z_ild_4 (TX8_splits_0.at 30 rfl) ?_
      refine zm_baldE eg11 (TX8_splits_0.at 31 rfl) hH rfl (by omega) (show _ < ((400 : Nat) : Int) by omega) (fun r55 => ?_)
      refine zs_call1 (s_isSmall (by omega)) (TX8_splits_0.at 32 rfl) c8_159 rfl (by omega) (Nat.le_of_ble_eq_true rfl) (fun r56 => ?_)
      refine z_if_eqB (tgt := 68) (TX8_splits_0.at 33 rfl) rfl (fun c2 => ?_) (fun c2 => ?_)
      · skip
        have hx : x = E := (by rw [← hE, runE_f (fun q => by have q2 := of_decide_eq_true q.2; omega)])
        subst hx
        exact kx _ _ _ eg7 eg11 eg15 eg16 eg17 ef18 hfE hgE hH hA
      · skip
        refine z_iinc_4 (TX8_splits_0.at 34 rfl) (Nat.le_of_ble_eq_true rfl) rfl ?_
        refine z_goto (tgt := 43) (TX8_splits_0.at 35 rfl) rfl ?_
        exact ih (x + 1) _ _ _ (by omega) (by omega) (by omega) (by rw [← runE_t (p := smB) (by omega) (decide_eq_true (by omega))]; exact hE) eg7 eg11 eg15 eg16 eg17 ef18 hfE hgE hH hA

set_option maxHeartbeats 4000000 in
set_option maxRecDepth 100000 in
theorem lp_sp2 {l : Launch} {o : Nat} {ar : Nat → Nat} {d : Nat} {Pz : Option Value → zH → Prop} {h0 : zH} {f0 : mF} {g0 : mA} {j : mA} (hd : 1 ≤ d) {X7 X11 C V Q U : Int → Int} {k b E nn : Int} {z : Int} {o5 : Option Value} (hU : TpU X11 U) (z4 : z ≤ 400) (kx : ∀ (f : mF) (g : mA) (h : zH), g 7 = X7 → g 11 = X11 → g 15 = C → g 16 = V → g 17 = Q → f 18 = nn → eqx [] f0 f → eqx [] g0 g → HM o ar f g j h → zAg o ar h0 h → Z l MX8_splits d 0 0 Pz 100 [some (.ref o), some (vI z), some (vI k), some (vI b), some (vI E), o5] [] h 0 0)  : ∀ (n : Nat) (x : Int) (f : mF) (g : mA) (h : zH) (x0 : 0 ≤ x) (x1 : x ≤ z) (x2 : z < x + n) (hE : runE dgB U z n x = E) (eg7 : g 7 = X7) (eg11 : g 11 = X11) (eg15 : g 15 = C) (eg16 : g 16 = V) (eg17 : g 17 = Q) (ef18 : f 18 = nn) (hfE : eqx [] f0 f) (hgE : eqx [] g0 g) (hH : HM o ar f g j h) (hA : zAg o ar h0 h), Z l MX8_splits d 0 0 Pz 75 [some (.ref o), some (vI z), some (vI k), some (vI b), some (vI x), o5] [] h 0 0 := by
  intro n
  induction n with
  | zero => intro x f g h x0 x1 x2 hE eg7 eg11 eg15 eg16 eg17 ef18 hfE hgE hH hA; exfalso; omega
  | succ n ih =>
    intro x f g h x0 x1 x2 hE eg7 eg11 eg15 eg16 eg17 ef18 hfE hgE hH hA
    refine z_ild_4 (TX8_splits_0.at 39 rfl) ?_
    refine z_ild_1 (TX8_splits_1.at 0 rfl) ?_
    refine z_icmp_ge (tgt := 100) (TX8_splits_1.at 1 rfl) rfl (by omega) (by omega) (fun c1 => ?_) (fun c1 => ?_)
    · skip
      have hx : x = E := (by rw [← hE, runE_f (fun q => by have q2 := of_decide_eq_true q.2; omega)])
      subst hx
      exact kx _ _ _ eg7 eg11 eg15 eg16 eg17 ef18 hfE hgE hH hA
    · skip
      have hu := hU x x0 (by omega)
      refine z_ald_0 (TX8_splits_1.at 2 rfl) ?_
      refine zm_getA (TX8_splits_1.at 3 rfl) fl8_45 hH (by decide) (by decide) ?_
      refine z_ild_4 (TX8_splits_1.at 4 rfl) ?_
      refine zm_baldE eg11 (TX8_splits_1.at 5 rfl) hH rfl (by omega) (show _ < ((400 : Nat) : Int) by omega) (fun r87 => ?_)
      refine zs_call1 (s_isDigit (by omega)) (TX8_splits_1.at 6 rfl) c8_162 rfl (by omega) (Nat.le_of_ble_eq_true rfl) (fun r88 => ?_)
      refine z_if_eqB (tgt := 100) (TX8_splits_1.at 7 rfl) rfl (fun c2 => ?_) (fun c2 => ?_)
      · skip
        have hx : x = E := (by rw [← hE, runE_f (fun q => by have q2 := of_decide_eq_true q.2; omega)])
        subst hx
        exact kx _ _ _ eg7 eg11 eg15 eg16 eg17 ef18 hfE hgE hH hA
      · skip
        refine z_iinc_4 (TX8_splits_1.at 8 rfl) (Nat.le_of_ble_eq_true rfl) rfl ?_
        refine z_goto (tgt := 75) (TX8_splits_1.at 9 rfl) rfl ?_
        exact ih (x + 1) _ _ _ (by omega) (by omega) (by omega) (by rw [← runE_t (p := dgB) (by omega) (decide_eq_true (by omega))]; exact hE) eg7 eg11 eg15 eg16 eg17 ef18 hfE hgE hH hA

set_option maxHeartbeats 4000000 in
set_option maxRecDepth 100000 in
theorem lp_sp3 {l : Launch} {o : Nat} {ar : Nat → Nat} {d : Nat} {Pz : Option Value → zH → Prop} {h0 : zH} {f0 : mF} {g0 : mA} {j : mA} (hd : 1 ≤ d) {X7 X11 C V Q U : Int → Int} {k b e nn z : Int} (hU : TpU X11 U) (z4 : z ≤ 400) (k0 : 0 ≤ k) (kz : k < z) (he : e = endT U z k) (hb : b = X11 k) (n0 : 0 ≤ nn) (n4 : nn ≤ 400) (kx : ∀ (o5 : Option Value) (f : mF) (g : mA) (h : zH), g 7 = X7 → g 11 = X11 → g 15 = C → g 16 = iu V nn (valT U z k) → g 17 = Q → f 18 = nn → eqx [] f0 f → eqx [16] g0 g → HM o ar f g j h → zAg o ar h0 h → Z l MX8_splits d 0 0 Pz 247 [some (.ref o), some (vI z), some (vI k), some (vI b), some (vI e), o5] [] h 0 0)  : ∀ (n : Nat) (i : Int) (f : mF) (g : mA) (h : zH) (i0 : k ≤ i) (i1 : i ≤ e) (i2 : e < i + n) (hnd : ¬ dgB (U k) = true → i = k) (eg7 : g 7 = X7) (eg11 : g 11 = X11) (eg15 : g 15 = C) (eg16 : g 16 = iu V nn (numN U k (i - k).toNat)) (eg17 : g 17 = Q) (ef18 : f 18 = nn) (hfE : eqx [] f0 f) (hgE : eqx [16] g0 g) (hH : HM o ar f g j h) (hA : zAg o ar h0 h), Z l MX8_splits d 0 0 Pz 169 [some (.ref o), some (vI z), some (vI k), some (vI b), some (vI e), some (vI i)] [] h 0 0 := by
  intro n
  induction n with
  | zero => intro i f g h i0 i1 i2 hnd eg7 eg11 eg15 eg16 eg17 ef18 hfE hgE hH hA; exfalso; omega
  | succ n ih =>
    intro i f g h i0 i1 i2 hnd eg7 eg11 eg15 eg16 eg17 ef18 hfE hgE hH hA
    have hen := endT_in (U := U) (z := z) (k := k) kz
    have huk := hU k k0 (by omega)
    refine z_ild_5 (TX8_splits_2.at 7 rfl) ?_
    refine z_ild_4 (TX8_splits_2.at 8 rfl) ?_
    refine z_icmp_ge (tgt := 247) (TX8_splits_2.at 9 rfl) rfl (by omega) (by omega) (fun c1 => ?_) (fun c1 => ?_)
    · skip
      have hv : numN U k (i - k).toNat = valT U z k := by
        unfold valT
        by_cases hq : dgB (U k) = true
        · rw [if_pos hq]
          have hq2 := of_decide_eq_true hq
          have hie : i = e := (by omega)
          rw [hie, he]
        · rw [if_neg hq, hnd hq, show (k - k).toNat = 0 by omega]; rfl
      rw [hv] at eg16
      exact kx _ _ _ _ eg7 eg11 eg15 eg16 eg17 ef18 hfE hgE hH hA
    · skip
      refine z_ild_3 (TX8_splits_2.at 10 rfl) ?_
      refine zs_call1 (s_isDigit (by omega)) (TX8_splits_2.at 11 rfl) c8_162 rfl (by omega) (Nat.le_of_ble_eq_true rfl) (fun r177 => ?_)
      refine z_if_eqB (tgt := 247) (TX8_splits_2.at 12 rfl) rfl (fun c2 => ?_) (fun c2 => ?_)
      · skip
        have hv : numN U k (i - k).toNat = valT U z k := by
          unfold valT
          by_cases hq : dgB (U k) = true
          · rw [if_pos hq]
            have hq2 := of_decide_eq_true hq
            have hie : i = e := (by omega)
            rw [hie, he]
          · rw [if_neg hq, hnd hq, show (k - k).toNat = 0 by omega]; rfl
        rw [hv] at eg16
        exact kx _ _ _ _ eg7 eg11 eg15 eg16 eg17 ef18 hfE hgE hH hA
      · skip
        have hdg : dgB (U k) = true := decide_eq_true (by omega)
        have hui := hU i (by omega) (by omega)
        have hdi := dig_all (U := U) (z := z) (k := k) (j := i) kz hdg i0 (by omega)
        have hni := numN_in (U := U) (k := k) (i - k).toNat (fun j h1 h2 => dig_all kz hdg h1 (by omega))
        refine z_ald_0 (TX8_splits_2.at 13 rfl) ?_
        refine zm_getA (TX8_splits_2.at 14 rfl) fl8_57 hH (by decide) (by decide) ?_
        refine z_ald_0 (TX8_splits_2.at 15 rfl) ?_
        refine zm_getIE ef18 (TX8_splits_2.at 16 rfl) fl8_156 hH rfl (by decide) (fun r188 => ?_)
        refine z_ald_0 (TX8_splits_2.at 17 rfl) ?_
        refine zm_getA (TX8_splits_2.at 18 rfl) fl8_57 hH (by decide) (by decide) ?_
        refine z_ald_0 (TX8_splits_2.at 19 rfl) ?_
        refine zm_getIE ef18 (TX8_splits_2.at 20 rfl) fl8_156 hH rfl (by decide) (fun r196 => ?_)
        refine zm_ialdE eg16 (TX8_splits_2.at 21 rfl) hH rfl (by omega) (show _ < ((401 : Nat) : Int) by omega) (fun r199 => ?_)
        rw [iu_self] at r199 ⊢
        refine z_ldc (v := 1000000) (TX8_splits_2.at 22 rfl) k8_169 (by decide) ?_
        refine z_icmp_le (tgt := 217) (TX8_splits_2.at 23 rfl) rfl (by omega) (by omega) (fun c3 => ?_) (fun c3 => ?_)
        · skip
          refine z_bipush (by decide) (TX8_splits_2.at 30 rfl) ?_
          refine z_ald_0 (TX8_splits_2.at 31 rfl) ?_
          refine zm_getA (TX8_splits_2.at 32 rfl) fl8_57 hH (by decide) (by decide) ?_
          refine z_ald_0 (TX8_splits_2.at 33 rfl) ?_
          refine zm_getIE ef18 (TX8_splits_2.at 34 rfl) fl8_156 hH rfl (by decide) (fun r224 => ?_)
          refine zm_ialdE eg16 (TX8_splits_2.at 35 rfl) hH rfl (by omega) (show _ < ((401 : Nat) : Int) by omega) (fun r227 => ?_)
          rw [iu_self] at r227 ⊢
          refine z_imul (TX8_splits_2.at 36 rfl) ?_
          refine z_ald_0 (TX8_splits_2.at 37 rfl) ?_
          refine zm_getA (TX8_splits_2.at 38 rfl) fl8_45 hH (by decide) (by decide) ?_
          refine z_ild_5 (TX8_splits_2.at 39 rfl) ?_
          refine zm_baldE eg11 (TX8_splits_3.at 0 rfl) hH rfl (by omega) (show _ < ((400 : Nat) : Int) by omega) (fun r235 => ?_)
          refine z_iadd (TX8_splits_3.at 1 rfl) ?_
          refine z_bipush (by decide) (TX8_splits_3.at 2 rfl) ?_
          refine z_isub (TX8_splits_3.at 3 rfl) ?_
          refine zm_iastE (TX8_splits_3.at 4 rfl) hH hA rfl (by omega) (show _ < ((401 : Nat) : Int) by omega) (by omega) (fun h g240 e1 e2 hH hA => ?_)
          have eg7 := (e1 7 (by decide)).trans eg7
          have eg11 := (e1 11 (by decide)).trans eg11
          have eg15 := (e1 15 (by decide)).trans eg15
          rw [eg16] at e2; have eg16 := e2
          have eg17 := (e1 17 (by decide)).trans eg17
          have hgE := hgE.put e1 (by decide)
          refine z_iinc_5 (TX8_splits_3.at 5 rfl) (Nat.le_of_ble_eq_true rfl) rfl ?_
          refine z_goto (tgt := 169) (TX8_splits_3.at 6 rfl) rfl ?_
          exact ih (i + 1) _ _ _ (by omega) (by omega) (by omega) (fun q => absurd hdg q) eg7 eg11 eg15 (eg16.trans (by rw [iu_iu, numN_s i0]; first | (rw [if_pos (by omega)]; done) | (rw [if_neg (by omega)]; congr 1; omega))) eg17 ef18 hfE hgE hH hA
        · skip
          refine z_ald_0 (TX8_splits_2.at 24 rfl) ?_
          refine zm_getA (TX8_splits_2.at 25 rfl) fl8_57 hH (by decide) (by decide) ?_
          refine z_ald_0 (TX8_splits_2.at 26 rfl) ?_
          refine zm_getIE ef18 (TX8_splits_2.at 27 rfl) fl8_156 hH rfl (by decide) (fun r210 => ?_)
          refine zm_ialdE eg16 (TX8_splits_2.at 28 rfl) hH rfl (by omega) (show _ < ((401 : Nat) : Int) by omega) (fun r213 => ?_)
          rw [iu_self] at r213 ⊢
          refine z_goto (tgt := 240) (TX8_splits_2.at 29 rfl) rfl ?_
          refine zm_iastE (TX8_splits_3.at 4 rfl) hH hA rfl (by omega) (show _ < ((401 : Nat) : Int) by omega) (by omega) (fun h g240 e1 e2 hH hA => ?_)
          have eg7 := (e1 7 (by decide)).trans eg7
          have eg11 := (e1 11 (by decide)).trans eg11
          have eg15 := (e1 15 (by decide)).trans eg15
          rw [eg16] at e2; have eg16 := e2
          have eg17 := (e1 17 (by decide)).trans eg17
          have hgE := hgE.put e1 (by decide)
          refine z_iinc_5 (TX8_splits_3.at 5 rfl) (Nat.le_of_ble_eq_true rfl) rfl ?_
          refine z_goto (tgt := 169) (TX8_splits_3.at 6 rfl) rfl ?_
          exact ih (i + 1) _ _ _ (by omega) (by omega) (by omega) (fun q => absurd hdg q) eg7 eg11 eg15 (eg16.trans (by rw [iu_iu, numN_s i0]; first | (rw [if_pos (by omega)]; done) | (rw [if_neg (by omega)]; congr 1; omega))) eg17 ef18 hfE hgE hH hA

theorem arr_s {Q C V P U : Int → Int} {z nn k cc vv : Int} (h : ∀ i : Int, 0 ≤ i → i < nn → Q i = P i ∧ C i = codeT U z (P i) ∧ V i = valT U z (P i)) (e1 : cc = codeT U z k) (e2 : vv = valT U z k) : ∀ i : Int, 0 ≤ i → i < nn + 1 → iu Q nn k i = iu P nn k i ∧ iu C nn cc i = codeT U z (iu P nn k i) ∧ iu V nn vv i = valT U z (iu P nn k i) := by
  intro i h0 h1
  by_cases e : i = nn
  · subst e; rw [iu_self, iu_self, iu_self, iu_self]; exact ⟨rfl, e1, e2⟩
  · rw [iu_ne e, iu_ne e, iu_ne e, iu_ne e]; exact h i h0 (by omega)
set_option maxHeartbeats 4000000 in
set_option maxRecDepth 100000 in
theorem lp_sp4 {l : Launch} {o : Nat} {ar : Nat → Nat} {d : Nat} {Pz : Option Value → zH → Prop} {h0 : zH} {f0 : mF} {g0 : mA} {j : mA} (hd : 1 ≤ d) {X7 X11 U : Int → Int} {z : Int} (hW : WdH X7) (hU : TpU X11 U) (z0 : 0 ≤ z) (z4 : z ≤ 400) (kx : ∀ (nn : Int) (P C V Q : Int → Int) (o2 o3 o4 o5 : Option Value) (f : mF) (g : mA) (h : zH), (nn = tN U z ∧ P = tP U z) → (∀ i : Int, 0 ≤ i → i < nn → Q i = P i ∧ C i = codeT U z (P i) ∧ V i = valT U z (P i)) → g 11 = X11 → g 15 = C → g 16 = V → g 17 = Q → f 18 = nn → eqx [18] f0 f → eqx [15, 16, 17] g0 g → HM o ar f g j h → zAg o ar h0 h → Z l MX8_splits d 0 0 Pz 263 [some (.ref o), some (vI z), o2, o3, o4, o5] [] h 0 0)  : ∀ (n : Nat) (m : Nat) (k : Int) (nn : Int) (P : Int → Int) (C : Int → Int) (V : Int → Int) (Q : Int → Int) (o3 : Option Value) (o4 : Option Value) (o5 : Option Value) (f : mF) (g : mA) (h : zH) (es : (k, nn, P) = tkN U z m) (mf : 400 < m + n) (mk : (m : Int) ≤ k) (hAr : ∀ i : Int, 0 ≤ i → i < nn → Q i = P i ∧ C i = codeT U z (P i) ∧ V i = valT U z (P i)) (eg7 : g 7 = X7) (eg11 : g 11 = X11) (eg15 : g 15 = C) (eg16 : g 16 = V) (eg17 : g 17 = Q) (ef18 : f 18 = nn) (hfE : eqx [18] f0 f) (hgE : eqx [15, 16, 17] g0 g) (hH : HM o ar f g j h) (hA : zAg o ar h0 h), Z l MX8_splits d 0 0 Pz 7 [some (.ref o), some (vI z), some (vI k), o3, o4, o5] [] h 0 0 := by
  intro n
  induction n with
  | zero => intro m k nn P C V Q o3 o4 o5 f g h es mf mk hAr eg7 eg11 eg15 eg16 eg17 ef18 hfE hgE hH hA; exfalso; have hin := tkN_in (U := U) z0 m; rw [← es] at hin; simp only at hin; have hk := hin.1; omega
  | succ n ih =>
    intro m k nn P C V Q o3 o4 o5 f g h es mf mk hAr eg7 eg11 eg15 eg16 eg17 ef18 hfE hgE hH hA
    have hin := tkN_in (U := U) z0 m
    rw [← es] at hin
    simp only at hin
    obtain ⟨hk1, hk2, hk3, hk4⟩ := hin
    refine z_ild_2 (TX8_splits_0.at 5 rfl) ?_
    refine z_ild_1 (TX8_splits_0.at 6 rfl) ?_
    refine z_icmp_ge (tgt := 263) (TX8_splits_0.at 7 rfl) rfl (by omega) (by omega) (fun c1 => ?_) (fun c1 => ?_)
    · skip
      have hst : tkN U z 400 = (k, nn, P) := by
        have hf := tkN_e es (by omega) (400 - m)
        rw [show m + (400 - m) = 400 by omega] at hf
        exact hf
      exact kx nn P C V Q _ _ _ _ _ _ _ ⟨by unfold tN; rw [hst], by unfold tP; rw [hst]⟩ hAr eg11 eg15 eg16 eg17 ef18 hfE hgE hH hA
    · skip
      refine z_ald_0 (TX8_splits_0.at 8 rfl) ?_
      refine zm_getA (TX8_splits_0.at 9 rfl) fl8_45 hH (by decide) (by decide) ?_
      refine z_ild_2 (TX8_splits_0.at 10 rfl) ?_
      refine zm_baldE eg11 (TX8_splits_0.at 11 rfl) hH rfl (by omega) (show _ < ((400 : Nat) : Int) by omega) (fun r17 => ?_)
      refine z_ist_3 (TX8_splits_0.at 12 rfl) (Nat.le_of_ble_eq_true rfl) rfl ?_
      have hu := hU k hk1.1 (by omega)
      refine z_ild_3 (TX8_splits_0.at 13 rfl) ?_
      refine z_bipush (by decide) (TX8_splits_0.at 14 rfl) ?_
      refine z_icmp_ne (tgt := 31) (TX8_splits_0.at 15 rfl) rfl (by omega) (by omega) (fun c2 => ?_) (fun c2 => ?_)
      · skip
        have hen := endT_in (U := U) (z := z) (k := k) (by omega)
        refine z_ild_2 (TX8_splits_0.at 18 rfl) ?_
        refine z_iconst (TX8_splits_0.at 19 rfl) ?_
        refine z_iadd (TX8_splits_0.at 20 rfl) ?_
        refine z_ist_4 (TX8_splits_0.at 21 rfl) (Nat.le_of_ble_eq_true rfl) rfl ?_
        refine z_ild_3 (TX8_splits_0.at 22 rfl) ?_
        refine zs_call1 (s_isSmall (by omega)) (TX8_splits_0.at 23 rfl) c8_159 rfl (by omega) (Nat.le_of_ble_eq_true rfl) (fun r37 => ?_)
        refine z_if_eqB (tgt := 68) (TX8_splits_0.at 24 rfl) rfl (fun c3 => ?_) (fun c3 => ?_)
        · skip
          refine z_ild_3 (TX8_splits_0.at 36 rfl) ?_
          refine zs_call1 (s_isDigit (by omega)) (TX8_splits_0.at 37 rfl) c8_162 rfl (by omega) (Nat.le_of_ble_eq_true rfl) (fun r69 => ?_)
          refine z_if_eqB (tgt := 100) (TX8_splits_0.at 38 rfl) rfl (fun c4 => ?_) (fun c4 => ?_)
          · skip
            first | (have hs1 : ¬ (97 ≤ U k ∧ U k ≤ 122) := (by omega); have hd1 : ¬ (48 ≤ U k ∧ U k ≤ 57) := (by omega); rw [show k + 1 = endT U z k from (by unfold endT; rw [if_neg (sm_f hs1), if_neg (dg_f hd1)])]) | skip
            refine z_ald_0 (TX8_splits_1.at 10 rfl) ?_
            refine zm_getA (TX8_splits_1.at 11 rfl) fl8_60 hH (by decide) (by decide) ?_
            refine z_ald_0 (TX8_splits_1.at 12 rfl) ?_
            refine zm_getIE ef18 (TX8_splits_1.at 13 rfl) fl8_156 hH rfl (by decide) (fun r105 => ?_)
            refine z_ild_2 (TX8_splits_1.at 14 rfl) ?_
            refine zm_iastE (TX8_splits_1.at 15 rfl) hH hA rfl (by omega) (show _ < ((401 : Nat) : Int) by omega) (by omega) (fun h g109 e1 e2 hH hA => ?_)
            have eg7 := (e1 7 (by decide)).trans eg7
            have eg11 := (e1 11 (by decide)).trans eg11
            have eg15 := (e1 15 (by decide)).trans eg15
            have eg16 := (e1 16 (by decide)).trans eg16
            rw [eg17] at e2; have eg17 := e2
            have hgE := hgE.put e1 (by decide)
            refine z_ald_0 (TX8_splits_1.at 16 rfl) ?_
            refine zm_getA (TX8_splits_1.at 17 rfl) fl8_57 hH (by decide) (by decide) ?_
            refine z_ald_0 (TX8_splits_1.at 18 rfl) ?_
            refine zm_getIE ef18 (TX8_splits_1.at 19 rfl) fl8_156 hH rfl (by decide) (fun r115 => ?_)
            refine z_iconst (TX8_splits_1.at 20 rfl) ?_
            refine zm_iastE (TX8_splits_1.at 21 rfl) hH hA rfl (by omega) (show _ < ((401 : Nat) : Int) by omega) (by omega) (fun h g119 e1 e2 hH hA => ?_)
            have eg7 := (e1 7 (by decide)).trans eg7
            have eg11 := (e1 11 (by decide)).trans eg11
            have eg15 := (e1 15 (by decide)).trans eg15
            rw [eg16] at e2; have eg16 := e2
            have eg17 := (e1 17 (by decide)).trans eg17
            have hgE := hgE.put e1 (by decide)
            refine z_ald_0 (TX8_splits_1.at 22 rfl) ?_
            refine zm_getA (TX8_splits_1.at 23 rfl) fl8_54 hH (by decide) (by decide) ?_
            refine z_ald_0 (TX8_splits_1.at 24 rfl) ?_
            refine zm_getIE ef18 (TX8_splits_1.at 25 rfl) fl8_156 hH rfl (by decide) (fun r125 => ?_)
            refine z_ild_3 (TX8_splits_1.at 26 rfl) ?_
            refine zs_call1 (s_isSmall (by omega)) (TX8_splits_1.at 27 rfl) c8_159 rfl (by omega) (Nat.le_of_ble_eq_true rfl) (fun r129 => ?_)
            refine z_if_eqB (tgt := 145) (TX8_splits_1.at 28 rfl) rfl (fun c5 => ?_) (fun c5 => ?_)
            · skip
              refine z_ild_3 (TX8_splits_1.at 34 rfl) ?_
              refine zs_call1 (s_isDigit (by omega)) (TX8_splits_1.at 35 rfl) c8_162 rfl (by omega) (Nat.le_of_ble_eq_true rfl) (fun r146 => ?_)
              refine z_if_eqB (tgt := 157) (TX8_splits_1.at 36 rfl) rfl (fun c6 => ?_) (fun c6 => ?_)
              · skip
                refine z_bipush (by decide) (TX8_splits_1.at 39 rfl) ?_
                refine z_ild_3 (TX8_splits_2.at 0 rfl) ?_
                refine z_sipush (by decide) (TX8_splits_2.at 1 rfl) ?_
                refine z_iand (TX8_splits_2.at 2 rfl) ?_
                rw [zand_255 (u := U k) (by omega)]
                refine z_iadd (TX8_splits_2.at 3 rfl) ?_
                refine zm_iastE (TX8_splits_2.at 4 rfl) hH hA rfl (by omega) (show _ < ((401 : Nat) : Int) by omega) (by omega) (fun h g165 e1 e2 hH hA => ?_)
                have eg7 := (e1 7 (by decide)).trans eg7
                have eg11 := (e1 11 (by decide)).trans eg11
                rw [eg15] at e2; have eg15 := e2
                have eg16 := (e1 16 (by decide)).trans eg16
                have eg17 := (e1 17 (by decide)).trans eg17
                have hgE := hgE.put e1 (by decide)
                refine z_ild_2 (TX8_splits_2.at 5 rfl) ?_
                refine z_ist_5 (TX8_splits_2.at 6 rfl) (Nat.le_of_ble_eq_true rfl) rfl ?_
                refine lp_sp3 (U := U) (V := V) (e := endT U z k) (k := k) (b := X11 k) hd hU z4 hk1.1 (by omega) rfl rfl (by omega) (by omega) (fun o9 f169 g169 h eg7 eg11 eg15 eg16 eg17 ef18 xf xg hH hA => ?_) 402 k _ _ _ (by omega) (by omega) (by omega) (fun _ => rfl) eg7 eg11 eg15 (eg16.trans (by rw [show (k - k).toNat = 0 by omega]; rfl)) eg17 ef18 eqx.rf eqx.rf hH hA
                have hfE := hfE.trans xf (by decide)
                have hgE := hgE.trans xg (by decide)
                refine z_ald_0 (TX8_splits_3.at 7 rfl) ?_
                refine z_dup rfl (TX8_splits_3.at 8 rfl) ?_
                refine zm_getIE ef18 (TX8_splits_3.at 9 rfl) fl8_156 hH rfl (by decide) (fun r249 => ?_)
                refine z_iconst (TX8_splits_3.at 10 rfl) ?_
                refine z_iadd (TX8_splits_3.at 11 rfl) ?_
                refine zm_putIE (TX8_splits_3.at 12 rfl) fp8_156 hH hA rfl (by decide) (by first | omega | exact b2i_01 _) (fun h f254 e1 e2 hH hA => ?_)
                have ef18 := e2
                have hfE := hfE.put e1 (by decide)
                refine z_ild_4 (TX8_splits_3.at 13 rfl) ?_
                refine z_ist_2 (TX8_splits_3.at 14 rfl) (Nat.le_of_ble_eq_true rfl) rfl ?_
                refine z_goto (tgt := 7) (TX8_splits_3.at 15 rfl) rfl ?_
                first
                | (exfalso; omega)
                | (have hbl : U k = 32 := (by omega); exact ih (m + 1) _ _ _ _ _ _ _ _ _ _ _ _ (tkN_b es (by omega) hbl) (by omega) (by omega) hAr eg7 eg11 eg15 eg16 eg17 ef18 hfE hgE hH hA)
                | (have hsm : 97 ≤ U k ∧ U k ≤ 122 := (by omega); exact ih (m + 1) _ _ _ _ _ _ _ _ _ _ _ _ (tkN_t es (by omega) (by omega) rfl) (by omega) (by omega) (arr_s hAr (by unfold codeT; rw [if_pos (sm_t hsm)]) rfl) eg7 eg11 eg15 eg16 eg17 ef18 hfE hgE hH hA)
                | (have hdm : 48 ≤ U k ∧ U k ≤ 57 := (by omega); exact ih (m + 1) _ _ _ _ _ _ _ _ _ _ _ _ (tkN_t es (by omega) (by omega) rfl) (by omega) (by omega) (arr_s hAr (by unfold codeT; rw [if_neg (sm_f (by omega)), if_pos (dg_t hdm)]) rfl) eg7 eg11 eg15 eg16 eg17 ef18 hfE hgE hH hA)
                | exact ih (m + 1) _ _ _ _ _ _ _ _ _ _ _ _ (tkN_t es (by omega) (by omega) rfl) (by omega) (by omega) (arr_s hAr (by unfold codeT; rw [if_neg (sm_f (by omega)), if_neg (dg_f (by omega))]) rfl) eg7 eg11 eg15 eg16 eg17 ef18 hfE hgE hH hA
              · skip
                refine z_bipush (by decide) (TX8_splits_1.at 37 rfl) ?_
                refine z_goto (tgt := 165) (TX8_splits_1.at 38 rfl) rfl ?_
                refine zm_iastE (TX8_splits_2.at 4 rfl) hH hA rfl (by omega) (show _ < ((401 : Nat) : Int) by omega) (by omega) (fun h g165 e1 e2 hH hA => ?_)
                have eg7 := (e1 7 (by decide)).trans eg7
                have eg11 := (e1 11 (by decide)).trans eg11
                rw [eg15] at e2; have eg15 := e2
                have eg16 := (e1 16 (by decide)).trans eg16
                have eg17 := (e1 17 (by decide)).trans eg17
                have hgE := hgE.put e1 (by decide)
                refine z_ild_2 (TX8_splits_2.at 5 rfl) ?_
                refine z_ist_5 (TX8_splits_2.at 6 rfl) (Nat.le_of_ble_eq_true rfl) rfl ?_
                refine lp_sp3 (U := U) (V := V) (e := endT U z k) (k := k) (b := X11 k) hd hU z4 hk1.1 (by omega) rfl rfl (by omega) (by omega) (fun o9 f169 g169 h eg7 eg11 eg15 eg16 eg17 ef18 xf xg hH hA => ?_) 402 k _ _ _ (by omega) (by omega) (by omega) (fun _ => rfl) eg7 eg11 eg15 (eg16.trans (by rw [show (k - k).toNat = 0 by omega]; rfl)) eg17 ef18 eqx.rf eqx.rf hH hA
                have hfE := hfE.trans xf (by decide)
                have hgE := hgE.trans xg (by decide)
                refine z_ald_0 (TX8_splits_3.at 7 rfl) ?_
                refine z_dup rfl (TX8_splits_3.at 8 rfl) ?_
                refine zm_getIE ef18 (TX8_splits_3.at 9 rfl) fl8_156 hH rfl (by decide) (fun r249 => ?_)
                refine z_iconst (TX8_splits_3.at 10 rfl) ?_
                refine z_iadd (TX8_splits_3.at 11 rfl) ?_
                refine zm_putIE (TX8_splits_3.at 12 rfl) fp8_156 hH hA rfl (by decide) (by first | omega | exact b2i_01 _) (fun h f254 e1 e2 hH hA => ?_)
                have ef18 := e2
                have hfE := hfE.put e1 (by decide)
                refine z_ild_4 (TX8_splits_3.at 13 rfl) ?_
                refine z_ist_2 (TX8_splits_3.at 14 rfl) (Nat.le_of_ble_eq_true rfl) rfl ?_
                refine z_goto (tgt := 7) (TX8_splits_3.at 15 rfl) rfl ?_
                first
                | (exfalso; omega)
                | (have hbl : U k = 32 := (by omega); exact ih (m + 1) _ _ _ _ _ _ _ _ _ _ _ _ (tkN_b es (by omega) hbl) (by omega) (by omega) hAr eg7 eg11 eg15 eg16 eg17 ef18 hfE hgE hH hA)
                | (have hsm : 97 ≤ U k ∧ U k ≤ 122 := (by omega); exact ih (m + 1) _ _ _ _ _ _ _ _ _ _ _ _ (tkN_t es (by omega) (by omega) rfl) (by omega) (by omega) (arr_s hAr (by unfold codeT; rw [if_pos (sm_t hsm)]) rfl) eg7 eg11 eg15 eg16 eg17 ef18 hfE hgE hH hA)
                | (have hdm : 48 ≤ U k ∧ U k ≤ 57 := (by omega); exact ih (m + 1) _ _ _ _ _ _ _ _ _ _ _ _ (tkN_t es (by omega) (by omega) rfl) (by omega) (by omega) (arr_s hAr (by unfold codeT; rw [if_neg (sm_f (by omega)), if_pos (dg_t hdm)]) rfl) eg7 eg11 eg15 eg16 eg17 ef18 hfE hgE hH hA)
                | exact ih (m + 1) _ _ _ _ _ _ _ _ _ _ _ _ (tkN_t es (by omega) (by omega) rfl) (by omega) (by omega) (arr_s hAr (by unfold codeT; rw [if_neg (sm_f (by omega)), if_neg (dg_f (by omega))]) rfl) eg7 eg11 eg15 eg16 eg17 ef18 hfE hgE hH hA
            · skip
              refine z_ald_0 (TX8_splits_1.at 29 rfl) ?_
              refine z_ild_2 (TX8_splits_1.at 30 rfl) ?_
              refine z_ild_4 (TX8_splits_1.at 31 rfl) ?_
              refine zm_callI2 (m_wordOf (U := U) eg7 eg11 (by omega) (by omega) hW hU hk1.1 (by omega) (by omega)) (TX8_splits_1.at 32 rfl) c8_165 rfl rfl hH hA (by omega) (Nat.le_of_ble_eq_true rfl) (fun x139 f139 g139 j139 h r139 q139 hH hA => ?_)
              obtain ⟨q139, xf, xg, xj⟩ := q139
              rw [xj] at hH
              have ef18 := (xf 18 (by decide)).trans ef18
              have hfE := hfE.trans xf (by decide)
              have eg7 := (xg 7 (by decide)).trans eg7
              have eg11 := (xg 11 (by decide)).trans eg11
              have eg15 := (xg 15 (by decide)).trans eg15
              have eg16 := (xg 16 (by decide)).trans eg16
              have eg17 := (xg 17 (by decide)).trans eg17
              have hgE := hgE.trans xg (by decide)
              have qL := q139
              rw [qL] at r139 ⊢
              refine z_goto (tgt := 165) (TX8_splits_1.at 33 rfl) rfl ?_
              refine zm_iastE (TX8_splits_2.at 4 rfl) hH hA rfl (by omega) (show _ < ((401 : Nat) : Int) by omega) (by omega) (fun h g165 e1 e2 hH hA => ?_)
              have eg7 := (e1 7 (by decide)).trans eg7
              have eg11 := (e1 11 (by decide)).trans eg11
              rw [eg15] at e2; have eg15 := e2
              have eg16 := (e1 16 (by decide)).trans eg16
              have eg17 := (e1 17 (by decide)).trans eg17
              have hgE := hgE.put e1 (by decide)
              refine z_ild_2 (TX8_splits_2.at 5 rfl) ?_
              refine z_ist_5 (TX8_splits_2.at 6 rfl) (Nat.le_of_ble_eq_true rfl) rfl ?_
              refine lp_sp3 (U := U) (V := V) (e := endT U z k) (k := k) (b := X11 k) hd hU z4 hk1.1 (by omega) rfl rfl (by omega) (by omega) (fun o9 f169 g169 h eg7 eg11 eg15 eg16 eg17 ef18 xf xg hH hA => ?_) 402 k _ _ _ (by omega) (by omega) (by omega) (fun _ => rfl) eg7 eg11 eg15 (eg16.trans (by rw [show (k - k).toNat = 0 by omega]; rfl)) eg17 ef18 eqx.rf eqx.rf hH hA
              have hfE := hfE.trans xf (by decide)
              have hgE := hgE.trans xg (by decide)
              refine z_ald_0 (TX8_splits_3.at 7 rfl) ?_
              refine z_dup rfl (TX8_splits_3.at 8 rfl) ?_
              refine zm_getIE ef18 (TX8_splits_3.at 9 rfl) fl8_156 hH rfl (by decide) (fun r249 => ?_)
              refine z_iconst (TX8_splits_3.at 10 rfl) ?_
              refine z_iadd (TX8_splits_3.at 11 rfl) ?_
              refine zm_putIE (TX8_splits_3.at 12 rfl) fp8_156 hH hA rfl (by decide) (by first | omega | exact b2i_01 _) (fun h f254 e1 e2 hH hA => ?_)
              have ef18 := e2
              have hfE := hfE.put e1 (by decide)
              refine z_ild_4 (TX8_splits_3.at 13 rfl) ?_
              refine z_ist_2 (TX8_splits_3.at 14 rfl) (Nat.le_of_ble_eq_true rfl) rfl ?_
              refine z_goto (tgt := 7) (TX8_splits_3.at 15 rfl) rfl ?_
              first
              | (exfalso; omega)
              | (have hbl : U k = 32 := (by omega); exact ih (m + 1) _ _ _ _ _ _ _ _ _ _ _ _ (tkN_b es (by omega) hbl) (by omega) (by omega) hAr eg7 eg11 eg15 eg16 eg17 ef18 hfE hgE hH hA)
              | (have hsm : 97 ≤ U k ∧ U k ≤ 122 := (by omega); exact ih (m + 1) _ _ _ _ _ _ _ _ _ _ _ _ (tkN_t es (by omega) (by omega) rfl) (by omega) (by omega) (arr_s hAr (by unfold codeT; rw [if_pos (sm_t hsm)]) rfl) eg7 eg11 eg15 eg16 eg17 ef18 hfE hgE hH hA)
              | (have hdm : 48 ≤ U k ∧ U k ≤ 57 := (by omega); exact ih (m + 1) _ _ _ _ _ _ _ _ _ _ _ _ (tkN_t es (by omega) (by omega) rfl) (by omega) (by omega) (arr_s hAr (by unfold codeT; rw [if_neg (sm_f (by omega)), if_pos (dg_t hdm)]) rfl) eg7 eg11 eg15 eg16 eg17 ef18 hfE hgE hH hA)
              | exact ih (m + 1) _ _ _ _ _ _ _ _ _ _ _ _ (tkN_t es (by omega) (by omega) rfl) (by omega) (by omega) (arr_s hAr (by unfold codeT; rw [if_neg (sm_f (by omega)), if_neg (dg_f (by omega))]) rfl) eg7 eg11 eg15 eg16 eg17 ef18 hfE hgE hH hA
          · skip
            refine lp_sp2 (U := U) (E := endT U z k) hd hU z4 (fun f75 g75 h eg7 eg11 eg15 eg16 eg17 ef18 xf xg hH hA => ?_) 400 (k + 1) _ _ _ (by omega) (by omega) (by omega) (by unfold endT; rw [if_neg (sm_f (by omega)), if_pos (dg_t (by omega))]) eg7 eg11 eg15 eg16 eg17 ef18 eqx.rf eqx.rf hH hA
            have hfE := hfE.trans xf (by decide)
            have hgE := hgE.trans xg (by decide)
            first | (have hs1 : ¬ (97 ≤ U k ∧ U k ≤ 122) := (by omega); have hd1 : ¬ (48 ≤ U k ∧ U k ≤ 57) := (by omega); rw [show k + 1 = endT U z k from (by unfold endT; rw [if_neg (sm_f hs1), if_neg (dg_f hd1)])]) | skip
            refine z_ald_0 (TX8_splits_1.at 10 rfl) ?_
            refine zm_getA (TX8_splits_1.at 11 rfl) fl8_60 hH (by decide) (by decide) ?_
            refine z_ald_0 (TX8_splits_1.at 12 rfl) ?_
            refine zm_getIE ef18 (TX8_splits_1.at 13 rfl) fl8_156 hH rfl (by decide) (fun r105 => ?_)
            refine z_ild_2 (TX8_splits_1.at 14 rfl) ?_
            refine zm_iastE (TX8_splits_1.at 15 rfl) hH hA rfl (by omega) (show _ < ((401 : Nat) : Int) by omega) (by omega) (fun h g109 e1 e2 hH hA => ?_)
            have eg7 := (e1 7 (by decide)).trans eg7
            have eg11 := (e1 11 (by decide)).trans eg11
            have eg15 := (e1 15 (by decide)).trans eg15
            have eg16 := (e1 16 (by decide)).trans eg16
            rw [eg17] at e2; have eg17 := e2
            have hgE := hgE.put e1 (by decide)
            refine z_ald_0 (TX8_splits_1.at 16 rfl) ?_
            refine zm_getA (TX8_splits_1.at 17 rfl) fl8_57 hH (by decide) (by decide) ?_
            refine z_ald_0 (TX8_splits_1.at 18 rfl) ?_
            refine zm_getIE ef18 (TX8_splits_1.at 19 rfl) fl8_156 hH rfl (by decide) (fun r115 => ?_)
            refine z_iconst (TX8_splits_1.at 20 rfl) ?_
            refine zm_iastE (TX8_splits_1.at 21 rfl) hH hA rfl (by omega) (show _ < ((401 : Nat) : Int) by omega) (by omega) (fun h g119 e1 e2 hH hA => ?_)
            have eg7 := (e1 7 (by decide)).trans eg7
            have eg11 := (e1 11 (by decide)).trans eg11
            have eg15 := (e1 15 (by decide)).trans eg15
            rw [eg16] at e2; have eg16 := e2
            have eg17 := (e1 17 (by decide)).trans eg17
            have hgE := hgE.put e1 (by decide)
            refine z_ald_0 (TX8_splits_1.at 22 rfl) ?_
            refine zm_getA (TX8_splits_1.at 23 rfl) fl8_54 hH (by decide) (by decide) ?_
            refine z_ald_0 (TX8_splits_1.at 24 rfl) ?_
            refine zm_getIE ef18 (TX8_splits_1.at 25 rfl) fl8_156 hH rfl (by decide) (fun r125 => ?_)
            refine z_ild_3 (TX8_splits_1.at 26 rfl) ?_
            refine zs_call1 (s_isSmall (by omega)) (TX8_splits_1.at 27 rfl) c8_159 rfl (by omega) (Nat.le_of_ble_eq_true rfl) (fun r129 => ?_)
            refine z_if_eqB (tgt := 145) (TX8_splits_1.at 28 rfl) rfl (fun c7 => ?_) (fun c7 => ?_)
            · skip
              refine z_ild_3 (TX8_splits_1.at 34 rfl) ?_
              refine zs_call1 (s_isDigit (by omega)) (TX8_splits_1.at 35 rfl) c8_162 rfl (by omega) (Nat.le_of_ble_eq_true rfl) (fun r146 => ?_)
              refine z_if_eqB (tgt := 157) (TX8_splits_1.at 36 rfl) rfl (fun c8 => ?_) (fun c8 => ?_)
              · skip
                refine z_bipush (by decide) (TX8_splits_1.at 39 rfl) ?_
                refine z_ild_3 (TX8_splits_2.at 0 rfl) ?_
                refine z_sipush (by decide) (TX8_splits_2.at 1 rfl) ?_
                refine z_iand (TX8_splits_2.at 2 rfl) ?_
                rw [zand_255 (u := U k) (by omega)]
                refine z_iadd (TX8_splits_2.at 3 rfl) ?_
                refine zm_iastE (TX8_splits_2.at 4 rfl) hH hA rfl (by omega) (show _ < ((401 : Nat) : Int) by omega) (by omega) (fun h g165 e1 e2 hH hA => ?_)
                have eg7 := (e1 7 (by decide)).trans eg7
                have eg11 := (e1 11 (by decide)).trans eg11
                rw [eg15] at e2; have eg15 := e2
                have eg16 := (e1 16 (by decide)).trans eg16
                have eg17 := (e1 17 (by decide)).trans eg17
                have hgE := hgE.put e1 (by decide)
                refine z_ild_2 (TX8_splits_2.at 5 rfl) ?_
                refine z_ist_5 (TX8_splits_2.at 6 rfl) (Nat.le_of_ble_eq_true rfl) rfl ?_
                refine lp_sp3 (U := U) (V := V) (e := endT U z k) (k := k) (b := X11 k) hd hU z4 hk1.1 (by omega) rfl rfl (by omega) (by omega) (fun o9 f169 g169 h eg7 eg11 eg15 eg16 eg17 ef18 xf xg hH hA => ?_) 402 k _ _ _ (by omega) (by omega) (by omega) (fun _ => rfl) eg7 eg11 eg15 (eg16.trans (by rw [show (k - k).toNat = 0 by omega]; rfl)) eg17 ef18 eqx.rf eqx.rf hH hA
                have hfE := hfE.trans xf (by decide)
                have hgE := hgE.trans xg (by decide)
                refine z_ald_0 (TX8_splits_3.at 7 rfl) ?_
                refine z_dup rfl (TX8_splits_3.at 8 rfl) ?_
                refine zm_getIE ef18 (TX8_splits_3.at 9 rfl) fl8_156 hH rfl (by decide) (fun r249 => ?_)
                refine z_iconst (TX8_splits_3.at 10 rfl) ?_
                refine z_iadd (TX8_splits_3.at 11 rfl) ?_
                refine zm_putIE (TX8_splits_3.at 12 rfl) fp8_156 hH hA rfl (by decide) (by first | omega | exact b2i_01 _) (fun h f254 e1 e2 hH hA => ?_)
                have ef18 := e2
                have hfE := hfE.put e1 (by decide)
                refine z_ild_4 (TX8_splits_3.at 13 rfl) ?_
                refine z_ist_2 (TX8_splits_3.at 14 rfl) (Nat.le_of_ble_eq_true rfl) rfl ?_
                refine z_goto (tgt := 7) (TX8_splits_3.at 15 rfl) rfl ?_
                first
                | (exfalso; omega)
                | (have hbl : U k = 32 := (by omega); exact ih (m + 1) _ _ _ _ _ _ _ _ _ _ _ _ (tkN_b es (by omega) hbl) (by omega) (by omega) hAr eg7 eg11 eg15 eg16 eg17 ef18 hfE hgE hH hA)
                | (have hsm : 97 ≤ U k ∧ U k ≤ 122 := (by omega); exact ih (m + 1) _ _ _ _ _ _ _ _ _ _ _ _ (tkN_t es (by omega) (by omega) rfl) (by omega) (by omega) (arr_s hAr (by unfold codeT; rw [if_pos (sm_t hsm)]) rfl) eg7 eg11 eg15 eg16 eg17 ef18 hfE hgE hH hA)
                | (have hdm : 48 ≤ U k ∧ U k ≤ 57 := (by omega); exact ih (m + 1) _ _ _ _ _ _ _ _ _ _ _ _ (tkN_t es (by omega) (by omega) rfl) (by omega) (by omega) (arr_s hAr (by unfold codeT; rw [if_neg (sm_f (by omega)), if_pos (dg_t hdm)]) rfl) eg7 eg11 eg15 eg16 eg17 ef18 hfE hgE hH hA)
                | exact ih (m + 1) _ _ _ _ _ _ _ _ _ _ _ _ (tkN_t es (by omega) (by omega) rfl) (by omega) (by omega) (arr_s hAr (by unfold codeT; rw [if_neg (sm_f (by omega)), if_neg (dg_f (by omega))]) rfl) eg7 eg11 eg15 eg16 eg17 ef18 hfE hgE hH hA
              · skip
                refine z_bipush (by decide) (TX8_splits_1.at 37 rfl) ?_
                refine z_goto (tgt := 165) (TX8_splits_1.at 38 rfl) rfl ?_
                refine zm_iastE (TX8_splits_2.at 4 rfl) hH hA rfl (by omega) (show _ < ((401 : Nat) : Int) by omega) (by omega) (fun h g165 e1 e2 hH hA => ?_)
                have eg7 := (e1 7 (by decide)).trans eg7
                have eg11 := (e1 11 (by decide)).trans eg11
                rw [eg15] at e2; have eg15 := e2
                have eg16 := (e1 16 (by decide)).trans eg16
                have eg17 := (e1 17 (by decide)).trans eg17
                have hgE := hgE.put e1 (by decide)
                refine z_ild_2 (TX8_splits_2.at 5 rfl) ?_
                refine z_ist_5 (TX8_splits_2.at 6 rfl) (Nat.le_of_ble_eq_true rfl) rfl ?_
                refine lp_sp3 (U := U) (V := V) (e := endT U z k) (k := k) (b := X11 k) hd hU z4 hk1.1 (by omega) rfl rfl (by omega) (by omega) (fun o9 f169 g169 h eg7 eg11 eg15 eg16 eg17 ef18 xf xg hH hA => ?_) 402 k _ _ _ (by omega) (by omega) (by omega) (fun _ => rfl) eg7 eg11 eg15 (eg16.trans (by rw [show (k - k).toNat = 0 by omega]; rfl)) eg17 ef18 eqx.rf eqx.rf hH hA
                have hfE := hfE.trans xf (by decide)
                have hgE := hgE.trans xg (by decide)
                refine z_ald_0 (TX8_splits_3.at 7 rfl) ?_
                refine z_dup rfl (TX8_splits_3.at 8 rfl) ?_
                refine zm_getIE ef18 (TX8_splits_3.at 9 rfl) fl8_156 hH rfl (by decide) (fun r249 => ?_)
                refine z_iconst (TX8_splits_3.at 10 rfl) ?_
                refine z_iadd (TX8_splits_3.at 11 rfl) ?_
                refine zm_putIE (TX8_splits_3.at 12 rfl) fp8_156 hH hA rfl (by decide) (by first | omega | exact b2i_01 _) (fun h f254 e1 e2 hH hA => ?_)
                have ef18 := e2
                have hfE := hfE.put e1 (by decide)
                refine z_ild_4 (TX8_splits_3.at 13 rfl) ?_
                refine z_ist_2 (TX8_splits_3.at 14 rfl) (Nat.le_of_ble_eq_true rfl) rfl ?_
                refine z_goto (tgt := 7) (TX8_splits_3.at 15 rfl) rfl ?_
                first
                | (exfalso; omega)
                | (have hbl : U k = 32 := (by omega); exact ih (m + 1) _ _ _ _ _ _ _ _ _ _ _ _ (tkN_b es (by omega) hbl) (by omega) (by omega) hAr eg7 eg11 eg15 eg16 eg17 ef18 hfE hgE hH hA)
                | (have hsm : 97 ≤ U k ∧ U k ≤ 122 := (by omega); exact ih (m + 1) _ _ _ _ _ _ _ _ _ _ _ _ (tkN_t es (by omega) (by omega) rfl) (by omega) (by omega) (arr_s hAr (by unfold codeT; rw [if_pos (sm_t hsm)]) rfl) eg7 eg11 eg15 eg16 eg17 ef18 hfE hgE hH hA)
                | (have hdm : 48 ≤ U k ∧ U k ≤ 57 := (by omega); exact ih (m + 1) _ _ _ _ _ _ _ _ _ _ _ _ (tkN_t es (by omega) (by omega) rfl) (by omega) (by omega) (arr_s hAr (by unfold codeT; rw [if_neg (sm_f (by omega)), if_pos (dg_t hdm)]) rfl) eg7 eg11 eg15 eg16 eg17 ef18 hfE hgE hH hA)
                | exact ih (m + 1) _ _ _ _ _ _ _ _ _ _ _ _ (tkN_t es (by omega) (by omega) rfl) (by omega) (by omega) (arr_s hAr (by unfold codeT; rw [if_neg (sm_f (by omega)), if_neg (dg_f (by omega))]) rfl) eg7 eg11 eg15 eg16 eg17 ef18 hfE hgE hH hA
            · skip
              refine z_ald_0 (TX8_splits_1.at 29 rfl) ?_
              refine z_ild_2 (TX8_splits_1.at 30 rfl) ?_
              refine z_ild_4 (TX8_splits_1.at 31 rfl) ?_
              refine zm_callI2 (m_wordOf (U := U) eg7 eg11 (by omega) (by omega) hW hU hk1.1 (by omega) (by omega)) (TX8_splits_1.at 32 rfl) c8_165 rfl rfl hH hA (by omega) (Nat.le_of_ble_eq_true rfl) (fun x139 f139 g139 j139 h r139 q139 hH hA => ?_)
              obtain ⟨q139, xf, xg, xj⟩ := q139
              rw [xj] at hH
              have ef18 := (xf 18 (by decide)).trans ef18
              have hfE := hfE.trans xf (by decide)
              have eg7 := (xg 7 (by decide)).trans eg7
              have eg11 := (xg 11 (by decide)).trans eg11
              have eg15 := (xg 15 (by decide)).trans eg15
              have eg16 := (xg 16 (by decide)).trans eg16
              have eg17 := (xg 17 (by decide)).trans eg17
              have hgE := hgE.trans xg (by decide)
              have qL := q139
              rw [qL] at r139 ⊢
              refine z_goto (tgt := 165) (TX8_splits_1.at 33 rfl) rfl ?_
              refine zm_iastE (TX8_splits_2.at 4 rfl) hH hA rfl (by omega) (show _ < ((401 : Nat) : Int) by omega) (by omega) (fun h g165 e1 e2 hH hA => ?_)
              have eg7 := (e1 7 (by decide)).trans eg7
              have eg11 := (e1 11 (by decide)).trans eg11
              rw [eg15] at e2; have eg15 := e2
              have eg16 := (e1 16 (by decide)).trans eg16
              have eg17 := (e1 17 (by decide)).trans eg17
              have hgE := hgE.put e1 (by decide)
              refine z_ild_2 (TX8_splits_2.at 5 rfl) ?_
              refine z_ist_5 (TX8_splits_2.at 6 rfl) (Nat.le_of_ble_eq_true rfl) rfl ?_
              refine lp_sp3 (U := U) (V := V) (e := endT U z k) (k := k) (b := X11 k) hd hU z4 hk1.1 (by omega) rfl rfl (by omega) (by omega) (fun o9 f169 g169 h eg7 eg11 eg15 eg16 eg17 ef18 xf xg hH hA => ?_) 402 k _ _ _ (by omega) (by omega) (by omega) (fun _ => rfl) eg7 eg11 eg15 (eg16.trans (by rw [show (k - k).toNat = 0 by omega]; rfl)) eg17 ef18 eqx.rf eqx.rf hH hA
              have hfE := hfE.trans xf (by decide)
              have hgE := hgE.trans xg (by decide)
              refine z_ald_0 (TX8_splits_3.at 7 rfl) ?_
              refine z_dup rfl (TX8_splits_3.at 8 rfl) ?_
              refine zm_getIE ef18 (TX8_splits_3.at 9 rfl) fl8_156 hH rfl (by decide) (fun r249 => ?_)
              refine z_iconst (TX8_splits_3.at 10 rfl) ?_
              refine z_iadd (TX8_splits_3.at 11 rfl) ?_
              refine zm_putIE (TX8_splits_3.at 12 rfl) fp8_156 hH hA rfl (by decide) (by first | omega | exact b2i_01 _) (fun h f254 e1 e2 hH hA => ?_)
              have ef18 := e2
              have hfE := hfE.put e1 (by decide)
              refine z_ild_4 (TX8_splits_3.at 13 rfl) ?_
              refine z_ist_2 (TX8_splits_3.at 14 rfl) (Nat.le_of_ble_eq_true rfl) rfl ?_
              refine z_goto (tgt := 7) (TX8_splits_3.at 15 rfl) rfl ?_
              first
              | (exfalso; omega)
              | (have hbl : U k = 32 := (by omega); exact ih (m + 1) _ _ _ _ _ _ _ _ _ _ _ _ (tkN_b es (by omega) hbl) (by omega) (by omega) hAr eg7 eg11 eg15 eg16 eg17 ef18 hfE hgE hH hA)
              | (have hsm : 97 ≤ U k ∧ U k ≤ 122 := (by omega); exact ih (m + 1) _ _ _ _ _ _ _ _ _ _ _ _ (tkN_t es (by omega) (by omega) rfl) (by omega) (by omega) (arr_s hAr (by unfold codeT; rw [if_pos (sm_t hsm)]) rfl) eg7 eg11 eg15 eg16 eg17 ef18 hfE hgE hH hA)
              | (have hdm : 48 ≤ U k ∧ U k ≤ 57 := (by omega); exact ih (m + 1) _ _ _ _ _ _ _ _ _ _ _ _ (tkN_t es (by omega) (by omega) rfl) (by omega) (by omega) (arr_s hAr (by unfold codeT; rw [if_neg (sm_f (by omega)), if_pos (dg_t hdm)]) rfl) eg7 eg11 eg15 eg16 eg17 ef18 hfE hgE hH hA)
              | exact ih (m + 1) _ _ _ _ _ _ _ _ _ _ _ _ (tkN_t es (by omega) (by omega) rfl) (by omega) (by omega) (arr_s hAr (by unfold codeT; rw [if_neg (sm_f (by omega)), if_neg (dg_f (by omega))]) rfl) eg7 eg11 eg15 eg16 eg17 ef18 hfE hgE hH hA
        · skip
          refine lp_sp1 (U := U) (E := endT U z k) hd hU z4 (fun f43 g43 h eg7 eg11 eg15 eg16 eg17 ef18 xf xg hH hA => ?_) 400 (k + 1) _ _ _ (by omega) (by omega) (by omega) (by unfold endT; rw [if_pos (sm_t (by omega))]) eg7 eg11 eg15 eg16 eg17 ef18 eqx.rf eqx.rf hH hA
          have hfE := hfE.trans xf (by decide)
          have hgE := hgE.trans xg (by decide)
          refine z_ild_3 (TX8_splits_0.at 36 rfl) ?_
          refine zs_call1 (s_isDigit (by omega)) (TX8_splits_0.at 37 rfl) c8_162 rfl (by omega) (Nat.le_of_ble_eq_true rfl) (fun r69 => ?_)
          refine z_if_eqB (tgt := 100) (TX8_splits_0.at 38 rfl) rfl (fun c9 => ?_) (fun c9 => ?_)
          · skip
            first | (have hs1 : ¬ (97 ≤ U k ∧ U k ≤ 122) := (by omega); have hd1 : ¬ (48 ≤ U k ∧ U k ≤ 57) := (by omega); rw [show k + 1 = endT U z k from (by unfold endT; rw [if_neg (sm_f hs1), if_neg (dg_f hd1)])]) | skip
            refine z_ald_0 (TX8_splits_1.at 10 rfl) ?_
            refine zm_getA (TX8_splits_1.at 11 rfl) fl8_60 hH (by decide) (by decide) ?_
            refine z_ald_0 (TX8_splits_1.at 12 rfl) ?_
            refine zm_getIE ef18 (TX8_splits_1.at 13 rfl) fl8_156 hH rfl (by decide) (fun r105 => ?_)
            refine z_ild_2 (TX8_splits_1.at 14 rfl) ?_
            refine zm_iastE (TX8_splits_1.at 15 rfl) hH hA rfl (by omega) (show _ < ((401 : Nat) : Int) by omega) (by omega) (fun h g109 e1 e2 hH hA => ?_)
            have eg7 := (e1 7 (by decide)).trans eg7
            have eg11 := (e1 11 (by decide)).trans eg11
            have eg15 := (e1 15 (by decide)).trans eg15
            have eg16 := (e1 16 (by decide)).trans eg16
            rw [eg17] at e2; have eg17 := e2
            have hgE := hgE.put e1 (by decide)
            refine z_ald_0 (TX8_splits_1.at 16 rfl) ?_
            refine zm_getA (TX8_splits_1.at 17 rfl) fl8_57 hH (by decide) (by decide) ?_
            refine z_ald_0 (TX8_splits_1.at 18 rfl) ?_
            refine zm_getIE ef18 (TX8_splits_1.at 19 rfl) fl8_156 hH rfl (by decide) (fun r115 => ?_)
            refine z_iconst (TX8_splits_1.at 20 rfl) ?_
            refine zm_iastE (TX8_splits_1.at 21 rfl) hH hA rfl (by omega) (show _ < ((401 : Nat) : Int) by omega) (by omega) (fun h g119 e1 e2 hH hA => ?_)
            have eg7 := (e1 7 (by decide)).trans eg7
            have eg11 := (e1 11 (by decide)).trans eg11
            have eg15 := (e1 15 (by decide)).trans eg15
            rw [eg16] at e2; have eg16 := e2
            have eg17 := (e1 17 (by decide)).trans eg17
            have hgE := hgE.put e1 (by decide)
            refine z_ald_0 (TX8_splits_1.at 22 rfl) ?_
            refine zm_getA (TX8_splits_1.at 23 rfl) fl8_54 hH (by decide) (by decide) ?_
            refine z_ald_0 (TX8_splits_1.at 24 rfl) ?_
            refine zm_getIE ef18 (TX8_splits_1.at 25 rfl) fl8_156 hH rfl (by decide) (fun r125 => ?_)
            refine z_ild_3 (TX8_splits_1.at 26 rfl) ?_
            refine zs_call1 (s_isSmall (by omega)) (TX8_splits_1.at 27 rfl) c8_159 rfl (by omega) (Nat.le_of_ble_eq_true rfl) (fun r129 => ?_)
            refine z_if_eqB (tgt := 145) (TX8_splits_1.at 28 rfl) rfl (fun c10 => ?_) (fun c10 => ?_)
            · skip
              refine z_ild_3 (TX8_splits_1.at 34 rfl) ?_
              refine zs_call1 (s_isDigit (by omega)) (TX8_splits_1.at 35 rfl) c8_162 rfl (by omega) (Nat.le_of_ble_eq_true rfl) (fun r146 => ?_)
              refine z_if_eqB (tgt := 157) (TX8_splits_1.at 36 rfl) rfl (fun c11 => ?_) (fun c11 => ?_)
              · skip
                refine z_bipush (by decide) (TX8_splits_1.at 39 rfl) ?_
                refine z_ild_3 (TX8_splits_2.at 0 rfl) ?_
                refine z_sipush (by decide) (TX8_splits_2.at 1 rfl) ?_
                refine z_iand (TX8_splits_2.at 2 rfl) ?_
                rw [zand_255 (u := U k) (by omega)]
                refine z_iadd (TX8_splits_2.at 3 rfl) ?_
                refine zm_iastE (TX8_splits_2.at 4 rfl) hH hA rfl (by omega) (show _ < ((401 : Nat) : Int) by omega) (by omega) (fun h g165 e1 e2 hH hA => ?_)
                have eg7 := (e1 7 (by decide)).trans eg7
                have eg11 := (e1 11 (by decide)).trans eg11
                rw [eg15] at e2; have eg15 := e2
                have eg16 := (e1 16 (by decide)).trans eg16
                have eg17 := (e1 17 (by decide)).trans eg17
                have hgE := hgE.put e1 (by decide)
                refine z_ild_2 (TX8_splits_2.at 5 rfl) ?_
                refine z_ist_5 (TX8_splits_2.at 6 rfl) (Nat.le_of_ble_eq_true rfl) rfl ?_
                refine lp_sp3 (U := U) (V := V) (e := endT U z k) (k := k) (b := X11 k) hd hU z4 hk1.1 (by omega) rfl rfl (by omega) (by omega) (fun o9 f169 g169 h eg7 eg11 eg15 eg16 eg17 ef18 xf xg hH hA => ?_) 402 k _ _ _ (by omega) (by omega) (by omega) (fun _ => rfl) eg7 eg11 eg15 (eg16.trans (by rw [show (k - k).toNat = 0 by omega]; rfl)) eg17 ef18 eqx.rf eqx.rf hH hA
                have hfE := hfE.trans xf (by decide)
                have hgE := hgE.trans xg (by decide)
                refine z_ald_0 (TX8_splits_3.at 7 rfl) ?_
                refine z_dup rfl (TX8_splits_3.at 8 rfl) ?_
                refine zm_getIE ef18 (TX8_splits_3.at 9 rfl) fl8_156 hH rfl (by decide) (fun r249 => ?_)
                refine z_iconst (TX8_splits_3.at 10 rfl) ?_
                refine z_iadd (TX8_splits_3.at 11 rfl) ?_
                refine zm_putIE (TX8_splits_3.at 12 rfl) fp8_156 hH hA rfl (by decide) (by first | omega | exact b2i_01 _) (fun h f254 e1 e2 hH hA => ?_)
                have ef18 := e2
                have hfE := hfE.put e1 (by decide)
                refine z_ild_4 (TX8_splits_3.at 13 rfl) ?_
                refine z_ist_2 (TX8_splits_3.at 14 rfl) (Nat.le_of_ble_eq_true rfl) rfl ?_
                refine z_goto (tgt := 7) (TX8_splits_3.at 15 rfl) rfl ?_
                first
                | (exfalso; omega)
                | (have hbl : U k = 32 := (by omega); exact ih (m + 1) _ _ _ _ _ _ _ _ _ _ _ _ (tkN_b es (by omega) hbl) (by omega) (by omega) hAr eg7 eg11 eg15 eg16 eg17 ef18 hfE hgE hH hA)
                | (have hsm : 97 ≤ U k ∧ U k ≤ 122 := (by omega); exact ih (m + 1) _ _ _ _ _ _ _ _ _ _ _ _ (tkN_t es (by omega) (by omega) rfl) (by omega) (by omega) (arr_s hAr (by unfold codeT; rw [if_pos (sm_t hsm)]) rfl) eg7 eg11 eg15 eg16 eg17 ef18 hfE hgE hH hA)
                | (have hdm : 48 ≤ U k ∧ U k ≤ 57 := (by omega); exact ih (m + 1) _ _ _ _ _ _ _ _ _ _ _ _ (tkN_t es (by omega) (by omega) rfl) (by omega) (by omega) (arr_s hAr (by unfold codeT; rw [if_neg (sm_f (by omega)), if_pos (dg_t hdm)]) rfl) eg7 eg11 eg15 eg16 eg17 ef18 hfE hgE hH hA)
                | exact ih (m + 1) _ _ _ _ _ _ _ _ _ _ _ _ (tkN_t es (by omega) (by omega) rfl) (by omega) (by omega) (arr_s hAr (by unfold codeT; rw [if_neg (sm_f (by omega)), if_neg (dg_f (by omega))]) rfl) eg7 eg11 eg15 eg16 eg17 ef18 hfE hgE hH hA
              · skip
                refine z_bipush (by decide) (TX8_splits_1.at 37 rfl) ?_
                refine z_goto (tgt := 165) (TX8_splits_1.at 38 rfl) rfl ?_
                refine zm_iastE (TX8_splits_2.at 4 rfl) hH hA rfl (by omega) (show _ < ((401 : Nat) : Int) by omega) (by omega) (fun h g165 e1 e2 hH hA => ?_)
                have eg7 := (e1 7 (by decide)).trans eg7
                have eg11 := (e1 11 (by decide)).trans eg11
                rw [eg15] at e2; have eg15 := e2
                have eg16 := (e1 16 (by decide)).trans eg16
                have eg17 := (e1 17 (by decide)).trans eg17
                have hgE := hgE.put e1 (by decide)
                refine z_ild_2 (TX8_splits_2.at 5 rfl) ?_
                refine z_ist_5 (TX8_splits_2.at 6 rfl) (Nat.le_of_ble_eq_true rfl) rfl ?_
                refine lp_sp3 (U := U) (V := V) (e := endT U z k) (k := k) (b := X11 k) hd hU z4 hk1.1 (by omega) rfl rfl (by omega) (by omega) (fun o9 f169 g169 h eg7 eg11 eg15 eg16 eg17 ef18 xf xg hH hA => ?_) 402 k _ _ _ (by omega) (by omega) (by omega) (fun _ => rfl) eg7 eg11 eg15 (eg16.trans (by rw [show (k - k).toNat = 0 by omega]; rfl)) eg17 ef18 eqx.rf eqx.rf hH hA
                have hfE := hfE.trans xf (by decide)
                have hgE := hgE.trans xg (by decide)
                refine z_ald_0 (TX8_splits_3.at 7 rfl) ?_
                refine z_dup rfl (TX8_splits_3.at 8 rfl) ?_
                refine zm_getIE ef18 (TX8_splits_3.at 9 rfl) fl8_156 hH rfl (by decide) (fun r249 => ?_)
                refine z_iconst (TX8_splits_3.at 10 rfl) ?_
                refine z_iadd (TX8_splits_3.at 11 rfl) ?_
                refine zm_putIE (TX8_splits_3.at 12 rfl) fp8_156 hH hA rfl (by decide) (by first | omega | exact b2i_01 _) (fun h f254 e1 e2 hH hA => ?_)
                have ef18 := e2
                have hfE := hfE.put e1 (by decide)
                refine z_ild_4 (TX8_splits_3.at 13 rfl) ?_
                refine z_ist_2 (TX8_splits_3.at 14 rfl) (Nat.le_of_ble_eq_true rfl) rfl ?_
                refine z_goto (tgt := 7) (TX8_splits_3.at 15 rfl) rfl ?_
                first
                | (exfalso; omega)
                | (have hbl : U k = 32 := (by omega); exact ih (m + 1) _ _ _ _ _ _ _ _ _ _ _ _ (tkN_b es (by omega) hbl) (by omega) (by omega) hAr eg7 eg11 eg15 eg16 eg17 ef18 hfE hgE hH hA)
                | (have hsm : 97 ≤ U k ∧ U k ≤ 122 := (by omega); exact ih (m + 1) _ _ _ _ _ _ _ _ _ _ _ _ (tkN_t es (by omega) (by omega) rfl) (by omega) (by omega) (arr_s hAr (by unfold codeT; rw [if_pos (sm_t hsm)]) rfl) eg7 eg11 eg15 eg16 eg17 ef18 hfE hgE hH hA)
                | (have hdm : 48 ≤ U k ∧ U k ≤ 57 := (by omega); exact ih (m + 1) _ _ _ _ _ _ _ _ _ _ _ _ (tkN_t es (by omega) (by omega) rfl) (by omega) (by omega) (arr_s hAr (by unfold codeT; rw [if_neg (sm_f (by omega)), if_pos (dg_t hdm)]) rfl) eg7 eg11 eg15 eg16 eg17 ef18 hfE hgE hH hA)
                | exact ih (m + 1) _ _ _ _ _ _ _ _ _ _ _ _ (tkN_t es (by omega) (by omega) rfl) (by omega) (by omega) (arr_s hAr (by unfold codeT; rw [if_neg (sm_f (by omega)), if_neg (dg_f (by omega))]) rfl) eg7 eg11 eg15 eg16 eg17 ef18 hfE hgE hH hA
            · skip
              refine z_ald_0 (TX8_splits_1.at 29 rfl) ?_
              refine z_ild_2 (TX8_splits_1.at 30 rfl) ?_
              refine z_ild_4 (TX8_splits_1.at 31 rfl) ?_
              refine zm_callI2 (m_wordOf (U := U) eg7 eg11 (by omega) (by omega) hW hU hk1.1 (by omega) (by omega)) (TX8_splits_1.at 32 rfl) c8_165 rfl rfl hH hA (by omega) (Nat.le_of_ble_eq_true rfl) (fun x139 f139 g139 j139 h r139 q139 hH hA => ?_)
              obtain ⟨q139, xf, xg, xj⟩ := q139
              rw [xj] at hH
              have ef18 := (xf 18 (by decide)).trans ef18
              have hfE := hfE.trans xf (by decide)
              have eg7 := (xg 7 (by decide)).trans eg7
              have eg11 := (xg 11 (by decide)).trans eg11
              have eg15 := (xg 15 (by decide)).trans eg15
              have eg16 := (xg 16 (by decide)).trans eg16
              have eg17 := (xg 17 (by decide)).trans eg17
              have hgE := hgE.trans xg (by decide)
              have qL := q139
              rw [qL] at r139 ⊢
              refine z_goto (tgt := 165) (TX8_splits_1.at 33 rfl) rfl ?_
              refine zm_iastE (TX8_splits_2.at 4 rfl) hH hA rfl (by omega) (show _ < ((401 : Nat) : Int) by omega) (by omega) (fun h g165 e1 e2 hH hA => ?_)
              have eg7 := (e1 7 (by decide)).trans eg7
              have eg11 := (e1 11 (by decide)).trans eg11
              rw [eg15] at e2; have eg15 := e2
              have eg16 := (e1 16 (by decide)).trans eg16
              have eg17 := (e1 17 (by decide)).trans eg17
              have hgE := hgE.put e1 (by decide)
              refine z_ild_2 (TX8_splits_2.at 5 rfl) ?_
              refine z_ist_5 (TX8_splits_2.at 6 rfl) (Nat.le_of_ble_eq_true rfl) rfl ?_
              refine lp_sp3 (U := U) (V := V) (e := endT U z k) (k := k) (b := X11 k) hd hU z4 hk1.1 (by omega) rfl rfl (by omega) (by omega) (fun o9 f169 g169 h eg7 eg11 eg15 eg16 eg17 ef18 xf xg hH hA => ?_) 402 k _ _ _ (by omega) (by omega) (by omega) (fun _ => rfl) eg7 eg11 eg15 (eg16.trans (by rw [show (k - k).toNat = 0 by omega]; rfl)) eg17 ef18 eqx.rf eqx.rf hH hA
              have hfE := hfE.trans xf (by decide)
              have hgE := hgE.trans xg (by decide)
              refine z_ald_0 (TX8_splits_3.at 7 rfl) ?_
              refine z_dup rfl (TX8_splits_3.at 8 rfl) ?_
              refine zm_getIE ef18 (TX8_splits_3.at 9 rfl) fl8_156 hH rfl (by decide) (fun r249 => ?_)
              refine z_iconst (TX8_splits_3.at 10 rfl) ?_
              refine z_iadd (TX8_splits_3.at 11 rfl) ?_
              refine zm_putIE (TX8_splits_3.at 12 rfl) fp8_156 hH hA rfl (by decide) (by first | omega | exact b2i_01 _) (fun h f254 e1 e2 hH hA => ?_)
              have ef18 := e2
              have hfE := hfE.put e1 (by decide)
              refine z_ild_4 (TX8_splits_3.at 13 rfl) ?_
              refine z_ist_2 (TX8_splits_3.at 14 rfl) (Nat.le_of_ble_eq_true rfl) rfl ?_
              refine z_goto (tgt := 7) (TX8_splits_3.at 15 rfl) rfl ?_
              first
              | (exfalso; omega)
              | (have hbl : U k = 32 := (by omega); exact ih (m + 1) _ _ _ _ _ _ _ _ _ _ _ _ (tkN_b es (by omega) hbl) (by omega) (by omega) hAr eg7 eg11 eg15 eg16 eg17 ef18 hfE hgE hH hA)
              | (have hsm : 97 ≤ U k ∧ U k ≤ 122 := (by omega); exact ih (m + 1) _ _ _ _ _ _ _ _ _ _ _ _ (tkN_t es (by omega) (by omega) rfl) (by omega) (by omega) (arr_s hAr (by unfold codeT; rw [if_pos (sm_t hsm)]) rfl) eg7 eg11 eg15 eg16 eg17 ef18 hfE hgE hH hA)
              | (have hdm : 48 ≤ U k ∧ U k ≤ 57 := (by omega); exact ih (m + 1) _ _ _ _ _ _ _ _ _ _ _ _ (tkN_t es (by omega) (by omega) rfl) (by omega) (by omega) (arr_s hAr (by unfold codeT; rw [if_neg (sm_f (by omega)), if_pos (dg_t hdm)]) rfl) eg7 eg11 eg15 eg16 eg17 ef18 hfE hgE hH hA)
              | exact ih (m + 1) _ _ _ _ _ _ _ _ _ _ _ _ (tkN_t es (by omega) (by omega) rfl) (by omega) (by omega) (arr_s hAr (by unfold codeT; rw [if_neg (sm_f (by omega)), if_neg (dg_f (by omega))]) rfl) eg7 eg11 eg15 eg16 eg17 ef18 hfE hgE hH hA
          · skip
            exfalso; omega
      · skip
        refine z_iinc_2 (TX8_splits_0.at 16 rfl) (Nat.le_of_ble_eq_true rfl) rfl ?_
        refine z_goto (tgt := 7) (TX8_splits_0.at 17 rfl) rfl ?_
        first
        | (exfalso; omega)
        | (have hbl : U k = 32 := (by omega); exact ih (m + 1) _ _ _ _ _ _ _ _ _ _ _ _ (tkN_b es (by omega) hbl) (by omega) (by omega) hAr eg7 eg11 eg15 eg16 eg17 ef18 hfE hgE hH hA)
        | (have hsm : 97 ≤ U k ∧ U k ≤ 122 := (by omega); exact ih (m + 1) _ _ _ _ _ _ _ _ _ _ _ _ (tkN_t es (by omega) (by omega) rfl) (by omega) (by omega) (arr_s hAr (by unfold codeT; rw [if_pos (sm_t hsm)]) rfl) eg7 eg11 eg15 eg16 eg17 ef18 hfE hgE hH hA)
        | (have hdm : 48 ≤ U k ∧ U k ≤ 57 := (by omega); exact ih (m + 1) _ _ _ _ _ _ _ _ _ _ _ _ (tkN_t es (by omega) (by omega) rfl) (by omega) (by omega) (arr_s hAr (by unfold codeT; rw [if_neg (sm_f (by omega)), if_pos (dg_t hdm)]) rfl) eg7 eg11 eg15 eg16 eg17 ef18 hfE hgE hH hA)
        | exact ih (m + 1) _ _ _ _ _ _ _ _ _ _ _ _ (tkN_t es (by omega) (by omega) rfl) (by omega) (by omega) (arr_s hAr (by unfold codeT; rw [if_neg (sm_f (by omega)), if_neg (dg_f (by omega))]) rfl) eg7 eg11 eg15 eg16 eg17 ef18 hfE hgE hH hA

