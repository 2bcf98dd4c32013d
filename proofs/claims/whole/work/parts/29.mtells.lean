/-! ===== what a law tells ===== -/
theorem ptext_step {lw : Bool} {c v : Int → Int} {n m t p : Nat} {l : List Cla} (h : pText lw c v n m t p = .ok l) : ∃ m' t' p' k, m = m' + 1 ∧ pCla lw c v t p = .ok (t', p', k) ∧ ((c t' = 159 ∧ ∃ l', pText lw c v n m' (t' + 1) p' = .ok l' ∧ l = k :: l') ∨ (¬ c t' = 159 ∧ ¬ t' < n ∧ l = [k])) := by
  cases m with
  | zero => cases h
  | succ m =>
    simp only [pText] at h
    cases hg : pCla lw c v t p with
    | error e => rw [hg] at h; cases h
    | ok r =>
      obtain ⟨t', p', k⟩ := r
      rw [hg] at h
      simp only at h
      refine ⟨m, t', p', k, rfl, rfl, ?_⟩
      split at h
      · rename_i h59
        cases hg2 : pText lw c v n m (t' + 1) p' with
        | error e => rw [hg2] at h; cases h
        | ok l' => rw [hg2] at h; cases h; exact Or.inl ⟨h59, l', rfl, rfl⟩
      · rename_i h59
        split at h
        · cases h
        · rename_i hn
          cases h
          exact Or.inr ⟨h59, hn, rfl⟩
theorem pif_step {lw : Bool} {c v : Int → Int} {t p t' p' : Nat} {q : Option Den} (h : pIf lw c v t p = .ok (t', p', q)) : (c t = 4 ∧ ∃ k, pTestD lw c v 8 (t + 1) p = .ok (t', p', k) ∧ q = some k) ∨ (¬ c t = 4 ∧ t' = t ∧ p' = p ∧ q = none) := by
  unfold pIf at h
  split at h
  · rename_i h4
    cases hg : pTestD lw c v 8 (t + 1) p with
    | error e => rw [hg] at h; cases h
    | ok r =>
      obtain ⟨t1, p1, k⟩ := r
      rw [hg] at h
      cases h
      exact Or.inl ⟨h4, k, rfl, rfl⟩
  · rename_i h4
    cases h
    exact Or.inr ⟨h4, rfl, rfl, rfl⟩
theorem pcla_law {c v : Int → Int} {t p t' p' : Nat} {k : Cla} (h : pCla true c v t p = .ok (t', p', k)) : ((c t = 1 ∨ c t = 2) ∧ ∃ t1 p1 k1 q, pSumD true c v 8 (t + 1) p = .ok (t1, p1, k1) ∧ pIf true c v t1 p1 = .ok (t', p', q) ∧ k = (c t, k1, dOne, 1, q)) ∨ (c t = 3 ∧ ∃ q, pIf true c v (t + 1) p = .ok (t', p', q) ∧ k = (3, dOne, dOne, 1, q)) := by
  unfold pCla at h
  simp only [if_true] at h
  split at h
  · rename_i h12
    cases hg : pSumD true c v 8 (t + 1) p with
    | error e => rw [hg] at h; cases h
    | ok r =>
      obtain ⟨t1, p1, k1⟩ := r
      rw [hg] at h
      simp only at h
      cases hg2 : pIf true c v t1 p1 with
      | error e => rw [hg2] at h; cases h
      | ok r =>
        obtain ⟨t2, p2, q⟩ := r
        rw [hg2] at h
        cases h
        exact Or.inl ⟨h12, t1, p1, k1, q, rfl, hg2, rfl⟩
  · split at h
    · rename_i h3
      cases hg2 : pIf true c v (t + 1) p with
      | error e => rw [hg2] at h; cases h
      | ok r =>
        obtain ⟨t2, p2, q⟩ := r
        rw [hg2] at h
        cases h
        exact Or.inr ⟨h3, q, rfl, rfl⟩
    · cases h
theorem tellF_cons {head lo hi w : Int} {φ : Int → Int} {vb tm : Int} {d1 d2 : Den} {q : Option Den} {l : List Cla} : tellF head lo hi φ ((vb, d1, d2, tm, q) :: l) w = tellF head lo hi φ l (tellS head lo hi vb (d1 φ) (tellF.isSoB q φ) w) := rfl
set_option maxHeartbeats 4000000 in
set_option maxRecDepth 100000 in
theorem lp_tells {l : Launch} {o : Nat} {ar : Nat → Nat} {d : Nat} {Pz : Option Value → zH → Prop} {h0 : zH} {f0 : mF} {g0 j : mA} {K φ X26 : Int → Int} {b head lo hi wo fin : Int} {nN : Nat} (hd : 45 ≤ d) (b0 : 0 ≤ b) (bn : b + (nN : Int) ≤ 2800) (n4 : (nN : Int) ≤ 400) (n0 : 0 ≤ K 76) (n1 : K 76 ≤ 10) (hd0 : ∀ i, 0 ≤ i → i < K 76 → K i = 0 ∨ K i = 1) (hh : zIn head) (hlo : zIn lo) (hhi : zIn hi) (hlh : lo ≤ hi) (hφ : ∀ a, 0 ≤ a → a ≤ 8 → X26 a = φ a)
    (kx : ∀ (w2 : Int) (o7 o8 o9 o10 o11 : Option Value) (f : mF) (g : mA) (h : zH), fin = w2 → zIn w2 → g 2 = K → eqx [22, 23, 24, 25] f0 f → eqx [] g0 g → HM o ar f g j h → zAg o ar h0 h → Z l MX8_tells d 0 0 Pz 216 [some (.ref o), some (vI head), some (vI lo), some (vI hi), some (vI wo), some (vL w2), none, o7, o8, o9, o10, o11] [] h 0 0) :
    ∀ (l1 : List Cla) (m t p : Nat) (w y22 y24 : Int) (o7 o8 o9 o10 o11 : Option Value) (f : mF) (g : mA) (h : zH) (hAB : (pText true (cK K b nN) (vK K b) nN m t p = .ok l1 ∧ y22 = b + t) ∨ (l1 = [] ∧ y22 = b + (nN : Int) + 1)) (hw : zIn w) (hfin : fin = tellF head lo hi φ l1 w) (eg2 : g 2 = K) (eg26 : g 26 = X26) (ef22 : f 22 = y22) (ef23 : f 23 = b + (nN : Int)) (ef24 : f 24 = y24) (ef25 : f 25 = 0) (hfE : eqx [22, 23, 24, 25] f0 f) (hgE : eqx [] g0 g) (hH : HM o ar f g j h) (hA : zAg o ar h0 h), Z l MX8_tells d 0 0 Pz 63 [some (.ref o), some (vI head), some (vI lo), some (vI hi), some (vI wo), some (vL w), none, o7, o8, o9, o10, o11] [] h 0 0 := by
  intro l1
  induction l1 with
  | nil =>
    intro m t p w y22 y24 o7 o8 o9 o10 o11 f g h hAB hw hfin eg2 eg26 ef22 ef23 ef24 ef25 hfE hgE hH hA
    rcases hAB with ⟨hA1, -⟩ | ⟨-, hy⟩
    · obtain ⟨m', t', p', k', hm, hcl, hnx⟩ := ptext_step hA1
      exfalso
      rcases hnx with ⟨-, l', -, he⟩ | ⟨-, -, he⟩ <;> cases he
    · subst hy
      refine z_ald_0 (TX8_tells_0.at 36 rfl) ?_
      refine zm_getIE ef22 (TX8_tells_0.at 37 rfl) fl8_260 hH rfl (by decide) (fun r64 => ?_)
      refine z_ald_0 (TX8_tells_0.at 38 rfl) ?_
      refine zm_getIE ef23 (TX8_tells_0.at 39 rfl) fl8_257 hH rfl (by decide) (fun r68 => ?_)
      refine z_icmp_ge (tgt := 216) (TX8_tells_1.at 0 rfl) rfl (by omega) (by omega) (fun c1 => ?_) (fun c1 => ?_)
      · skip
        exact kx _ _ _ _ _ _ _ _ _ hfin hw eg2 hfE hgE hH hA
      · skip
        exfalso; omega
  | cons k l1 ih =>
    intro m t p w y22 y24 o7 o8 o9 o10 o11 f g h hAB hw hfin eg2 eg26 ef22 ef23 ef24 ef25 hfE hgE hH hA
    rcases hAB with ⟨hA1, hy⟩ | ⟨he, -⟩
    · subst hy
      have tlt : (t : Int) < (nN : Int) := by
        obtain ⟨m', t', p', k', hm, hcl, hnx⟩ := ptext_step hA1
        rcases pcla_law hcl with ⟨hvb, -⟩ | ⟨hvb, -⟩
        · exact cK_nz (K := K) (b := b) (nt := (nN : Int)) t (by omega)
        · exact cK_nz (K := K) (b := b) (nt := (nN : Int)) t (by omega)
      refine z_ald_0 (TX8_tells_0.at 36 rfl) ?_
      refine zm_getIE ef22 (TX8_tells_0.at 37 rfl) fl8_260 hH rfl (by decide) (fun r64 => ?_)
      refine z_ald_0 (TX8_tells_0.at 38 rfl) ?_
      refine zm_getIE ef23 (TX8_tells_0.at 39 rfl) fl8_257 hH rfl (by decide) (fun r68 => ?_)
      refine z_icmp_ge (tgt := 216) (TX8_tells_1.at 0 rfl) rfl (by omega) (by omega) (fun c1 => ?_) (fun c1 => ?_)
      · skip
        exfalso; omega
      · skip
        obtain ⟨m', t', p', k', hm, hcl, hnx⟩ := ptext_step hA1
        have nxt : (t' : Int) ≤ (nN : Int) → ∀ (w2 : Int) (o7 o8 o9 o10 o11 : Option Value) (f : mF) (g : mA) (h : zH), fin = tellF head lo hi φ l1 w2 → zIn w2 → f 22 = b + t' + 1 → f 23 = b + (nN : Int) → f 25 = 0 → g 2 = K → g 26 = X26 → eqx [22, 23, 24, 25] f0 f → eqx [] g0 g → HM o ar f g j h → zAg o ar h0 h → Z l MX8_tells d 0 0 Pz 63 [some (.ref o), some (vI head), some (vI lo), some (vI hi), some (vI wo), some (vL w2), none, o7, o8, o9, o10, o11] [] h 0 0 := by
          intro htn w2 o7 o8 o9 o10 o11 f g h e1 e2 e3 e4 e5 e6 e7 e8 e9 e10 e11
          rcases hnx with ⟨h59, l', hl', he⟩ | ⟨h59, hnn, he⟩
          · cases he
            exact ih m' (t' + 1) p' w2 _ _ _ _ _ _ _ _ _ _ (Or.inl ⟨hl', rfl⟩) e2 e1 e6 e7 (by rw [e3]; push_cast; omega) e4 rfl e5 e8 e9 e10 e11
          · cases he
            exact ih 0 0 0 w2 _ _ _ _ _ _ _ _ _ _ (Or.inr ⟨rfl, rfl⟩) e2 e1 e6 e7 (by rw [e3]; omega) e4 rfl e5 e8 e9 e10 e11
        have hk : k' = k := by rcases hnx with ⟨-, l', -, he⟩ | ⟨-, -, he⟩ <;> (cases he; rfl)
        subst hk
        rcases pcla_law hcl with ⟨hvb, t1, p1, k1, q, hs, hi2, hk⟩ | ⟨hvb, q, hi2, hk⟩
        · have ha : advR (cK K b nN) (t + 1) (.ok (t1, p1, k1)) := hs ▸ Adv_sum true (cK K b nN) (vK K b) 8 (t + 1) p
          have t1n := adv_le (nt := (nN : Int)) cK_nz ha.1 ha.2
          subst hk
          rw [tellF_cons] at hfin
          rcases pif_step hi2 with ⟨h4, k2, hq, rfl⟩ | ⟨h4, rfl, rfl, rfl⟩
          · have ha2 : advR (cK K b nN) (t1 + 1) (.ok (t', p', k2)) := hq ▸ Adv_test true (cK K b nN) (vK K b) 8 (t1 + 1) p1
            have t2n := adv_le (nt := (nN : Int)) cK_nz ha2.1 ha2.2
            exact tl_SI hd b0 bn n4 n0 n1 hd0 hh hlo hhi hlh hw tlt hφ hvb hs t1n h4 hq t2n (fun w2 o7 o8 o9 o10 o11 f g h ew zw ef22 ef23 ef25 eg2 eg26 => nxt t2n w2 o7 o8 o9 o10 o11 f g h (by rw [hfin, ew]; rfl) zw ef22 ef23 ef25 eg2 eg26) eg2 eg26 ef22 ef23 ef24 ef25 hfE hgE hH hA
          · exact tl_SN (t2 := 0) (p2 := 0) (k2 := dOne) hd b0 bn n4 n0 n1 hd0 hh hlo hhi hlh hw tlt hφ hvb hs t1n h4 (fun w2 o7 o8 o9 o10 o11 f g h ew zw ef22 ef23 ef25 eg2 eg26 => nxt t1n w2 o7 o8 o9 o10 o11 f g h (by rw [hfin, ew]; rfl) zw ef22 ef23 ef25 eg2 eg26) eg2 eg26 ef22 ef23 ef24 ef25 hfE hgE hH hA
        · subst hk
          rw [tellF_cons] at hfin
          rcases pif_step hi2 with ⟨h4, k2, hq, rfl⟩ | ⟨h4, rfl, rfl, rfl⟩
          · have ha2 : advR (cK K b nN) (t + 1 + 1) (.ok (t', p', k2)) := hq ▸ Adv_test true (cK K b nN) (vK K b) 8 (t + 1 + 1) p
            have t2n := adv_le (nt := (nN : Int)) cK_nz ha2.1 ha2.2
            exact tl_BI (t1 := 0) (p1 := 0) (k1 := dOne) hd b0 bn n4 n0 n1 hd0 hh hlo hhi hlh hw tlt hφ hvb h4 hq t2n (fun w2 o7 o8 o9 o10 o11 f g h ew zw ef22 ef23 ef25 eg2 eg26 => nxt t2n w2 o7 o8 o9 o10 o11 f g h (by rw [hfin, ew, hvb]; rfl) zw ef22 ef23 ef25 eg2 eg26) eg2 eg26 ef22 ef23 ef24 ef25 hfE hgE hH hA
          · exact tl_BN (p := 0) (t1 := 0) (p1 := 0) (k1 := dOne) (t2 := 0) (p2 := 0) (k2 := dOne) hd b0 bn n4 n0 n1 hd0 hh hlo hhi hlh hw tlt hφ hvb h4 (fun w2 o7 o8 o9 o10 o11 f g h ew zw ef22 ef23 ef25 eg2 eg26 => nxt (by push_cast; omega) w2 o7 o8 o9 o10 o11 f g h (by rw [hfin, ew, hvb]; rfl) zw ef22 ef23 ef25 eg2 eg26) eg2 eg26 ef22 ef23 ef24 ef25 hfE hgE hH hA
    · cases he
