/-! ===== the reference: one order is asked ===== -/
theorem fok_o {K φ : Int → Int} {x27 x28 x29 : Int} {f : mF} {g : mA} (hO : FO1 K x27 x28 x29 φ) (h25 : f 25 = 1) (h27 : f 27 = x27) (h28 : f 28 = x28) (h29 : f 29 = x29) : FOK false K f g φ := by
  unfold FOK
  rw [if_neg (by decide)]
  exact ⟨h25, hO.1, hO.2.1.trans h27.symm, hO.2.2.1.trans h28.symm, hO.2.2.2.1.trans h29.symm, hO.2.2.2.2⟩
theorem pcla_ord {c v : Int → Int} {t p t' p' : Nat} {k : Cla} (h : pCla false c v t p = .ok (t', p', k)) : (c t = 24 ∧ ∃ t1 p1 k1 t2 p2 k2, pSumD false c v 8 (t + 1) p = .ok (t1, p1, k1) ∧ c t1 = 25 ∧ pSumD false c v 8 (t1 + 1) p1 = .ok (t2, p2, k2) ∧ timC false c v 24 k1 k2 t2 p2 = .ok (t', p', k)) ∨ ((c t = 22 ∨ c t = 23) ∧ ∃ t1 p1 k1, pSumD false c v 8 (t + 1) p = .ok (t1, p1, k1) ∧ timC false c v (c t) k1 dOne t1 p1 = .ok (t', p', k)) ∨ (c t = 26 ∧ timC false c v 26 dOne dOne (t + 1) p = .ok (t', p', k)) := by
  rw [pCla_eq, if_neg (by decide)] at h
  by_cases h24 : c t = 24
  · rw [if_pos h24] at h
    cases hg : pSumD false c v 8 (t + 1) p with
    | error e => rw [hg] at h; cases h
    | ok r =>
      obtain ⟨t1, p1, k1⟩ := r
      rw [hg] at h
      simp only at h
      by_cases h25 : c t1 = 25
      · rw [if_pos h25] at h
        cases hg2 : pSumD false c v 8 (t1 + 1) p1 with
        | error e => rw [hg2] at h; cases h
        | ok r =>
          obtain ⟨t2, p2, k2⟩ := r
          rw [hg2] at h
          exact Or.inl ⟨h24, t1, p1, k1, t2, p2, k2, rfl, h25, hg2, h⟩
      · rw [if_neg h25] at h; cases h
  · rw [if_neg h24] at h
    by_cases h22 : c t = 22 ∨ c t = 23
    · rw [if_pos h22] at h
      cases hg : pSumD false c v 8 (t + 1) p with
      | error e => rw [hg] at h; cases h
      | ok r =>
        obtain ⟨t1, p1, k1⟩ := r
        rw [hg] at h
        exact Or.inr (Or.inl ⟨h22, t1, p1, k1, rfl, h⟩)
    · rw [if_neg h22] at h
      by_cases h26 : c t = 26
      · rw [if_pos h26] at h; exact Or.inr (Or.inr ⟨h26, h⟩)
      · rw [if_neg h26] at h; cases h
theorem tim_step {c v : Int → Int} {vb : Int} {d1 d2 : Den} {t p t' p' : Nat} {k : Cla} (h : timC false c v vb d1 d2 t p = .ok (t', p', k)) : ∃ (q : Option Den) (tm : Int) (t3 : Nat), k = (vb, d1, d2, tm, q) ∧ pIf false c v t3 p = .ok (t', p', q) ∧ ((c t = 27 ∧ c (t + 1) = 50 ∧ (1 ≤ v (t + 1) ∧ v (t + 1) ≤ 20) ∧ tm = v (t + 1) ∧ t3 = t + 2) ∨ (¬ c t = 27 ∧ tm = 1 ∧ t3 = t)) := by
  have fin : ∀ (tm : Int) (t3 : Nat), finC false c v vb d1 d2 tm t3 p = .ok (t', p', k) → ∃ q, k = (vb, d1, d2, tm, q) ∧ pIf false c v t3 p = .ok (t', p', q) := by
    intro tm t3 h
    unfold finC at h
    cases hg : pIf false c v t3 p with
    | error e => rw [hg] at h; cases h
    | ok r =>
      obtain ⟨a, b, q⟩ := r
      rw [hg] at h
      cases h
      exact ⟨q, rfl, rfl⟩
  unfold timC at h
  by_cases h27 : c t = 27
  · rw [if_pos h27] at h
    by_cases hn : c (t + 1) = 50 ∧ 1 ≤ v (t + 1) ∧ v (t + 1) ≤ 20
    · rw [if_pos hn] at h
      obtain ⟨q, e1, e2⟩ := fin _ _ h
      exact ⟨q, v (t + 1), t + 2, e1, e2, Or.inl ⟨h27, hn.1, hn.2, rfl, rfl⟩⟩
    · rw [if_neg hn] at h; cases h
  · rw [if_neg h27] at h
    obtain ⟨q, e1, e2⟩ := fin _ _ h
    exact ⟨q, 1, t, e1, e2, Or.inr ⟨h27, rfl, rfl⟩⟩
set_option maxHeartbeats 4000000 in
set_option maxRecDepth 100000 in
theorem gt_TI {l : Launch} {o : Nat} {ar : Nat → Nat} {d : Nat} {Pz : Option Value → zH → Prop} {h0 h : zH} {f0 f : mF} {g0 g j : mA} {K φ : Int → Int} {nt live ed x27 x28 x29 y24 y42 y45 : Int} {t2 p2 t4 p4 : Nat} {k4 : Den} {o3 o4 : Option Value} (hd : 45 ≤ d) (n4 : nt ≤ 400) (n0 : 0 ≤ K 76) (n1 : K 76 ≤ 10) (hd0 : ∀ i, 0 ≤ i → i < K 76 → K i = 0 ∨ K i = 1) (hl : live = 0 ∨ live = 1) (hO : FO1 K x27 x28 x29 φ) (t2n : (t2 : Int) ≤ nt) (h27 : cK K 2400 nt t2 = 27) (h50 : cK K 2400 nt ((t2 : Int) + 1) = 50) (hif : cK K 2400 nt (((t2 + 2) : Nat) : Int) = 4) (hq : pTestD false (cK K 2400 nt) (vK K 2400) 8 ((t2 + 2) + 1) p2 = .ok (t4, p4, k4)) (t4n : (t4 : Int) ≤ nt) (kx : ∀ (o3 o4 : Option Value) (f : mF) (g : mA) (h : zH), f 42 = vK K 2400 ((t2 : Int) + 1) → f 22 = 2400 + ((t4 : Nat) : Int) + 1 → (live = 1 → f 45 = b2i (k4 φ = some 1)) → (f 45 = 0 ∨ f 45 = 1) → eqx [22, 24, 42, 45] f0 f → eqx [] g0 g → HM o ar f g j h → zAg o ar h0 h → Z l MX8_goesAlong d 0 0 Pz 263 [some (.ref o), some (vI ed), some (vI live), o3, o4] [] h 0 0) (eg2 : g 2 = K) (ef22 : f 22 = 2400 + (t2 : Int)) (ef23 : f 23 = 2400 + nt) (ef24 : f 24 = y24) (ef25 : f 25 = 1) (ef27 : f 27 = x27) (ef28 : f 28 = x28) (ef29 : f 29 = x29) (ef42 : f 42 = y42) (ef45 : f 45 = y45) (hfE : eqx [22, 24, 42, 45] f0 f) (hgE : eqx [] g0 g) (hH : HM o ar f g j h) (hA : zAg o ar h0 h) : Z l MX8_goesAlong d 0 0 Pz 159 [some (.ref o), some (vI ed), some (vI live), o3, o4] [] h 0 0 := by
  have hz := hd
  refine z_ald_0 (TX8_goesAlong_2.at 3 rfl) ?_
  refine z_iconst (TX8_goesAlong_2.at 4 rfl) ?_
  refine zm_putIE (TX8_goesAlong_2.at 5 rfl) fp8_456 hH hA rfl (by decide) (by first | omega | exact b2i_01 _) (fun h f161 e1 e2 hH hA => ?_)
  have ef22 := (e1 22 (by decide)).trans ef22
  have ef23 := (e1 23 (by decide)).trans ef23
  have ef24 := (e1 24 (by decide)).trans ef24
  have ef25 := (e1 25 (by decide)).trans ef25
  have ef27 := (e1 27 (by decide)).trans ef27
  have ef28 := (e1 28 (by decide)).trans ef28
  have ef29 := (e1 29 (by decide)).trans ef29
  have ef42 := e2
  have ef45 := (e1 45 (by decide)).trans ef45
  have hfE := hfE.put e1 (by decide)
  refine z_ald_0 (TX8_goesAlong_2.at 6 rfl) ?_
  refine z_bipush (by decide) (TX8_goesAlong_2.at 7 rfl) ?_
  refine zm_callI1 (m_passes0 (t := (t2 : Int)) eg2 ef22 ef23 (by omega) rfl rfl (by omega) (by omega) (by omega) (by omega)) (TX8_goesAlong_2.at 8 rfl) c8_284 rfl rfl hH hA (by omega) (Nat.le_of_ble_eq_true rfl) (fun x167 f167 g167 j167 h r167 q167 hH hA => ?_)
  obtain ⟨q167, xf, xg, xj⟩ := q167
  rw [xj] at hH
  have ef23 := (xf 23 (by decide)).trans ef23
  have ef24 := (xf 24 (by decide)).trans ef24
  have ef25 := (xf 25 (by decide)).trans ef25
  have ef27 := (xf 27 (by decide)).trans ef27
  have ef28 := (xf 28 (by decide)).trans ef28
  have ef29 := (xf 29 (by decide)).trans ef29
  have ef42 := (xf 42 (by decide)).trans ef42
  have ef45 := (xf 45 (by decide)).trans ef45
  have hfE := hfE.trans xf (by decide)
  have eg2 := (xg 2 (by decide)).trans eg2
  have hgE := hgE.trans xg (by decide)
  have qL := q167
  obtain ⟨rfl, ef22⟩ := qL
  rw [b2i_t h27] at ef22
  refine z_if_eqB (tgt := 200) (TX8_goesAlong_2.at 9 rfl) rfl (fun c1 => absurd c1 (by exact fun q => q h27)) (fun c1 => ?_)
  refine z_ald_0 (TX8_goesAlong_2.at 10 rfl) ?_
  refine z_ald_0 (TX8_goesAlong_2.at 11 rfl) ?_
  have hlt := cK_nz (K := K) (b := 2400) (nt := nt) t2 (by omega)
  have hlt2 := cK_nz (K := K) (b := 2400) (nt := nt) (t2 + 1) (by push_cast; omega)
  push_cast at hlt2
  skip
  refine zm_getA (TX8_goesAlong_2.at 12 rfl) fl8_28 hH (by decide) (by decide) ?_
  refine z_sipush (by decide) (TX8_goesAlong_2.at 13 rfl) ?_
  refine z_ald_0 (TX8_goesAlong_2.at 14 rfl) ?_
  refine zm_getIE ef22 (TX8_goesAlong_2.at 15 rfl) fl8_260 hH rfl (by decide) (fun r182 => ?_)
  refine z_iadd (TX8_goesAlong_2.at 16 rfl) ?_
  refine zm_ialdE eg2 (TX8_goesAlong_2.at 17 rfl) hH rfl (by omega) (show _ < ((5688 : Nat) : Int) by omega) (fun r186 => ?_)
  rw [show K (2888 + (2400 + (t2 : Int) + 1)) = vK K 2400 ((t2 : Int) + 1) from (by unfold vK; rw [show (2400 : Int) + (t2 : Int) + 1 = 2400 + ((t2 : Int) + 1) by omega])] at r186 ⊢
  refine zm_putIE (TX8_goesAlong_2.at 18 rfl) fp8_456 hH hA rfl (by decide) (by first | omega | exact b2i_01 _) (fun h f187 e1 e2 hH hA => ?_)
  have ef22 := (e1 22 (by decide)).trans ef22
  have ef23 := (e1 23 (by decide)).trans ef23
  have ef24 := (e1 24 (by decide)).trans ef24
  have ef25 := (e1 25 (by decide)).trans ef25
  have ef27 := (e1 27 (by decide)).trans ef27
  have ef28 := (e1 28 (by decide)).trans ef28
  have ef29 := (e1 29 (by decide)).trans ef29
  have ef42 := e2
  have ef45 := (e1 45 (by decide)).trans ef45
  have hfE := hfE.put e1 (by decide)
  refine z_ald_0 (TX8_goesAlong_2.at 19 rfl) ?_
  refine z_dup rfl (TX8_goesAlong_2.at 20 rfl) ?_
  refine zm_getIE ef22 (TX8_goesAlong_2.at 21 rfl) fl8_260 hH rfl (by decide) (fun r192 => ?_)
  refine z_iconst (TX8_goesAlong_2.at 22 rfl) ?_
  refine z_iadd (TX8_goesAlong_2.at 23 rfl) ?_
  refine zm_putIE (TX8_goesAlong_2.at 24 rfl) fp8_260 hH hA rfl (by decide) (by first | omega | exact b2i_01 _) (fun h f197 e1 e2 hH hA => ?_)
  have ef22 := e2
  have ef23 := (e1 23 (by decide)).trans ef23
  have ef24 := (e1 24 (by decide)).trans ef24
  have ef25 := (e1 25 (by decide)).trans ef25
  have ef27 := (e1 27 (by decide)).trans ef27
  have ef28 := (e1 28 (by decide)).trans ef28
  have ef29 := (e1 29 (by decide)).trans ef29
  have ef42 := (e1 42 (by decide)).trans ef42
  have ef45 := (e1 45 (by decide)).trans ef45
  have hfE := hfE.put e1 (by decide)
  refine z_ald_0 (TX8_goesAlong_2.at 25 rfl) ?_
  refine z_iconst (TX8_goesAlong_2.at 26 rfl) ?_
  refine zm_putZE (TX8_goesAlong_2.at 27 rfl) fp8_270 hH hA rfl (by decide) (by first | omega | exact b2i_01 _) (fun h f202 e1 e2 hH hA => ?_)
  have ef22 := (e1 22 (by decide)).trans ef22
  have ef23 := (e1 23 (by decide)).trans ef23
  have ef24 := e2
  have ef25 := (e1 25 (by decide)).trans ef25
  have ef27 := (e1 27 (by decide)).trans ef27
  have ef28 := (e1 28 (by decide)).trans ef28
  have ef29 := (e1 29 (by decide)).trans ef29
  have ef42 := (e1 42 (by decide)).trans ef42
  have ef45 := (e1 45 (by decide)).trans ef45
  have hfE := hfE.put e1 (by decide)
  refine z_ald_0 (TX8_goesAlong_2.at 28 rfl) ?_
  refine z_ald_0 (TX8_goesAlong_2.at 29 rfl) ?_
  refine z_iconst (TX8_goesAlong_2.at 30 rfl) ?_
  refine zm_callI1 (m_passes0 (t := (((t2 + 2) : Nat) : Int)) eg2 ef22 ef23 (by omega) (by push_cast; omega) rfl (by omega) (by omega) (by omega) (by push_cast; omega)) (TX8_goesAlong_2.at 31 rfl) c8_284 rfl rfl hH hA (by omega) (Nat.le_of_ble_eq_true rfl) (fun x208 f208 g208 j208 h r208 q208 hH hA => ?_)
  obtain ⟨q208, xf, xg, xj⟩ := q208
  rw [xj] at hH
  have ef23 := (xf 23 (by decide)).trans ef23
  have ef24 := (xf 24 (by decide)).trans ef24
  have ef25 := (xf 25 (by decide)).trans ef25
  have ef27 := (xf 27 (by decide)).trans ef27
  have ef28 := (xf 28 (by decide)).trans ef28
  have ef29 := (xf 29 (by decide)).trans ef29
  have ef42 := (xf 42 (by decide)).trans ef42
  have ef45 := (xf 45 (by decide)).trans ef45
  have hfE := hfE.trans xf (by decide)
  have eg2 := (xg 2 (by decide)).trans eg2
  have hgE := hgE.trans xg (by decide)
  have qL := q208
  obtain ⟨rfl, ef22⟩ := qL
  rw [b2i_t hif] at ef22
  refine z_if_eqB (tgt := 222) (TX8_goesAlong_2.at 32 rfl) rfl (fun c2 => absurd c2 (by exact fun q => q hif)) (fun c2 => ?_)
  refine z_ald_0 (TX8_goesAlong_2.at 33 rfl) ?_
  refine z_ild_2 (TX8_goesAlong_2.at 34 rfl) ?_
  refine zm_callI1 (ev_testD (by omega) (by omega) n4 n0 n1 hd0 8 live 0 ((t2 + 2) + 1) p2 t4 p4 k4 _ _ _ hl (Or.inl rfl) eg2 (by rw [ef22]; push_cast; omega) ef23 ef24 (fok_o hO ef25 ef27 ef28 ef29) (by have q := cK_nz (K := K) (b := 2400) (nt := nt) ((t2 + 2) : Nat) (by omega); push_cast at q ⊢; omega) hq) (TX8_goesAlong_2.at 35 rfl) c8_317 rfl rfl hH hA (by omega) (Nat.le_of_ble_eq_true rfl) (fun x216 f216 g216 j216 h r216 q216 hH hA => ?_)
  obtain ⟨q216, xf, xg, xj⟩ := q216
  rw [xj] at hH
  have ef23 := (xf 23 (by decide)).trans ef23
  have ef25 := (xf 25 (by decide)).trans ef25
  have ef27 := (xf 27 (by decide)).trans ef27
  have ef28 := (xf 28 (by decide)).trans ef28
  have ef29 := (xf 29 (by decide)).trans ef29
  have ef42 := (xf 42 (by decide)).trans ef42
  have ef45 := (xf 45 (by decide)).trans ef45
  have hfE := hfE.trans xf (by decide)
  have eg2 := (xg 2 (by decide)).trans eg2
  have hgE := hgE.trans xg (by decide)
  have qL := q216
  obtain ⟨rt, ef24, ef22, ht⟩ := qL
  have eb := evB_01 (live := live) (z := k4 φ) (Or.inl (rfl : (0 : Int) = 0))
  refine z_if_eq (tgt := 226) (TX8_goesAlong_2.at 36 rfl) rfl (by omega) (fun c3 => ?_) (fun c3 => ?_)
  · skip
    refine z_iconst (TX8_goesAlong_2.at 39 rfl) ?_
    refine zm_putZE (TX8_goesAlong_3.at 0 rfl) fp8_459 hH hA rfl (by decide) (by first | omega | exact b2i_01 _) (fun h f227 e1 e2 hH hA => ?_)
    have ef22 := (e1 22 (by decide)).trans ef22
    have ef23 := (e1 23 (by decide)).trans ef23
    have ef24 := (e1 24 (by decide)).trans ef24
    have ef25 := (e1 25 (by decide)).trans ef25
    have ef27 := (e1 27 (by decide)).trans ef27
    have ef28 := (e1 28 (by decide)).trans ef28
    have ef29 := (e1 29 (by decide)).trans ef29
    have ef42 := (e1 42 (by decide)).trans ef42
    have ef45 := e2
    have hfE := hfE.put e1 (by decide)
    refine z_ald_0 (TX8_goesAlong_3.at 1 rfl) ?_
    refine z_ald_0 (TX8_goesAlong_3.at 2 rfl) ?_
    refine zm_getIE ef45 (TX8_goesAlong_3.at 3 rfl) fl8_459 hH rfl (by decide) (fun r232 => ?_)
    refine z_if_eq (tgt := 249) (TX8_goesAlong_3.at 4 rfl) rfl (by omega) (fun c4 => ?_) (fun c4 => ?_)
    · skip
      refine z_iconst (TX8_goesAlong_3.at 10 rfl) ?_
      refine zm_putZE (TX8_goesAlong_3.at 11 rfl) fp8_459 hH hA rfl (by decide) (by first | omega | exact b2i_01 _) (fun h f250 e1 e2 hH hA => ?_)
      have ef22 := (e1 22 (by decide)).trans ef22
      have ef23 := (e1 23 (by decide)).trans ef23
      have ef24 := (e1 24 (by decide)).trans ef24
      have ef25 := (e1 25 (by decide)).trans ef25
      have ef27 := (e1 27 (by decide)).trans ef27
      have ef28 := (e1 28 (by decide)).trans ef28
      have ef29 := (e1 29 (by decide)).trans ef29
      have ef42 := (e1 42 (by decide)).trans ef42
      have ef45 := e2
      have hfE := hfE.put e1 (by decide)
      refine z_ald_0 (TX8_goesAlong_3.at 12 rfl) ?_
      refine z_dup rfl (TX8_goesAlong_3.at 13 rfl) ?_
      refine zm_getIE ef22 (TX8_goesAlong_3.at 14 rfl) fl8_260 hH rfl (by decide) (fun r255 => ?_)
      refine z_iconst (TX8_goesAlong_3.at 15 rfl) ?_
      refine z_iadd (TX8_goesAlong_3.at 16 rfl) ?_
      refine zm_putIE (TX8_goesAlong_3.at 17 rfl) fp8_260 hH hA rfl (by decide) (by first | omega | exact b2i_01 _) (fun h f260 e1 e2 hH hA => ?_)
      have ef22 := e2
      have ef23 := (e1 23 (by decide)).trans ef23
      have ef24 := (e1 24 (by decide)).trans ef24
      have ef25 := (e1 25 (by decide)).trans ef25
      have ef27 := (e1 27 (by decide)).trans ef27
      have ef28 := (e1 28 (by decide)).trans ef28
      have ef29 := (e1 29 (by decide)).trans ef29
      have ef42 := (e1 42 (by decide)).trans ef42
      have ef45 := (e1 45 (by decide)).trans ef45
      have hfE := hfE.put e1 (by decide)
      exact kx _ _ _ _ _ (by rw [ef42]) (by rw [ef22]) (fun hlv => by subst hlv; rcases ev_1 (z := k4 φ) with ⟨h1, x, hx, -⟩ | ⟨h1, h2⟩; (have q := ht rfl rfl x hx; first | (rw [b2i_t (by rw [hx]; congr 1; omega)]; exact ef45) | (rw [b2i_f (by rw [hx]; intro y; have y2 := Option.some.inj y; omega)]; exact ef45)); (rw [b2i_f (by rw [h2]; intro y; cases y)]; first | exact ef45 | (exfalso; omega))) (by omega) hfE hgE hH hA
    · skip
      refine z_ald_0 (TX8_goesAlong_3.at 5 rfl) ?_
      refine zm_getIE ef24 (TX8_goesAlong_3.at 6 rfl) fl8_270 hH rfl (by decide) (fun r239 => ?_)
      refine z_if_ne (tgt := 249) (TX8_goesAlong_3.at 7 rfl) rfl (by omega) (fun c5 => ?_) (fun c5 => ?_)
      · skip
        refine z_iconst (TX8_goesAlong_3.at 10 rfl) ?_
        refine zm_putZE (TX8_goesAlong_3.at 11 rfl) fp8_459 hH hA rfl (by decide) (by first | omega | exact b2i_01 _) (fun h f250 e1 e2 hH hA => ?_)
        have ef22 := (e1 22 (by decide)).trans ef22
        have ef23 := (e1 23 (by decide)).trans ef23
        have ef24 := (e1 24 (by decide)).trans ef24
        have ef25 := (e1 25 (by decide)).trans ef25
        have ef27 := (e1 27 (by decide)).trans ef27
        have ef28 := (e1 28 (by decide)).trans ef28
        have ef29 := (e1 29 (by decide)).trans ef29
        have ef42 := (e1 42 (by decide)).trans ef42
        have ef45 := e2
        have hfE := hfE.put e1 (by decide)
        refine z_ald_0 (TX8_goesAlong_3.at 12 rfl) ?_
        refine z_dup rfl (TX8_goesAlong_3.at 13 rfl) ?_
        refine zm_getIE ef22 (TX8_goesAlong_3.at 14 rfl) fl8_260 hH rfl (by decide) (fun r255 => ?_)
        refine z_iconst (TX8_goesAlong_3.at 15 rfl) ?_
        refine z_iadd (TX8_goesAlong_3.at 16 rfl) ?_
        refine zm_putIE (TX8_goesAlong_3.at 17 rfl) fp8_260 hH hA rfl (by decide) (by first | omega | exact b2i_01 _) (fun h f260 e1 e2 hH hA => ?_)
        have ef22 := e2
        have ef23 := (e1 23 (by decide)).trans ef23
        have ef24 := (e1 24 (by decide)).trans ef24
        have ef25 := (e1 25 (by decide)).trans ef25
        have ef27 := (e1 27 (by decide)).trans ef27
        have ef28 := (e1 28 (by decide)).trans ef28
        have ef29 := (e1 29 (by decide)).trans ef29
        have ef42 := (e1 42 (by decide)).trans ef42
        have ef45 := (e1 45 (by decide)).trans ef45
        have hfE := hfE.put e1 (by decide)
        exact kx _ _ _ _ _ (by rw [ef42]) (by rw [ef22]) (fun hlv => by subst hlv; rcases ev_1 (z := k4 φ) with ⟨h1, x, hx, -⟩ | ⟨h1, h2⟩; (have q := ht rfl rfl x hx; first | (rw [b2i_t (by rw [hx]; congr 1; omega)]; exact ef45) | (rw [b2i_f (by rw [hx]; intro y; have y2 := Option.some.inj y; omega)]; exact ef45)); (rw [b2i_f (by rw [h2]; intro y; cases y)]; first | exact ef45 | (exfalso; omega))) (by omega) hfE hgE hH hA
      · skip
        refine z_iconst (TX8_goesAlong_3.at 8 rfl) ?_
        refine z_goto (tgt := 250) (TX8_goesAlong_3.at 9 rfl) rfl ?_
        refine zm_putZE (TX8_goesAlong_3.at 11 rfl) fp8_459 hH hA rfl (by decide) (by first | omega | exact b2i_01 _) (fun h f250 e1 e2 hH hA => ?_)
        have ef22 := (e1 22 (by decide)).trans ef22
        have ef23 := (e1 23 (by decide)).trans ef23
        have ef24 := (e1 24 (by decide)).trans ef24
        have ef25 := (e1 25 (by decide)).trans ef25
        have ef27 := (e1 27 (by decide)).trans ef27
        have ef28 := (e1 28 (by decide)).trans ef28
        have ef29 := (e1 29 (by decide)).trans ef29
        have ef42 := (e1 42 (by decide)).trans ef42
        have ef45 := e2
        have hfE := hfE.put e1 (by decide)
        refine z_ald_0 (TX8_goesAlong_3.at 12 rfl) ?_
        refine z_dup rfl (TX8_goesAlong_3.at 13 rfl) ?_
        refine zm_getIE ef22 (TX8_goesAlong_3.at 14 rfl) fl8_260 hH rfl (by decide) (fun r255 => ?_)
        refine z_iconst (TX8_goesAlong_3.at 15 rfl) ?_
        refine z_iadd (TX8_goesAlong_3.at 16 rfl) ?_
        refine zm_putIE (TX8_goesAlong_3.at 17 rfl) fp8_260 hH hA rfl (by decide) (by first | omega | exact b2i_01 _) (fun h f260 e1 e2 hH hA => ?_)
        have ef22 := e2
        have ef23 := (e1 23 (by decide)).trans ef23
        have ef24 := (e1 24 (by decide)).trans ef24
        have ef25 := (e1 25 (by decide)).trans ef25
        have ef27 := (e1 27 (by decide)).trans ef27
        have ef28 := (e1 28 (by decide)).trans ef28
        have ef29 := (e1 29 (by decide)).trans ef29
        have ef42 := (e1 42 (by decide)).trans ef42
        have ef45 := (e1 45 (by decide)).trans ef45
        have hfE := hfE.put e1 (by decide)
        exact kx _ _ _ _ _ (by rw [ef42]) (by rw [ef22]) (fun hlv => by subst hlv; rcases ev_1 (z := k4 φ) with ⟨h1, x, hx, -⟩ | ⟨h1, h2⟩; (have q := ht rfl rfl x hx; first | (rw [b2i_t (by rw [hx]; congr 1; omega)]; exact ef45) | (rw [b2i_f (by rw [hx]; intro y; have y2 := Option.some.inj y; omega)]; exact ef45)); (rw [b2i_f (by rw [h2]; intro y; cases y)]; first | exact ef45 | (exfalso; omega))) (by omega) hfE hgE hH hA
  · skip
    refine z_iconst (TX8_goesAlong_2.at 37 rfl) ?_
    refine z_goto (tgt := 227) (TX8_goesAlong_2.at 38 rfl) rfl ?_
    refine zm_putZE (TX8_goesAlong_3.at 0 rfl) fp8_459 hH hA rfl (by decide) (by first | omega | exact b2i_01 _) (fun h f227 e1 e2 hH hA => ?_)
    have ef22 := (e1 22 (by decide)).trans ef22
    have ef23 := (e1 23 (by decide)).trans ef23
    have ef24 := (e1 24 (by decide)).trans ef24
    have ef25 := (e1 25 (by decide)).trans ef25
    have ef27 := (e1 27 (by decide)).trans ef27
    have ef28 := (e1 28 (by decide)).trans ef28
    have ef29 := (e1 29 (by decide)).trans ef29
    have ef42 := (e1 42 (by decide)).trans ef42
    have ef45 := e2
    have hfE := hfE.put e1 (by decide)
    refine z_ald_0 (TX8_goesAlong_3.at 1 rfl) ?_
    refine z_ald_0 (TX8_goesAlong_3.at 2 rfl) ?_
    refine zm_getIE ef45 (TX8_goesAlong_3.at 3 rfl) fl8_459 hH rfl (by decide) (fun r232 => ?_)
    refine z_if_eq (tgt := 249) (TX8_goesAlong_3.at 4 rfl) rfl (by omega) (fun c6 => ?_) (fun c6 => ?_)
    · skip
      refine z_iconst (TX8_goesAlong_3.at 10 rfl) ?_
      refine zm_putZE (TX8_goesAlong_3.at 11 rfl) fp8_459 hH hA rfl (by decide) (by first | omega | exact b2i_01 _) (fun h f250 e1 e2 hH hA => ?_)
      have ef22 := (e1 22 (by decide)).trans ef22
      have ef23 := (e1 23 (by decide)).trans ef23
      have ef24 := (e1 24 (by decide)).trans ef24
      have ef25 := (e1 25 (by decide)).trans ef25
      have ef27 := (e1 27 (by decide)).trans ef27
      have ef28 := (e1 28 (by decide)).trans ef28
      have ef29 := (e1 29 (by decide)).trans ef29
      have ef42 := (e1 42 (by decide)).trans ef42
      have ef45 := e2
      have hfE := hfE.put e1 (by decide)
      refine z_ald_0 (TX8_goesAlong_3.at 12 rfl) ?_
      refine z_dup rfl (TX8_goesAlong_3.at 13 rfl) ?_
      refine zm_getIE ef22 (TX8_goesAlong_3.at 14 rfl) fl8_260 hH rfl (by decide) (fun r255 => ?_)
      refine z_iconst (TX8_goesAlong_3.at 15 rfl) ?_
      refine z_iadd (TX8_goesAlong_3.at 16 rfl) ?_
      refine zm_putIE (TX8_goesAlong_3.at 17 rfl) fp8_260 hH hA rfl (by decide) (by first | omega | exact b2i_01 _) (fun h f260 e1 e2 hH hA => ?_)
      have ef22 := e2
      have ef23 := (e1 23 (by decide)).trans ef23
      have ef24 := (e1 24 (by decide)).trans ef24
      have ef25 := (e1 25 (by decide)).trans ef25
      have ef27 := (e1 27 (by decide)).trans ef27
      have ef28 := (e1 28 (by decide)).trans ef28
      have ef29 := (e1 29 (by decide)).trans ef29
      have ef42 := (e1 42 (by decide)).trans ef42
      have ef45 := (e1 45 (by decide)).trans ef45
      have hfE := hfE.put e1 (by decide)
      exact kx _ _ _ _ _ (by rw [ef42]) (by rw [ef22]) (fun hlv => by subst hlv; rcases ev_1 (z := k4 φ) with ⟨h1, x, hx, -⟩ | ⟨h1, h2⟩; (have q := ht rfl rfl x hx; first | (rw [b2i_t (by rw [hx]; congr 1; omega)]; exact ef45) | (rw [b2i_f (by rw [hx]; intro y; have y2 := Option.some.inj y; omega)]; exact ef45)); (rw [b2i_f (by rw [h2]; intro y; cases y)]; first | exact ef45 | (exfalso; omega))) (by omega) hfE hgE hH hA
    · skip
      refine z_ald_0 (TX8_goesAlong_3.at 5 rfl) ?_
      refine zm_getIE ef24 (TX8_goesAlong_3.at 6 rfl) fl8_270 hH rfl (by decide) (fun r239 => ?_)
      refine z_if_ne (tgt := 249) (TX8_goesAlong_3.at 7 rfl) rfl (by omega) (fun c7 => ?_) (fun c7 => ?_)
      · skip
        refine z_iconst (TX8_goesAlong_3.at 10 rfl) ?_
        refine zm_putZE (TX8_goesAlong_3.at 11 rfl) fp8_459 hH hA rfl (by decide) (by first | omega | exact b2i_01 _) (fun h f250 e1 e2 hH hA => ?_)
        have ef22 := (e1 22 (by decide)).trans ef22
        have ef23 := (e1 23 (by decide)).trans ef23
        have ef24 := (e1 24 (by decide)).trans ef24
        have ef25 := (e1 25 (by decide)).trans ef25
        have ef27 := (e1 27 (by decide)).trans ef27
        have ef28 := (e1 28 (by decide)).trans ef28
        have ef29 := (e1 29 (by decide)).trans ef29
        have ef42 := (e1 42 (by decide)).trans ef42
        have ef45 := e2
        have hfE := hfE.put e1 (by decide)
        refine z_ald_0 (TX8_goesAlong_3.at 12 rfl) ?_
        refine z_dup rfl (TX8_goesAlong_3.at 13 rfl) ?_
        refine zm_getIE ef22 (TX8_goesAlong_3.at 14 rfl) fl8_260 hH rfl (by decide) (fun r255 => ?_)
        refine z_iconst (TX8_goesAlong_3.at 15 rfl) ?_
        refine z_iadd (TX8_goesAlong_3.at 16 rfl) ?_
        refine zm_putIE (TX8_goesAlong_3.at 17 rfl) fp8_260 hH hA rfl (by decide) (by first | omega | exact b2i_01 _) (fun h f260 e1 e2 hH hA => ?_)
        have ef22 := e2
        have ef23 := (e1 23 (by decide)).trans ef23
        have ef24 := (e1 24 (by decide)).trans ef24
        have ef25 := (e1 25 (by decide)).trans ef25
        have ef27 := (e1 27 (by decide)).trans ef27
        have ef28 := (e1 28 (by decide)).trans ef28
        have ef29 := (e1 29 (by decide)).trans ef29
        have ef42 := (e1 42 (by decide)).trans ef42
        have ef45 := (e1 45 (by decide)).trans ef45
        have hfE := hfE.put e1 (by decide)
        exact kx _ _ _ _ _ (by rw [ef42]) (by rw [ef22]) (fun hlv => by subst hlv; rcases ev_1 (z := k4 φ) with ⟨h1, x, hx, -⟩ | ⟨h1, h2⟩; (have q := ht rfl rfl x hx; first | (rw [b2i_t (by rw [hx]; congr 1; omega)]; exact ef45) | (rw [b2i_f (by rw [hx]; intro y; have y2 := Option.some.inj y; omega)]; exact ef45)); (rw [b2i_f (by rw [h2]; intro y; cases y)]; first | exact ef45 | (exfalso; omega))) (by omega) hfE hgE hH hA
      · skip
        refine z_iconst (TX8_goesAlong_3.at 8 rfl) ?_
        refine z_goto (tgt := 250) (TX8_goesAlong_3.at 9 rfl) rfl ?_
        refine zm_putZE (TX8_goesAlong_3.at 11 rfl) fp8_459 hH hA rfl (by decide) (by first | omega | exact b2i_01 _) (fun h f250 e1 e2 hH hA => ?_)
        have ef22 := (e1 22 (by decide)).trans ef22
        have ef23 := (e1 23 (by decide)).trans ef23
        have ef24 := (e1 24 (by decide)).trans ef24
        have ef25 := (e1 25 (by decide)).trans ef25
        have ef27 := (e1 27 (by decide)).trans ef27
        have ef28 := (e1 28 (by decide)).trans ef28
        have ef29 := (e1 29 (by decide)).trans ef29
        have ef42 := (e1 42 (by decide)).trans ef42
        have ef45 := e2
        have hfE := hfE.put e1 (by decide)
        refine z_ald_0 (TX8_goesAlong_3.at 12 rfl) ?_
        refine z_dup rfl (TX8_goesAlong_3.at 13 rfl) ?_
        refine zm_getIE ef22 (TX8_goesAlong_3.at 14 rfl) fl8_260 hH rfl (by decide) (fun r255 => ?_)
        refine z_iconst (TX8_goesAlong_3.at 15 rfl) ?_
        refine z_iadd (TX8_goesAlong_3.at 16 rfl) ?_
        refine zm_putIE (TX8_goesAlong_3.at 17 rfl) fp8_260 hH hA rfl (by decide) (by first | omega | exact b2i_01 _) (fun h f260 e1 e2 hH hA => ?_)
        have ef22 := e2
        have ef23 := (e1 23 (by decide)).trans ef23
        have ef24 := (e1 24 (by decide)).trans ef24
        have ef25 := (e1 25 (by decide)).trans ef25
        have ef27 := (e1 27 (by decide)).trans ef27
        have ef28 := (e1 28 (by decide)).trans ef28
        have ef29 := (e1 29 (by decide)).trans ef29
        have ef42 := (e1 42 (by decide)).trans ef42
        have ef45 := (e1 45 (by decide)).trans ef45
        have hfE := hfE.put e1 (by decide)
        exact kx _ _ _ _ _ (by rw [ef42]) (by rw [ef22]) (fun hlv => by subst hlv; rcases ev_1 (z := k4 φ) with ⟨h1, x, hx, -⟩ | ⟨h1, h2⟩; (have q := ht rfl rfl x hx; first | (rw [b2i_t (by rw [hx]; congr 1; omega)]; exact ef45) | (rw [b2i_f (by rw [hx]; intro y; have y2 := Option.some.inj y; omega)]; exact ef45)); (rw [b2i_f (by rw [h2]; intro y; cases y)]; first | exact ef45 | (exfalso; omega))) (by omega) hfE hgE hH hA

set_option maxHeartbeats 4000000 in
set_option maxRecDepth 100000 in
theorem gt_TN {l : Launch} {o : Nat} {ar : Nat → Nat} {d : Nat} {Pz : Option Value → zH → Prop} {h0 h : zH} {f0 f : mF} {g0 g j : mA} {K φ : Int → Int} {nt live ed x27 x28 x29 y24 y42 y45 : Int} {t2 p2 t4 p4 : Nat} {k4 : Den} {o3 o4 : Option Value} (hd : 45 ≤ d) (n4 : nt ≤ 400) (n0 : 0 ≤ K 76) (n1 : K 76 ≤ 10) (hd0 : ∀ i, 0 ≤ i → i < K 76 → K i = 0 ∨ K i = 1) (hl : live = 0 ∨ live = 1) (hO : FO1 K x27 x28 x29 φ) (t2n : (t2 : Int) ≤ nt) (h27 : cK K 2400 nt t2 = 27) (h50 : cK K 2400 nt ((t2 : Int) + 1) = 50) (hif : ¬ cK K 2400 nt (((t2 + 2) : Nat) : Int) = 4) (kx : ∀ (o3 o4 : Option Value) (f : mF) (g : mA) (h : zH), f 42 = vK K 2400 ((t2 : Int) + 1) → f 22 = 2400 + (((t2 + 2) : Nat) : Int) + 1 → (live = 1 → f 45 = b2i (True)) → (f 45 = 0 ∨ f 45 = 1) → eqx [22, 24, 42, 45] f0 f → eqx [] g0 g → HM o ar f g j h → zAg o ar h0 h → Z l MX8_goesAlong d 0 0 Pz 263 [some (.ref o), some (vI ed), some (vI live), o3, o4] [] h 0 0) (eg2 : g 2 = K) (ef22 : f 22 = 2400 + (t2 : Int)) (ef23 : f 23 = 2400 + nt) (ef24 : f 24 = y24) (ef25 : f 25 = 1) (ef27 : f 27 = x27) (ef28 : f 28 = x28) (ef29 : f 29 = x29) (ef42 : f 42 = y42) (ef45 : f 45 = y45) (hfE : eqx [22, 24, 42, 45] f0 f) (hgE : eqx [] g0 g) (hH : HM o ar f g j h) (hA : zAg o ar h0 h) : Z l MX8_goesAlong d 0 0 Pz 159 [some (.ref o), some (vI ed), some (vI live), o3, o4] [] h 0 0 := by
  have hz := hd
  refine z_ald_0 (TX8_goesAlong_2.at 3 rfl) ?_
  refine z_iconst (TX8_goesAlong_2.at 4 rfl) ?_
  refine zm_putIE (TX8_goesAlong_2.at 5 rfl) fp8_456 hH hA rfl (by decide) (by first | omega | exact b2i_01 _) (fun h f161 e1 e2 hH hA => ?_)
  have ef22 := (e1 22 (by decide)).trans ef22
  have ef23 := (e1 23 (by decide)).trans ef23
  have ef24 := (e1 24 (by decide)).trans ef24
  have ef25 := (e1 25 (by decide)).trans ef25
  have ef27 := (e1 27 (by decide)).trans ef27
  have ef28 := (e1 28 (by decide)).trans ef28
  have ef29 := (e1 29 (by decide)).trans ef29
  have ef42 := e2
  have ef45 := (e1 45 (by decide)).trans ef45
  have hfE := hfE.put e1 (by decide)
  refine z_ald_0 (TX8_goesAlong_2.at 6 rfl) ?_
  refine z_bipush (by decide) (TX8_goesAlong_2.at 7 rfl) ?_
  refine zm_callI1 (m_passes0 (t := (t2 : Int)) eg2 ef22 ef23 (by omega) rfl rfl (by omega) (by omega) (by omega) (by omega)) (TX8_goesAlong_2.at 8 rfl) c8_284 rfl rfl hH hA (by omega) (Nat.le_of_ble_eq_true rfl) (fun x167 f167 g167 j167 h r167 q167 hH hA => ?_)
  obtain ⟨q167, xf, xg, xj⟩ := q167
  rw [xj] at hH
  have ef23 := (xf 23 (by decide)).trans ef23
  have ef24 := (xf 24 (by decide)).trans ef24
  have ef25 := (xf 25 (by decide)).trans ef25
  have ef27 := (xf 27 (by decide)).trans ef27
  have ef28 := (xf 28 (by decide)).trans ef28
  have ef29 := (xf 29 (by decide)).trans ef29
  have ef42 := (xf 42 (by decide)).trans ef42
  have ef45 := (xf 45 (by decide)).trans ef45
  have hfE := hfE.trans xf (by decide)
  have eg2 := (xg 2 (by decide)).trans eg2
  have hgE := hgE.trans xg (by decide)
  have qL := q167
  obtain ⟨rfl, ef22⟩ := qL
  rw [b2i_t h27] at ef22
  refine z_if_eqB (tgt := 200) (TX8_goesAlong_2.at 9 rfl) rfl (fun c1 => absurd c1 (by exact fun q => q h27)) (fun c1 => ?_)
  refine z_ald_0 (TX8_goesAlong_2.at 10 rfl) ?_
  refine z_ald_0 (TX8_goesAlong_2.at 11 rfl) ?_
  have hlt := cK_nz (K := K) (b := 2400) (nt := nt) t2 (by omega)
  have hlt2 := cK_nz (K := K) (b := 2400) (nt := nt) (t2 + 1) (by push_cast; omega)
  push_cast at hlt2
  skip
  refine zm_getA (TX8_goesAlong_2.at 12 rfl) fl8_28 hH (by decide) (by decide) ?_
  refine z_sipush (by decide) (TX8_goesAlong_2.at 13 rfl) ?_
  refine z_ald_0 (TX8_goesAlong_2.at 14 rfl) ?_
  refine zm_getIE ef22 (TX8_goesAlong_2.at 15 rfl) fl8_260 hH rfl (by decide) (fun r182 => ?_)
  refine z_iadd (TX8_goesAlong_2.at 16 rfl) ?_
  refine zm_ialdE eg2 (TX8_goesAlong_2.at 17 rfl) hH rfl (by omega) (show _ < ((5688 : Nat) : Int) by omega) (fun r186 => ?_)
  rw [show K (2888 + (2400 + (t2 : Int) + 1)) = vK K 2400 ((t2 : Int) + 1) from (by unfold vK; rw [show (2400 : Int) + (t2 : Int) + 1 = 2400 + ((t2 : Int) + 1) by omega])] at r186 ⊢
  refine zm_putIE (TX8_goesAlong_2.at 18 rfl) fp8_456 hH hA rfl (by decide) (by first | omega | exact b2i_01 _) (fun h f187 e1 e2 hH hA => ?_)
  have ef22 := (e1 22 (by decide)).trans ef22
  have ef23 := (e1 23 (by decide)).trans ef23
  have ef24 := (e1 24 (by decide)).trans ef24
  have ef25 := (e1 25 (by decide)).trans ef25
  have ef27 := (e1 27 (by decide)).trans ef27
  have ef28 := (e1 28 (by decide)).trans ef28
  have ef29 := (e1 29 (by decide)).trans ef29
  have ef42 := e2
  have ef45 := (e1 45 (by decide)).trans ef45
  have hfE := hfE.put e1 (by decide)
  refine z_ald_0 (TX8_goesAlong_2.at 19 rfl) ?_
  refine z_dup rfl (TX8_goesAlong_2.at 20 rfl) ?_
  refine zm_getIE ef22 (TX8_goesAlong_2.at 21 rfl) fl8_260 hH rfl (by decide) (fun r192 => ?_)
  refine z_iconst (TX8_goesAlong_2.at 22 rfl) ?_
  refine z_iadd (TX8_goesAlong_2.at 23 rfl) ?_
  refine zm_putIE (TX8_goesAlong_2.at 24 rfl) fp8_260 hH hA rfl (by decide) (by first | omega | exact b2i_01 _) (fun h f197 e1 e2 hH hA => ?_)
  have ef22 := e2
  have ef23 := (e1 23 (by decide)).trans ef23
  have ef24 := (e1 24 (by decide)).trans ef24
  have ef25 := (e1 25 (by decide)).trans ef25
  have ef27 := (e1 27 (by decide)).trans ef27
  have ef28 := (e1 28 (by decide)).trans ef28
  have ef29 := (e1 29 (by decide)).trans ef29
  have ef42 := (e1 42 (by decide)).trans ef42
  have ef45 := (e1 45 (by decide)).trans ef45
  have hfE := hfE.put e1 (by decide)
  refine z_ald_0 (TX8_goesAlong_2.at 25 rfl) ?_
  refine z_iconst (TX8_goesAlong_2.at 26 rfl) ?_
  refine zm_putZE (TX8_goesAlong_2.at 27 rfl) fp8_270 hH hA rfl (by decide) (by first | omega | exact b2i_01 _) (fun h f202 e1 e2 hH hA => ?_)
  have ef22 := (e1 22 (by decide)).trans ef22
  have ef23 := (e1 23 (by decide)).trans ef23
  have ef24 := e2
  have ef25 := (e1 25 (by decide)).trans ef25
  have ef27 := (e1 27 (by decide)).trans ef27
  have ef28 := (e1 28 (by decide)).trans ef28
  have ef29 := (e1 29 (by decide)).trans ef29
  have ef42 := (e1 42 (by decide)).trans ef42
  have ef45 := (e1 45 (by decide)).trans ef45
  have hfE := hfE.put e1 (by decide)
  refine z_ald_0 (TX8_goesAlong_2.at 28 rfl) ?_
  refine z_ald_0 (TX8_goesAlong_2.at 29 rfl) ?_
  refine z_iconst (TX8_goesAlong_2.at 30 rfl) ?_
  refine zm_callI1 (m_passes0 (t := (((t2 + 2) : Nat) : Int)) eg2 ef22 ef23 (by omega) (by push_cast; omega) rfl (by omega) (by omega) (by omega) (by push_cast; omega)) (TX8_goesAlong_2.at 31 rfl) c8_284 rfl rfl hH hA (by omega) (Nat.le_of_ble_eq_true rfl) (fun x208 f208 g208 j208 h r208 q208 hH hA => ?_)
  obtain ⟨q208, xf, xg, xj⟩ := q208
  rw [xj] at hH
  have ef23 := (xf 23 (by decide)).trans ef23
  have ef24 := (xf 24 (by decide)).trans ef24
  have ef25 := (xf 25 (by decide)).trans ef25
  have ef27 := (xf 27 (by decide)).trans ef27
  have ef28 := (xf 28 (by decide)).trans ef28
  have ef29 := (xf 29 (by decide)).trans ef29
  have ef42 := (xf 42 (by decide)).trans ef42
  have ef45 := (xf 45 (by decide)).trans ef45
  have hfE := hfE.trans xf (by decide)
  have eg2 := (xg 2 (by decide)).trans eg2
  have hgE := hgE.trans xg (by decide)
  have qL := q208
  obtain ⟨rfl, ef22⟩ := qL
  rw [b2i_f hif, Int.add_zero] at ef22
  refine z_if_eqB (tgt := 222) (TX8_goesAlong_2.at 32 rfl) rfl (fun c2 => ?_) (fun c2 => absurd c2 (by exact hif))
  refine z_iconst (TX8_goesAlong_2.at 37 rfl) ?_
  refine z_goto (tgt := 227) (TX8_goesAlong_2.at 38 rfl) rfl ?_
  refine zm_putZE (TX8_goesAlong_3.at 0 rfl) fp8_459 hH hA rfl (by decide) (by first | omega | exact b2i_01 _) (fun h f227 e1 e2 hH hA => ?_)
  have ef22 := (e1 22 (by decide)).trans ef22
  have ef23 := (e1 23 (by decide)).trans ef23
  have ef24 := (e1 24 (by decide)).trans ef24
  have ef25 := (e1 25 (by decide)).trans ef25
  have ef27 := (e1 27 (by decide)).trans ef27
  have ef28 := (e1 28 (by decide)).trans ef28
  have ef29 := (e1 29 (by decide)).trans ef29
  have ef42 := (e1 42 (by decide)).trans ef42
  have ef45 := e2
  have hfE := hfE.put e1 (by decide)
  refine z_ald_0 (TX8_goesAlong_3.at 1 rfl) ?_
  refine z_ald_0 (TX8_goesAlong_3.at 2 rfl) ?_
  refine zm_getIE ef45 (TX8_goesAlong_3.at 3 rfl) fl8_459 hH rfl (by decide) (fun r232 => ?_)
  refine z_if_eq (tgt := 249) (TX8_goesAlong_3.at 4 rfl) rfl (by omega) (fun c3 => absurd c3 (by omega)) (fun c3 => ?_)
  refine z_ald_0 (TX8_goesAlong_3.at 5 rfl) ?_
  refine zm_getIE ef24 (TX8_goesAlong_3.at 6 rfl) fl8_270 hH rfl (by decide) (fun r239 => ?_)
  refine z_if_ne (tgt := 249) (TX8_goesAlong_3.at 7 rfl) rfl (by omega) (fun c4 => absurd c4 (by omega)) (fun c4 => ?_)
  refine z_iconst (TX8_goesAlong_3.at 8 rfl) ?_
  refine z_goto (tgt := 250) (TX8_goesAlong_3.at 9 rfl) rfl ?_
  refine zm_putZE (TX8_goesAlong_3.at 11 rfl) fp8_459 hH hA rfl (by decide) (by first | omega | exact b2i_01 _) (fun h f250 e1 e2 hH hA => ?_)
  have ef22 := (e1 22 (by decide)).trans ef22
  have ef23 := (e1 23 (by decide)).trans ef23
  have ef24 := (e1 24 (by decide)).trans ef24
  have ef25 := (e1 25 (by decide)).trans ef25
  have ef27 := (e1 27 (by decide)).trans ef27
  have ef28 := (e1 28 (by decide)).trans ef28
  have ef29 := (e1 29 (by decide)).trans ef29
  have ef42 := (e1 42 (by decide)).trans ef42
  have ef45 := e2
  have hfE := hfE.put e1 (by decide)
  refine z_ald_0 (TX8_goesAlong_3.at 12 rfl) ?_
  refine z_dup rfl (TX8_goesAlong_3.at 13 rfl) ?_
  refine zm_getIE ef22 (TX8_goesAlong_3.at 14 rfl) fl8_260 hH rfl (by decide) (fun r255 => ?_)
  refine z_iconst (TX8_goesAlong_3.at 15 rfl) ?_
  refine z_iadd (TX8_goesAlong_3.at 16 rfl) ?_
  refine zm_putIE (TX8_goesAlong_3.at 17 rfl) fp8_260 hH hA rfl (by decide) (by first | omega | exact b2i_01 _) (fun h f260 e1 e2 hH hA => ?_)
  have ef22 := e2
  have ef23 := (e1 23 (by decide)).trans ef23
  have ef24 := (e1 24 (by decide)).trans ef24
  have ef25 := (e1 25 (by decide)).trans ef25
  have ef27 := (e1 27 (by decide)).trans ef27
  have ef28 := (e1 28 (by decide)).trans ef28
  have ef29 := (e1 29 (by decide)).trans ef29
  have ef42 := (e1 42 (by decide)).trans ef42
  have ef45 := (e1 45 (by decide)).trans ef45
  have hfE := hfE.put e1 (by decide)
  exact kx _ _ _ _ _ (by rw [ef42]) (by rw [ef22]) (fun _ => by rw [b2i_t trivial]; exact ef45) (by omega) hfE hgE hH hA

set_option maxHeartbeats 4000000 in
set_option maxRecDepth 100000 in
theorem gt_NI {l : Launch} {o : Nat} {ar : Nat → Nat} {d : Nat} {Pz : Option Value → zH → Prop} {h0 h : zH} {f0 f : mF} {g0 g j : mA} {K φ : Int → Int} {nt live ed x27 x28 x29 y24 y42 y45 : Int} {t2 p2 t4 p4 : Nat} {k4 : Den} {o3 o4 : Option Value} (hd : 45 ≤ d) (n4 : nt ≤ 400) (n0 : 0 ≤ K 76) (n1 : K 76 ≤ 10) (hd0 : ∀ i, 0 ≤ i → i < K 76 → K i = 0 ∨ K i = 1) (hl : live = 0 ∨ live = 1) (hO : FO1 K x27 x28 x29 φ) (t2n : (t2 : Int) ≤ nt) (h27 : ¬ cK K 2400 nt t2 = 27) (hif : cK K 2400 nt ((t2 : Nat) : Int) = 4) (hq : pTestD false (cK K 2400 nt) (vK K 2400) 8 (t2 + 1) p2 = .ok (t4, p4, k4)) (t4n : (t4 : Int) ≤ nt) (kx : ∀ (o3 o4 : Option Value) (f : mF) (g : mA) (h : zH), f 42 = 1 → f 22 = 2400 + ((t4 : Nat) : Int) + 1 → (live = 1 → f 45 = b2i (k4 φ = some 1)) → (f 45 = 0 ∨ f 45 = 1) → eqx [22, 24, 42, 45] f0 f → eqx [] g0 g → HM o ar f g j h → zAg o ar h0 h → Z l MX8_goesAlong d 0 0 Pz 263 [some (.ref o), some (vI ed), some (vI live), o3, o4] [] h 0 0) (eg2 : g 2 = K) (ef22 : f 22 = 2400 + (t2 : Int)) (ef23 : f 23 = 2400 + nt) (ef24 : f 24 = y24) (ef25 : f 25 = 1) (ef27 : f 27 = x27) (ef28 : f 28 = x28) (ef29 : f 29 = x29) (ef42 : f 42 = y42) (ef45 : f 45 = y45) (hfE : eqx [22, 24, 42, 45] f0 f) (hgE : eqx [] g0 g) (hH : HM o ar f g j h) (hA : zAg o ar h0 h) : Z l MX8_goesAlong d 0 0 Pz 159 [some (.ref o), some (vI ed), some (vI live), o3, o4] [] h 0 0 := by
  have hz := hd
  refine z_ald_0 (TX8_goesAlong_2.at 3 rfl) ?_
  refine z_iconst (TX8_goesAlong_2.at 4 rfl) ?_
  refine zm_putIE (TX8_goesAlong_2.at 5 rfl) fp8_456 hH hA rfl (by decide) (by first | omega | exact b2i_01 _) (fun h f161 e1 e2 hH hA => ?_)
  have ef22 := (e1 22 (by decide)).trans ef22
  have ef23 := (e1 23 (by decide)).trans ef23
  have ef24 := (e1 24 (by decide)).trans ef24
  have ef25 := (e1 25 (by decide)).trans ef25
  have ef27 := (e1 27 (by decide)).trans ef27
  have ef28 := (e1 28 (by decide)).trans ef28
  have ef29 := (e1 29 (by decide)).trans ef29
  have ef42 := e2
  have ef45 := (e1 45 (by decide)).trans ef45
  have hfE := hfE.put e1 (by decide)
  refine z_ald_0 (TX8_goesAlong_2.at 6 rfl) ?_
  refine z_bipush (by decide) (TX8_goesAlong_2.at 7 rfl) ?_
  refine zm_callI1 (m_passes0 (t := (t2 : Int)) eg2 ef22 ef23 (by omega) rfl rfl (by omega) (by omega) (by omega) (by omega)) (TX8_goesAlong_2.at 8 rfl) c8_284 rfl rfl hH hA (by omega) (Nat.le_of_ble_eq_true rfl) (fun x167 f167 g167 j167 h r167 q167 hH hA => ?_)
  obtain ⟨q167, xf, xg, xj⟩ := q167
  rw [xj] at hH
  have ef23 := (xf 23 (by decide)).trans ef23
  have ef24 := (xf 24 (by decide)).trans ef24
  have ef25 := (xf 25 (by decide)).trans ef25
  have ef27 := (xf 27 (by decide)).trans ef27
  have ef28 := (xf 28 (by decide)).trans ef28
  have ef29 := (xf 29 (by decide)).trans ef29
  have ef42 := (xf 42 (by decide)).trans ef42
  have ef45 := (xf 45 (by decide)).trans ef45
  have hfE := hfE.trans xf (by decide)
  have eg2 := (xg 2 (by decide)).trans eg2
  have hgE := hgE.trans xg (by decide)
  have qL := q167
  obtain ⟨rfl, ef22⟩ := qL
  rw [b2i_f h27, Int.add_zero] at ef22
  refine z_if_eqB (tgt := 200) (TX8_goesAlong_2.at 9 rfl) rfl (fun c1 => ?_) (fun c1 => absurd c1 (by exact h27))
  refine z_ald_0 (TX8_goesAlong_2.at 25 rfl) ?_
  refine z_iconst (TX8_goesAlong_2.at 26 rfl) ?_
  refine zm_putZE (TX8_goesAlong_2.at 27 rfl) fp8_270 hH hA rfl (by decide) (by first | omega | exact b2i_01 _) (fun h f202 e1 e2 hH hA => ?_)
  have ef22 := (e1 22 (by decide)).trans ef22
  have ef23 := (e1 23 (by decide)).trans ef23
  have ef24 := e2
  have ef25 := (e1 25 (by decide)).trans ef25
  have ef27 := (e1 27 (by decide)).trans ef27
  have ef28 := (e1 28 (by decide)).trans ef28
  have ef29 := (e1 29 (by decide)).trans ef29
  have ef42 := (e1 42 (by decide)).trans ef42
  have ef45 := (e1 45 (by decide)).trans ef45
  have hfE := hfE.put e1 (by decide)
  refine z_ald_0 (TX8_goesAlong_2.at 28 rfl) ?_
  refine z_ald_0 (TX8_goesAlong_2.at 29 rfl) ?_
  refine z_iconst (TX8_goesAlong_2.at 30 rfl) ?_
  refine zm_callI1 (m_passes0 (t := ((t2 : Nat) : Int)) eg2 ef22 ef23 (by omega) (by push_cast; omega) rfl (by omega) (by omega) (by omega) (by push_cast; omega)) (TX8_goesAlong_2.at 31 rfl) c8_284 rfl rfl hH hA (by omega) (Nat.le_of_ble_eq_true rfl) (fun x208 f208 g208 j208 h r208 q208 hH hA => ?_)
  obtain ⟨q208, xf, xg, xj⟩ := q208
  rw [xj] at hH
  have ef23 := (xf 23 (by decide)).trans ef23
  have ef24 := (xf 24 (by decide)).trans ef24
  have ef25 := (xf 25 (by decide)).trans ef25
  have ef27 := (xf 27 (by decide)).trans ef27
  have ef28 := (xf 28 (by decide)).trans ef28
  have ef29 := (xf 29 (by decide)).trans ef29
  have ef42 := (xf 42 (by decide)).trans ef42
  have ef45 := (xf 45 (by decide)).trans ef45
  have hfE := hfE.trans xf (by decide)
  have eg2 := (xg 2 (by decide)).trans eg2
  have hgE := hgE.trans xg (by decide)
  have qL := q208
  obtain ⟨rfl, ef22⟩ := qL
  rw [b2i_t hif] at ef22
  refine z_if_eqB (tgt := 222) (TX8_goesAlong_2.at 32 rfl) rfl (fun c2 => absurd c2 (by exact fun q => q hif)) (fun c2 => ?_)
  refine z_ald_0 (TX8_goesAlong_2.at 33 rfl) ?_
  refine z_ild_2 (TX8_goesAlong_2.at 34 rfl) ?_
  refine zm_callI1 (ev_testD (by omega) (by omega) n4 n0 n1 hd0 8 live 0 (t2 + 1) p2 t4 p4 k4 _ _ _ hl (Or.inl rfl) eg2 (by rw [ef22]; push_cast; omega) ef23 ef24 (fok_o hO ef25 ef27 ef28 ef29) (by have q := cK_nz (K := K) (b := 2400) (nt := nt) (t2 : Nat) (by omega); push_cast at q ⊢; omega) hq) (TX8_goesAlong_2.at 35 rfl) c8_317 rfl rfl hH hA (by omega) (Nat.le_of_ble_eq_true rfl) (fun x216 f216 g216 j216 h r216 q216 hH hA => ?_)
  obtain ⟨q216, xf, xg, xj⟩ := q216
  rw [xj] at hH
  have ef23 := (xf 23 (by decide)).trans ef23
  have ef25 := (xf 25 (by decide)).trans ef25
  have ef27 := (xf 27 (by decide)).trans ef27
  have ef28 := (xf 28 (by decide)).trans ef28
  have ef29 := (xf 29 (by decide)).trans ef29
  have ef42 := (xf 42 (by decide)).trans ef42
  have ef45 := (xf 45 (by decide)).trans ef45
  have hfE := hfE.trans xf (by decide)
  have eg2 := (xg 2 (by decide)).trans eg2
  have hgE := hgE.trans xg (by decide)
  have qL := q216
  obtain ⟨rt, ef24, ef22, ht⟩ := qL
  have eb := evB_01 (live := live) (z := k4 φ) (Or.inl (rfl : (0 : Int) = 0))
  refine z_if_eq (tgt := 226) (TX8_goesAlong_2.at 36 rfl) rfl (by omega) (fun c3 => ?_) (fun c3 => ?_)
  · skip
    refine z_iconst (TX8_goesAlong_2.at 39 rfl) ?_
    refine zm_putZE (TX8_goesAlong_3.at 0 rfl) fp8_459 hH hA rfl (by decide) (by first | omega | exact b2i_01 _) (fun h f227 e1 e2 hH hA => ?_)
    have ef22 := (e1 22 (by decide)).trans ef22
    have ef23 := (e1 23 (by decide)).trans ef23
    have ef24 := (e1 24 (by decide)).trans ef24
    have ef25 := (e1 25 (by decide)).trans ef25
    have ef27 := (e1 27 (by decide)).trans ef27
    have ef28 := (e1 28 (by decide)).trans ef28
    have ef29 := (e1 29 (by decide)).trans ef29
    have ef42 := (e1 42 (by decide)).trans ef42
    have ef45 := e2
    have hfE := hfE.put e1 (by decide)
    refine z_ald_0 (TX8_goesAlong_3.at 1 rfl) ?_
    refine z_ald_0 (TX8_goesAlong_3.at 2 rfl) ?_
    refine zm_getIE ef45 (TX8_goesAlong_3.at 3 rfl) fl8_459 hH rfl (by decide) (fun r232 => ?_)
    refine z_if_eq (tgt := 249) (TX8_goesAlong_3.at 4 rfl) rfl (by omega) (fun c4 => ?_) (fun c4 => ?_)
    · skip
      refine z_iconst (TX8_goesAlong_3.at 10 rfl) ?_
      refine zm_putZE (TX8_goesAlong_3.at 11 rfl) fp8_459 hH hA rfl (by decide) (by first | omega | exact b2i_01 _) (fun h f250 e1 e2 hH hA => ?_)
      have ef22 := (e1 22 (by decide)).trans ef22
      have ef23 := (e1 23 (by decide)).trans ef23
      have ef24 := (e1 24 (by decide)).trans ef24
      have ef25 := (e1 25 (by decide)).trans ef25
      have ef27 := (e1 27 (by decide)).trans ef27
      have ef28 := (e1 28 (by decide)).trans ef28
      have ef29 := (e1 29 (by decide)).trans ef29
      have ef42 := (e1 42 (by decide)).trans ef42
      have ef45 := e2
      have hfE := hfE.put e1 (by decide)
      refine z_ald_0 (TX8_goesAlong_3.at 12 rfl) ?_
      refine z_dup rfl (TX8_goesAlong_3.at 13 rfl) ?_
      refine zm_getIE ef22 (TX8_goesAlong_3.at 14 rfl) fl8_260 hH rfl (by decide) (fun r255 => ?_)
      refine z_iconst (TX8_goesAlong_3.at 15 rfl) ?_
      refine z_iadd (TX8_goesAlong_3.at 16 rfl) ?_
      refine zm_putIE (TX8_goesAlong_3.at 17 rfl) fp8_260 hH hA rfl (by decide) (by first | omega | exact b2i_01 _) (fun h f260 e1 e2 hH hA => ?_)
      have ef22 := e2
      have ef23 := (e1 23 (by decide)).trans ef23
      have ef24 := (e1 24 (by decide)).trans ef24
      have ef25 := (e1 25 (by decide)).trans ef25
      have ef27 := (e1 27 (by decide)).trans ef27
      have ef28 := (e1 28 (by decide)).trans ef28
      have ef29 := (e1 29 (by decide)).trans ef29
      have ef42 := (e1 42 (by decide)).trans ef42
      have ef45 := (e1 45 (by decide)).trans ef45
      have hfE := hfE.put e1 (by decide)
      exact kx _ _ _ _ _ (by rw [ef42]) (by rw [ef22]) (fun hlv => by subst hlv; rcases ev_1 (z := k4 φ) with ⟨h1, x, hx, -⟩ | ⟨h1, h2⟩; (have q := ht rfl rfl x hx; first | (rw [b2i_t (by rw [hx]; congr 1; omega)]; exact ef45) | (rw [b2i_f (by rw [hx]; intro y; have y2 := Option.some.inj y; omega)]; exact ef45)); (rw [b2i_f (by rw [h2]; intro y; cases y)]; first | exact ef45 | (exfalso; omega))) (by omega) hfE hgE hH hA
    · skip
      refine z_ald_0 (TX8_goesAlong_3.at 5 rfl) ?_
      refine zm_getIE ef24 (TX8_goesAlong_3.at 6 rfl) fl8_270 hH rfl (by decide) (fun r239 => ?_)
      refine z_if_ne (tgt := 249) (TX8_goesAlong_3.at 7 rfl) rfl (by omega) (fun c5 => ?_) (fun c5 => ?_)
      · skip
        refine z_iconst (TX8_goesAlong_3.at 10 rfl) ?_
        refine zm_putZE (TX8_goesAlong_3.at 11 rfl) fp8_459 hH hA rfl (by decide) (by first | omega | exact b2i_01 _) (fun h f250 e1 e2 hH hA => ?_)
        have ef22 := (e1 22 (by decide)).trans ef22
        have ef23 := (e1 23 (by decide)).trans ef23
        have ef24 := (e1 24 (by decide)).trans ef24
        have ef25 := (e1 25 (by decide)).trans ef25
        have ef27 := (e1 27 (by decide)).trans ef27
        have ef28 := (e1 28 (by decide)).trans ef28
        have ef29 := (e1 29 (by decide)).trans ef29
        have ef42 := (e1 42 (by decide)).trans ef42
        have ef45 := e2
        have hfE := hfE.put e1 (by decide)
        refine z_ald_0 (TX8_goesAlong_3.at 12 rfl) ?_
        refine z_dup rfl (TX8_goesAlong_3.at 13 rfl) ?_
        refine zm_getIE ef22 (TX8_goesAlong_3.at 14 rfl) fl8_260 hH rfl (by decide) (fun r255 => ?_)
        refine z_iconst (TX8_goesAlong_3.at 15 rfl) ?_
        refine z_iadd (TX8_goesAlong_3.at 16 rfl) ?_
        refine zm_putIE (TX8_goesAlong_3.at 17 rfl) fp8_260 hH hA rfl (by decide) (by first | omega | exact b2i_01 _) (fun h f260 e1 e2 hH hA => ?_)
        have ef22 := e2
        have ef23 := (e1 23 (by decide)).trans ef23
        have ef24 := (e1 24 (by decide)).trans ef24
        have ef25 := (e1 25 (by decide)).trans ef25
        have ef27 := (e1 27 (by decide)).trans ef27
        have ef28 := (e1 28 (by decide)).trans ef28
        have ef29 := (e1 29 (by decide)).trans ef29
        have ef42 := (e1 42 (by decide)).trans ef42
        have ef45 := (e1 45 (by decide)).trans ef45
        have hfE := hfE.put e1 (by decide)
        exact kx _ _ _ _ _ (by rw [ef42]) (by rw [ef22]) (fun hlv => by subst hlv; rcases ev_1 (z := k4 φ) with ⟨h1, x, hx, -⟩ | ⟨h1, h2⟩; (have q := ht rfl rfl x hx; first | (rw [b2i_t (by rw [hx]; congr 1; omega)]; exact ef45) | (rw [b2i_f (by rw [hx]; intro y; have y2 := Option.some.inj y; omega)]; exact ef45)); (rw [b2i_f (by rw [h2]; intro y; cases y)]; first | exact ef45 | (exfalso; omega))) (by omega) hfE hgE hH hA
      · skip
        refine z_iconst (TX8_goesAlong_3.at 8 rfl) ?_
        refine z_goto (tgt := 250) (TX8_goesAlong_3.at 9 rfl) rfl ?_
        refine zm_putZE (TX8_goesAlong_3.at 11 rfl) fp8_459 hH hA rfl (by decide) (by first | omega | exact b2i_01 _) (fun h f250 e1 e2 hH hA => ?_)
        have ef22 := (e1 22 (by decide)).trans ef22
        have ef23 := (e1 23 (by decide)).trans ef23
        have ef24 := (e1 24 (by decide)).trans ef24
        have ef25 := (e1 25 (by decide)).trans ef25
        have ef27 := (e1 27 (by decide)).trans ef27
        have ef28 := (e1 28 (by decide)).trans ef28
        have ef29 := (e1 29 (by decide)).trans ef29
        have ef42 := (e1 42 (by decide)).trans ef42
        have ef45 := e2
        have hfE := hfE.put e1 (by decide)
        refine z_ald_0 (TX8_goesAlong_3.at 12 rfl) ?_
        refine z_dup rfl (TX8_goesAlong_3.at 13 rfl) ?_
        refine zm_getIE ef22 (TX8_goesAlong_3.at 14 rfl) fl8_260 hH rfl (by decide) (fun r255 => ?_)
        refine z_iconst (TX8_goesAlong_3.at 15 rfl) ?_
        refine z_iadd (TX8_goesAlong_3.at 16 rfl) ?_
        refine zm_putIE (TX8_goesAlong_3.at 17 rfl) fp8_260 hH hA rfl (by decide) (by first | omega | exact b2i_01 _) (fun h f260 e1 e2 hH hA => ?_)
        have ef22 := e2
        have ef23 := (e1 23 (by decide)).trans ef23
        have ef24 := (e1 24 (by decide)).trans ef24
        have ef25 := (e1 25 (by decide)).trans ef25
        have ef27 := (e1 27 (by decide)).trans ef27
        have ef28 := (e1 28 (by decide)).trans ef28
        have ef29 := (e1 29 (by decide)).trans ef29
        have ef42 := (e1 42 (by decide)).trans ef42
        have ef45 := (e1 45 (by decide)).trans ef45
        have hfE := hfE.put e1 (by decide)
        exact kx _ _ _ _ _ (by rw [ef42]) (by rw [ef22]) (fun hlv => by subst hlv; rcases ev_1 (z := k4 φ) with ⟨h1, x, hx, -⟩ | ⟨h1, h2⟩; (have q := ht rfl rfl x hx; first | (rw [b2i_t (by rw [hx]; congr 1; omega)]; exact ef45) | (rw [b2i_f (by rw [hx]; intro y; have y2 := Option.some.inj y; omega)]; exact ef45)); (rw [b2i_f (by rw [h2]; intro y; cases y)]; first | exact ef45 | (exfalso; omega))) (by omega) hfE hgE hH hA
  · skip
    refine z_iconst (TX8_goesAlong_2.at 37 rfl) ?_
    refine z_goto (tgt := 227) (TX8_goesAlong_2.at 38 rfl) rfl ?_
    refine zm_putZE (TX8_goesAlong_3.at 0 rfl) fp8_459 hH hA rfl (by decide) (by first | omega | exact b2i_01 _) (fun h f227 e1 e2 hH hA => ?_)
    have ef22 := (e1 22 (by decide)).trans ef22
    have ef23 := (e1 23 (by decide)).trans ef23
    have ef24 := (e1 24 (by decide)).trans ef24
    have ef25 := (e1 25 (by decide)).trans ef25
    have ef27 := (e1 27 (by decide)).trans ef27
    have ef28 := (e1 28 (by decide)).trans ef28
    have ef29 := (e1 29 (by decide)).trans ef29
    have ef42 := (e1 42 (by decide)).trans ef42
    have ef45 := e2
    have hfE := hfE.put e1 (by decide)
    refine z_ald_0 (TX8_goesAlong_3.at 1 rfl) ?_
    refine z_ald_0 (TX8_goesAlong_3.at 2 rfl) ?_
    refine zm_getIE ef45 (TX8_goesAlong_3.at 3 rfl) fl8_459 hH rfl (by decide) (fun r232 => ?_)
    refine z_if_eq (tgt := 249) (TX8_goesAlong_3.at 4 rfl) rfl (by omega) (fun c6 => ?_) (fun c6 => ?_)
    · skip
      refine z_iconst (TX8_goesAlong_3.at 10 rfl) ?_
      refine zm_putZE (TX8_goesAlong_3.at 11 rfl) fp8_459 hH hA rfl (by decide) (by first | omega | exact b2i_01 _) (fun h f250 e1 e2 hH hA => ?_)
      have ef22 := (e1 22 (by decide)).trans ef22
      have ef23 := (e1 23 (by decide)).trans ef23
      have ef24 := (e1 24 (by decide)).trans ef24
      have ef25 := (e1 25 (by decide)).trans ef25
      have ef27 := (e1 27 (by decide)).trans ef27
      have ef28 := (e1 28 (by decide)).trans ef28
      have ef29 := (e1 29 (by decide)).trans ef29
      have ef42 := (e1 42 (by decide)).trans ef42
      have ef45 := e2
      have hfE := hfE.put e1 (by decide)
      refine z_ald_0 (TX8_goesAlong_3.at 12 rfl) ?_
      refine z_dup rfl (TX8_goesAlong_3.at 13 rfl) ?_
      refine zm_getIE ef22 (TX8_goesAlong_3.at 14 rfl) fl8_260 hH rfl (by decide) (fun r255 => ?_)
      refine z_iconst (TX8_goesAlong_3.at 15 rfl) ?_
      refine z_iadd (TX8_goesAlong_3.at 16 rfl) ?_
      refine zm_putIE (TX8_goesAlong_3.at 17 rfl) fp8_260 hH hA rfl (by decide) (by first | omega | exact b2i_01 _) (fun h f260 e1 e2 hH hA => ?_)
      have ef22 := e2
      have ef23 := (e1 23 (by decide)).trans ef23
      have ef24 := (e1 24 (by decide)).trans ef24
      have ef25 := (e1 25 (by decide)).trans ef25
      have ef27 := (e1 27 (by decide)).trans ef27
      have ef28 := (e1 28 (by decide)).trans ef28
      have ef29 := (e1 29 (by decide)).trans ef29
      have ef42 := (e1 42 (by decide)).trans ef42
      have ef45 := (e1 45 (by decide)).trans ef45
      have hfE := hfE.put e1 (by decide)
      exact kx _ _ _ _ _ (by rw [ef42]) (by rw [ef22]) (fun hlv => by subst hlv; rcases ev_1 (z := k4 φ) with ⟨h1, x, hx, -⟩ | ⟨h1, h2⟩; (have q := ht rfl rfl x hx; first | (rw [b2i_t (by rw [hx]; congr 1; omega)]; exact ef45) | (rw [b2i_f (by rw [hx]; intro y; have y2 := Option.some.inj y; omega)]; exact ef45)); (rw [b2i_f (by rw [h2]; intro y; cases y)]; first | exact ef45 | (exfalso; omega))) (by omega) hfE hgE hH hA
    · skip
      refine z_ald_0 (TX8_goesAlong_3.at 5 rfl) ?_
      refine zm_getIE ef24 (TX8_goesAlong_3.at 6 rfl) fl8_270 hH rfl (by decide) (fun r239 => ?_)
      refine z_if_ne (tgt := 249) (TX8_goesAlong_3.at 7 rfl) rfl (by omega) (fun c7 => ?_) (fun c7 => ?_)
      · skip
        refine z_iconst (TX8_goesAlong_3.at 10 rfl) ?_
        refine zm_putZE (TX8_goesAlong_3.at 11 rfl) fp8_459 hH hA rfl (by decide) (by first | omega | exact b2i_01 _) (fun h f250 e1 e2 hH hA => ?_)
        have ef22 := (e1 22 (by decide)).trans ef22
        have ef23 := (e1 23 (by decide)).trans ef23
        have ef24 := (e1 24 (by decide)).trans ef24
        have ef25 := (e1 25 (by decide)).trans ef25
        have ef27 := (e1 27 (by decide)).trans ef27
        have ef28 := (e1 28 (by decide)).trans ef28
        have ef29 := (e1 29 (by decide)).trans ef29
        have ef42 := (e1 42 (by decide)).trans ef42
        have ef45 := e2
        have hfE := hfE.put e1 (by decide)
        refine z_ald_0 (TX8_goesAlong_3.at 12 rfl) ?_
        refine z_dup rfl (TX8_goesAlong_3.at 13 rfl) ?_
        refine zm_getIE ef22 (TX8_goesAlong_3.at 14 rfl) fl8_260 hH rfl (by decide) (fun r255 => ?_)
        refine z_iconst (TX8_goesAlong_3.at 15 rfl) ?_
        refine z_iadd (TX8_goesAlong_3.at 16 rfl) ?_
        refine zm_putIE (TX8_goesAlong_3.at 17 rfl) fp8_260 hH hA rfl (by decide) (by first | omega | exact b2i_01 _) (fun h f260 e1 e2 hH hA => ?_)
        have ef22 := e2
        have ef23 := (e1 23 (by decide)).trans ef23
        have ef24 := (e1 24 (by decide)).trans ef24
        have ef25 := (e1 25 (by decide)).trans ef25
        have ef27 := (e1 27 (by decide)).trans ef27
        have ef28 := (e1 28 (by decide)).trans ef28
        have ef29 := (e1 29 (by decide)).trans ef29
        have ef42 := (e1 42 (by decide)).trans ef42
        have ef45 := (e1 45 (by decide)).trans ef45
        have hfE := hfE.put e1 (by decide)
        exact kx _ _ _ _ _ (by rw [ef42]) (by rw [ef22]) (fun hlv => by subst hlv; rcases ev_1 (z := k4 φ) with ⟨h1, x, hx, -⟩ | ⟨h1, h2⟩; (have q := ht rfl rfl x hx; first | (rw [b2i_t (by rw [hx]; congr 1; omega)]; exact ef45) | (rw [b2i_f (by rw [hx]; intro y; have y2 := Option.some.inj y; omega)]; exact ef45)); (rw [b2i_f (by rw [h2]; intro y; cases y)]; first | exact ef45 | (exfalso; omega))) (by omega) hfE hgE hH hA
      · skip
        refine z_iconst (TX8_goesAlong_3.at 8 rfl) ?_
        refine z_goto (tgt := 250) (TX8_goesAlong_3.at 9 rfl) rfl ?_
        refine zm_putZE (TX8_goesAlong_3.at 11 rfl) fp8_459 hH hA rfl (by decide) (by first | omega | exact b2i_01 _) (fun h f250 e1 e2 hH hA => ?_)
        have ef22 := (e1 22 (by decide)).trans ef22
        have ef23 := (e1 23 (by decide)).trans ef23
        have ef24 := (e1 24 (by decide)).trans ef24
        have ef25 := (e1 25 (by decide)).trans ef25
        have ef27 := (e1 27 (by decide)).trans ef27
        have ef28 := (e1 28 (by decide)).trans ef28
        have ef29 := (e1 29 (by decide)).trans ef29
        have ef42 := (e1 42 (by decide)).trans ef42
        have ef45 := e2
        have hfE := hfE.put e1 (by decide)
        refine z_ald_0 (TX8_goesAlong_3.at 12 rfl) ?_
        refine z_dup rfl (TX8_goesAlong_3.at 13 rfl) ?_
        refine zm_getIE ef22 (TX8_goesAlong_3.at 14 rfl) fl8_260 hH rfl (by decide) (fun r255 => ?_)
        refine z_iconst (TX8_goesAlong_3.at 15 rfl) ?_
        refine z_iadd (TX8_goesAlong_3.at 16 rfl) ?_
        refine zm_putIE (TX8_goesAlong_3.at 17 rfl) fp8_260 hH hA rfl (by decide) (by first | omega | exact b2i_01 _) (fun h f260 e1 e2 hH hA => ?_)
        have ef22 := e2
        have ef23 := (e1 23 (by decide)).trans ef23
        have ef24 := (e1 24 (by decide)).trans ef24
        have ef25 := (e1 25 (by decide)).trans ef25
        have ef27 := (e1 27 (by decide)).trans ef27
        have ef28 := (e1 28 (by decide)).trans ef28
        have ef29 := (e1 29 (by decide)).trans ef29
        have ef42 := (e1 42 (by decide)).trans ef42
        have ef45 := (e1 45 (by decide)).trans ef45
        have hfE := hfE.put e1 (by decide)
        exact kx _ _ _ _ _ (by rw [ef42]) (by rw [ef22]) (fun hlv => by subst hlv; rcases ev_1 (z := k4 φ) with ⟨h1, x, hx, -⟩ | ⟨h1, h2⟩; (have q := ht rfl rfl x hx; first | (rw [b2i_t (by rw [hx]; congr 1; omega)]; exact ef45) | (rw [b2i_f (by rw [hx]; intro y; have y2 := Option.some.inj y; omega)]; exact ef45)); (rw [b2i_f (by rw [h2]; intro y; cases y)]; first | exact ef45 | (exfalso; omega))) (by omega) hfE hgE hH hA

set_option maxHeartbeats 4000000 in
set_option maxRecDepth 100000 in
theorem gt_NN {l : Launch} {o : Nat} {ar : Nat → Nat} {d : Nat} {Pz : Option Value → zH → Prop} {h0 h : zH} {f0 f : mF} {g0 g j : mA} {K φ : Int → Int} {nt live ed x27 x28 x29 y24 y42 y45 : Int} {t2 p2 t4 p4 : Nat} {k4 : Den} {o3 o4 : Option Value} (hd : 45 ≤ d) (n4 : nt ≤ 400) (n0 : 0 ≤ K 76) (n1 : K 76 ≤ 10) (hd0 : ∀ i, 0 ≤ i → i < K 76 → K i = 0 ∨ K i = 1) (hl : live = 0 ∨ live = 1) (hO : FO1 K x27 x28 x29 φ) (t2n : (t2 : Int) ≤ nt) (h27 : ¬ cK K 2400 nt t2 = 27) (hif : ¬ cK K 2400 nt ((t2 : Nat) : Int) = 4) (kx : ∀ (o3 o4 : Option Value) (f : mF) (g : mA) (h : zH), f 42 = 1 → f 22 = 2400 + ((t2 : Nat) : Int) + 1 → (live = 1 → f 45 = b2i (True)) → (f 45 = 0 ∨ f 45 = 1) → eqx [22, 24, 42, 45] f0 f → eqx [] g0 g → HM o ar f g j h → zAg o ar h0 h → Z l MX8_goesAlong d 0 0 Pz 263 [some (.ref o), some (vI ed), some (vI live), o3, o4] [] h 0 0) (eg2 : g 2 = K) (ef22 : f 22 = 2400 + (t2 : Int)) (ef23 : f 23 = 2400 + nt) (ef24 : f 24 = y24) (ef25 : f 25 = 1) (ef27 : f 27 = x27) (ef28 : f 28 = x28) (ef29 : f 29 = x29) (ef42 : f 42 = y42) (ef45 : f 45 = y45) (hfE : eqx [22, 24, 42, 45] f0 f) (hgE : eqx [] g0 g) (hH : HM o ar f g j h) (hA : zAg o ar h0 h) : Z l MX8_goesAlong d 0 0 Pz 159 [some (.ref o), some (vI ed), some (vI live), o3, o4] [] h 0 0 := by
  have hz := hd
  refine z_ald_0 (TX8_goesAlong_2.at 3 rfl) ?_
  refine z_iconst (TX8_goesAlong_2.at 4 rfl) ?_
  refine zm_putIE (TX8_goesAlong_2.at 5 rfl) fp8_456 hH hA rfl (by decide) (by first | omega | exact b2i_01 _) (fun h f161 e1 e2 hH hA => ?_)
  have ef22 := (e1 22 (by decide)).trans ef22
  have ef23 := (e1 23 (by decide)).trans ef23
  have ef24 := (e1 24 (by decide)).trans ef24
  have ef25 := (e1 25 (by decide)).trans ef25
  have ef27 := (e1 27 (by decide)).trans ef27
  have ef28 := (e1 28 (by decide)).trans ef28
  have ef29 := (e1 29 (by decide)).trans ef29
  have ef42 := e2
  have ef45 := (e1 45 (by decide)).trans ef45
  have hfE := hfE.put e1 (by decide)
  refine z_ald_0 (TX8_goesAlong_2.at 6 rfl) ?_
  refine z_bipush (by decide) (TX8_goesAlong_2.at 7 rfl) ?_
  refine zm_callI1 (m_passes0 (t := (t2 : Int)) eg2 ef22 ef23 (by omega) rfl rfl (by omega) (by omega) (by omega) (by omega)) (TX8_goesAlong_2.at 8 rfl) c8_284 rfl rfl hH hA (by omega) (Nat.le_of_ble_eq_true rfl) (fun x167 f167 g167 j167 h r167 q167 hH hA => ?_)
  obtain ⟨q167, xf, xg, xj⟩ := q167
  rw [xj] at hH
  have ef23 := (xf 23 (by decide)).trans ef23
  have ef24 := (xf 24 (by decide)).trans ef24
  have ef25 := (xf 25 (by decide)).trans ef25
  have ef27 := (xf 27 (by decide)).trans ef27
  have ef28 := (xf 28 (by decide)).trans ef28
  have ef29 := (xf 29 (by decide)).trans ef29
  have ef42 := (xf 42 (by decide)).trans ef42
  have ef45 := (xf 45 (by decide)).trans ef45
  have hfE := hfE.trans xf (by decide)
  have eg2 := (xg 2 (by decide)).trans eg2
  have hgE := hgE.trans xg (by decide)
  have qL := q167
  obtain ⟨rfl, ef22⟩ := qL
  rw [b2i_f h27, Int.add_zero] at ef22
  refine z_if_eqB (tgt := 200) (TX8_goesAlong_2.at 9 rfl) rfl (fun c1 => ?_) (fun c1 => absurd c1 (by exact h27))
  refine z_ald_0 (TX8_goesAlong_2.at 25 rfl) ?_
  refine z_iconst (TX8_goesAlong_2.at 26 rfl) ?_
  refine zm_putZE (TX8_goesAlong_2.at 27 rfl) fp8_270 hH hA rfl (by decide) (by first | omega | exact b2i_01 _) (fun h f202 e1 e2 hH hA => ?_)
  have ef22 := (e1 22 (by decide)).trans ef22
  have ef23 := (e1 23 (by decide)).trans ef23
  have ef24 := e2
  have ef25 := (e1 25 (by decide)).trans ef25
  have ef27 := (e1 27 (by decide)).trans ef27
  have ef28 := (e1 28 (by decide)).trans ef28
  have ef29 := (e1 29 (by decide)).trans ef29
  have ef42 := (e1 42 (by decide)).trans ef42
  have ef45 := (e1 45 (by decide)).trans ef45
  have hfE := hfE.put e1 (by decide)
  refine z_ald_0 (TX8_goesAlong_2.at 28 rfl) ?_
  refine z_ald_0 (TX8_goesAlong_2.at 29 rfl) ?_
  refine z_iconst (TX8_goesAlong_2.at 30 rfl) ?_
  refine zm_callI1 (m_passes0 (t := ((t2 : Nat) : Int)) eg2 ef22 ef23 (by omega) (by push_cast; omega) rfl (by omega) (by omega) (by omega) (by push_cast; omega)) (TX8_goesAlong_2.at 31 rfl) c8_284 rfl rfl hH hA (by omega) (Nat.le_of_ble_eq_true rfl) (fun x208 f208 g208 j208 h r208 q208 hH hA => ?_)
  obtain ⟨q208, xf, xg, xj⟩ := q208
  rw [xj] at hH
  have ef23 := (xf 23 (by decide)).trans ef23
  have ef24 := (xf 24 (by decide)).trans ef24
  have ef25 := (xf 25 (by decide)).trans ef25
  have ef27 := (xf 27 (by decide)).trans ef27
  have ef28 := (xf 28 (by decide)).trans ef28
  have ef29 := (xf 29 (by decide)).trans ef29
  have ef42 := (xf 42 (by decide)).trans ef42
  have ef45 := (xf 45 (by decide)).trans ef45
  have hfE := hfE.trans xf (by decide)
  have eg2 := (xg 2 (by decide)).trans eg2
  have hgE := hgE.trans xg (by decide)
  have qL := q208
  obtain ⟨rfl, ef22⟩ := qL
  rw [b2i_f hif, Int.add_zero] at ef22
  refine z_if_eqB (tgt := 222) (TX8_goesAlong_2.at 32 rfl) rfl (fun c2 => ?_) (fun c2 => absurd c2 (by exact hif))
  refine z_iconst (TX8_goesAlong_2.at 37 rfl) ?_
  refine z_goto (tgt := 227) (TX8_goesAlong_2.at 38 rfl) rfl ?_
  refine zm_putZE (TX8_goesAlong_3.at 0 rfl) fp8_459 hH hA rfl (by decide) (by first | omega | exact b2i_01 _) (fun h f227 e1 e2 hH hA => ?_)
  have ef22 := (e1 22 (by decide)).trans ef22
  have ef23 := (e1 23 (by decide)).trans ef23
  have ef24 := (e1 24 (by decide)).trans ef24
  have ef25 := (e1 25 (by decide)).trans ef25
  have ef27 := (e1 27 (by decide)).trans ef27
  have ef28 := (e1 28 (by decide)).trans ef28
  have ef29 := (e1 29 (by decide)).trans ef29
  have ef42 := (e1 42 (by decide)).trans ef42
  have ef45 := e2
  have hfE := hfE.put e1 (by decide)
  refine z_ald_0 (TX8_goesAlong_3.at 1 rfl) ?_
  refine z_ald_0 (TX8_goesAlong_3.at 2 rfl) ?_
  refine zm_getIE ef45 (TX8_goesAlong_3.at 3 rfl) fl8_459 hH rfl (by decide) (fun r232 => ?_)
  refine z_if_eq (tgt := 249) (TX8_goesAlong_3.at 4 rfl) rfl (by omega) (fun c3 => absurd c3 (by omega)) (fun c3 => ?_)
  refine z_ald_0 (TX8_goesAlong_3.at 5 rfl) ?_
  refine zm_getIE ef24 (TX8_goesAlong_3.at 6 rfl) fl8_270 hH rfl (by decide) (fun r239 => ?_)
  refine z_if_ne (tgt := 249) (TX8_goesAlong_3.at 7 rfl) rfl (by omega) (fun c4 => absurd c4 (by omega)) (fun c4 => ?_)
  refine z_iconst (TX8_goesAlong_3.at 8 rfl) ?_
  refine z_goto (tgt := 250) (TX8_goesAlong_3.at 9 rfl) rfl ?_
  refine zm_putZE (TX8_goesAlong_3.at 11 rfl) fp8_459 hH hA rfl (by decide) (by first | omega | exact b2i_01 _) (fun h f250 e1 e2 hH hA => ?_)
  have ef22 := (e1 22 (by decide)).trans ef22
  have ef23 := (e1 23 (by decide)).trans ef23
  have ef24 := (e1 24 (by decide)).trans ef24
  have ef25 := (e1 25 (by decide)).trans ef25
  have ef27 := (e1 27 (by decide)).trans ef27
  have ef28 := (e1 28 (by decide)).trans ef28
  have ef29 := (e1 29 (by decide)).trans ef29
  have ef42 := (e1 42 (by decide)).trans ef42
  have ef45 := e2
  have hfE := hfE.put e1 (by decide)
  refine z_ald_0 (TX8_goesAlong_3.at 12 rfl) ?_
  refine z_dup rfl (TX8_goesAlong_3.at 13 rfl) ?_
  refine zm_getIE ef22 (TX8_goesAlong_3.at 14 rfl) fl8_260 hH rfl (by decide) (fun r255 => ?_)
  refine z_iconst (TX8_goesAlong_3.at 15 rfl) ?_
  refine z_iadd (TX8_goesAlong_3.at 16 rfl) ?_
  refine zm_putIE (TX8_goesAlong_3.at 17 rfl) fp8_260 hH hA rfl (by decide) (by first | omega | exact b2i_01 _) (fun h f260 e1 e2 hH hA => ?_)
  have ef22 := e2
  have ef23 := (e1 23 (by decide)).trans ef23
  have ef24 := (e1 24 (by decide)).trans ef24
  have ef25 := (e1 25 (by decide)).trans ef25
  have ef27 := (e1 27 (by decide)).trans ef27
  have ef28 := (e1 28 (by decide)).trans ef28
  have ef29 := (e1 29 (by decide)).trans ef29
  have ef42 := (e1 42 (by decide)).trans ef42
  have ef45 := (e1 45 (by decide)).trans ef45
  have hfE := hfE.put e1 (by decide)
  exact kx _ _ _ _ _ (by rw [ef42]) (by rw [ef22]) (fun _ => by rw [b2i_t trivial]; exact ef45) (by omega) hfE hgE hH hA

