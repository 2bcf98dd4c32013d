/-! ===== the class itself: evenings, few ===== -/
theorem drw_eqC {s : Int} (h0 : 0 ≤ s) (h1 : s ≤ 1000002) : zl2i (zlrem (s * 1103 + 12345) 1000003) = drw s := by
  rw [Int.mul_comm]; exact drw_eq h0 h1
set_option maxHeartbeats 4000000 in
set_option maxRecDepth 100000 in
theorem c_next {l : Launch} {s : Int} (s0 : 0 ≤ s) (s1 : s ≤ 1000002) : SI l MX7_nextDraw 0 [vI s] (drw s) := by
  have hdr := drw_in s
  refine SI.intro [some (vI s)] (by omega) (by decide) (Nat.le_of_ble_eq_true rfl) rfl (fun d hd h => ?_)
  refine z_ild_0 (TX7_nextDraw.at 0 rfl) ?_
  refine z_i2l (by omega) (TX7_nextDraw.at 1 rfl) ?_
  refine z_ldc2 (v := 1103) (TX7_nextDraw.at 2 rfl) k7_410 (by decide) ?_
  refine z_lmul (TX7_nextDraw.at 3 rfl) ?_
  refine z_ldc2 (v := 12345) (TX7_nextDraw.at 4 rfl) k7_412 (by decide) ?_
  refine z_ladd (TX7_nextDraw.at 5 rfl) ?_
  refine z_ldc2 (v := 1000003) (TX7_nextDraw.at 6 rfl) k7_414 (by decide) ?_
  refine z_lrem (by omega) (by omega) (TX7_nextDraw.at 7 rfl) ?_
  refine z_l2i (TX7_nextDraw.at 8 rfl) ?_
  exact zs_iret (TX7_nextDraw.at 9 rfl) rfl (drw_eqC s0 s1)

/-- the evening's frame: what of it can change -/
def EvA (Mt Tm : Int → Int) (dp : Int) (K : Int → Int) : Prop := z31 dp ∧ (∀ i : Int, 0 ≤ i → i < K 76 → (bt dp i ↔ K i = 1)) ∧ (∀ k : Int, 0 ≤ k → k ≤ 7 → Mt k = K (20 + k)) ∧ Tm 0 = K 28 ∧ dHi dp (K 76)
theorem bt_xor {S x t : Int} (hS : z31 S) (x0 : 0 ≤ x) (x9 : x ≤ 9) (t0 : 0 ≤ t) : bt (zxor S (zshl 1 x)) t ↔ (if t = x then ¬ bt S t else bt S t) := by
  have h1 := shl_31 (i := x) x0 (by omega)
  have h2 := bt_shl (i := x) (k := t) x0 (by omega) t0
  have h3 := zxor_nat hS h1
  unfold bt at h2 ⊢
  rw [h3, Int.toNat_natCast, Nat.testBit_xor]
  by_cases e : t = x
  · rw [if_pos e]
    have := h2.mpr e
    rw [this]
    cases (Nat.testBit S.toNat t.toNat) <;> simp
  · rw [if_neg e]
    have : Nat.testBit (zshl 1 x).toNat t.toNat = false := by
      cases hh : Nat.testBit (zshl 1 x).toNat t.toNat
      · rfl
      · exact absurd (h2.mp hh) e
    rw [this]
    simp
theorem EvA_step {Mt Tm K : Int → Int} {dp x k w : Int} (h : EvA Mt Tm dp K) (hK : KOK K) (x0 : 0 ≤ x) (x1 : x < K 76) (k0 : 0 ≤ k) (k7 : k ≤ 7) (w0 : 0 ≤ w) (w2 : w ≤ 2) : EvA (if w = 1 ∧ Mt k = -1 then iu Mt k (Tm 0) else Mt) (iu Tm 0 (Tm 0 + 1)) (if w = 0 then zxor dp (zshl 1 x) else dp) (evW K x k w) := by
  obtain ⟨h1, h2, h3, h4, h5⟩ := h
  have hn := hK.1
  have hKx := (hK.2.1 x x0 x1).1
  have mk := h3 k k0 k7
  rcases (show w = 0 ∨ w = 1 ∨ w = 2 by omega) with q | q | q
  · subst q
    rw [if_neg (by omega), if_pos rfl, ← evW_0 (K := K) (x := x) (k := k) rfl (K 28 + 1) rfl]
    have e76 : iu (iu K x (1 - K x)) 28 (K 28 + 1) 76 = K 76 := by rw [iu_ne (by decide), iu_ne (by omega)]
    refine ⟨zxor_31 h1 (shl_31 x0 (by omega)), fun i i0 i1 => ?_, fun t t0 t1 => by rw [iu_ne (by omega), iu_ne (by omega)]; exact h3 t t0 t1, by rw [iu_self, iu_self, h4], fun i i0 i1 => ?_⟩
    · rw [e76] at i1
      rw [bt_xor h1 x0 (by omega) i0, iu_ne (show i ≠ 28 by omega)]
      by_cases e : i = x
      · rw [if_pos e, e, iu_self, h2 x x0 x1]; omega
      · rw [if_neg e, iu_ne e]; exact h2 i i0 i1
    · rw [e76] at i0
      rw [bt_xor h1 x0 (by omega) i1, if_neg (by omega)]
      exact h5 i i0 i1
  · subst q
    rw [if_neg (show ¬ (1 : Int) = 0 by decide)]
    by_cases z : Mt k = -1
    · rw [if_pos ⟨rfl, z⟩, ← evW_1 (K := K) (x := x) (k := k) rfl (by omega) (K 28 + 1) rfl]
      have e76 : iu (iu K (20 + k) (K 28)) 28 (K 28 + 1) 76 = K 76 := by rw [iu_ne (by decide), iu_ne (by omega)]
      refine ⟨h1, fun i i0 i1 => ?_, fun t t0 t1 => ?_, by rw [iu_self, iu_self, h4], by rw [e76]; exact h5⟩
      · rw [e76] at i1
        rw [iu_ne (by omega), iu_ne (by omega)]; exact h2 i i0 i1
      · rw [iu_ne (show 20 + t ≠ 28 by omega)]
        by_cases e : t = k
        · rw [e, iu_self, iu_self, h4]
        · rw [iu_ne e, iu_ne (by omega)]; exact h3 t t0 t1
    · rw [if_neg (fun y => z y.2), ← evW_2 (K := K) (x := x) (k := k) (w := 1) (by decide) (fun y => z (by omega)) (K 28 + 1) rfl]
      have e76 : iu K 28 (K 28 + 1) 76 = K 76 := by rw [iu_ne (by decide)]
      exact ⟨h1, fun i i0 i1 => by rw [e76] at i1; rw [iu_ne (by omega)]; exact h2 i i0 i1, fun t t0 t1 => by rw [iu_ne (by omega)]; exact h3 t t0 t1, by rw [iu_self, iu_self, h4], by rw [e76]; exact h5⟩
  · subst q
    rw [if_neg (by omega), if_neg (by decide), ← evW_2 (K := K) (x := x) (k := k) (w := 2) (by decide) (fun y => absurd y.1 (by decide)) (K 28 + 1) rfl]
    have e76 : iu K 28 (K 28 + 1) 76 = K 76 := by rw [iu_ne (by decide)]
    exact ⟨h1, fun i i0 i1 => by rw [e76] at i1; rw [iu_ne (by omega)]; exact h2 i i0 i1, fun t t0 t1 => by rw [iu_ne (by omega)]; exact h3 t t0 t1, by rw [iu_self, iu_self, h4], by rw [e76]; exact h5⟩
set_option maxHeartbeats 4000000 in
set_option maxRecDepth 100000 in
theorem lp_ceve {l : Launch} {E : cE} {d : Nat} {Pz : Option Value → zH → Prop} {h0 : zH} {f0 : mF} {g0 : mA} {j : mA} (hd : 3 ≤ d) {K0 : Int → Int} {sd m s0 : Int} (hm : m ≤ 60) (hK : KOK K0) (hn0 : K0 76 ≠ 0) (q0 : 0 ≤ s0) (q1 : s0 ≤ 1000002) (kx : ∀ (K : Int → Int) (s i : Int) (Mt Tm : Int → Int) (dp : Int) (o5 o6 : Option Value) (f : mF) (g : mA) (h : zH), (K, s) = evN K0 s0 m.toNat → EvA Mt Tm dp K → Tm 2 = K0 75 → g 102 = Mt → g 108 = Tm → f 101 = dp → eqx [101] f0 f → eqx [102, 108] g0 g → HC E f g j h → cAg E h0 h → Z l MX7_evenings d 0 0 Pz 134 [some (.ref (E.1 31)), some (vI sd), some (vI m), some (vI s), some (vI i), o5, o6] [] h 0 0)  : ∀ (n : Nat) (c : Nat) (i : Int) (K : Int → Int) (s : Int) (Mt : Int → Int) (Tm : Int → Int) (dp : Int) (o5 : Option Value) (o6 : Option Value) (f : mF) (g : mA) (h : zH) (ci : i = (c : Int)) (i1 : i ≤ m) (i2 : m < i + n) (es : (K, s) = evN K0 s0 c) (hE : EvA Mt Tm dp K) (hT2 : Tm 2 = K0 75) (eg102 : g 102 = Mt) (eg108 : g 108 = Tm) (ef101 : f 101 = dp) (ef32 : f 32 = (K0 76)) (hfE : eqx [101] f0 f) (hgE : eqx [102, 108] g0 g) (hH : HC E f g j h) (hA : cAg E h0 h), Z l MX7_evenings d 0 0 Pz 61 [some (.ref (E.1 31)), some (vI sd), some (vI m), some (vI s), some (vI i), o5, o6] [] h 0 0 := by
  intro n
  induction n with
  | zero => intro c i K s Mt Tm dp o5 o6 f g h ci i1 i2 es hE hT2 eg102 eg108 ef101 ef32 hfE hgE hH hA; exfalso; omega
  | succ n ih =>
    intro c i K s Mt Tm dp o5 o6 f g h ci i1 i2 es hE hT2 eg102 eg108 ef101 ef32 hfE hgE hH hA
    have hok := evN_ok hK hn0 q0 q1 c
    rw [← es] at hok
    simp only at hok
    obtain ⟨hK1, hK2, hs0, hs9⟩ := hok
    have hn := hK1.1
    have h76 := hK2 76 (by decide)
    have h28 := hK1.2.2.2.1
    have hT0 := hE.2.2.2.1
    refine z_ild_4 (TX7_evenings_0.at 32 rfl) ?_
    refine z_ild_2 (TX7_evenings_0.at 33 rfl) ?_
    refine z_icmp_ge (tgt := 134) (TX7_evenings_0.at 34 rfl) rfl (by omega) (by omega) (fun c1 => ?_) (fun c1 => ?_)
    · skip
      exact kx K s i _ _ _ _ _ _ _ _ (by first | (have hc : c = m.toNat := (by omega); rw [← hc]; exact es) | (have hf := evN_f es (show ¬ K 28 < 999 by omega) (m.toNat - c); rw [show c + (m.toNat - c) = m.toNat by omega] at hf; exact hf.symm)) hE hT2 eg102 eg108 ef101 hfE hgE hH hA
    · skip
      refine z_ald_0 (TX7_evenings_0.at 35 rfl) ?_
      refine zc_getO (m := 0) (s := 2) (k := 127) (hH.lv (by decide)) (TX7_evenings_0.at 36 rfl) fl7_19 hH rfl rfl (by decide) (by decide) ?_
      refine zc_getA (m := 3) (s := 12) (k := 108) (hH.lv (by decide)) (TX7_evenings_0.at 37 rfl) fl7_178 hH rfl rfl (by decide) (by decide) ?_
      refine z_iconst (TX7_evenings_0.at 38 rfl) ?_
      refine zcf_iald (k := 108) (N := 3) (hH.lv (by decide)) (by decide) rfl eg108 (TX7_evenings_0.at 39 rfl) hH (by decide) (by omega) (show _ < ((3 : Nat) : Int) by omega) (fun r75 => ?_)
      refine z_sipush (by decide) (TX7_evenings_1.at 0 rfl) ?_
      refine z_icmp_ge (tgt := 134) (TX7_evenings_1.at 1 rfl) rfl (by omega) (by omega) (fun c2 => ?_) (fun c2 => ?_)
      · skip
        exact kx K s i _ _ _ _ _ _ _ _ (by first | (have hc : c = m.toNat := (by omega); rw [← hc]; exact es) | (have hf := evN_f es (show ¬ K 28 < 999 by omega) (m.toNat - c); rw [show c + (m.toNat - c) = m.toNat by omega] at hf; exact hf.symm)) hE hT2 eg102 eg108 ef101 hfE hgE hH hA
      · skip
        refine z_ild_3 (TX7_evenings_1.at 2 rfl) ?_
        refine zs_call1 (c_next (by omega) (by omega)) (TX7_evenings_1.at 3 rfl) c7_404 rfl (by omega) (Nat.le_of_ble_eq_true rfl) (fun r83 => ?_)
        obtain ⟨s1, hs1⟩ : ∃ z, z = drw s := ⟨_, rfl⟩
        have bs1 := drw_in s
        rw [← hs1] at bs1 r83 ⊢
        refine z_ist_3 (TX7_evenings_1.at 4 rfl) (Nat.le_of_ble_eq_true rfl) rfl ?_
        refine z_ild_3 (TX7_evenings_1.at 5 rfl) ?_
        refine z_ald_0 (TX7_evenings_1.at 6 rfl) ?_
        refine zc_getO (m := 0) (s := 0) (k := 63) (hH.lv (by decide)) (TX7_evenings_1.at 7 rfl) fl7_12 hH rfl rfl (by decide) (by decide) ?_
        refine zc_getIE (m := 1) (s := 0) (k := 32) (hH.lv (by decide)) ef32 (TX7_evenings_1.at 8 rfl) fl7_96 hH rfl rfl (by decide) (by decide) (fun r92 => ?_)
        refine z_irem (by omega) (by omega) (TX7_evenings_1.at 9 rfl) ?_
        rw [zrem_nat ⟨by omega, by omega⟩ ⟨by omega, by omega⟩ (by omega)]
        have hmms1 := Int.emod_nonneg s1 (show K0 76 ≠ 0 by omega)
        have hmls1 := Int.emod_lt_of_pos s1 (show 0 < K0 76 by omega)
        obtain ⟨vs1, hvs1⟩ : ∃ z, z = s1 % K0 76 := ⟨_, rfl⟩
        rw [← hvs1] at hmms1 hmls1 ⊢
        refine z_ist_5 (TX7_evenings_1.at 10 rfl) (Nat.le_of_ble_eq_true rfl) rfl ?_
        refine z_ild_3 (TX7_evenings_1.at 11 rfl) ?_
        refine zs_call1 (c_next (by omega) (by omega)) (TX7_evenings_1.at 12 rfl) c7_404 rfl (by omega) (Nat.le_of_ble_eq_true rfl) (fun r99 => ?_)
        obtain ⟨s2, hs2⟩ : ∃ z, z = drw s1 := ⟨_, rfl⟩
        have bs2 := drw_in s1
        rw [← hs2] at bs2 r99 ⊢
        refine z_ist_3 (TX7_evenings_1.at 13 rfl) (Nat.le_of_ble_eq_true rfl) rfl ?_
        refine z_ild_3 (TX7_evenings_1.at 14 rfl) ?_
        refine z_bipush (by decide) (TX7_evenings_1.at 15 rfl) ?_
        refine z_irem (by omega) (by omega) (TX7_evenings_1.at 16 rfl) ?_
        rw [zrem_nat ⟨by omega, by omega⟩ ⟨by omega, by omega⟩ (by omega)]
        have hmms2 := Int.emod_nonneg s2 (show 8 ≠ 0 by omega)
        have hmls2 := Int.emod_lt_of_pos s2 (show 0 < 8 by omega)
        obtain ⟨vs2, hvs2⟩ : ∃ z, z = s2 % 8 := ⟨_, rfl⟩
        rw [← hvs2] at hmms2 hmls2 ⊢
        refine z_ist_6 (TX7_evenings_1.at 17 rfl) (Nat.le_of_ble_eq_true rfl) rfl ?_
        refine z_ild_3 (TX7_evenings_1.at 18 rfl) ?_
        refine zs_call1 (c_next (by omega) (by omega)) (TX7_evenings_1.at 19 rfl) c7_404 rfl (by omega) (Nat.le_of_ble_eq_true rfl) (fun r110 => ?_)
        obtain ⟨s3, hs3⟩ : ∃ z, z = drw s2 := ⟨_, rfl⟩
        have bs3 := drw_in s2
        rw [← hs3] at bs3 r110 ⊢
        refine z_ist_3 (TX7_evenings_1.at 20 rfl) (Nat.le_of_ble_eq_true rfl) rfl ?_
        refine z_ald_0 (TX7_evenings_1.at 21 rfl) ?_
        refine zc_getO (m := 0) (s := 2) (k := 127) (hH.lv (by decide)) (TX7_evenings_1.at 22 rfl) fl7_19 hH rfl rfl (by decide) (by decide) ?_
        refine z_ild_3 (TX7_evenings_1.at 23 rfl) ?_
        refine z_iconst (TX7_evenings_1.at 24 rfl) ?_
        refine z_irem (by omega) (by omega) (TX7_evenings_1.at 25 rfl) ?_
        rw [zrem_nat ⟨by omega, by omega⟩ ⟨by omega, by omega⟩ (by omega)]
        have hmms3 := Int.emod_nonneg s3 (show 3 ≠ 0 by omega)
        have hmls3 := Int.emod_lt_of_pos s3 (show 0 < 3 by omega)
        obtain ⟨vs3, hvs3⟩ : ∃ z, z = s3 % 3 := ⟨_, rfl⟩
        rw [← hvs3] at hmms3 hmls3 ⊢
        refine z_ild_5 (TX7_evenings_1.at 26 rfl) ?_
        refine z_ild_6 (TX7_evenings_1.at 27 rfl) ?_
        refine zc_callV3 (m := 3) (c_happen eg102 eg108 ef101 (by omega) (by omega) (by omega) (by omega) (by omega) hE.1 (by have := hE.2.2.2.1; omega)) (hH.lv (by decide)) (TX7_evenings_1.at 28 rfl) c7_407 rfl rfl hH hA (by omega) (Nat.le_of_ble_eq_true rfl) (fun f125 g125 j125 h q125 hH hA => ?_)
        obtain ⟨q125, xf, xg, xj⟩ := q125
        rw [xj] at hH
        have ef32 := (xf 32 (by decide)).trans ef32
        have hfE := hfE.trans xf (by decide)
        have hgE := hgE.trans xg (by decide)
        have qL := q125
        obtain ⟨ef101, eg102, eg108⟩ := qL
        refine z_iinc_4 (TX7_evenings_1.at 29 rfl) (Nat.le_of_ble_eq_true rfl) rfl ?_
        refine z_goto (tgt := 61) (TX7_evenings_1.at 30 rfl) rfl ?_
        refine ih (c + 1) _ (evW K vs1 vs2 vs3) _ _ _ _ _ _ _ _ _ (by omega) (by omega) (by omega) (evN_t es (by omega) hs1 hs2 hs3 (by rw [h76]; exact hvs1) hvs2 hvs3) (EvA_step hE hK1 (by omega) (by omega) (by omega) (by omega) (by omega) (by omega)) (by rw [iu_ne (by decide)]; exact hT2) eg102 eg108 ef101 ef32 hfE hgE hH hA

theorem cpy_at {D S : Int → Int} {n i : Int} (i0 : 0 ≤ i) (i1 : i < n) : cpy D S 0 0 n i = S i := by
  unfold cpy
  rw [if_pos (by omega)]
  congr 1
  omega
theorem gone_lw {E : cE} {f : mF} {g : mA} {Lw Lw2 K : Int → Int} {cl : List Cla} (h79 : K 79 ≤ 6) (e : ∀ i : Int, 0 ≤ i → i < 6 → Lw2 i = Lw i) (hL : LwN E f g (if 0 ≤ K 80 ∧ K 80 < K 79 then Lw (K 80) else -1) cl) : LwN E f g (if 0 ≤ K 80 ∧ K 80 < K 79 then Lw2 (K 80) else -1) cl := by
  split at hL
  · rename_i hh
    rw [if_pos hh, e _ hh.1 (by omega)]; exact hL
  · rename_i hh
    rw [if_neg hh]; exact hL
theorem evW_10 {K : Int → Int} {x k w i : Int} (x0 : 0 ≤ x) (x1 : x < 10) (k0 : 0 ≤ k) (i0 : 0 ≤ i) (i1 : i < 10) : evW K x k w (10 + i) = K (10 + i) := by
  have e0 : (if w = 0 then iu K x (1 - K x) else K) (10 + i) = K (10 + i) := by
    split
    · rw [iu_ne (by omega)]
    · rfl
  unfold evW
  rw [iu_ne (by omega)]
  generalize (if w = 0 then iu K x (1 - K x) else K) = Q at e0 ⊢
  split
  · rw [iu_ne (by omega)]; exact e0
  · exact e0
theorem evN_10 {K : Int → Int} {s : Int} (h : KOK K) (hn : K 76 ≠ 0) (s0 : 0 ≤ s) (s1 : s ≤ 1000002) : ∀ (m : Nat) (i : Int), 0 ≤ i → i < 10 → (evN K s m).1 (10 + i) = K (10 + i) := by
  intro m
  induction m with
  | zero => intro i _ _; rfl
  | succ m ih =>
    intro i i0 i1
    obtain ⟨i1', i2, i3, i4⟩ := evN_ok h hn s0 s1 m
    have h76 := i2 76 (by decide)
    have hk := i1'.1
    have hmm := Int.emod_nonneg (drw (evN K s m).2) (show (evN K s m).1 76 ≠ 0 by omega)
    have hml := Int.emod_lt_of_pos (drw (evN K s m).2) (show 0 < (evN K s m).1 76 by omega)
    simp only [evN, evS]
    split
    · exact (evW_10 hmm (by omega) (by omega) i0 i1).trans (ih i i0 i1)
    · exact ih i i0 i1
set_option maxHeartbeats 4000000 in
set_option maxRecDepth 100000 in
theorem c_evenings {l : Launch} {E : cE} {f : mF} {g j : mA} {Fr : Int → Int} {To : Int → Int} {Ln : Int → Int} {Kd : Int → Int} {Tm : Int → Int} {Lw : Int → Int} {Mt : Int → Int} {Lt : Int → Int} {Sk : Int → Int} {Ss : Int → Int} {Rf : Int → Int} {E2 : Int → Int} {E10 : Int → Int} {dp : Int} {x7 : Int} {x9 : Int} {S : Int} {st : Int} {e6 : Int} {e1 : Int} {sd m : Int} {K : Int → Int} {cl : List Cla} (eg33 : g 33 = Fr) (eg34 : g 34 = To) (eg35 : g 35 = Ln) (eg36 : g 36 = Kd) (eg44 : g 44 = Tm) (eg46 : g 46 = Lw) (eg38 : g 38 = Mt) (eg40 : g 40 = Lt) (eg42 : g 42 = Sk) (eg43 : g 43 = Ss) (eg11 : g 11 = Rf) (eg102 : g 102 = E2) (eg110 : g 110 = E10) (ef32 : f 32 = (K 76)) (ef37 : f 37 = dp) (ef39 : f 39 = x7) (ef41 : f 41 = x9) (ef45 : f 45 = (K 79)) (ef47 : f 47 = (K 80)) (ef354 : f 354 = S) (ef16 : f 16 = st) (ef96 : f 96 = e6) (ef101 : f 101 = e1) (hsd : zIn sd) (hm : zIn m) (hL : LwN E f g (if 0 ≤ K 80 ∧ K 80 < K 79 then Lw (K 80) else -1) cl) (hK : KOK K) (hP : FrA Fr To Ln Kd dp K) (hS : z31 S) (t0 : Tm 0 = K 28) (t2 : Tm 2 = K 75) (hMt : ∀ k : Int, 0 ≤ k → k ≤ 7 → Mt k = K (20 + k)) (hb : ∀ i, Rf i ≤ 100000) (hz : dHi dp (K 76)) (hOK : ∀ q : Int, 0 ≤ q → q < 6 → okR E 4 (Lw q)) : CM l E MX7_evenings 8 [.ref (E.1 31), vI sd, vI m] f g j (PI (fun r f' g' j' => ((¬ ((0 ≤ sd ∧ sd ≤ 1000000) ∧ 1 ≤ m ∧ m ≤ 60) ∧ r = -1 ∧ f' 16 = -1 ∧ g' 11 = bumC Rf (-1) ∧ f' 96 = e6 ∧ f' 101 = e1 ∧ g' 102 = E2 ∧ g' 110 = E10) ∨ (((0 ≤ sd ∧ sd ≤ 1000000) ∧ 1 ≤ m ∧ m ≤ 60) ∧ K 76 = 0 ∧ r = -3 ∧ f' 16 = -3 ∧ g' 11 = bumC Rf (-3) ∧ f' 96 = e6 ∧ f' 101 = e1 ∧ g' 102 = E2 ∧ g' 110 = E10) ∨ (((0 ≤ sd ∧ sd ≤ 1000000) ∧ 1 ≤ m ∧ m ≤ 60) ∧ K 76 ≠ 0 ∧ r = gone (evN K sd m.toNat).1 cl ∧ f' 16 = 0 ∧ g' 11 = Rf ∧ f' 96 = K 76 ∧ g' 110 = cpy E10 Lw 0 0 6 ∧ ∃ Tm, EvA (g' 102) Tm (f' 101) (evN K sd m.toNat).1)) ∧ eqx [16, 96, 101, 103, 105, 109, 111, 354] f f' ∧ eqx [11, 97, 98, 99, 100, 102, 104, 106, 107, 108, 110, 352, 353, 355, 356, 384] g g' ∧ j' = j)) := by
  refine CM.intro [some (.ref (E.1 31)), some (vI sd), some (vI m), none, none, none, none] (by decide) (Nat.le_of_ble_eq_true rfl) rfl (fun d hd h0 h hH hA => ?_)
  have hfE : eqx [16, 96, 101, 103, 105, 109, 111, 354] f f := eqx.rf
  have hgE : eqx [11, 97, 98, 99, 100, 102, 104, 106, 107, 108, 110, 352, 353, 355, 356, 384] g g := eqx.rf
  have h79 := hK.2.2.2.2.2.2.2.2.2.2.1
  have hn := hK.1
  refine z_ild_1 (TX7_evenings_0.at 0 rfl) ?_
  refine z_if_lt (tgt := 22) (TX7_evenings_0.at 1 rfl) rfl (by omega) (fun c1 => ?_) (fun c1 => ?_)
  · skip
    refine z_ald_0 (TX7_evenings_0.at 11 rfl) ?_
    refine z_iconst (TX7_evenings_0.at 12 rfl) ?_
    refine zc_callI1 (m := 0) (c_refused eg11 ef16 (by omega) (by omega) (by omega) hb) (hH.lv (by decide)) (TX7_evenings_0.at 13 rfl) c7_92 rfl rfl hH hA (by omega) (Nat.le_of_ble_eq_true rfl) (fun x24 f24 g24 j24 h r24 q24 hH hA => ?_)
    obtain ⟨q24, xf, xg, xj⟩ := q24
    rw [xj] at hH
    have ef32 := (xf 32 (by decide)).trans ef32
    have ef37 := (xf 37 (by decide)).trans ef37
    have ef39 := (xf 39 (by decide)).trans ef39
    have ef41 := (xf 41 (by decide)).trans ef41
    have ef45 := (xf 45 (by decide)).trans ef45
    have ef47 := (xf 47 (by decide)).trans ef47
    have ef354 := (xf 354 (by decide)).trans ef354
    have ef96 := (xf 96 (by decide)).trans ef96
    have ef101 := (xf 101 (by decide)).trans ef101
    have hfE := hfE.trans xf (by decide)
    have eg33 := (xg 33 (by decide)).trans eg33
    have eg34 := (xg 34 (by decide)).trans eg34
    have eg35 := (xg 35 (by decide)).trans eg35
    have eg36 := (xg 36 (by decide)).trans eg36
    have eg44 := (xg 44 (by decide)).trans eg44
    have eg46 := (xg 46 (by decide)).trans eg46
    have eg38 := (xg 38 (by decide)).trans eg38
    have eg40 := (xg 40 (by decide)).trans eg40
    have eg42 := (xg 42 (by decide)).trans eg42
    have eg43 := (xg 43 (by decide)).trans eg43
    have eg102 := (xg 102 (by decide)).trans eg102
    have eg110 := (xg 110 (by decide)).trans eg110
    have hgE := hgE.trans xg (by decide)
    have qL := q24
    have ef16 := qL.2.1
    have eg11 := qL.2.2
    have qe := qL.1.symm
    subst qe
    refine zc_iret (TX7_evenings_0.at 14 rfl) rfl hH hA (by omega) ?_
    exact ⟨Or.inl ⟨by omega, rfl, ef16, eg11, ef96, ef101, eg102, eg110⟩, hfE, hgE, rfl⟩
  · skip
    refine z_ild_1 (TX7_evenings_0.at 2 rfl) ?_
    refine z_ldcw (v := 1000000) (TX7_evenings_0.at 3 rfl) k7_403 (by decide) ?_
    refine z_icmp_gt (tgt := 22) (TX7_evenings_0.at 4 rfl) rfl (by omega) (by omega) (fun c2 => ?_) (fun c2 => ?_)
    · skip
      refine z_ald_0 (TX7_evenings_0.at 11 rfl) ?_
      refine z_iconst (TX7_evenings_0.at 12 rfl) ?_
      refine zc_callI1 (m := 0) (c_refused eg11 ef16 (by omega) (by omega) (by omega) hb) (hH.lv (by decide)) (TX7_evenings_0.at 13 rfl) c7_92 rfl rfl hH hA (by omega) (Nat.le_of_ble_eq_true rfl) (fun x24 f24 g24 j24 h r24 q24 hH hA => ?_)
      obtain ⟨q24, xf, xg, xj⟩ := q24
      rw [xj] at hH
      have ef32 := (xf 32 (by decide)).trans ef32
      have ef37 := (xf 37 (by decide)).trans ef37
      have ef39 := (xf 39 (by decide)).trans ef39
      have ef41 := (xf 41 (by decide)).trans ef41
      have ef45 := (xf 45 (by decide)).trans ef45
      have ef47 := (xf 47 (by decide)).trans ef47
      have ef354 := (xf 354 (by decide)).trans ef354
      have ef96 := (xf 96 (by decide)).trans ef96
      have ef101 := (xf 101 (by decide)).trans ef101
      have hfE := hfE.trans xf (by decide)
      have eg33 := (xg 33 (by decide)).trans eg33
      have eg34 := (xg 34 (by decide)).trans eg34
      have eg35 := (xg 35 (by decide)).trans eg35
      have eg36 := (xg 36 (by decide)).trans eg36
      have eg44 := (xg 44 (by decide)).trans eg44
      have eg46 := (xg 46 (by decide)).trans eg46
      have eg38 := (xg 38 (by decide)).trans eg38
      have eg40 := (xg 40 (by decide)).trans eg40
      have eg42 := (xg 42 (by decide)).trans eg42
      have eg43 := (xg 43 (by decide)).trans eg43
      have eg102 := (xg 102 (by decide)).trans eg102
      have eg110 := (xg 110 (by decide)).trans eg110
      have hgE := hgE.trans xg (by decide)
      have qL := q24
      have ef16 := qL.2.1
      have eg11 := qL.2.2
      have qe := qL.1.symm
      subst qe
      refine zc_iret (TX7_evenings_0.at 14 rfl) rfl hH hA (by omega) ?_
      exact ⟨Or.inl ⟨by omega, rfl, ef16, eg11, ef96, ef101, eg102, eg110⟩, hfE, hgE, rfl⟩
    · skip
      refine z_ild_2 (TX7_evenings_0.at 5 rfl) ?_
      refine z_iconst (TX7_evenings_0.at 6 rfl) ?_
      refine z_icmp_lt (tgt := 22) (TX7_evenings_0.at 7 rfl) rfl (by omega) (by omega) (fun c3 => ?_) (fun c3 => ?_)
      · skip
        refine z_ald_0 (TX7_evenings_0.at 11 rfl) ?_
        refine z_iconst (TX7_evenings_0.at 12 rfl) ?_
        refine zc_callI1 (m := 0) (c_refused eg11 ef16 (by omega) (by omega) (by omega) hb) (hH.lv (by decide)) (TX7_evenings_0.at 13 rfl) c7_92 rfl rfl hH hA (by omega) (Nat.le_of_ble_eq_true rfl) (fun x24 f24 g24 j24 h r24 q24 hH hA => ?_)
        obtain ⟨q24, xf, xg, xj⟩ := q24
        rw [xj] at hH
        have ef32 := (xf 32 (by decide)).trans ef32
        have ef37 := (xf 37 (by decide)).trans ef37
        have ef39 := (xf 39 (by decide)).trans ef39
        have ef41 := (xf 41 (by decide)).trans ef41
        have ef45 := (xf 45 (by decide)).trans ef45
        have ef47 := (xf 47 (by decide)).trans ef47
        have ef354 := (xf 354 (by decide)).trans ef354
        have ef96 := (xf 96 (by decide)).trans ef96
        have ef101 := (xf 101 (by decide)).trans ef101
        have hfE := hfE.trans xf (by decide)
        have eg33 := (xg 33 (by decide)).trans eg33
        have eg34 := (xg 34 (by decide)).trans eg34
        have eg35 := (xg 35 (by decide)).trans eg35
        have eg36 := (xg 36 (by decide)).trans eg36
        have eg44 := (xg 44 (by decide)).trans eg44
        have eg46 := (xg 46 (by decide)).trans eg46
        have eg38 := (xg 38 (by decide)).trans eg38
        have eg40 := (xg 40 (by decide)).trans eg40
        have eg42 := (xg 42 (by decide)).trans eg42
        have eg43 := (xg 43 (by decide)).trans eg43
        have eg102 := (xg 102 (by decide)).trans eg102
        have eg110 := (xg 110 (by decide)).trans eg110
        have hgE := hgE.trans xg (by decide)
        have qL := q24
        have ef16 := qL.2.1
        have eg11 := qL.2.2
        have qe := qL.1.symm
        subst qe
        refine zc_iret (TX7_evenings_0.at 14 rfl) rfl hH hA (by omega) ?_
        exact ⟨Or.inl ⟨by omega, rfl, ef16, eg11, ef96, ef101, eg102, eg110⟩, hfE, hgE, rfl⟩
      · skip
        refine z_ild_2 (TX7_evenings_0.at 8 rfl) ?_
        refine z_bipush (by decide) (TX7_evenings_0.at 9 rfl) ?_
        refine z_icmp_le (tgt := 28) (TX7_evenings_0.at 10 rfl) rfl (by omega) (by omega) (fun c4 => ?_) (fun c4 => ?_)
        · skip
          refine z_ald_0 (TX7_evenings_0.at 15 rfl) ?_
          refine zc_getO (m := 0) (s := 0) (k := 63) (hH.lv (by decide)) (TX7_evenings_0.at 16 rfl) fl7_12 hH rfl rfl (by decide) (by decide) ?_
          refine zc_getIE (m := 1) (s := 0) (k := 32) (hH.lv (by decide)) ef32 (TX7_evenings_0.at 17 rfl) fl7_96 hH rfl rfl (by decide) (by decide) (fun r32 => ?_)
          refine z_if_gt (tgt := 45) (TX7_evenings_0.at 18 rfl) rfl (by omega) (fun c5 => ?_) (fun c5 => ?_)
          · skip
            refine z_ald_0 (TX7_evenings_0.at 23 rfl) ?_
            refine zc_getO (m := 0) (s := 2) (k := 127) (hH.lv (by decide)) (TX7_evenings_0.at 24 rfl) fl7_19 hH rfl rfl (by decide) (by decide) ?_
            refine z_ald_0 (TX7_evenings_0.at 25 rfl) ?_
            refine zc_getO (m := 0) (s := 0) (k := 63) (hH.lv (by decide)) (TX7_evenings_0.at 26 rfl) fl7_12 hH rfl rfl (by decide) (by decide) ?_
            refine zc_callV1 (m := 3) (c_bec3_1 rfl eg33 rfl eg34 rfl eg35 rfl eg36 rfl eg38 rfl eg40 rfl eg42 rfl eg43 rfl eg44 eg110 eg46 ef32 ef37 ef39 ef41 ef45 ef47 hOK) (hH.lv (by decide)) (TX7_evenings_0.at 27 rfl) c7_214 rfl rfl hH hA (by omega) (Nat.le_of_ble_eq_true rfl) (fun f53 g53 j53 h q53 hH hA => ?_)
            obtain ⟨q53, xf, xg, xj⟩ := q53
            rw [xj] at hH
            have ef32 := (xf 32 (by decide)).trans ef32
            have ef37 := (xf 37 (by decide)).trans ef37
            have ef39 := (xf 39 (by decide)).trans ef39
            have ef41 := (xf 41 (by decide)).trans ef41
            have ef45 := (xf 45 (by decide)).trans ef45
            have ef47 := (xf 47 (by decide)).trans ef47
            have ef354 := (xf 354 (by decide)).trans ef354
            have ef16 := (xf 16 (by decide)).trans ef16
            have hfE := hfE.trans xf (by decide)
            have eg33 := (xg 33 (by decide)).trans eg33
            have eg34 := (xg 34 (by decide)).trans eg34
            have eg35 := (xg 35 (by decide)).trans eg35
            have eg36 := (xg 36 (by decide)).trans eg36
            have eg44 := (xg 44 (by decide)).trans eg44
            have eg46 := (xg 46 (by decide)).trans eg46
            have eg38 := (xg 38 (by decide)).trans eg38
            have eg40 := (xg 40 (by decide)).trans eg40
            have eg42 := (xg 42 (by decide)).trans eg42
            have eg43 := (xg 43 (by decide)).trans eg43
            have eg11 := (xg 11 (by decide)).trans eg11
            have hgE := hgE.trans xg (by decide)
            have qL := q53
            have hL := LwN_fr hL xf xg (by decide) (by decide)
            obtain ⟨ef96, ef101, -, -, ef109, ef111, eg97, eg98, eg99, eg100, eg102, -, -, -, eg108, eg110⟩ := qL
            have hE0 : EvA (cpy (g 102) Mt 0 0 8) (g53 108) dp K := ⟨hP.1, fun i i0 i1 => (hP.2 i i0 i1).2.2.2.2, fun k k0 k1 => by rw [cpy_at k0 (by omega)]; exact hMt k k0 k1, by rw [eg108, cpy_at (by decide) (by decide)]; exact t0, hz⟩
            have hT2 : g53 108 2 = K 75 := by rw [eg108, cpy_at (by decide) (by decide)]; exact t2
            refine z_ild_1 (TX7_evenings_0.at 28 rfl) ?_
            refine z_ist_3 (TX7_evenings_0.at 29 rfl) (Nat.le_of_ble_eq_true rfl) rfl ?_
            refine z_iconst (TX7_evenings_0.at 30 rfl) ?_
            refine z_ist_4 (TX7_evenings_0.at 31 rfl) (Nat.le_of_ble_eq_true rfl) rfl ?_
            refine lp_ceve (sd := sd) (m := m) (s0 := sd) (by omega) (by omega) hK (by omega) (by omega) (by omega) (fun K2 s2 i2 M2 T2 d2 o5 o6 f61 g61 h es hE hT2 eg102 eg108 ef101 xf xg hH hA => ?_) 61 0 0 K sd _ _ _ none none _ _ _ (by omega) (by omega) (by omega) rfl hE0 hT2 eg102 rfl ef101 ef32 eqx.rf eqx.rf hH hA
            have ef32 := (xf 32 (by decide)).trans ef32
            have ef37 := (xf 37 (by decide)).trans ef37
            have ef39 := (xf 39 (by decide)).trans ef39
            have ef41 := (xf 41 (by decide)).trans ef41
            have ef45 := (xf 45 (by decide)).trans ef45
            have ef47 := (xf 47 (by decide)).trans ef47
            have ef354 := (xf 354 (by decide)).trans ef354
            have ef16 := (xf 16 (by decide)).trans ef16
            have ef96 := (xf 96 (by decide)).trans ef96
            have ef109 := (xf 109 (by decide)).trans ef109
            have ef111 := (xf 111 (by decide)).trans ef111
            have hfE := hfE.trans xf (by decide)
            have eg33 := (xg 33 (by decide)).trans eg33
            have eg34 := (xg 34 (by decide)).trans eg34
            have eg35 := (xg 35 (by decide)).trans eg35
            have eg36 := (xg 36 (by decide)).trans eg36
            have eg44 := (xg 44 (by decide)).trans eg44
            have eg46 := (xg 46 (by decide)).trans eg46
            have eg38 := (xg 38 (by decide)).trans eg38
            have eg40 := (xg 40 (by decide)).trans eg40
            have eg42 := (xg 42 (by decide)).trans eg42
            have eg43 := (xg 43 (by decide)).trans eg43
            have eg11 := (xg 11 (by decide)).trans eg11
            have eg110 := (xg 110 (by decide)).trans eg110
            have eg97 := (xg 97 (by decide)).trans eg97
            have eg98 := (xg 98 (by decide)).trans eg98
            have eg99 := (xg 99 (by decide)).trans eg99
            have eg100 := (xg 100 (by decide)).trans eg100
            have hgE := hgE.trans xg (by decide)
            have hok := evN_ok (s := sd) hK (by omega) (by omega) (by omega) m.toNat
            rw [← es] at hok
            simp only at hok
            have k76 := hok.2.1 76 (by decide)
            have k79 := hok.2.1 79 (by decide)
            have k80 := hok.2.1 80 (by decide)
            have hL := gone_lw (Lw2 := cpy E10 Lw 0 0 6) (by omega) (fun i i0 i1 => cpy_at i0 i1) (LwN_fr hL xf xg (by decide) (by decide))
            rw [← k79, ← k80] at hL
            rw [← k76] at ef96
            rw [← k79] at ef109
            rw [← k80] at ef111
            have hP3 : FrA (cpy (g 97) Fr 0 0 10) (cpy (g 98) To 0 0 10) (cpy (g 99) Ln 0 0 10) (cpy (g 100) Kd 0 0 10) d2 K2 := ⟨hE.1, fun i i0 i1 => by
              have hx := hP.2 i i0 (by omega)
              rw [cpy_at i0 (by omega), cpy_at i0 (by omega), cpy_at i0 (by omega), cpy_at i0 (by omega), hok.2.1 (29 + i) (by omega), hok.2.1 (39 + i) (by omega), hok.2.1 (49 + i) (by omega)]
              have hev : K2 (10 + i) = K (10 + i) := by have := evN_10 (s := sd) hK (by omega) (by omega) (by omega) m.toNat i i0 (by omega); rw [← es] at this; exact this
              rw [hev]
              exact ⟨hx.1, hx.2.1, hx.2.2.1, hx.2.2.2.1, hE.2.1 i i0 i1⟩⟩
            refine z_ald_0 (TX7_evenings_1.at 31 rfl) ?_
            refine z_ald_0 (TX7_evenings_1.at 32 rfl) ?_
            refine z_ald_0 (TX7_evenings_1.at 33 rfl) ?_
            refine zc_getO (m := 0) (s := 2) (k := 127) (hH.lv (by decide)) (TX7_evenings_1.at 34 rfl) fl7_19 hH rfl rfl (by decide) (by decide) ?_
            refine zc_callI1 (m := 0) (c_goneIn3 eg97 eg98 eg99 eg100 eg108 eg110 eg102 ef96 ef101 ef354 ef109 ef111 hL hok.1 hP3 hS hE.2.2.2.1 (hT2.trans (hok.2.1 75 (by decide)).symm) hE.2.2.1) (hH.lv (by decide)) (TX7_evenings_1.at 35 rfl) c7_224 rfl rfl hH hA (by omega) (Nat.le_of_ble_eq_true rfl) (fun x140 f140 g140 j140 h r140 q140 hH hA => ?_)
            obtain ⟨q140, xf, xg, xj⟩ := q140
            rw [xj] at hH
            have ef32 := (xf 32 (by decide)).trans ef32
            have ef37 := (xf 37 (by decide)).trans ef37
            have ef39 := (xf 39 (by decide)).trans ef39
            have ef41 := (xf 41 (by decide)).trans ef41
            have ef45 := (xf 45 (by decide)).trans ef45
            have ef47 := (xf 47 (by decide)).trans ef47
            have ef16 := (xf 16 (by decide)).trans ef16
            have ef96 := (xf 96 (by decide)).trans ef96
            have ef101 := (xf 101 (by decide)).trans ef101
            have ef109 := (xf 109 (by decide)).trans ef109
            have ef111 := (xf 111 (by decide)).trans ef111
            have hfE := hfE.trans xf (by decide)
            have eg33 := (xg 33 (by decide)).trans eg33
            have eg34 := (xg 34 (by decide)).trans eg34
            have eg35 := (xg 35 (by decide)).trans eg35
            have eg36 := (xg 36 (by decide)).trans eg36
            have eg44 := (xg 44 (by decide)).trans eg44
            have eg46 := (xg 46 (by decide)).trans eg46
            have eg38 := (xg 38 (by decide)).trans eg38
            have eg40 := (xg 40 (by decide)).trans eg40
            have eg42 := (xg 42 (by decide)).trans eg42
            have eg43 := (xg 43 (by decide)).trans eg43
            have eg11 := (xg 11 (by decide)).trans eg11
            have eg102 := (xg 102 (by decide)).trans eg102
            have eg110 := (xg 110 (by decide)).trans eg110
            have eg97 := (xg 97 (by decide)).trans eg97
            have eg98 := (xg 98 (by decide)).trans eg98
            have eg99 := (xg 99 (by decide)).trans eg99
            have eg100 := (xg 100 (by decide)).trans eg100
            have hgE := hgE.trans xg (by decide)
            have qL := q140
            subst qL
            refine zc_callI1 (m := 0) (c_answered ef16 (by omega)) (hH.lv (by decide)) (TX7_evenings_1.at 36 rfl) c7_106 rfl rfl hH hA (by omega) (Nat.le_of_ble_eq_true rfl) (fun x143 f143 g143 j143 h r143 q143 hH hA => ?_)
            obtain ⟨q143, xf, xg, xj⟩ := q143
            rw [xj] at hH
            have ef32 := (xf 32 (by decide)).trans ef32
            have ef37 := (xf 37 (by decide)).trans ef37
            have ef39 := (xf 39 (by decide)).trans ef39
            have ef41 := (xf 41 (by decide)).trans ef41
            have ef45 := (xf 45 (by decide)).trans ef45
            have ef47 := (xf 47 (by decide)).trans ef47
            have ef96 := (xf 96 (by decide)).trans ef96
            have ef101 := (xf 101 (by decide)).trans ef101
            have ef109 := (xf 109 (by decide)).trans ef109
            have ef111 := (xf 111 (by decide)).trans ef111
            have hfE := hfE.trans xf (by decide)
            have eg33 := (xg 33 (by decide)).trans eg33
            have eg34 := (xg 34 (by decide)).trans eg34
            have eg35 := (xg 35 (by decide)).trans eg35
            have eg36 := (xg 36 (by decide)).trans eg36
            have eg44 := (xg 44 (by decide)).trans eg44
            have eg46 := (xg 46 (by decide)).trans eg46
            have eg38 := (xg 38 (by decide)).trans eg38
            have eg40 := (xg 40 (by decide)).trans eg40
            have eg42 := (xg 42 (by decide)).trans eg42
            have eg43 := (xg 43 (by decide)).trans eg43
            have eg11 := (xg 11 (by decide)).trans eg11
            have eg102 := (xg 102 (by decide)).trans eg102
            have eg110 := (xg 110 (by decide)).trans eg110
            have eg97 := (xg 97 (by decide)).trans eg97
            have eg98 := (xg 98 (by decide)).trans eg98
            have eg99 := (xg 99 (by decide)).trans eg99
            have eg100 := (xg 100 (by decide)).trans eg100
            have hgE := hgE.trans xg (by decide)
            have qL := q143
            have ef16 := qL.2
            have qe := qL.1.symm
            subst qe
            refine zc_iret (TX7_evenings_1.at 37 rfl) rfl hH hA (by omega) ?_
            exact ⟨Or.inr (Or.inr ⟨by omega, by omega, by rw [← es], ef16, eg11, by rw [ef96, k76], eg110, T2, by rw [eg102, ef101, ← es]; exact hE⟩), hfE, hgE, rfl⟩
          · skip
            refine z_ald_0 (TX7_evenings_0.at 19 rfl) ?_
            refine z_bipush (by decide) (TX7_evenings_0.at 20 rfl) ?_
            refine zc_callI1 (m := 0) (c_refused eg11 ef16 (by omega) (by omega) (by omega) hb) (hH.lv (by decide)) (TX7_evenings_0.at 21 rfl) c7_92 rfl rfl hH hA (by omega) (Nat.le_of_ble_eq_true rfl) (fun x41 f41 g41 j41 h r41 q41 hH hA => ?_)
            obtain ⟨q41, xf, xg, xj⟩ := q41
            rw [xj] at hH
            have ef32 := (xf 32 (by decide)).trans ef32
            have ef37 := (xf 37 (by decide)).trans ef37
            have ef39 := (xf 39 (by decide)).trans ef39
            have ef41 := (xf 41 (by decide)).trans ef41
            have ef45 := (xf 45 (by decide)).trans ef45
            have ef47 := (xf 47 (by decide)).trans ef47
            have ef354 := (xf 354 (by decide)).trans ef354
            have ef96 := (xf 96 (by decide)).trans ef96
            have ef101 := (xf 101 (by decide)).trans ef101
            have hfE := hfE.trans xf (by decide)
            have eg33 := (xg 33 (by decide)).trans eg33
            have eg34 := (xg 34 (by decide)).trans eg34
            have eg35 := (xg 35 (by decide)).trans eg35
            have eg36 := (xg 36 (by decide)).trans eg36
            have eg44 := (xg 44 (by decide)).trans eg44
            have eg46 := (xg 46 (by decide)).trans eg46
            have eg38 := (xg 38 (by decide)).trans eg38
            have eg40 := (xg 40 (by decide)).trans eg40
            have eg42 := (xg 42 (by decide)).trans eg42
            have eg43 := (xg 43 (by decide)).trans eg43
            have eg102 := (xg 102 (by decide)).trans eg102
            have eg110 := (xg 110 (by decide)).trans eg110
            have hgE := hgE.trans xg (by decide)
            have qL := q41
            have ef16 := qL.2.1
            have eg11 := qL.2.2
            have qe := qL.1.symm
            subst qe
            refine zc_iret (TX7_evenings_0.at 22 rfl) rfl hH hA (by omega) ?_
            exact ⟨Or.inr (Or.inl ⟨by omega, by omega, rfl, ef16, eg11, ef96, ef101, eg102, eg110⟩), hfE, hgE, rfl⟩
        · skip
          refine z_ald_0 (TX7_evenings_0.at 11 rfl) ?_
          refine z_iconst (TX7_evenings_0.at 12 rfl) ?_
          refine zc_callI1 (m := 0) (c_refused eg11 ef16 (by omega) (by omega) (by omega) hb) (hH.lv (by decide)) (TX7_evenings_0.at 13 rfl) c7_92 rfl rfl hH hA (by omega) (Nat.le_of_ble_eq_true rfl) (fun x24 f24 g24 j24 h r24 q24 hH hA => ?_)
          obtain ⟨q24, xf, xg, xj⟩ := q24
          rw [xj] at hH
          have ef32 := (xf 32 (by decide)).trans ef32
          have ef37 := (xf 37 (by decide)).trans ef37
          have ef39 := (xf 39 (by decide)).trans ef39
          have ef41 := (xf 41 (by decide)).trans ef41
          have ef45 := (xf 45 (by decide)).trans ef45
          have ef47 := (xf 47 (by decide)).trans ef47
          have ef354 := (xf 354 (by decide)).trans ef354
          have ef96 := (xf 96 (by decide)).trans ef96
          have ef101 := (xf 101 (by decide)).trans ef101
          have hfE := hfE.trans xf (by decide)
          have eg33 := (xg 33 (by decide)).trans eg33
          have eg34 := (xg 34 (by decide)).trans eg34
          have eg35 := (xg 35 (by decide)).trans eg35
          have eg36 := (xg 36 (by decide)).trans eg36
          have eg44 := (xg 44 (by decide)).trans eg44
          have eg46 := (xg 46 (by decide)).trans eg46
          have eg38 := (xg 38 (by decide)).trans eg38
          have eg40 := (xg 40 (by decide)).trans eg40
          have eg42 := (xg 42 (by decide)).trans eg42
          have eg43 := (xg 43 (by decide)).trans eg43
          have eg102 := (xg 102 (by decide)).trans eg102
          have eg110 := (xg 110 (by decide)).trans eg110
          have hgE := hgE.trans xg (by decide)
          have qL := q24
          have ef16 := qL.2.1
          have eg11 := qL.2.2
          have qe := qL.1.symm
          subst qe
          refine zc_iret (TX7_evenings_0.at 14 rfl) rfl hH hA (by omega) ?_
          exact ⟨Or.inl ⟨by omega, rfl, ef16, eg11, ef96, ef101, eg102, eg110⟩, hfE, hgE, rfl⟩

section CSV
variable {l : Launch} {M M' : zM} {d : Nat} {Pz : Option Value → zH → Prop} {pc pc' : Nat} {L : List (Option Value)} {S : List Value} {h h0 : zH} {E : cE} {f : mF} {g j : mA}
theorem zc_scallV {idx n n' : Nat} {As : List Value} {Q : mF → mA → mA → Prop} (hM : CM l E M' n' As f g j (PV Q)) (hd : zAt M 3 pc pc' (.invokestatic idx)) (hc : zCS M.1.cls idx M' n) (hn : As.length = n) (hH : HC E f g j h) (hA : cAg E h0 h) (hdd : n' + 1 ≤ d) (hW : (S.map fun v => v.category).sum ≤ 8)
    (K : ∀ (f : mF) (g j : mA) (h : zH), Q f g j → HC E f g j h → cAg E h0 h → Z l M d 0 0 Pz pc' L S h 0 0) : Z l M d 0 0 Pz pc L (As.reverse ++ S) h 0 0 := by
  obtain ⟨hd, rfl⟩ := hd
  refine z_invS hd hc hn (d' := d - 1) (by omega) (Nat.le_refl 0) (Nat.le_refl 0) hW (hM (d - 1) (by omega) h hH) (fun v h' hp => ?_)
  obtain ⟨f', g', j', hH', hA', rfl, hq⟩ := hp
  exact K f' g' j' h' hq hH' (hA.trans hA')
theorem zc_scallI {idx n n' : Nat} {As : List Value} {Q : Int → mF → mA → mA → Prop} (hM : CM l E M' n' As f g j (PI Q)) (hd : zAt M 3 pc pc' (.invokestatic idx)) (hc : zCS M.1.cls idx M' n) (hn : As.length = n) (hH : HC E f g j h) (hA : cAg E h0 h) (hdd : n' + 1 ≤ d) (hW : (S.map fun v => v.category).sum ≤ 8)
    (K : ∀ (r : Int) (f : mF) (g j : mA) (h : zH), zIn r → Q r f g j → HC E f g j h → cAg E h0 h → Z l M d 0 0 Pz pc' L (vI r :: S) h 0 0) : Z l M d 0 0 Pz pc L (As.reverse ++ S) h 0 0 := by
  obtain ⟨hd, rfl⟩ := hd
  refine z_invS hd hc hn (d' := d - 1) (by omega) (Nat.le_refl 0) (Nat.le_refl 0) hW (hM (d - 1) (by omega) h hH) (fun v h' hp => ?_)
  obtain ⟨f', g', j', hH', hA', r, rfl, hr, hq⟩ := hp
  exact K r f' g' j' h' hr hq hH' (hA.trans hA')
end CSV
set_option maxHeartbeats 4000000 in
set_option maxRecDepth 100000 in
theorem lp_fill {l : Launch} {E : cE} {d : Nat} {h0 : zH} {f0 : mF} {g0 j0 : mA} {V : Int → Int} : ∀ (n : Nat) (i : Int) (f : mF) (g j : mA) (h : zH) (i0 : 0 ≤ i) (i1 : i ≤ 20) (i2 : 20 < i + n) (ej12 : j 12 = cpF V (fun _ => 0) 0 i) (hfE : eqx [] f0 f) (hgE : eqx [] g0 g) (hjE : eqx [12] j0 j) (hH : HC E f g j h) (hA : cAg E h0 h), Z l MJ7_fill_d0a16 d 0 0 (CP E h0 (PV (fun f' g' j' => j' 12 = cpF V (fun _ => 0) 0 20 ∧ eqx [] f0 f' ∧ eqx [] g0 g' ∧ eqx [12] j0 j'))) 6 [some (.ref (E.1 12)), some (vL 0), none, some (vI i), some (vI 20)] [] h 0 0 := by
  intro n
  induction n with
  | zero => intro i f g j h i0 i1 i2 ej12 hfE hgE hjE hH hA; exfalso; omega
  | succ n ih =>
    intro i f g j h i0 i1 i2 ej12 hfE hgE hjE hH hA
    refine z_ild_3 (TJ7_fill_d0a16.at 5 rfl) ?_
    refine z_ild_4 (TJ7_fill_d0a16.at 6 rfl) ?_
    refine z_icmp_ge (tgt := 22) (TJ7_fill_d0a16.at 7 rfl) rfl (by omega) (by omega) (fun c1 => ?_) (fun c1 => ?_)
    · skip
      obtain rfl : i = 20 := by omega
      refine zc_vret (TJ7_fill_d0a16.at 14 rfl) rfl hH hA ?_
      exact ⟨ej12, hfE, hgE, hjE⟩
    · skip
      refine z_ald_0 (TJ7_fill_d0a16.at 8 rfl) ?_
      refine z_ild_3 (TJ7_fill_d0a16.at 9 rfl) ?_
      refine z_lld_1 (TJ7_fill_d0a16.at 10 rfl) ?_
      refine zcf_last (k := 12) (N := 20) (hH.lv (by decide)) (by decide) rfl (TJ7_fill_d0a16.at 11 rfl) hH hA (by decide) (by omega) (show _ < ((20 : Nat) : Int) by omega) (by omega) (fun h j15 e1 e2 hH hA => ?_)
      rw [ej12] at e2; have ej12 := e2
      have hjE := hjE.put e1 (by decide)
      refine z_iinc_3 (TJ7_fill_d0a16.at 12 rfl) (Nat.le_of_ble_eq_true rfl) rfl ?_
      refine z_goto (tgt := 6) (TJ7_fill_d0a16.at 13 rfl) rfl ?_
      exact ih _ _ _ _ _ (by omega) (by omega) (by omega) (ej12.trans (cpF_s i0 (by omega) rfl)) hfE hgE hjE hH hA

set_option maxHeartbeats 4000000 in
set_option maxRecDepth 100000 in
theorem c_fill {l : Launch} {E : cE} {f : mF} {g j : mA} {V : Int → Int} (ej12 : j 12 = V) : CM l E MJ7_fill_d0a16 0 [.ref (E.1 12), vL 0] f g j (PV (fun f' g' j' => j' 12 = cpF V (fun _ => 0) 0 20 ∧ eqx [] f f' ∧ eqx [] g g' ∧ eqx [12] j j')) := by
  refine CM.intro [some (.ref (E.1 12)), some (vL 0), none, none, none] (by decide) (Nat.le_of_ble_eq_true rfl) rfl (fun d hd h0 h hH hA => ?_)
  refine z_iconst (TJ7_fill_d0a16.at 0 rfl) ?_
  refine z_ist_3 (TJ7_fill_d0a16.at 1 rfl) (Nat.le_of_ble_eq_true rfl) rfl ?_
  refine z_ald_0 (TJ7_fill_d0a16.at 2 rfl) ?_
  refine zcf_alen (k := 12) (N := 20) (hH.lv (by decide)) (by decide) rfl (TJ7_fill_d0a16.at 3 rfl) hH (by decide) ?_
  refine z_ist_4 (TJ7_fill_d0a16.at 4 rfl) (Nat.le_of_ble_eq_true rfl) rfl ?_
  exact lp_fill 21 0 _ _ _ _ (by omega) (by omega) (by omega) (ej12.trans (cpF_0 _ _ _).symm) eqx.rf eqx.rf eqx.rf hH hA

def cfI (r k : Int) (V : Int → Int) (i : Int) : Int → Int := fun t => if i < t ∧ t < k then V t * (10 - r) / 10 + V (t - 1) * r / 10 else V t
theorem cfI_s {r k i v : Int} {V : Int → Int} (ik : i < k) (hv : v = V i * (10 - r) / 10 + V (i - 1) * r / 10) : iu (cfI r k V i) i v = cfI r k V (i - 1) := by
  subst hv
  funext t
  unfold iu cfI
  by_cases e : t = i
  · subst e; rw [if_pos rfl, if_pos (by omega)]
  · rw [if_neg e]
    by_cases z : i < t ∧ t < k
    · rw [if_pos z, if_pos (by omega)]
    · rw [if_neg z, if_neg (by omega)]
theorem fwI_at {r k : Int} {V : Int → Int} : ∀ m : Nat, (m : Int) ≤ k → ∀ t : Int, 0 ≤ t → t < k → fwI r k V m t = (if k - m < t then V t * (10 - r) / 10 + V (t - 1) * r / 10 else if t = k - m then V t * (10 - r) / 10 else V t) := by
  intro m
  induction m with
  | zero => intro _ t t0 t1; rw [if_neg (by omega), if_neg (by omega)]; rfl
  | succ m ih =>
    intro hm t t0 t1
    have q := ih (by omega)
    simp only [fwI, fwS, iu]
    by_cases e : t = k - 1 - m
    · rw [if_pos e, if_neg (by omega), if_pos (by omega), ← e, q t t0 t1, if_neg (by omega), if_neg (by omega)]
    · rw [if_neg e]
      by_cases e2 : t = k - 1 - m + 1
      · rw [if_pos e2, ← e2, if_pos (by omega), q t t0 t1, if_neg (by omega), if_pos (by omega), q (k - 1 - m) (by omega) (by omega), if_neg (by omega), if_neg (by omega), show k - 1 - (m : Int) = t - 1 by omega]
      · rw [if_neg e2, q t t0 t1]
        by_cases e3 : k - m < t
        · rw [if_pos e3, if_pos (by omega)]
        · rw [if_neg e3, if_neg (by omega), if_neg (by omega), if_neg (by omega)]
theorem few_step {r k : Int} {V W : Int → Int} (k1 : 1 ≤ k) (h : ∀ t : Int, 0 ≤ t → t < k → V t = W t) : ∀ t : Int, 0 ≤ t → t < k → iu (cfI r k V 0) 0 (V 0 * (10 - r) / 10) t = fwI r k W k.toNat t := by
  intro t t0 t1
  rw [fwI_at k.toNat (by omega) t t0 t1]
  by_cases e : t = 0
  · subst e; rw [iu_self, if_neg (by omega), if_pos (by omega), h 0 (by omega) (by omega)]
  · rw [iu_ne e, cfI, if_pos (by omega), if_pos (by omega), h t t0 t1, h (t - 1) (by omega) (by omega)]
theorem few_0 {V : Int → Int} {R k : Int} (k1 : k ≤ 20) : ∀ t : Int, 0 ≤ t → t < k → iu (cpF V (fun _ => 0) 0 20) 0 1000000000000 t = fwO R k fw0 (0 : Int).toNat t := by
  intro t t0 t1
  by_cases e : t = 0
  · subst e; rw [iu_self]; rfl
  · rw [iu_ne e]; unfold cpF; rw [if_pos (by omega)]; exact (if_neg e).symm
set_option maxHeartbeats 4000000 in
set_option maxRecDepth 100000 in
theorem lp_cfew1 {l : Launch} {E : cE} {d : Nat} {Pz : Option Value → zH → Prop} {h0 : zH} {f0 : mF} {g0 : mA} {j0 : mA}  {V : Int → Int} {R k m c : Int} (r0 : 0 ≤ R) (r1 : R ≤ 10) (k0 : 1 ≤ k) (k1 : k ≤ 20) (hV : ∀ t : Int, 0 ≤ t → t < k → 0 ≤ V t ∧ V t ≤ 1000000000000) (kx : ∀ (f : mF) (g j : mA) (h : zH), j 12 = cfI R k V 0 → eqx [] f0 f → eqx [] g0 g → eqx [12] j0 j → HC E f g j h → cAg E h0 h → Z l MX7_few d 0 0 Pz 122 [some (.ref (E.1 31)), some (vI k), some (vI m), some (vI R), some (vI (10 - R)), some (vI c), some (vI 0), none] [] h 0 0)  : ∀ (n : Nat) (i : Int) (f : mF) (g : mA) (j : mA) (h : zH) (i0 : 0 ≤ i) (i1 : i ≤ k - 1) (i2 : i < n) (ej12 : j 12 = cfI R k V i) (hfE : eqx [] f0 f) (hgE : eqx [] g0 g) (hjE : eqx [12] j0 j) (hH : HC E f g j h) (hA : cAg E h0 h), Z l MX7_few d 0 0 Pz 72 [some (.ref (E.1 31)), some (vI k), some (vI m), some (vI R), some (vI (10 - R)), some (vI c), some (vI i), none] [] h 0 0 := by
  intro n
  induction n with
  | zero => intro i f g j h i0 i1 i2 ej12 hfE hgE hjE hH hA; exfalso; omega
  | succ n ih =>
    intro i f g j h i0 i1 i2 ej12 hfE hgE hjE hH hA
    refine z_ild_6 (TX7_few_1.at 1 rfl) ?_
    refine z_if_le (tgt := 122) (TX7_few_1.at 2 rfl) rfl (by omega) (fun c1 => ?_) (fun c1 => ?_)
    · skip
      obtain rfl : i = 0 := by omega
      exact kx _ _ _ _ ej12 hfE hgE hjE hH hA
    · skip
      have bi := hV i (by omega) (by omega)
      have bj := hV (i - 1) (by omega) (by omega)
      have mi := mul_r bi.1 bi.2 r0 r1
      have mj := mul_r bj.1 bj.2 r0 r1
      have ci : cfI R k V i i = V i := if_neg (by omega)
      have cj : cfI R k V i (i - 1) = V (i - 1) := if_neg (by omega)
      refine z_ald_0 (TX7_few_1.at 3 rfl) ?_
      refine zc_getA (m := 0) (s := 12) (k := 12) (hH.lv (by decide)) (TX7_few_1.at 4 rfl) fl7_71 hH rfl rfl (by decide) (by decide) ?_
      refine z_ild_6 (TX7_few_1.at 5 rfl) ?_
      refine z_ald_0 (TX7_few_1.at 6 rfl) ?_
      refine zc_getA (m := 0) (s := 12) (k := 12) (hH.lv (by decide)) (TX7_few_1.at 7 rfl) fl7_71 hH rfl rfl (by decide) (by decide) ?_
      refine z_ild_6 (TX7_few_1.at 8 rfl) ?_
      refine zcf_lald (k := 12) (N := 20) (hH.lv (by decide)) (by decide) rfl ej12 (TX7_few_1.at 9 rfl) hH (by decide) (by omega) (show _ < ((20 : Nat) : Int) by omega) (fun r89 => ?_)
      refine z_ild_4 (TX7_few_1.at 10 rfl) ?_
      refine z_i2l (by omega) (TX7_few_1.at 11 rfl) ?_
      refine z_lmul (TX7_few_1.at 12 rfl) ?_
      refine z_ldc2 (v := 10) (TX7_few_1.at 13 rfl) k7_397 (by decide) ?_
      refine z_ldiv (by omega) (by omega) (TX7_few_1.at 14 rfl) ?_
      rw [ci, zldivN (by rw [mi.2.1]; omega) (by rw [mi.2.1]; omega)]
      refine z_ald_0 (TX7_few_1.at 15 rfl) ?_
      refine zc_getA (m := 0) (s := 12) (k := 12) (hH.lv (by decide)) (TX7_few_1.at 16 rfl) fl7_71 hH rfl rfl (by decide) (by decide) ?_
      refine z_ild_6 (TX7_few_1.at 17 rfl) ?_
      refine z_iconst (TX7_few_1.at 18 rfl) ?_
      refine z_isub (TX7_few_1.at 19 rfl) ?_
      refine zcf_lald (k := 12) (N := 20) (hH.lv (by decide)) (by decide) rfl ej12 (TX7_few_1.at 20 rfl) hH (by decide) (by omega) (show _ < ((20 : Nat) : Int) by omega) (fun r106 => ?_)
      refine z_ild_3 (TX7_few_1.at 21 rfl) ?_
      refine z_i2l (by omega) (TX7_few_1.at 22 rfl) ?_
      refine z_lmul (TX7_few_1.at 23 rfl) ?_
      refine z_ldc2 (v := 10) (TX7_few_1.at 24 rfl) k7_397 (by decide) ?_
      refine z_ldiv (by omega) (by omega) (TX7_few_1.at 25 rfl) ?_
      rw [cj, zldivN (by omega) (by omega)]
      have hval : V i * (10 - R) / 10 + V (i - 1) * R / 10 = V i * (10 - R) / 10 + V (i - 1) * R / 10 := rfl
      refine z_ladd (TX7_few_1.at 26 rfl) ?_
      refine zcf_last (k := 12) (N := 20) (hH.lv (by decide)) (by decide) rfl (TX7_few_1.at 27 rfl) hH hA (by decide) (by omega) (show _ < ((20 : Nat) : Int) by omega) (by rw [mi.2.1]; omega) (fun h j115 e1 e2 hH hA => ?_)
      rw [ej12] at e2; have ej12 := e2
      have hjE := hjE.put e1 (by decide)
      refine z_iinc_6 (TX7_few_1.at 28 rfl) (Nat.le_of_ble_eq_true rfl) rfl ?_
      refine z_goto (tgt := 72) (TX7_few_1.at 29 rfl) rfl ?_
      exact ih (i - 1) _ _ _ _ (by omega) (by omega) (by omega) (ej12.trans (cfI_s (by omega) hval)) hfE hgE hjE hH hA

set_option maxHeartbeats 4000000 in
set_option maxRecDepth 100000 in
theorem lp_cfew2 {l : Launch} {E : cE} {d : Nat} {Pz : Option Value → zH → Prop} {h0 : zH} {f0 : mF} {g0 : mA} {j0 : mA}  {R k m : Int} (r0 : 0 ≤ R) (r1 : R ≤ 10) (k0 : 1 ≤ k) (k1 : k ≤ 20) (hm : m ≤ 99) (kx : ∀ (V : Int → Int) (o6 : Option Value) (f : mF) (g j : mA) (h : zH), (∀ t : Int, 0 ≤ t → t < k → V t = fwO R k fw0 m.toNat t) → j 12 = V → eqx [] f0 f → eqx [] g0 g → eqx [12] j0 j → HC E f g j h → cAg E h0 h → Z l MX7_few d 0 0 Pz 148 [some (.ref (E.1 31)), some (vI k), some (vI m), some (vI R), some (vI (10 - R)), some (vI m), o6, none] [] h 0 0)  : ∀ (n : Nat) (c : Int) (V : Int → Int) (o6 : Option Value) (f : mF) (g : mA) (j : mA) (h : zH) (c0 : 0 ≤ c) (c1 : c ≤ m) (c2 : m < c + n) (hW : ∀ t : Int, 0 ≤ t → t < k → V t = fwO R k fw0 c.toNat t) (ej12 : j 12 = V) (hfE : eqx [] f0 f) (hgE : eqx [] g0 g) (hjE : eqx [12] j0 j) (hH : HC E f g j h) (hA : cAg E h0 h), Z l MX7_few d 0 0 Pz 61 [some (.ref (E.1 31)), some (vI k), some (vI m), some (vI R), some (vI (10 - R)), some (vI c), o6, none] [] h 0 0 := by
  intro n
  induction n with
  | zero => intro c V o6 f g j h c0 c1 c2 hW ej12 hfE hgE hjE hH hA; exfalso; omega
  | succ n ih =>
    intro c V o6 f g j h c0 c1 c2 hW ej12 hfE hgE hjE hH hA
    have hFO := fwO_ok (k := k) (FW_0 (fun i _ _ => rfl)) r0 r1 (by omega) k1 c.toNat
    have hV : ∀ t : Int, 0 ≤ t → t < k → 0 ≤ V t ∧ V t ≤ 1000000000000 := fun t t0 t1 => by rw [hW t t0 t1]; exact hFO.bd t0 (by omega)
    have b0 := hV 0 (by omega) (by omega)
    have m0 := mul_r b0.1 b0.2 r0 r1
    have cc0 : cfI R k V 0 0 = V 0 := if_neg (by omega)
    refine z_ild_5 (TX7_few_0.at 34 rfl) ?_
    refine z_ild_2 (TX7_few_0.at 35 rfl) ?_
    refine z_icmp_ge (tgt := 148) (TX7_few_0.at 36 rfl) rfl (by omega) (by omega) (fun c1 => ?_) (fun c1 => ?_)
    · skip
      obtain rfl : c = m := by omega
      exact kx _ _ _ _ _ _ hW ej12 hfE hgE hjE hH hA
    · skip
      refine z_ild_1 (TX7_few_0.at 37 rfl) ?_
      refine z_iconst (TX7_few_0.at 38 rfl) ?_
      refine z_isub (TX7_few_0.at 39 rfl) ?_
      refine z_ist_6 (TX7_few_1.at 0 rfl) (Nat.le_of_ble_eq_true rfl) rfl ?_
      refine lp_cfew1 (m := m) (c := c) r0 r1 k0 k1 hV (fun f72 g72 j72 h ej12 xf xg xj hH hA => ?_) k.toNat (k - 1) _ _ _ _ (by omega) (by omega) (by omega) (by rw [ej12]; funext t; exact (if_neg (by omega)).symm) eqx.rf eqx.rf eqx.rf hH hA
      have hfE := hfE.trans xf (by decide)
      have hgE := hgE.trans xg (by decide)
      have hjE := hjE.trans xj (by decide)
      refine z_ald_0 (TX7_few_1.at 30 rfl) ?_
      refine zc_getA (m := 0) (s := 12) (k := 12) (hH.lv (by decide)) (TX7_few_1.at 31 rfl) fl7_71 hH rfl rfl (by decide) (by decide) ?_
      refine z_iconst (TX7_few_1.at 32 rfl) ?_
      refine z_ald_0 (TX7_few_1.at 33 rfl) ?_
      refine zc_getA (m := 0) (s := 12) (k := 12) (hH.lv (by decide)) (TX7_few_1.at 34 rfl) fl7_71 hH rfl rfl (by decide) (by decide) ?_
      refine z_iconst (TX7_few_1.at 35 rfl) ?_
      refine zcf_lald (k := 12) (N := 20) (hH.lv (by decide)) (by decide) rfl ej12 (TX7_few_1.at 36 rfl) hH (by decide) (by omega) (show _ < ((20 : Nat) : Int) by omega) (fun r132 => ?_)
      rw [cc0]
      refine z_ild_4 (TX7_few_1.at 37 rfl) ?_
      refine z_i2l (by omega) (TX7_few_1.at 38 rfl) ?_
      refine z_lmul (TX7_few_1.at 39 rfl) ?_
      refine z_ldc2 (v := 10) (TX7_few_2.at 0 rfl) k7_397 (by decide) ?_
      refine z_ldiv (by omega) (by omega) (TX7_few_2.at 1 rfl) ?_
      rw [zldivN (by rw [m0.2.1]; omega) (by rw [m0.2.1]; omega)]
      refine zcf_last (k := 12) (N := 20) (hH.lv (by decide)) (by decide) rfl (TX7_few_2.at 2 rfl) hH hA (by decide) (by omega) (show _ < ((20 : Nat) : Int) by omega) (by rw [m0.2.1]; omega) (fun h j141 e1 e2 hH hA => ?_)
      rw [ej12] at e2; have ej12 := e2
      have hjE := hjE.put e1 (by decide)
      refine z_iinc_5 (TX7_few_2.at 3 rfl) (Nat.le_of_ble_eq_true rfl) rfl ?_
      refine z_goto (tgt := 61) (TX7_few_2.at 4 rfl) rfl ?_
      exact ih (c + 1) _ _ _ _ _ _ (by omega) (by omega) (by omega) (by rw [show (c + 1).toNat = c.toNat + 1 by omega]; exact few_step k0 hW) ej12 hfE hgE hjE hH hA

set_option maxHeartbeats 4000000 in
set_option maxRecDepth 100000 in
theorem lp_cfew3 {l : Launch} {E : cE} {d : Nat} {Pz : Option Value → zH → Prop} {h0 : zH} {f0 : mF} {g0 : mA} {j : mA}  {V : Int → Int} {R k m : Int} (k1 : k ≤ 20) (kx : ∀ (f : mF) (g : mA) (h : zH), eqx [] f0 f → eqx [] g0 g → HC E f g j h → cAg E h0 h → Z l MX7_few d 0 0 Pz 178 [some (.ref (E.1 31)), some (vI k), some (vI m), some (vI R), some (vI (10 - R)), some (vL (sm V k)), none, some (vI k)] [] h 0 0)  : ∀ (n : Nat) (i : Int) (s : Int) (f : mF) (g : mA) (h : zH) (i0 : 0 ≤ i) (i1 : i ≤ k) (i2 : k < i + n) (es : s = sm V i) (ej12 : j 12 = V) (hfE : eqx [] f0 f) (hgE : eqx [] g0 g) (hH : HC E f g j h) (hA : cAg E h0 h), Z l MX7_few d 0 0 Pz 154 [some (.ref (E.1 31)), some (vI k), some (vI m), some (vI R), some (vI (10 - R)), some (vL s), none, some (vI i)] [] h 0 0 := by
  intro n
  induction n with
  | zero => intro i s f g h i0 i1 i2 es ej12 hfE hgE hH hA; exfalso; omega
  | succ n ih =>
    intro i s f g h i0 i1 i2 es ej12 hfE hgE hH hA
    refine z_ild_7 (TX7_few_2.at 9 rfl) ?_
    refine z_ild_1 (TX7_few_2.at 10 rfl) ?_
    refine z_icmp_ge (tgt := 178) (TX7_few_2.at 11 rfl) rfl (by omega) (by omega) (fun c1 => ?_) (fun c1 => ?_)
    · skip
      obtain rfl : i = k := by omega
      rw [es]
      exact kx _ _ _ hfE hgE hH hA
    · skip
      refine z_lld_5 (TX7_few_2.at 12 rfl) ?_
      refine z_ald_0 (TX7_few_2.at 13 rfl) ?_
      refine zc_getA (m := 0) (s := 12) (k := 12) (hH.lv (by decide)) (TX7_few_2.at 14 rfl) fl7_71 hH rfl rfl (by decide) (by decide) ?_
      refine z_ild_7 (TX7_few_2.at 15 rfl) ?_
      refine zcf_lald (k := 12) (N := 20) (hH.lv (by decide)) (by decide) rfl ej12 (TX7_few_2.at 16 rfl) hH (by decide) (by omega) (show _ < ((20 : Nat) : Int) by omega) (fun r168 => ?_)
      refine z_ladd (TX7_few_2.at 17 rfl) ?_
      refine z_lst_5 (TX7_few_2.at 18 rfl) (Nat.le_of_ble_eq_true rfl) rfl ?_
      refine z_iinc_7 (TX7_few_2.at 19 rfl) (Nat.le_of_ble_eq_true rfl) rfl ?_
      refine z_goto (tgt := 154) (TX7_few_2.at 20 rfl) rfl ?_
      exact ih (i + 1) _ _ _ _ (by omega) (by omega) (by omega) (by rw [es, sm_s i0]) ej12 hfE hgE hH hA

set_option maxHeartbeats 4000000 in
set_option maxRecDepth 100000 in
theorem c_few {l : Launch} {E : cE} {f : mF} {g j : mA} {Tm : Int → Int} {V : Int → Int} {k m : Int} {K : Int → Int} (eg44 : g 44 = Tm) (ej12 : j 12 = V) (hk : zIn k) (hm : zIn m) (r0 : 0 ≤ K 74) (r1 : K 74 ≤ 10) (t1 : Tm 1 = K 74) : CM l E MX7_few 1 [.ref (E.1 31), vI k, vI m] f g j (PL (fun r f' g' j' => (r = fewV (K 74) k m) ∧ eqx [] f f' ∧ eqx [] g g' ∧ eqx [12] j j')) := by
  refine CM.intro [some (.ref (E.1 31)), some (vI k), some (vI m), none, none, none, none, none] (by decide) (Nat.le_of_ble_eq_true rfl) rfl (fun d hd h0 h hH hA => ?_)
  have hfE : eqx [] f f := eqx.rf
  have hgE : eqx [] g g := eqx.rf
  have hjE : eqx [12] j j := eqx.rf
  refine z_ild_1 (TX7_few_0.at 0 rfl) ?_
  refine z_iconst (TX7_few_0.at 1 rfl) ?_
  refine z_icmp_lt (tgt := 21) (TX7_few_0.at 2 rfl) rfl (by omega) (by omega) (fun c1 => ?_) (fun c1 => ?_)
  · skip
    refine z_ldc2 (v := -1) (TX7_few_0.at 11 rfl) k7_387 (by decide) ?_
    refine zc_lret (TX7_few_0.at 12 rfl) rfl hH hA (by omega) ?_
    exact ⟨by unfold fewV; rw [if_neg (by omega)], hfE, hgE, hjE⟩
  · skip
    refine z_ild_1 (TX7_few_0.at 3 rfl) ?_
    refine z_bipush (by decide) (TX7_few_0.at 4 rfl) ?_
    refine z_icmp_gt (tgt := 21) (TX7_few_0.at 5 rfl) rfl (by omega) (by omega) (fun c2 => ?_) (fun c2 => ?_)
    · skip
      refine z_ldc2 (v := -1) (TX7_few_0.at 11 rfl) k7_387 (by decide) ?_
      refine zc_lret (TX7_few_0.at 12 rfl) rfl hH hA (by omega) ?_
      exact ⟨by unfold fewV; rw [if_neg (by omega)], hfE, hgE, hjE⟩
    · skip
      refine z_ild_2 (TX7_few_0.at 6 rfl) ?_
      refine z_if_lt (tgt := 21) (TX7_few_0.at 7 rfl) rfl (by omega) (fun c3 => ?_) (fun c3 => ?_)
      · skip
        refine z_ldc2 (v := -1) (TX7_few_0.at 11 rfl) k7_387 (by decide) ?_
        refine zc_lret (TX7_few_0.at 12 rfl) rfl hH hA (by omega) ?_
        exact ⟨by unfold fewV; rw [if_neg (by omega)], hfE, hgE, hjE⟩
      · skip
        refine z_ild_2 (TX7_few_0.at 8 rfl) ?_
        refine z_bipush (by decide) (TX7_few_0.at 9 rfl) ?_
        refine z_icmp_le (tgt := 25) (TX7_few_0.at 10 rfl) rfl (by omega) (by omega) (fun c4 => ?_) (fun c4 => ?_)
        · skip
          refine z_ald_0 (TX7_few_0.at 13 rfl) ?_
          refine zc_getO (m := 0) (s := 0) (k := 63) (hH.lv (by decide)) (TX7_few_0.at 14 rfl) fl7_12 hH rfl rfl (by decide) (by decide) ?_
          refine zc_getA (m := 1) (s := 12) (k := 44) (hH.lv (by decide)) (TX7_few_0.at 15 rfl) fl7_178 hH rfl rfl (by decide) (by decide) ?_
          refine z_iconst (TX7_few_0.at 16 rfl) ?_
          refine zcf_iald (k := 44) (N := 3) (hH.lv (by decide)) (by decide) rfl eg44 (TX7_few_0.at 17 rfl) hH (by decide) (by omega) (show _ < ((3 : Nat) : Int) by omega) (fun r33 => ?_)
          rw [t1]
          refine z_ist_3 (TX7_few_0.at 18 rfl) (Nat.le_of_ble_eq_true rfl) rfl ?_
          refine z_bipush (by decide) (TX7_few_0.at 19 rfl) ?_
          refine z_ild_3 (TX7_few_0.at 20 rfl) ?_
          refine z_isub (TX7_few_0.at 21 rfl) ?_
          refine z_ist_4 (TX7_few_0.at 22 rfl) (Nat.le_of_ble_eq_true rfl) rfl ?_
          refine z_ald_0 (TX7_few_0.at 23 rfl) ?_
          refine zc_getA (m := 0) (s := 12) (k := 12) (hH.lv (by decide)) (TX7_few_0.at 24 rfl) fl7_71 hH rfl rfl (by decide) (by decide) ?_
          refine z_lconst (v := 0) (by decide) (TX7_few_0.at 25 rfl) ?_
          refine zc_scallV (As := [_, _]) (c_fill ej12) (TX7_few_0.at 26 rfl) c7_389 rfl hH hA (by omega) (Nat.le_of_ble_eq_true rfl) (fun f46 g46 j46 h q46 hH hA => ?_)
          obtain ⟨q46, xf, xg, xj⟩ := q46
          have hfE := hfE.trans xf (by decide)
          have eg44 := (xg 44 (by decide)).trans eg44
          have hgE := hgE.trans xg (by decide)
          have hjE := hjE.trans xj (by decide)
          have qL := q46
          have ej12 := qL
          refine z_ald_0 (TX7_few_0.at 27 rfl) ?_
          refine zc_getA (m := 0) (s := 12) (k := 12) (hH.lv (by decide)) (TX7_few_0.at 28 rfl) fl7_71 hH rfl rfl (by decide) (by decide) ?_
          refine z_iconst (TX7_few_0.at 29 rfl) ?_
          refine z_ldc2 (v := 1000000000000) (TX7_few_0.at 30 rfl) k7_395 (by decide) ?_
          refine zcf_last (k := 12) (N := 20) (hH.lv (by decide)) (by decide) rfl (TX7_few_0.at 31 rfl) hH hA (by decide) (by omega) (show _ < ((20 : Nat) : Int) by omega) (by omega) (fun h j57 e1 e2 hH hA => ?_)
          rw [ej12] at e2; have ej12 := e2
          have hjE := hjE.put e1 (by decide)
          refine z_iconst (TX7_few_0.at 32 rfl) ?_
          refine z_ist_5 (TX7_few_0.at 33 rfl) (Nat.le_of_ble_eq_true rfl) rfl ?_
          refine lp_cfew2 (k := k) (m := m) (R := K 74) r0 r1 (by omega) (by omega) (by omega) (fun V9 o6 f61 g61 j61 h hVm ej12 xf xg xj hH hA => ?_) 100 0 _ none _ _ _ _ (by omega) (by omega) (by omega) (few_0 (by omega)) ej12 eqx.rf eqx.rf eqx.rf hH hA
          have hfE := hfE.trans xf (by decide)
          have eg44 := (xg 44 (by decide)).trans eg44
          have hgE := hgE.trans xg (by decide)
          have hjE := hjE.trans xj (by decide)
          have hFO := fwO_ok (k := k) (FW_0 (fun i _ _ => rfl)) r0 r1 (by omega) (by omega) m.toNat
          refine z_lconst (v := 0) (by decide) (TX7_few_2.at 5 rfl) ?_
          refine z_lst_5 (TX7_few_2.at 6 rfl) (Nat.le_of_ble_eq_true rfl) rfl ?_
          refine z_iconst (TX7_few_2.at 7 rfl) ?_
          refine z_ist_7 (TX7_few_2.at 8 rfl) (Nat.le_of_ble_eq_true rfl) rfl ?_
          refine lp_cfew3 (m := m) (by omega) (fun f3 g3 h3 xf xg hH hA => ?_) 21 0 0 _ _ _ (by omega) (by omega) (by omega) rfl ej12 eqx.rf eqx.rf hH hA
          have hsz := FW_sub hFO (k := k) (by omega) (by omega)
          have hse : sm V9 k = sm (fwO (K 74) k fw0 m.toNat) k := sm_cg hVm
          refine z_lld_5 (TX7_few_2.at 21 rfl) ?_
          refine zc_lret (TX7_few_2.at 22 rfl) rfl hH hA (by omega) ?_
          exact ⟨by unfold fewV; rw [if_pos (by omega)]; exact hse, hfE.trans xf (by decide), hgE.trans xg (by decide), hjE⟩
        · skip
          refine z_ldc2 (v := -1) (TX7_few_0.at 11 rfl) k7_387 (by decide) ?_
          refine zc_lret (TX7_few_0.at 12 rfl) rfl hH hA (by omega) ?_
          exact ⟨by unfold fewV; rw [if_neg (by omega)], hfE, hgE, hjE⟩

