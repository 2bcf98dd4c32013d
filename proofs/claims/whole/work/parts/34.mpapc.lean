/-! ===== the reference: best, even, centre, measured ===== -/
theorem bt_all {n i : Int} (h0 : 0 ≤ n) (h1 : n ≤ 30) (hi : 0 ≤ i) : bt (zshl 1 n - 1) i ↔ i < n := by
  rw [zshl_one h0 h1]
  have e : (((2 ^ n.toNat : Nat) : Int) - 1).toNat = 2 ^ n.toNat - 1 := by omega
  unfold bt
  rw [e, Nat.testBit_two_pow_sub_one, decide_eq_true_iff]
  omega
theorem all_31 {n : Int} (h0 : 0 ≤ n) (h1 : n ≤ 10) : z31 (zshl 1 n - 1) := by
  rw [zshl_one h0 (by omega)]
  have h2 : (2 ^ n.toNat : Nat) ≤ 2 ^ 10 := Nat.pow_le_pow_right (by decide) (by omega)
  have h4 : (2 ^ 10 : Nat) = 1024 := by decide
  have h5 : 0 < (2 ^ n.toNat : Nat) := Nat.pow_pos (by decide)
  exact ⟨by omega, by omega⟩
theorem bt_1023 {i : Int} (hi : 0 ≤ i) (h : i < 10) : bt 1023 i := by
  have := (bt_all (n := 10) (i := i) (by decide) (by decide) hi).mpr h
  rwa [show zshl 1 10 - 1 = 1023 by decide] at this
theorem laP_all {K : Int → Int} {cl : List Cla} {q : Int} (h : KOK K) : laP K cl q (zshl 1 (K 76) - 1) = laP K cl q 1023 := by
  have hn := h.1
  refine lastN_cg _ (fun t h0 h1 => ⟨rfl, fun _ => bt_1023 h0 (by omega), fun _ => (bt_all hn.1 (by omega) h0).mpr (by omega)⟩)
theorem laP_in {K : Int → Int} {cl : List Cla} {q s : Int} (h : KOK K) : 0 ≤ laP K cl q s ∧ laP K cl q s ≤ 1001000 := lastN_in (by decide) _ (fun t h0 h1 => (oK_in h (cmP_ok h) h0 (by have := h.1; omega)).2)
theorem shl_in {i : Int} (h0 : 0 ≤ i) (h1 : i ≤ 10) : 1 ≤ zshl 1 i ∧ zshl 1 i ≤ 1024 := by
  rw [zshl_one h0 (by omega)]
  have h2 : (2 ^ i.toNat : Nat) ≤ 2 ^ 10 := Nat.pow_le_pow_right (by decide) (by omega)
  have h4 : (2 ^ 10 : Nat) = 1024 := by decide
  have h5 : 0 < (2 ^ i.toNat : Nat) := Nat.pow_pos (by decide)
  omega
set_option maxHeartbeats 4000000 in
set_option maxRecDepth 100000 in
theorem m_allFuses {l : Launch} {o : Nat} {ar : Nat → Nat} {f : mF} {g j : mA}  (hn : 0 ≤ g 2 76 ∧ g 2 76 ≤ 10) : MMP l o ar MX8_allFuses 1 [.ref o] f g j (zshl 1 (g 2 76) - 1) := by
  refine MM.intro [some (.ref o)] (by decide) (Nat.le_of_ble_eq_true rfl) rfl (fun d hd h0 h hH hA => ?_)
  have hz := all_31 hn.1 hn.2
  refine z_iconst (TX8_allFuses.at 0 rfl) ?_
  refine z_ald_0 (TX8_allFuses.at 1 rfl) ?_
  refine zm_callP0 (m_fuseMany ) (TX8_allFuses.at 2 rfl) c8_109 rfl rfl hH hA (by omega) (Nat.le_of_ble_eq_true rfl) (fun h r2 hH hA => ?_)
  refine z_ishl (TX8_allFuses.at 3 rfl) ?_
  refine z_iconst (TX8_allFuses.at 4 rfl) ?_
  refine z_isub (TX8_allFuses.at 5 rfl) ?_
  refine zm_iret (TX8_allFuses.at 6 rfl) rfl hH hA (by omega) ?_
  exact ⟨rfl, rfl, rfl, rfl⟩

theorem cnt_s {s i : Int} (h : 0 ≤ i) : cnt s (i + 1).toNat = cnt s i.toNat + b2i (bt s i) := by
  rw [show (i + 1).toNat = i.toNat + 1 by omega, cnt, show ((i.toNat : Nat) : Int) = i by omega]
set_option maxHeartbeats 4000000 in
set_option maxRecDepth 100000 in
theorem lp_ones {l : Launch} {d : Nat} {Pz : Option Value → zH → Prop} {h : zH}  {s : Int} (hs : z31 s) (kx : Z l MX8_ones d 0 0 Pz 24 [some (vI s), some (vI (cnt s 10)), some (vI 10)] [] h 0 0) : ∀ (n : Nat) (i : Int) (m : Int) (i0 : 0 ≤ i) (i1 : i ≤ 10) (i2 : 10 < i + n) (im : m = cnt s i.toNat), Z l MX8_ones d 0 0 Pz 4 [some (vI s), some (vI m), some (vI i)] [] h 0 0 := by
  intro n
  induction n with
  | zero => intro i m i0 i1 i2 im; exfalso; omega
  | succ n ih =>
    intro i m i0 i1 i2 im
    have hc := cnt_le s i.toNat
    refine z_ild_2 (TX8_ones.at 4 rfl) ?_
    refine z_bipush (by decide) (TX8_ones.at 5 rfl) ?_
    refine z_icmp_ge (tgt := 24) (TX8_ones.at 6 rfl) rfl (by omega) (by omega) (fun c1 => ?_) (fun c1 => ?_)
    · skip
      obtain rfl : i = 10 := by omega
      rw [im]
      exact kx
    · skip
      refine z_ild_1 (TX8_ones.at 7 rfl) ?_
      refine z_ild_0 (TX8_ones.at 8 rfl) ?_
      refine z_ild_2 (TX8_ones.at 9 rfl) ?_
      refine z_ishr (TX8_ones.at 10 rfl) ?_
      refine z_iconst (TX8_ones.at 11 rfl) ?_
      refine z_iand (TX8_ones.at 12 rfl) ?_
      rw [z_bit hs i0 (by omega)]
      have hb2 := b2i_01 (bt s i)
      refine z_iadd (TX8_ones.at 13 rfl) ?_
      refine z_ist_1 (TX8_ones.at 14 rfl) (Nat.le_of_ble_eq_true rfl) rfl ?_
      refine z_iinc_2 (TX8_ones.at 15 rfl) (Nat.le_of_ble_eq_true rfl) rfl ?_
      refine z_goto (tgt := 4) (TX8_ones.at 16 rfl) rfl ?_
      exact ih (i + 1) _ (by omega) (by omega) (by omega) (by rw [im, cnt_s i0])

set_option maxHeartbeats 4000000 in
set_option maxRecDepth 100000 in
theorem s_ones {l : Launch} {s : Int} (hs : z31 s) : SI l MX8_ones 0 [vI s] (cnt s 10) := by
  have hc := cnt_le s 10
  refine SI.intro [some (vI s), none, none] (by omega) (by decide) (Nat.le_of_ble_eq_true rfl) rfl (fun d hd h => ?_)
  refine z_iconst (TX8_ones.at 0 rfl) ?_
  refine z_ist_1 (TX8_ones.at 1 rfl) (Nat.le_of_ble_eq_true rfl) rfl ?_
  refine z_iconst (TX8_ones.at 2 rfl) ?_
  refine z_ist_2 (TX8_ones.at 3 rfl) (Nat.le_of_ble_eq_true rfl) rfl ?_
  refine lp_ones hs ?_ 11 0 0 (by omega) (by omega) (by omega) rfl
  refine z_ild_1 (TX8_ones.at 17 rfl) ?_
  exact zs_iret (TX8_ones.at 18 rfl) rfl rfl
def bestS (K : Int → Int) (cl : List Cla) (n : Int) : Int × Int := srch (fun q => decide (cnt q 10 = n)) (fun q => laP K cl q 1023) 256
def bestV (K : Int → Int) (cl : List Cla) (n w : Int) : Int := if (1 ≤ n ∧ n ≤ 3) ∧ 0 ≤ w ∧ w ≤ 1 then srchR (bestS K cl n) (w = 1) else -1
set_option maxHeartbeats 4000000 in
set_option maxRecDepth 100000 in
theorem lp_best {l : Launch} {o : Nat} {ar : Nat → Nat} {d : Nat} {Pz : Option Value → zH → Prop} {h0 : zH} {f0 : mF} {g0 : mA} {j : mA} (hd : 60 ≤ d) {K B Hd : Int → Int} {cl : List Cla} {m w : Int} (hm : 1 ≤ m ∧ m ≤ 3) (hK : KOK K) (hT : TmOK K cl B Hd) (kx : ∀ (a b : Int) (o6 : Option Value) (C : Int → Int) (f : mF) (g : mA) (h : zH), (a, b) = srch (fun q => decide (cnt q 10 = m)) (fun q => laP K cl q 1023) 256 → g 2 = K → g 30 = B → g 31 = Hd → g 32 = C → f 33 = ctS K cl → eqx [] f0 f → eqx [32] g0 g → HM o ar f g j h → zAg o ar h0 h → Z l MX8_best d 0 0 Pz 96 [some (.ref o), some (vI m), some (vI w), some (vI b), some (vI a), some (vI 256), o6] [] h 0 0)  : ∀ (n : Nat) (q : Int) (a : Int) (b : Int) (o6 : Option Value) (C : Int → Int) (f : mF) (g : mA) (h : zH) (q0 : 0 ≤ q) (q1 : q ≤ 256) (q2 : 256 < q + n) (es : (a, b) = srch (fun q => decide (cnt q 10 = m)) (fun q => laP K cl q 1023) q.toNat) (eg2 : g 2 = K) (eg30 : g 30 = B) (eg31 : g 31 = Hd) (eg32 : g 32 = C) (ef33 : f 33 = ctS K cl) (hfE : eqx [] f0 f) (hgE : eqx [32] g0 g) (hH : HM o ar f g j h) (hA : zAg o ar h0 h), Z l MX8_best d 0 0 Pz 33 [some (.ref o), some (vI m), some (vI w), some (vI b), some (vI a), some (vI q), o6] [] h 0 0 := by
  intro n
  induction n with
  | zero => intro q a b o6 C f g h q0 q1 q2 es eg2 eg30 eg31 eg32 ef33 hfE hgE hH hA; exfalso; omega
  | succ n ih =>
    intro q a b o6 C f g h q0 q1 q2 es eg2 eg30 eg31 eg32 ef33 hfE hgE hH hA
    have hn := hK.1
    have hcs := ctS_31 (cl := cl) hK
    have hsi := srch_in (p := (fun q => decide (cnt q 10 = m))) (v := (fun q => laP K cl q 1023)) q.toNat (fun t _ _ => (laP_in hK).1)
    rw [← es] at hsi
    simp only at hsi
    refine z_ild_5 (TX8_best.at 20 rfl) ?_
    refine z_sipush (by decide) (TX8_best.at 21 rfl) ?_
    refine z_icmp_ge (tgt := 96) (TX8_best.at 22 rfl) rfl (by omega) (by omega) (fun c1 => ?_) (fun c1 => ?_)
    · skip
      obtain rfl : q = 256 := by omega
      exact kx a b _ _ _ _ _ es eg2 eg30 eg31 eg32 ef33 hfE hgE hH hA
    · skip
      refine z_ild_5 (TX8_best.at 23 rfl) ?_
      refine zs_call1 (s_ones (by omega)) (TX8_best.at 24 rfl) c8_396 rfl (by omega) (Nat.le_of_ble_eq_true rfl) (fun r43 => ?_)
      refine z_ild_1 (TX8_best.at 25 rfl) ?_
      refine z_icmp_eq (tgt := 53) (TX8_best.at 26 rfl) rfl (by omega) (by omega) (fun c2 => ?_) (fun c2 => ?_)
      · skip
        refine z_ald_0 (TX8_best.at 28 rfl) ?_
        refine z_ild_5 (TX8_best.at 29 rfl) ?_
        refine z_ald_0 (TX8_best.at 30 rfl) ?_
        refine zm_getIE ef33 (TX8_best.at 31 rfl) fl8_333 hH rfl (by decide) (fun r57 => ?_)
        refine zm_callV2 (m_firesFrom eg2 eg30 eg31 rfl (by omega) (by omega) (by omega) hcs hn.1 hn.2 (hT.fr hK)) (TX8_best.at 32 rfl) c8_387 rfl rfl hH hA (by omega) (Nat.le_of_ble_eq_true rfl) (fun f60 g60 j60 h q60 hH hA => ?_)
        obtain ⟨q60, xf, xg, xj⟩ := q60
        rw [xj] at hH
        have ef33 := (xf 33 (by decide)).trans ef33
        have hfE := hfE.trans xf (by decide)
        have eg2 := (xg 2 (by decide)).trans eg2
        have eg30 := (xg 30 (by decide)).trans eg30
        have eg31 := (xg 31 (by decide)).trans eg31
        have hgE := hgE.trans xg (by decide)
        have qL := q60
        obtain ⟨C, eg32⟩ : ∃ z, g60 32 = z := ⟨_, rfl⟩
        rw [eg32, hT.dist hK] at qL
        have hD : ag8 C (cmP K cl q) := qL
        have hCD : COK (cmP K cl q) := cmP_ok hK
        refine z_ald_0 (TX8_best.at 33 rfl) ?_
        refine z_ald_0 (TX8_best.at 34 rfl) ?_
        refine zm_callP0 (m_allFuses (by rw [eg2]; exact hn)) (TX8_best.at 35 rfl) c8_399 rfl rfl hH hA (by omega) (Nat.le_of_ble_eq_true rfl) (fun h r65 hH hA => ?_)
        rw [eg2] at r65 ⊢
        refine zm_callI1 (m_lastOf (cl := cl) (D := cmP K cl q) eg2 eg30 eg31 eg32 ef33 (by omega) hcs (all_31 hn.1 hn.2) hK hT hD hCD) (TX8_best.at 36 rfl) c8_393 rfl rfl hH hA (by omega) (Nat.le_of_ble_eq_true rfl) (fun x68 f68 g68 j68 h r68 q68 hH hA => ?_)
        obtain ⟨q68, xf, xg, xj⟩ := q68
        rw [xj] at hH
        have ef33 := (xf 33 (by decide)).trans ef33
        have hfE := hfE.trans xf (by decide)
        have eg2 := (xg 2 (by decide)).trans eg2
        have eg30 := (xg 30 (by decide)).trans eg30
        have eg31 := (xg 31 (by decide)).trans eg31
        have eg32 := (xg 32 (by decide)).trans eg32
        have hgE := hgE.trans xg (by decide)
        have qL := q68
        rw [qL, show lastN (oK K cl (ctS K cl) (cmP K cl q)) (zshl 1 (K 76) - 1) (K 76).toNat = laP K cl q (zshl 1 (K 76) - 1) from rfl, laP_all hK] at r68 ⊢
        have hla := laP_in (cl := cl) (q := q) (s := 1023) hK
        refine z_ist_6 (TX8_best.at 37 rfl) (Nat.le_of_ble_eq_true rfl) rfl ?_
        refine z_ild_6 (TX8_best.at 38 rfl) ?_
        refine z_ild_4 (TX8_best.at 39 rfl) ?_
        refine z_icmp_lt (tgt := 83) (TX8_best.at 40 rfl) rfl (by omega) (by omega) (fun c3 => ?_) (fun c3 => ?_)
        · skip
          refine z_ild_6 (TX8_best.at 42 rfl) ?_
          refine z_ist_4 (TX8_best.at 43 rfl) (Nat.le_of_ble_eq_true rfl) rfl ?_
          refine z_ild_5 (TX8_best.at 44 rfl) ?_
          refine z_ist_3 (TX8_best.at 45 rfl) (Nat.le_of_ble_eq_true rfl) rfl ?_
          refine z_iinc_5 (TX8_best.at 46 rfl) (Nat.le_of_ble_eq_true rfl) rfl ?_
          refine z_goto (tgt := 33) (TX8_best.at 47 rfl) rfl ?_
          exact ih (q + 1) _ _ _ _ _ _ _ (by omega) (by omega) (by omega) (by first | exact srch_t q0 es (decide_eq_true (by omega)) (by omega) | exact srch_f q0 es (fun z => absurd (of_decide_eq_true z.1) (by omega)) | exact srch_f q0 es (fun z => absurd z.2 (by first | omega | (simp only; omega)))) eg2 eg30 eg31 eg32 ef33 hfE hgE hH hA
        · skip
          refine z_goto (tgt := 90) (TX8_best.at 41 rfl) rfl ?_
          refine z_iinc_5 (TX8_best.at 46 rfl) (Nat.le_of_ble_eq_true rfl) rfl ?_
          refine z_goto (tgt := 33) (TX8_best.at 47 rfl) rfl ?_
          exact ih (q + 1) _ _ _ _ _ _ _ (by omega) (by omega) (by omega) (by first | exact srch_t q0 es (decide_eq_true (by omega)) (by omega) | exact srch_f q0 es (fun z => absurd (of_decide_eq_true z.1) (by omega)) | exact srch_f q0 es (fun z => absurd z.2 (by first | omega | (simp only; omega)))) eg2 eg30 eg31 eg32 ef33 hfE hgE hH hA
      · skip
        refine z_goto (tgt := 90) (TX8_best.at 27 rfl) rfl ?_
        refine z_iinc_5 (TX8_best.at 46 rfl) (Nat.le_of_ble_eq_true rfl) rfl ?_
        refine z_goto (tgt := 33) (TX8_best.at 47 rfl) rfl ?_
        exact ih (q + 1) _ _ _ _ _ _ _ (by omega) (by omega) (by omega) (by first | exact srch_t q0 es (decide_eq_true (by omega)) (by omega) | exact srch_f q0 es (fun z => absurd (of_decide_eq_true z.1) (by omega)) | exact srch_f q0 es (fun z => absurd z.2 (by first | omega | (simp only; omega)))) eg2 eg30 eg31 eg32 ef33 hfE hgE hH hA

set_option maxHeartbeats 4000000 in
set_option maxRecDepth 100000 in
theorem m_best {l : Launch} {o : Nat} {ar : Nat → Nat} {f : mF} {g j : mA} {K : Int → Int} {m w : Int} {cl : List Cla} (eg2 : g 2 = K) (hm : zIn m) (hw : zIn w) (hK : KOK K) (hL : LawK K cl) : MM l o ar MX8_best 61 [.ref o, vI m, vI w] f g j (PI (fun r f' g' j' => (r = bestV K cl m w) ∧ eqx [22, 23, 24, 25, 33] f f' ∧ eqx [26, 30, 31, 32] g g' ∧ j' = j)) := by
  refine MM.intro [some (.ref o), some (vI m), some (vI w), none, none, none, none] (by decide) (Nat.le_of_ble_eq_true rfl) rfl (fun d hd h0 h hH hA => ?_)
  have hfE : eqx [22, 23, 24, 25, 33] f f := eqx.rf
  have hgE : eqx [26, 30, 31, 32] g g := eqx.rf
  have hn := hK.1
  have hcs := ctS_31 (cl := cl) hK
  refine z_ild_1 (TX8_best.at 0 rfl) ?_
  refine z_iconst (TX8_best.at 1 rfl) ?_
  refine z_iconst (TX8_best.at 2 rfl) ?_
  refine zs_call3 (s_lies (by omega) (by omega) (by omega)) (TX8_best.at 3 rfl) c8_18 rfl (by omega) (Nat.le_of_ble_eq_true rfl) (fun r3 => ?_)
  refine z_if_eqB (tgt := 18) (TX8_best.at 4 rfl) rfl (fun c1 => ?_) (fun c1 => ?_)
  · skip
    refine z_iconst (TX8_best.at 10 rfl) ?_
    refine zm_iret (TX8_best.at 11 rfl) rfl hH hA (by omega) ?_
    exact ⟨by unfold bestV; rw [if_neg (by omega)], hfE, hgE, rfl⟩
  · skip
    refine z_ild_2 (TX8_best.at 5 rfl) ?_
    refine z_iconst (TX8_best.at 6 rfl) ?_
    refine z_iconst (TX8_best.at 7 rfl) ?_
    refine zs_call3 (s_lies (by omega) (by omega) (by omega)) (TX8_best.at 8 rfl) c8_18 rfl (by omega) (Nat.le_of_ble_eq_true rfl) (fun r12 => ?_)
    refine z_if_neB (tgt := 20) (TX8_best.at 9 rfl) rfl (fun c2 => ?_) (fun c2 => ?_)
    · skip
      refine z_ald_0 (TX8_best.at 12 rfl) ?_
      refine zm_callV0 (m_laysTimes eg2 rfl rfl rfl hK.lawH hL) (TX8_best.at 13 rfl) c8_348 rfl rfl hH hA (by omega) (Nat.le_of_ble_eq_true rfl) (fun f21 g21 j21 h q21 hH hA => ?_)
      obtain ⟨q21, xf, xg, xj⟩ := q21
      rw [xj] at hH
      have hfE := hfE.trans xf (by decide)
      have eg2 := (xg 2 (by decide)).trans eg2
      have hgE := hgE.trans xg (by decide)
      have qL := q21
      obtain ⟨B, eg30⟩ : ∃ z, g21 30 = z := ⟨_, rfl⟩
      obtain ⟨Hd, eg31⟩ : ∃ z, g21 31 = z := ⟨_, rfl⟩
      have ef33 := qL.2.2
      rw [show msk (fun t => decide (ctc K cl t)) (K 76).toNat = ctS K cl from rfl] at ef33
      have hT : TmOK K cl B Hd := tm_of hK (eg30.symm.trans qL.1) (eg31.symm.trans qL.2.1)
      refine z_iconst (TX8_best.at 14 rfl) ?_
      refine z_ist_3 (TX8_best.at 15 rfl) (Nat.le_of_ble_eq_true rfl) rfl ?_
      refine z_ldc (v := 1000000) (TX8_best.at 16 rfl) k8_169 (by decide) ?_
      refine z_ist_4 (TX8_best.at 17 rfl) (Nat.le_of_ble_eq_true rfl) rfl ?_
      refine z_iconst (TX8_best.at 18 rfl) ?_
      refine z_ist_5 (TX8_best.at 19 rfl) (Nat.le_of_ble_eq_true rfl) rfl ?_
      refine lp_best (by omega) (m := m) (w := w) (by omega) hK hT (fun a b o6 C f33 g33 h es eg2 eg30 eg31 eg32 ef33 xf xg hH hA => ?_) 257 0 1000000 (-1) none _ _ _ _ (by omega) (by omega) (by omega) rfl eg2 eg30 eg31 rfl ef33 eqx.rf eqx.rf hH hA
      have hfE := hfE.trans xf (by decide)
      have hgE := hgE.trans xg (by decide)
      have hsi := srch_in (p := (fun q => decide (cnt q 10 = m))) (v := (fun q => laP K cl q 1023)) 256 (fun t _ _ => (laP_in hK).1)
      rw [← es] at hsi
      simp only at hsi
      refine z_ild_3 (TX8_best.at 48 rfl) ?_
      refine z_iconst (TX8_best.at 49 rfl) ?_
      refine z_icmp_eq (tgt := 106) (TX8_best.at 50 rfl) rfl (by omega) (by omega) (fun c3 => ?_) (fun c3 => ?_)
      · skip
        refine z_ild_3 (TX8_best.at 54 rfl) ?_
        refine z_goto (tgt := 112) (TX8_best.at 55 rfl) rfl ?_
        refine zm_iret (TX8_best.at 57 rfl) rfl hH hA (by omega) ?_
        exact ⟨by unfold bestV srchR bestS; rw [if_pos (by omega), ← es]; simp only; first | (rw [if_pos (by omega)]; done) | (rw [if_neg (by omega)]; done), hfE, hgE, rfl⟩
      · skip
        refine z_ild_2 (TX8_best.at 51 rfl) ?_
        refine z_iconst (TX8_best.at 52 rfl) ?_
        refine z_icmp_ne (tgt := 110) (TX8_best.at 53 rfl) rfl (by omega) (by omega) (fun c4 => ?_) (fun c4 => ?_)
        · skip
          refine z_ild_4 (TX8_best.at 56 rfl) ?_
          refine zm_iret (TX8_best.at 57 rfl) rfl hH hA (by omega) ?_
          exact ⟨by unfold bestV srchR bestS; rw [if_pos (by omega), ← es]; simp only; first | (rw [if_pos (by omega)]; done) | (rw [if_neg (by omega)]; done), hfE, hgE, rfl⟩
        · skip
          refine z_ild_3 (TX8_best.at 54 rfl) ?_
          refine z_goto (tgt := 112) (TX8_best.at 55 rfl) rfl ?_
          refine zm_iret (TX8_best.at 57 rfl) rfl hH hA (by omega) ?_
          exact ⟨by unfold bestV srchR bestS; rw [if_pos (by omega), ← es]; simp only; first | (rw [if_pos (by omega)]; done) | (rw [if_neg (by omega)]; done), hfE, hgE, rfl⟩
    · skip
      refine z_iconst (TX8_best.at 10 rfl) ?_
      refine zm_iret (TX8_best.at 11 rfl) rfl hH hA (by omega) ?_
      exact ⟨by unfold bestV; rw [if_neg (by omega)], hfE, hgE, rfl⟩

def unevF (v : Int → Int) (n : Nat) : Int := if mosN v n = 1000000 then 1000000 else mosN v n - leaN v n
def letP (K : Int → Int) (cl : List Cla) (q i : Int) : Int := laP K cl q (K (59 + i))
def evenS (K : Int → Int) (cl : List Cla) : Int × Int := srch (fun _ => true) (fun k => unevF (letP K cl (zshl 1 k)) (K 77).toNat) 8
def evenV (K : Int → Int) (cl : List Cla) (w : Int) : Int := if (0 ≤ w ∧ w ≤ 1) ∧ K 77 ≠ 0 then srchR (evenS K cl) (w = 0) else -1
set_option maxHeartbeats 4000000 in
set_option maxRecDepth 100000 in
theorem lp_uneven {l : Launch} {o : Nat} {ar : Nat → Nat} {d : Nat} {Pz : Option Value → zH → Prop} {h0 : zH} {f0 : mF} {g0 : mA} {j : mA} (hd : 10 ≤ d) {K B Hd : Int → Int} {cl : List Cla} {q : Int} (hK : KOK K) (hT : TmOK K cl B Hd) (kx : ∀ (a b : Int) (o4 : Option Value) (C : Int → Int) (f : mF) (g : mA) (h : zH), a = leaN (letP K cl q) (K 77).toNat → b = mosN (letP K cl q) (K 77).toNat → g 2 = K → g 30 = B → g 31 = Hd → g 32 = C → f 33 = ctS K cl → eqx [] f0 f → eqx [] g0 g → HM o ar f g j h → zAg o ar h0 h → Z l MX8_uneven d 0 0 Pz 53 [some (.ref o), some (vI a), some (vI b), some (vI (K 77)), o4] [] h 0 0)  : ∀ (n : Nat) (i : Int) (a : Int) (b : Int) (o4 : Option Value) (C : Int → Int) (f : mF) (g : mA) (h : zH) (i0 : 0 ≤ i) (i1 : i ≤ K 77) (i2 : K 77 < i + n) (ea : a = leaN (letP K cl q) i.toNat) (eb : b = mosN (letP K cl q) i.toNat) (hD : ag8 C (cmP K cl q)) (eg2 : g 2 = K) (eg30 : g 30 = B) (eg31 : g 31 = Hd) (eg32 : g 32 = C) (ef33 : f 33 = ctS K cl) (hfE : eqx [] f0 f) (hgE : eqx [] g0 g) (hH : HM o ar f g j h) (hA : zAg o ar h0 h), Z l MX8_uneven d 0 0 Pz 7 [some (.ref o), some (vI a), some (vI b), some (vI i), o4] [] h 0 0 := by
  intro n
  induction n with
  | zero => intro i a b o4 C f g h i0 i1 i2 ea eb hD eg2 eg30 eg31 eg32 ef33 hfE hgE hH hA; exfalso; omega
  | succ n ih =>
    intro i a b o4 C f g h i0 i1 i2 ea eb hD eg2 eg30 eg31 eg32 ef33 hfE hgE hH hA
    have hn := hK.1
    have hcs := ctS_31 (cl := cl) hK
    have hCD : COK (cmP K cl q) := cmP_ok hK
    have hln := hK.2.2.2.2.1
    have ha := leaN_in (v := letP K cl q) i.toNat (fun t _ _ => (laP_in hK).1)
    have hb := mosN_in (v := letP K cl q) (b := 1001000) (by decide) i.toNat (fun t _ _ => (laP_in hK).2)
    rw [← ea] at ha
    rw [← eb] at hb
    refine z_ild_3 (TX8_uneven.at 6 rfl) ?_
    refine z_ald_0 (TX8_uneven.at 7 rfl) ?_
    refine zm_getA (TX8_uneven.at 8 rfl) fl8_28 hH (by decide) (by decide) ?_
    refine z_bipush (by decide) (TX8_uneven.at 9 rfl) ?_
    refine zm_ialdE eg2 (TX8_uneven.at 10 rfl) hH rfl (by omega) (show _ < ((5688 : Nat) : Int) by omega) (fun r14 => ?_)
    refine z_icmp_ge (tgt := 53) (TX8_uneven.at 11 rfl) rfl (by omega) (by omega) (fun c1 => ?_) (fun c1 => ?_)
    · skip
      obtain rfl : i = K 77 := by omega
      exact kx a b _ _ _ _ _ ea eb eg2 eg30 eg31 eg32 ef33 hfE hgE hH hA
    · skip
      refine z_ald_0 (TX8_uneven.at 12 rfl) ?_
      refine z_ald_0 (TX8_uneven.at 13 rfl) ?_
      refine zm_getA (TX8_uneven.at 14 rfl) fl8_28 hH (by decide) (by decide) ?_
      refine z_bipush (by decide) (TX8_uneven.at 15 rfl) ?_
      refine z_ild_3 (TX8_uneven.at 16 rfl) ?_
      refine z_iadd (TX8_uneven.at 17 rfl) ?_
      refine zm_ialdE eg2 (TX8_uneven.at 18 rfl) hH rfl (by omega) (show _ < ((5688 : Nat) : Int) by omega) (fun r27 => ?_)
      have hlt := hK.2.2.2.2.2.1 i (by omega) (by omega)
      refine zm_callI1 (m_lastOf (cl := cl) (D := cmP K cl q) eg2 eg30 eg31 eg32 ef33 (by omega) hcs (by omega) hK hT hD hCD) (TX8_uneven.at 19 rfl) c8_393 rfl rfl hH hA (by omega) (Nat.le_of_ble_eq_true rfl) (fun x28 f28 g28 j28 h r28 q28 hH hA => ?_)
      obtain ⟨q28, xf, xg, xj⟩ := q28
      rw [xj] at hH
      have ef33 := (xf 33 (by decide)).trans ef33
      have hfE := hfE.trans xf (by decide)
      have eg2 := (xg 2 (by decide)).trans eg2
      have eg30 := (xg 30 (by decide)).trans eg30
      have eg31 := (xg 31 (by decide)).trans eg31
      have eg32 := (xg 32 (by decide)).trans eg32
      have hgE := hgE.trans xg (by decide)
      have qL := q28
      rw [qL, show lastN (oK K cl (ctS K cl) (cmP K cl q)) (K (59 + i)) (K 76).toNat = laP K cl q (K (59 + i)) from rfl] at r28 ⊢
      refine z_ist_4 (TX8_uneven.at 20 rfl) (Nat.le_of_ble_eq_true rfl) rfl ?_
      refine z_ild_1 (TX8_uneven.at 21 rfl) ?_
      refine z_ild_4 (TX8_uneven.at 22 rfl) ?_
      refine zs_call2 (s_lesser (by omega) (by omega)) (TX8_uneven.at 23 rfl) c8_336 rfl (by omega) (Nat.le_of_ble_eq_true rfl) (fun r36 => ?_)
      refine z_ist_1 (TX8_uneven.at 24 rfl) (Nat.le_of_ble_eq_true rfl) rfl ?_
      refine z_ild_2 (TX8_uneven.at 25 rfl) ?_
      refine z_ild_4 (TX8_uneven.at 26 rfl) ?_
      refine zs_call2 (s_greater (by omega) (by omega)) (TX8_uneven.at 27 rfl) c8_390 rfl (by omega) (Nat.le_of_ble_eq_true rfl) (fun r43 => ?_)
      refine z_ist_2 (TX8_uneven.at 28 rfl) (Nat.le_of_ble_eq_true rfl) rfl ?_
      refine z_iinc_3 (TX8_uneven.at 29 rfl) (Nat.le_of_ble_eq_true rfl) rfl ?_
      refine z_goto (tgt := 7) (TX8_uneven.at 30 rfl) rfl ?_
      exact ih (i + 1) _ _ _ _ _ _ _ (by omega) (by omega) (by omega) (by rw [ea, leaN_s i0]; rfl) (by rw [eb, mosN_s i0]; rfl) hD eg2 eg30 eg31 eg32 ef33 hfE hgE hH hA

set_option maxHeartbeats 4000000 in
set_option maxRecDepth 100000 in
theorem m_uneven {l : Launch} {o : Nat} {ar : Nat → Nat} {f : mF} {g j : mA} {K : Int → Int} {B : Int → Int} {Hd : Int → Int} {C : Int → Int} {cl : List Cla} {q : Int} (eg2 : g 2 = K) (eg30 : g 30 = B) (eg31 : g 31 = Hd) (eg32 : g 32 = C) (ef33 : f 33 = ctS K cl) (hK : KOK K) (hT : TmOK K cl B Hd) (hD : ag8 C (cmP K cl q)) : MM l o ar MX8_uneven 11 [.ref o] f g j (PI (fun r f' g' j' => (r = unevF (letP K cl q) (K 77).toNat) ∧ eqx [] f f' ∧ eqx [] g g' ∧ j' = j)) := by
  refine MM.intro [some (.ref o), none, none, none, none] (by decide) (Nat.le_of_ble_eq_true rfl) rfl (fun d hd h0 h hH hA => ?_)
  have hfE : eqx [] f f := eqx.rf
  have hgE : eqx [] g g := eqx.rf
  have hn := hK.1
  have hln := hK.2.2.2.2.1
  have ha := leaN_in (v := letP K cl q) (K 77).toNat (fun t _ _ => (laP_in hK).1)
  have hb := mosN_in (v := letP K cl q) (b := 1001000) (by decide) (K 77).toNat (fun t _ _ => (laP_in hK).2)
  refine z_ldc (v := 1000000) (TX8_uneven.at 0 rfl) k8_169 (by decide) ?_
  refine z_ist_1 (TX8_uneven.at 1 rfl) (Nat.le_of_ble_eq_true rfl) rfl ?_
  refine z_iconst (TX8_uneven.at 2 rfl) ?_
  refine z_ist_2 (TX8_uneven.at 3 rfl) (Nat.le_of_ble_eq_true rfl) rfl ?_
  refine z_iconst (TX8_uneven.at 4 rfl) ?_
  refine z_ist_3 (TX8_uneven.at 5 rfl) (Nat.le_of_ble_eq_true rfl) rfl ?_
  refine lp_uneven (q := q) (by omega) hK hT (fun a b o4 C f7 g7 h ea eb eg2 eg30 eg31 eg32 ef33 xf xg hH hA => ?_) 4 0 1000000 0 none _ _ _ _ (by omega) (by omega) (by omega) rfl rfl hD eg2 eg30 eg31 eg32 ef33 eqx.rf eqx.rf hH hA
  have hfE := hfE.trans xf (by decide)
  have hgE := hgE.trans xg (by decide)
  rw [← ea] at ha
  rw [← eb] at hb
  refine z_ild_2 (TX8_uneven.at 31 rfl) ?_
  refine z_ldc (v := 1000000) (TX8_uneven.at 32 rfl) k8_169 (by decide) ?_
  refine z_icmp_ne (tgt := 64) (TX8_uneven.at 33 rfl) rfl (by omega) (by omega) (fun c1 => ?_) (fun c1 => ?_)
  · skip
    refine z_ild_2 (TX8_uneven.at 36 rfl) ?_
    refine z_ild_1 (TX8_uneven.at 37 rfl) ?_
    refine z_isub (TX8_uneven.at 38 rfl) ?_
    refine zm_iret (TX8_uneven.at 39 rfl) rfl hH hA (by omega) ?_
    exact ⟨by unfold unevF; rw [← ea, ← eb]; first | (rw [if_pos (by omega)]; done) | (rw [if_neg (by omega)]; done), hfE, hgE, rfl⟩
  · skip
    refine z_ldc (v := 1000000) (TX8_uneven.at 34 rfl) k8_169 (by decide) ?_
    refine z_goto (tgt := 67) (TX8_uneven.at 35 rfl) rfl ?_
    refine zm_iret (TX8_uneven.at 39 rfl) rfl hH hA (by omega) ?_
    exact ⟨by unfold unevF; rw [← ea, ← eb]; first | (rw [if_pos (by omega)]; done) | (rw [if_neg (by omega)]; done), hfE, hgE, rfl⟩

theorem unev_in {K : Int → Int} {cl : List Cla} {q : Int} {n : Nat} (h : KOK K) (hne : n ≠ 0) : 0 ≤ unevF (letP K cl q) n ∧ unevF (letP K cl q) n ≤ 1001000 := by
  have ha := leaN_in (v := letP K cl q) n (fun t _ _ => (laP_in h).1)
  have hb := mosN_in (v := letP K cl q) (b := 1001000) (by decide) n (fun t _ _ => (laP_in h).2)
  unfold unevF
  split
  · omega
  · have key : ∀ m : Nat, m = 0 ∨ leaN (letP K cl q) m ≤ mosN (letP K cl q) m := by
      intro m
      cases m with
      | zero => exact Or.inl rfl
      | succ m => refine Or.inr ?_; simp only [leaN, mosN]; omega
    rcases key n with e | e
    · exfalso; subst e; exact absurd rfl hne
    · omega
set_option maxHeartbeats 4000000 in
set_option maxRecDepth 100000 in
theorem lp_even {l : Launch} {o : Nat} {ar : Nat → Nat} {d : Nat} {Pz : Option Value → zH → Prop} {h0 : zH} {f0 : mF} {g0 : mA} {j : mA} (hd : 60 ≤ d) {K B Hd : Int → Int} {cl : List Cla} {w : Int} (hne : K 77 ≠ 0) (hK : KOK K) (hT : TmOK K cl B Hd) (kx : ∀ (a b : Int) (o5 : Option Value) (C : Int → Int) (f : mF) (g : mA) (h : zH), (a, b) = srch (fun _ => true) (fun k => unevF (letP K cl (zshl 1 k)) (K 77).toNat) 8 → g 2 = K → g 30 = B → g 31 = Hd → g 32 = C → f 33 = ctS K cl → eqx [] f0 f → eqx [32] g0 g → HM o ar f g j h → zAg o ar h0 h → Z l MX8_even d 0 0 Pz 79 [some (.ref o), some (vI w), some (vI b), some (vI a), some (vI 8), o5] [] h 0 0)  : ∀ (n : Nat) (k : Int) (a : Int) (b : Int) (o5 : Option Value) (C : Int → Int) (f : mF) (g : mA) (h : zH) (k0 : 0 ≤ k) (k1 : k ≤ 8) (k2 : 8 < k + n) (es : (a, b) = srch (fun _ => true) (fun k => unevF (letP K cl (zshl 1 k)) (K 77).toNat) k.toNat) (eg2 : g 2 = K) (eg30 : g 30 = B) (eg31 : g 31 = Hd) (eg32 : g 32 = C) (ef33 : f 33 = ctS K cl) (hfE : eqx [] f0 f) (hgE : eqx [32] g0 g) (hH : HM o ar f g j h) (hA : zAg o ar h0 h), Z l MX8_even d 0 0 Pz 33 [some (.ref o), some (vI w), some (vI b), some (vI a), some (vI k), o5] [] h 0 0 := by
  intro n
  induction n with
  | zero => intro k a b o5 C f g h k0 k1 k2 es eg2 eg30 eg31 eg32 ef33 hfE hgE hH hA; exfalso; omega
  | succ n ih =>
    intro k a b o5 C f g h k0 k1 k2 es eg2 eg30 eg31 eg32 ef33 hfE hgE hH hA
    have hn := hK.1
    have hcs := ctS_31 (cl := cl) hK
    have hln := hK.2.2.2.2.1
    have hsi := srch_in (p := (fun _ => true)) (v := (fun k => unevF (letP K cl (zshl 1 k)) (K 77).toNat)) k.toNat (fun t _ _ => (unev_in hK (by omega)).1)
    rw [← es] at hsi
    simp only at hsi
    refine z_ild_4 (TX8_even.at 20 rfl) ?_
    refine z_bipush (by decide) (TX8_even.at 21 rfl) ?_
    refine z_icmp_ge (tgt := 79) (TX8_even.at 22 rfl) rfl (by omega) (by omega) (fun c1 => ?_) (fun c1 => ?_)
    · skip
      obtain rfl : k = 8 := by omega
      exact kx a b _ _ _ _ _ es eg2 eg30 eg31 eg32 ef33 hfE hgE hH hA
    · skip
      refine z_ald_0 (TX8_even.at 23 rfl) ?_
      refine z_iconst (TX8_even.at 24 rfl) ?_
      refine z_ild_4 (TX8_even.at 25 rfl) ?_
      have hsh := shl_in (i := k) k0 (by omega)
      refine z_ishl (TX8_even.at 26 rfl) ?_
      refine z_ald_0 (TX8_even.at 27 rfl) ?_
      refine zm_getIE ef33 (TX8_even.at 28 rfl) fl8_333 hH rfl (by decide) (fun r46 => ?_)
      refine zm_callV2 (m_firesFrom eg2 eg30 eg31 rfl (by omega) (by omega) (by omega) hcs hn.1 hn.2 (hT.fr hK)) (TX8_even.at 29 rfl) c8_387 rfl rfl hH hA (by omega) (Nat.le_of_ble_eq_true rfl) (fun f49 g49 j49 h q49 hH hA => ?_)
      obtain ⟨q49, xf, xg, xj⟩ := q49
      rw [xj] at hH
      have ef33 := (xf 33 (by decide)).trans ef33
      have hfE := hfE.trans xf (by decide)
      have eg2 := (xg 2 (by decide)).trans eg2
      have eg30 := (xg 30 (by decide)).trans eg30
      have eg31 := (xg 31 (by decide)).trans eg31
      have hgE := hgE.trans xg (by decide)
      have qL := q49
      obtain ⟨C, eg32⟩ : ∃ z, g49 32 = z := ⟨_, rfl⟩
      rw [eg32, hT.dist hK] at qL
      have hD : ag8 C (cmP K cl (zshl 1 k)) := qL
      have hCD : COK (cmP K cl (zshl 1 k)) := cmP_ok hK
      refine z_ald_0 (TX8_even.at 30 rfl) ?_
      refine zm_callI0 (m_uneven (cl := cl) (q := zshl 1 k) eg2 eg30 eg31 eg32 ef33 hK hT hD) (TX8_even.at 31 rfl) c8_402 rfl rfl hH hA (by omega) (Nat.le_of_ble_eq_true rfl) (fun x53 f53 g53 j53 h r53 q53 hH hA => ?_)
      obtain ⟨q53, xf, xg, xj⟩ := q53
      rw [xj] at hH
      have ef33 := (xf 33 (by decide)).trans ef33
      have hfE := hfE.trans xf (by decide)
      have eg2 := (xg 2 (by decide)).trans eg2
      have eg30 := (xg 30 (by decide)).trans eg30
      have eg31 := (xg 31 (by decide)).trans eg31
      have eg32 := (xg 32 (by decide)).trans eg32
      have hgE := hgE.trans xg (by decide)
      have qL := q53
      rw [qL] at r53 ⊢
      have hla := unev_in (cl := cl) (q := zshl 1 k) (n := (K 77).toNat) hK (by omega)
      refine z_ist_5 (TX8_even.at 32 rfl) (Nat.le_of_ble_eq_true rfl) rfl ?_
      refine z_ild_5 (TX8_even.at 33 rfl) ?_
      refine z_ild_3 (TX8_even.at 34 rfl) ?_
      refine z_icmp_lt (tgt := 67) (TX8_even.at 35 rfl) rfl (by omega) (by omega) (fun c2 => ?_) (fun c2 => ?_)
      · skip
        refine z_ild_5 (TX8_even.at 37 rfl) ?_
        refine z_ist_3 (TX8_even.at 38 rfl) (Nat.le_of_ble_eq_true rfl) rfl ?_
        refine z_ild_4 (TX8_even.at 39 rfl) ?_
        refine z_ist_2 (TX8_even.at 40 rfl) (Nat.le_of_ble_eq_true rfl) rfl ?_
        refine z_iinc_4 (TX8_even.at 41 rfl) (Nat.le_of_ble_eq_true rfl) rfl ?_
        refine z_goto (tgt := 33) (TX8_even.at 42 rfl) rfl ?_
        exact ih (k + 1) _ _ _ _ _ _ _ (by omega) (by omega) (by omega) (by first | exact srch_t k0 es rfl (by first | omega | (simp only; omega)) | exact srch_f k0 es (fun z => absurd z.2 (by first | omega | (simp only; omega)))) eg2 eg30 eg31 eg32 ef33 hfE hgE hH hA
      · skip
        refine z_goto (tgt := 73) (TX8_even.at 36 rfl) rfl ?_
        refine z_iinc_4 (TX8_even.at 41 rfl) (Nat.le_of_ble_eq_true rfl) rfl ?_
        refine z_goto (tgt := 33) (TX8_even.at 42 rfl) rfl ?_
        exact ih (k + 1) _ _ _ _ _ _ _ (by omega) (by omega) (by omega) (by first | exact srch_t k0 es rfl (by first | omega | (simp only; omega)) | exact srch_f k0 es (fun z => absurd z.2 (by first | omega | (simp only; omega)))) eg2 eg30 eg31 eg32 ef33 hfE hgE hH hA

set_option maxHeartbeats 4000000 in
set_option maxRecDepth 100000 in
theorem m_even {l : Launch} {o : Nat} {ar : Nat → Nat} {f : mF} {g j : mA} {K : Int → Int} {w : Int} {cl : List Cla} (eg2 : g 2 = K) (hw : zIn w) (hK : KOK K) (hL : LawK K cl) : MM l o ar MX8_even 61 [.ref o, vI w] f g j (PI (fun r f' g' j' => (r = evenV K cl w) ∧ eqx [22, 23, 24, 25, 33] f f' ∧ eqx [26, 30, 31, 32] g g' ∧ j' = j)) := by
  refine MM.intro [some (.ref o), some (vI w), none, none, none, none] (by decide) (Nat.le_of_ble_eq_true rfl) rfl (fun d hd h0 h hH hA => ?_)
  have hfE : eqx [22, 23, 24, 25, 33] f f := eqx.rf
  have hgE : eqx [26, 30, 31, 32] g g := eqx.rf
  have hn := hK.1
  have hcs := ctS_31 (cl := cl) hK
  have hln := hK.2.2.2.2.1
  refine z_ild_1 (TX8_even.at 0 rfl) ?_
  refine z_iconst (TX8_even.at 1 rfl) ?_
  refine z_iconst (TX8_even.at 2 rfl) ?_
  refine zs_call3 (s_lies (by omega) (by omega) (by omega)) (TX8_even.at 3 rfl) c8_18 rfl (by omega) (Nat.le_of_ble_eq_true rfl) (fun r3 => ?_)
  refine z_if_eqB (tgt := 19) (TX8_even.at 4 rfl) rfl (fun c1 => ?_) (fun c1 => ?_)
  · skip
    refine z_iconst (TX8_even.at 10 rfl) ?_
    refine zm_iret (TX8_even.at 11 rfl) rfl hH hA (by omega) ?_
    exact ⟨by unfold evenV; rw [if_neg (by omega)], hfE, hgE, rfl⟩
  · skip
    refine z_ald_0 (TX8_even.at 5 rfl) ?_
    refine zm_getA (TX8_even.at 6 rfl) fl8_28 hH (by decide) (by decide) ?_
    refine z_bipush (by decide) (TX8_even.at 7 rfl) ?_
    refine zm_ialdE eg2 (TX8_even.at 8 rfl) hH rfl (by omega) (show _ < ((5688 : Nat) : Int) by omega) (fun r15 => ?_)
    refine z_if_ne (tgt := 21) (TX8_even.at 9 rfl) rfl (by omega) (fun c2 => ?_) (fun c2 => ?_)
    · skip
      refine z_ald_0 (TX8_even.at 12 rfl) ?_
      refine zm_callV0 (m_laysTimes eg2 rfl rfl rfl hK.lawH hL) (TX8_even.at 13 rfl) c8_348 rfl rfl hH hA (by omega) (Nat.le_of_ble_eq_true rfl) (fun f22 g22 j22 h q22 hH hA => ?_)
      obtain ⟨q22, xf, xg, xj⟩ := q22
      rw [xj] at hH
      have hfE := hfE.trans xf (by decide)
      have eg2 := (xg 2 (by decide)).trans eg2
      have hgE := hgE.trans xg (by decide)
      have qL := q22
      obtain ⟨B, eg30⟩ : ∃ z, g22 30 = z := ⟨_, rfl⟩
      obtain ⟨Hd, eg31⟩ : ∃ z, g22 31 = z := ⟨_, rfl⟩
      have ef33 := qL.2.2
      rw [show msk (fun t => decide (ctc K cl t)) (K 76).toNat = ctS K cl from rfl] at ef33
      have hT : TmOK K cl B Hd := tm_of hK (eg30.symm.trans qL.1) (eg31.symm.trans qL.2.1)
      refine z_iconst (TX8_even.at 14 rfl) ?_
      refine z_ist_2 (TX8_even.at 15 rfl) (Nat.le_of_ble_eq_true rfl) rfl ?_
      refine z_ldc (v := 1000000) (TX8_even.at 16 rfl) k8_169 (by decide) ?_
      refine z_ist_3 (TX8_even.at 17 rfl) (Nat.le_of_ble_eq_true rfl) rfl ?_
      refine z_iconst (TX8_even.at 18 rfl) ?_
      refine z_ist_4 (TX8_even.at 19 rfl) (Nat.le_of_ble_eq_true rfl) rfl ?_
      refine lp_even (by omega) (w := w) (by omega) hK hT (fun a b o5 C f33 g33 h es eg2 eg30 eg31 eg32 ef33 xf xg hH hA => ?_) 9 0 1000000 (-1) none _ _ _ _ (by omega) (by omega) (by omega) rfl eg2 eg30 eg31 rfl ef33 eqx.rf eqx.rf hH hA
      have hfE := hfE.trans xf (by decide)
      have hgE := hgE.trans xg (by decide)
      have hsi := srch_in (p := (fun _ => true)) (v := (fun k => unevF (letP K cl (zshl 1 k)) (K 77).toNat)) 8 (fun t _ _ => (unev_in hK (by omega)).1)
      rw [← es] at hsi
      simp only at hsi
      refine z_ild_2 (TX8_even.at 43 rfl) ?_
      refine z_iconst (TX8_even.at 44 rfl) ?_
      refine z_icmp_eq (tgt := 88) (TX8_even.at 45 rfl) rfl (by omega) (by omega) (fun c3 => ?_) (fun c3 => ?_)
      · skip
        refine z_ild_2 (TX8_even.at 48 rfl) ?_
        refine z_goto (tgt := 93) (TX8_even.at 49 rfl) rfl ?_
        refine zm_iret (TX8_even.at 51 rfl) rfl hH hA (by omega) ?_
        exact ⟨by unfold evenV srchR evenS; rw [if_pos (by omega), ← es]; simp only; first | (rw [if_pos (by omega)]; done) | (rw [if_neg (by omega)]; done), hfE, hgE, rfl⟩
      · skip
        refine z_ild_1 (TX8_even.at 46 rfl) ?_
        refine z_if_ne (tgt := 92) (TX8_even.at 47 rfl) rfl (by omega) (fun c4 => ?_) (fun c4 => ?_)
        · skip
          refine z_ild_3 (TX8_even.at 50 rfl) ?_
          refine zm_iret (TX8_even.at 51 rfl) rfl hH hA (by omega) ?_
          exact ⟨by unfold evenV srchR evenS; rw [if_pos (by omega), ← es]; simp only; first | (rw [if_pos (by omega)]; done) | (rw [if_neg (by omega)]; done), hfE, hgE, rfl⟩
        · skip
          refine z_ild_2 (TX8_even.at 48 rfl) ?_
          refine z_goto (tgt := 93) (TX8_even.at 49 rfl) rfl ?_
          refine zm_iret (TX8_even.at 51 rfl) rfl hH hA (by omega) ?_
          exact ⟨by unfold evenV srchR evenS; rw [if_pos (by omega), ← es]; simp only; first | (rw [if_pos (by omega)]; done) | (rw [if_neg (by omega)]; done), hfE, hgE, rfl⟩
    · skip
      refine z_iconst (TX8_even.at 10 rfl) ?_
      refine zm_iret (TX8_even.at 11 rfl) rfl hH hA (by omega) ?_
      exact ⟨by unfold evenV; rw [if_neg (by omega)], hfE, hgE, rfl⟩

def centS (K : Int → Int) (cl : List Cla) : Int × Int := srch (fun _ => true) (fun k => mosN (cmP K cl (zshl 1 k)) 8) 8
def centV (K : Int → Int) (cl : List Cla) (w : Int) : Int := if 0 ≤ w ∧ w ≤ 1 then srchR (centS K cl) (w = 0) else -1
theorem cmos_in {K : Int → Int} {cl : List Cla} {q : Int} {n : Nat} (h : KOK K) (hn : n ≤ 8) : 0 ≤ mosN (cmP K cl q) n ∧ mosN (cmP K cl q) n ≤ 1001000 := mosN_in (by decide) n (fun t h0 h1 => by have := (cmP_ok (cl := cl) (q := q) h).bd h0 (by omega); omega)
set_option maxHeartbeats 4000000 in
set_option maxRecDepth 100000 in
theorem lp_cent1 {l : Launch} {o : Nat} {ar : Nat → Nat} {d : Nat} {Pz : Option Value → zH → Prop} {h0 : zH} {f0 : mF} {g0 : mA} {j : mA} (hd : 60 ≤ d) {K B Hd : Int → Int} {cl : List Cla} {w a b k q : Int} (hK : KOK K) (hT : TmOK K cl B Hd) (kx : ∀  (C : Int → Int) (f : mF) (g : mA) (h : zH), g 2 = K → g 30 = B → g 31 = Hd → g 32 = C → f 33 = ctS K cl → eqx [] f0 f → eqx [] g0 g → HM o ar f g j h → zAg o ar h0 h → Z l MX8_centre d 0 0 Pz 75 [some (.ref o), some (vI w), some (vI b), some (vI a), some (vI k), some (vI (mosN (cmP K cl q) 8)), some (vI 8)] [] h 0 0)  : ∀ (n : Nat) (i : Int) (s : Int) (C : Int → Int) (f : mF) (g : mA) (h : zH) (i0 : 0 ≤ i) (i1 : i ≤ 8) (i2 : 8 < i + n) (es : s = mosN (cmP K cl q) i.toNat) (hD : ag8 C (cmP K cl q)) (eg2 : g 2 = K) (eg30 : g 30 = B) (eg31 : g 31 = Hd) (eg32 : g 32 = C) (ef33 : f 33 = ctS K cl) (hfE : eqx [] f0 f) (hgE : eqx [] g0 g) (hH : HM o ar f g j h) (hA : zAg o ar h0 h), Z l MX8_centre d 0 0 Pz 48 [some (.ref o), some (vI w), some (vI b), some (vI a), some (vI k), some (vI s), some (vI i)] [] h 0 0 := by
  intro n
  induction n with
  | zero => intro i s C f g h i0 i1 i2 es hD eg2 eg30 eg31 eg32 ef33 hfE hgE hH hA; exfalso; omega
  | succ n ih =>
    intro i s C f g h i0 i1 i2 es hD eg2 eg30 eg31 eg32 ef33 hfE hgE hH hA
    have hn := hK.1
    have hcs := ctS_31 (cl := cl) hK
    have hb := cmos_in (K := K) (cl := cl) (q := q) (n := i.toNat) hK (by omega)
    rw [← es] at hb
    refine z_ild_6 (TX8_centre.at 29 rfl) ?_
    refine z_bipush (by decide) (TX8_centre.at 30 rfl) ?_
    refine z_icmp_ge (tgt := 75) (TX8_centre.at 31 rfl) rfl (by omega) (by omega) (fun c1 => ?_) (fun c1 => ?_)
    · skip
      obtain rfl : i = 8 := by omega
      rw [es]
      exact kx _ _ _ _ eg2 eg30 eg31 eg32 ef33 hfE hgE hH hA
    · skip
      refine z_ild_5 (TX8_centre.at 32 rfl) ?_
      refine z_ald_0 (TX8_centre.at 33 rfl) ?_
      refine zm_getA (TX8_centre.at 34 rfl) fl8_72 hH (by decide) (by decide) ?_
      refine z_ild_6 (TX8_centre.at 35 rfl) ?_
      refine zm_ialdE eg32 (TX8_centre.at 36 rfl) hH rfl (by omega) (show _ < ((8 : Nat) : Int) by omega) (fun r63 => ?_)
      refine zs_call2 (s_greater (by omega) (by omega)) (TX8_centre.at 37 rfl) c8_390 rfl (by omega) (Nat.le_of_ble_eq_true rfl) (fun r64 => ?_)
      refine z_ist_5 (TX8_centre.at 38 rfl) (Nat.le_of_ble_eq_true rfl) rfl ?_
      refine z_iinc_6 (TX8_centre.at 39 rfl) (Nat.le_of_ble_eq_true rfl) rfl ?_
      refine z_goto (tgt := 48) (TX8_centre.at 40 rfl) rfl ?_
      exact ih (i + 1) _ _ _ _ _ (by omega) (by omega) (by omega) (by rw [es, mosN_s i0, hD i i0 (by omega)]) hD eg2 eg30 eg31 eg32 ef33 hfE hgE hH hA

set_option maxHeartbeats 4000000 in
set_option maxRecDepth 100000 in
theorem lp_cent2 {l : Launch} {o : Nat} {ar : Nat → Nat} {d : Nat} {Pz : Option Value → zH → Prop} {h0 : zH} {f0 : mF} {g0 : mA} {j : mA} (hd : 60 ≤ d) {K B Hd : Int → Int} {cl : List Cla} {w : Int} (hK : KOK K) (hT : TmOK K cl B Hd) (kx : ∀ (a b : Int) (o5 o6 : Option Value) (C : Int → Int) (f : mF) (g : mA) (h : zH), (a, b) = srch (fun _ => true) (fun k => mosN (cmP K cl (zshl 1 k)) 8) 8 → g 2 = K → g 30 = B → g 31 = Hd → g 32 = C → f 33 = ctS K cl → eqx [] f0 f → eqx [32] g0 g → HM o ar f g j h → zAg o ar h0 h → Z l MX8_centre d 0 0 Pz 96 [some (.ref o), some (vI w), some (vI b), some (vI a), some (vI 8), o5, o6] [] h 0 0)  : ∀ (n : Nat) (k : Int) (a : Int) (b : Int) (o5 : Option Value) (o6 : Option Value) (C : Int → Int) (f : mF) (g : mA) (h : zH) (k0 : 0 ≤ k) (k1 : k ≤ 8) (k2 : 8 < k + n) (es : (a, b) = srch (fun _ => true) (fun k => mosN (cmP K cl (zshl 1 k)) 8) k.toNat) (eg2 : g 2 = K) (eg30 : g 30 = B) (eg31 : g 31 = Hd) (eg32 : g 32 = C) (ef33 : f 33 = ctS K cl) (hfE : eqx [] f0 f) (hgE : eqx [32] g0 g) (hH : HM o ar f g j h) (hA : zAg o ar h0 h), Z l MX8_centre d 0 0 Pz 23 [some (.ref o), some (vI w), some (vI b), some (vI a), some (vI k), o5, o6] [] h 0 0 := by
  intro n
  induction n with
  | zero => intro k a b o5 o6 C f g h k0 k1 k2 es eg2 eg30 eg31 eg32 ef33 hfE hgE hH hA; exfalso; omega
  | succ n ih =>
    intro k a b o5 o6 C f g h k0 k1 k2 es eg2 eg30 eg31 eg32 ef33 hfE hgE hH hA
    have hn := hK.1
    have hcs := ctS_31 (cl := cl) hK
    have hsi := srch_in (p := (fun _ => true)) (v := (fun k => mosN (cmP K cl (zshl 1 k)) 8)) k.toNat (fun t _ _ => (cmos_in hK (by omega)).1)
    rw [← es] at hsi
    simp only at hsi
    refine z_ild_4 (TX8_centre.at 15 rfl) ?_
    refine z_bipush (by decide) (TX8_centre.at 16 rfl) ?_
    refine z_icmp_ge (tgt := 96) (TX8_centre.at 17 rfl) rfl (by omega) (by omega) (fun c1 => ?_) (fun c1 => ?_)
    · skip
      obtain rfl : k = 8 := by omega
      exact kx a b _ _ _ _ _ _ es eg2 eg30 eg31 eg32 ef33 hfE hgE hH hA
    · skip
      refine z_ald_0 (TX8_centre.at 18 rfl) ?_
      refine z_iconst (TX8_centre.at 19 rfl) ?_
      refine z_ild_4 (TX8_centre.at 20 rfl) ?_
      have hsh := shl_in (i := k) k0 (by omega)
      refine z_ishl (TX8_centre.at 21 rfl) ?_
      refine z_ald_0 (TX8_centre.at 22 rfl) ?_
      refine zm_getIE ef33 (TX8_centre.at 23 rfl) fl8_333 hH rfl (by decide) (fun r36 => ?_)
      refine zm_callV2 (m_firesFrom eg2 eg30 eg31 rfl (by omega) (by omega) (by omega) hcs hn.1 hn.2 (hT.fr hK)) (TX8_centre.at 24 rfl) c8_387 rfl rfl hH hA (by omega) (Nat.le_of_ble_eq_true rfl) (fun f39 g39 j39 h q39 hH hA => ?_)
      obtain ⟨q39, xf, xg, xj⟩ := q39
      rw [xj] at hH
      have ef33 := (xf 33 (by decide)).trans ef33
      have hfE := hfE.trans xf (by decide)
      have eg2 := (xg 2 (by decide)).trans eg2
      have eg30 := (xg 30 (by decide)).trans eg30
      have eg31 := (xg 31 (by decide)).trans eg31
      have hgE := hgE.trans xg (by decide)
      have qL := q39
      obtain ⟨C, eg32⟩ : ∃ z, g39 32 = z := ⟨_, rfl⟩
      rw [eg32, hT.dist hK] at qL
      have hD : ag8 C (cmP K cl (zshl 1 k)) := qL
      have hCD : COK (cmP K cl (zshl 1 k)) := cmP_ok hK
      refine z_iconst (TX8_centre.at 25 rfl) ?_
      refine z_ist_5 (TX8_centre.at 26 rfl) (Nat.le_of_ble_eq_true rfl) rfl ?_
      refine z_iconst (TX8_centre.at 27 rfl) ?_
      refine z_ist_6 (TX8_centre.at 28 rfl) (Nat.le_of_ble_eq_true rfl) rfl ?_
      refine lp_cent1 (q := zshl 1 k) (by omega) hK hT (fun C f48 g48 h eg2 eg30 eg31 eg32 ef33 xf xg hH hA => ?_) 9 0 0 _ _ _ _ (by omega) (by omega) (by omega) rfl hD eg2 eg30 eg31 eg32 ef33 eqx.rf eqx.rf hH hA
      have hfE := hfE.trans xf (by decide)
      have hgE := hgE.trans xg (by decide)
      have hla := cmos_in (K := K) (cl := cl) (q := zshl 1 k) (n := 8) hK (by omega)
      refine z_ild_5 (TX8_centre.at 41 rfl) ?_
      refine z_ild_3 (TX8_centre.at 42 rfl) ?_
      refine z_icmp_lt (tgt := 84) (TX8_centre.at 43 rfl) rfl (by omega) (by omega) (fun c2 => ?_) (fun c2 => ?_)
      · skip
        refine z_ild_5 (TX8_centre.at 45 rfl) ?_
        refine z_ist_3 (TX8_centre.at 46 rfl) (Nat.le_of_ble_eq_true rfl) rfl ?_
        refine z_ild_4 (TX8_centre.at 47 rfl) ?_
        refine z_ist_2 (TX8_centre.at 48 rfl) (Nat.le_of_ble_eq_true rfl) rfl ?_
        refine z_iinc_4 (TX8_centre.at 49 rfl) (Nat.le_of_ble_eq_true rfl) rfl ?_
        refine z_goto (tgt := 23) (TX8_centre.at 50 rfl) rfl ?_
        exact ih (k + 1) _ _ _ _ _ _ _ _ (by omega) (by omega) (by omega) (by first | exact srch_t k0 es rfl (by first | omega | (simp only; omega)) | exact srch_f k0 es (fun z => absurd z.2 (by first | omega | (simp only; omega)))) eg2 eg30 eg31 eg32 ef33 hfE hgE hH hA
      · skip
        refine z_goto (tgt := 90) (TX8_centre.at 44 rfl) rfl ?_
        refine z_iinc_4 (TX8_centre.at 49 rfl) (Nat.le_of_ble_eq_true rfl) rfl ?_
        refine z_goto (tgt := 23) (TX8_centre.at 50 rfl) rfl ?_
        exact ih (k + 1) _ _ _ _ _ _ _ _ (by omega) (by omega) (by omega) (by first | exact srch_t k0 es rfl (by first | omega | (simp only; omega)) | exact srch_f k0 es (fun z => absurd z.2 (by first | omega | (simp only; omega)))) eg2 eg30 eg31 eg32 ef33 hfE hgE hH hA

set_option maxHeartbeats 4000000 in
set_option maxRecDepth 100000 in
theorem m_centre {l : Launch} {o : Nat} {ar : Nat → Nat} {f : mF} {g j : mA} {K : Int → Int} {w : Int} {cl : List Cla} (eg2 : g 2 = K) (hw : zIn w) (hK : KOK K) (hL : LawK K cl) : MM l o ar MX8_centre 61 [.ref o, vI w] f g j (PI (fun r f' g' j' => (r = centV K cl w) ∧ eqx [22, 23, 24, 25, 33] f f' ∧ eqx [26, 30, 31, 32] g g' ∧ j' = j)) := by
  refine MM.intro [some (.ref o), some (vI w), none, none, none, none, none] (by decide) (Nat.le_of_ble_eq_true rfl) rfl (fun d hd h0 h hH hA => ?_)
  have hfE : eqx [22, 23, 24, 25, 33] f f := eqx.rf
  have hgE : eqx [26, 30, 31, 32] g g := eqx.rf
  have hn := hK.1
  have hcs := ctS_31 (cl := cl) hK
  refine z_ild_1 (TX8_centre.at 0 rfl) ?_
  refine z_iconst (TX8_centre.at 1 rfl) ?_
  refine z_iconst (TX8_centre.at 2 rfl) ?_
  refine zs_call3 (s_lies (by omega) (by omega) (by omega)) (TX8_centre.at 3 rfl) c8_18 rfl (by omega) (Nat.le_of_ble_eq_true rfl) (fun r3 => ?_)
  refine z_if_neB (tgt := 11) (TX8_centre.at 4 rfl) rfl (fun c1 => ?_) (fun c1 => ?_)
  · skip
    refine z_ald_0 (TX8_centre.at 7 rfl) ?_
    refine zm_callV0 (m_laysTimes eg2 rfl rfl rfl hK.lawH hL) (TX8_centre.at 8 rfl) c8_348 rfl rfl hH hA (by omega) (Nat.le_of_ble_eq_true rfl) (fun f12 g12 j12 h q12 hH hA => ?_)
    obtain ⟨q12, xf, xg, xj⟩ := q12
    rw [xj] at hH
    have hfE := hfE.trans xf (by decide)
    have eg2 := (xg 2 (by decide)).trans eg2
    have hgE := hgE.trans xg (by decide)
    have qL := q12
    obtain ⟨B, eg30⟩ : ∃ z, g12 30 = z := ⟨_, rfl⟩
    obtain ⟨Hd, eg31⟩ : ∃ z, g12 31 = z := ⟨_, rfl⟩
    have ef33 := qL.2.2
    rw [show msk (fun t => decide (ctc K cl t)) (K 76).toNat = ctS K cl from rfl] at ef33
    have hT : TmOK K cl B Hd := tm_of hK (eg30.symm.trans qL.1) (eg31.symm.trans qL.2.1)
    refine z_iconst (TX8_centre.at 9 rfl) ?_
    refine z_ist_2 (TX8_centre.at 10 rfl) (Nat.le_of_ble_eq_true rfl) rfl ?_
    refine z_ldc (v := 1000000) (TX8_centre.at 11 rfl) k8_169 (by decide) ?_
    refine z_ist_3 (TX8_centre.at 12 rfl) (Nat.le_of_ble_eq_true rfl) rfl ?_
    refine z_iconst (TX8_centre.at 13 rfl) ?_
    refine z_ist_4 (TX8_centre.at 14 rfl) (Nat.le_of_ble_eq_true rfl) rfl ?_
    refine lp_cent2 (by omega) (w := w) hK hT (fun a b o5 o6 C f23 g23 h es eg2 eg30 eg31 eg32 ef33 xf xg hH hA => ?_) 9 0 1000000 (-1) none none _ _ _ _ (by omega) (by omega) (by omega) rfl eg2 eg30 eg31 rfl ef33 eqx.rf eqx.rf hH hA
    have hfE := hfE.trans xf (by decide)
    have hgE := hgE.trans xg (by decide)
    have hsi := srch_in (p := (fun _ => true)) (v := (fun k => mosN (cmP K cl (zshl 1 k)) 8)) 8 (fun t _ _ => (cmos_in hK (by omega)).1)
    rw [← es] at hsi
    simp only at hsi
    refine z_ild_2 (TX8_centre.at 51 rfl) ?_
    refine z_iconst (TX8_centre.at 52 rfl) ?_
    refine z_icmp_eq (tgt := 105) (TX8_centre.at 53 rfl) rfl (by omega) (by omega) (fun c2 => ?_) (fun c2 => ?_)
    · skip
      refine z_ild_2 (TX8_centre.at 56 rfl) ?_
      refine z_goto (tgt := 110) (TX8_centre.at 57 rfl) rfl ?_
      refine zm_iret (TX8_centre.at 59 rfl) rfl hH hA (by omega) ?_
      exact ⟨by unfold centV srchR centS; rw [if_pos (by omega), ← es]; simp only; first | (rw [if_pos (by omega)]; done) | (rw [if_neg (by omega)]; done), hfE, hgE, rfl⟩
    · skip
      refine z_ild_1 (TX8_centre.at 54 rfl) ?_
      refine z_if_ne (tgt := 109) (TX8_centre.at 55 rfl) rfl (by omega) (fun c3 => ?_) (fun c3 => ?_)
      · skip
        refine z_ild_3 (TX8_centre.at 58 rfl) ?_
        refine zm_iret (TX8_centre.at 59 rfl) rfl hH hA (by omega) ?_
        exact ⟨by unfold centV srchR centS; rw [if_pos (by omega), ← es]; simp only; first | (rw [if_pos (by omega)]; done) | (rw [if_neg (by omega)]; done), hfE, hgE, rfl⟩
      · skip
        refine z_ild_2 (TX8_centre.at 56 rfl) ?_
        refine z_goto (tgt := 110) (TX8_centre.at 57 rfl) rfl ?_
        refine zm_iret (TX8_centre.at 59 rfl) rfl hH hA (by omega) ?_
        exact ⟨by unfold centV srchR centS; rw [if_pos (by omega), ← es]; simp only; first | (rw [if_pos (by omega)]; done) | (rw [if_neg (by omega)]; done), hfE, hgE, rfl⟩
  · skip
    refine z_iconst (TX8_centre.at 5 rfl) ?_
    refine zm_iret (TX8_centre.at 6 rfl) rfl hH hA (by omega) ?_
    exact ⟨by unfold centV; rw [if_neg (by omega)], hfE, hgE, rfl⟩

