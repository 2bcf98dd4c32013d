/-! ===== the reference: was, look, wet, few, evenings, count ===== -/
def alB (p : Int → Bool) : Nat → Bool
  | 0 => true
  | m + 1 => alB p m && p m
theorem alB_s {p : Int → Bool} {i : Int} (h : 0 ≤ i) : alB p (i + 1).toNat = (alB p i.toNat && p i) := by
  rw [show (i + 1).toNat = i.toNat + 1 by omega, alB, show ((i.toNat : Nat) : Int) = i by omega]
def seeB (K : Int → Int) (cl : List Cla) (k i : Int) : Bool := decide (cmP K cl (zshl 1 k) (K (62 + 2 * i)) = K (62 + 2 * i + 1))
def wasB (K : Int → Int) (cl : List Cla) (k : Int) : Bool := alB (seeB K cl k) (K 78).toNat
def wasV (K : Int → Int) (cl : List Cla) : Int := msk (wasB K cl) 8
theorem al_t {p : Int → Bool} {i s : Int} (h : 0 ≤ i) (e : s = b2i (alB p i.toNat = true)) (hs : s ≠ 0) (hp : p i = true) : (1 : Int) = b2i (alB p (i + 1).toNat = true) := by
  have h1 := b2i_ne.mp (e ▸ hs)
  rw [b2i_t]
  rw [alB_s h, h1, hp]; rfl
theorem al_f0 {p : Int → Bool} {i s : Int} (h : 0 ≤ i) (e : s = b2i (alB p i.toNat = true)) (hs : s = 0) : (0 : Int) = b2i (alB p (i + 1).toNat = true) := by
  have h1 := b2i_0.mp (e ▸ hs)
  rw [b2i_f]
  rw [alB_s h]
  intro z
  exact h1 ((Bool.and_eq_true_iff.mp z).1)
theorem al_f1 {p : Int → Bool} {i : Int} (h : 0 ≤ i) (hp : ¬ p i = true) : (0 : Int) = b2i (alB p (i + 1).toNat = true) := by
  rw [b2i_f]
  rw [alB_s h]
  intro z
  exact hp ((Bool.and_eq_true_iff.mp z).2)
set_option maxHeartbeats 4000000 in
set_option maxRecDepth 100000 in
theorem lp_itWas {l : Launch} {o : Nat} {ar : Nat → Nat} {d : Nat} {Pz : Option Value → zH → Prop} {h0 : zH} {f0 : mF} {g0 : mA} {j : mA} (hd : 60 ≤ d) {K B Hd : Int → Int} {cl : List Cla} {k : Int} (hK : KOK K) (hT : TmOK K cl B Hd) (kx : ∀  (C : Int → Int) (f : mF) (g : mA) (h : zH), g 2 = K → g 30 = B → g 31 = Hd → g 32 = C → f 33 = ctS K cl → eqx [] f0 f → eqx [] g0 g → HM o ar f g j h → zAg o ar h0 h → Z l MX8_itWas d 0 0 Pz 74 [some (.ref o), some (vI k), some (vI (b2i (wasB K cl k = true))), some (vI (K 78))] [] h 0 0)  : ∀ (n : Nat) (i : Int) (s : Int) (C : Int → Int) (f : mF) (g : mA) (h : zH) (i0 : 0 ≤ i) (i1 : i ≤ K 78) (i2 : K 78 < i + n) (hD : ag8 C (cmP K cl (zshl 1 k))) (es : s = b2i (alB (seeB K cl k) i.toNat = true)) (eg2 : g 2 = K) (eg30 : g 30 = B) (eg31 : g 31 = Hd) (eg32 : g 32 = C) (ef33 : f 33 = ctS K cl) (hfE : eqx [] f0 f) (hgE : eqx [] g0 g) (hH : HM o ar f g j h) (hA : zAg o ar h0 h), Z l MX8_itWas d 0 0 Pz 15 [some (.ref o), some (vI k), some (vI s), some (vI i)] [] h 0 0 := by
  intro n
  induction n with
  | zero => intro i s C f g h i0 i1 i2 hD es eg2 eg30 eg31 eg32 ef33 hfE hgE hH hA; exfalso; omega
  | succ n ih =>
    intro i s C f g h i0 i1 i2 hD es eg2 eg30 eg31 eg32 ef33 hfE hgE hH hA
    have hn := hK.1
    have hcs := ctS_31 (cl := cl) hK
    have h78 := hK.2.2.2.2.2.2.1
    have hsz : zIn s := by rw [es]; exact b2i_in _
    refine z_ild_3 (TX8_itWas.at 11 rfl) ?_
    refine z_ald_0 (TX8_itWas.at 12 rfl) ?_
    refine zm_getA (TX8_itWas.at 13 rfl) fl8_28 hH (by decide) (by decide) ?_
    refine z_bipush (by decide) (TX8_itWas.at 14 rfl) ?_
    refine zm_ialdE eg2 (TX8_itWas.at 15 rfl) hH rfl (by omega) (show _ < ((5688 : Nat) : Int) by omega) (fun r22 => ?_)
    refine z_icmp_ge (tgt := 74) (TX8_itWas.at 16 rfl) rfl (by omega) (by omega) (fun c1 => ?_) (fun c1 => ?_)
    · skip
      obtain rfl : i = K 78 := by omega
      rw [es]
      exact kx _ _ _ _ eg2 eg30 eg31 eg32 ef33 hfE hgE hH hA
    · skip
      have hse := hK.2.2.2.2.2.2.2.1 i i0 (by omega)
      refine z_ild_2 (TX8_itWas.at 17 rfl) ?_
      refine z_if_eq (tgt := 66) (TX8_itWas.at 18 rfl) rfl (by omega) (fun c2 => ?_) (fun c2 => ?_)
      · skip
        refine z_iconst (TX8_itWas.at 43 rfl) ?_
        refine z_ist_2 (TX8_itWas.at 44 rfl) (Nat.le_of_ble_eq_true rfl) rfl ?_
        refine z_iinc_3 (TX8_itWas.at 45 rfl) (Nat.le_of_ble_eq_true rfl) rfl ?_
        refine z_goto (tgt := 15) (TX8_itWas.at 46 rfl) rfl ?_
        exact ih (i + 1) _ _ _ _ _ (by omega) (by omega) (by omega) hD (by first | exact al_f0 i0 es (by omega) | exact al_t i0 es (by omega) (decide_eq_true (by rw [← hD _ hse.1.1 hse.1.2]; omega)) | exact al_f1 i0 (fun z => absurd (of_decide_eq_true z) (by rw [← hD _ hse.1.1 hse.1.2]; omega))) eg2 eg30 eg31 eg32 ef33 hfE hgE hH hA
      · skip
        refine z_ald_0 (TX8_itWas.at 19 rfl) ?_
        refine zm_getA (TX8_itWas.at 20 rfl) fl8_72 hH (by decide) (by decide) ?_
        refine z_ald_0 (TX8_itWas.at 21 rfl) ?_
        refine zm_getA (TX8_itWas.at 22 rfl) fl8_28 hH (by decide) (by decide) ?_
        refine z_bipush (by decide) (TX8_itWas.at 23 rfl) ?_
        refine z_iconst (TX8_itWas.at 24 rfl) ?_
        refine z_ild_3 (TX8_itWas.at 25 rfl) ?_
        refine z_imul (TX8_itWas.at 26 rfl) ?_
        refine z_iadd (TX8_itWas.at 27 rfl) ?_
        refine zm_ialdE eg2 (TX8_itWas.at 28 rfl) hH rfl (by omega) (show _ < ((5688 : Nat) : Int) by omega) (fun r44 => ?_)
        refine zm_ialdE eg32 (TX8_itWas.at 29 rfl) hH rfl (by omega) (show _ < ((8 : Nat) : Int) by omega) (fun r45 => ?_)
        refine z_ald_0 (TX8_itWas.at 30 rfl) ?_
        refine zm_getA (TX8_itWas.at 31 rfl) fl8_28 hH (by decide) (by decide) ?_
        refine z_bipush (by decide) (TX8_itWas.at 32 rfl) ?_
        refine z_iconst (TX8_itWas.at 33 rfl) ?_
        refine z_ild_3 (TX8_itWas.at 34 rfl) ?_
        refine z_imul (TX8_itWas.at 35 rfl) ?_
        refine z_iadd (TX8_itWas.at 36 rfl) ?_
        refine z_iconst (TX8_itWas.at 37 rfl) ?_
        refine z_iadd (TX8_itWas.at 38 rfl) ?_
        refine zm_ialdE eg2 (TX8_itWas.at 39 rfl) hH rfl (by omega) (show _ < ((5688 : Nat) : Int) by omega) (fun r58 => ?_)
        refine z_icmp_ne (tgt := 66) (TX8_itWas.at 40 rfl) rfl (by omega) (by omega) (fun c3 => ?_) (fun c3 => ?_)
        · skip
          refine z_iconst (TX8_itWas.at 43 rfl) ?_
          refine z_ist_2 (TX8_itWas.at 44 rfl) (Nat.le_of_ble_eq_true rfl) rfl ?_
          refine z_iinc_3 (TX8_itWas.at 45 rfl) (Nat.le_of_ble_eq_true rfl) rfl ?_
          refine z_goto (tgt := 15) (TX8_itWas.at 46 rfl) rfl ?_
          exact ih (i + 1) _ _ _ _ _ (by omega) (by omega) (by omega) hD (by first | exact al_f0 i0 es (by omega) | exact al_t i0 es (by omega) (decide_eq_true (by rw [← hD _ hse.1.1 hse.1.2]; omega)) | exact al_f1 i0 (fun z => absurd (of_decide_eq_true z) (by rw [← hD _ hse.1.1 hse.1.2]; omega))) eg2 eg30 eg31 eg32 ef33 hfE hgE hH hA
        · skip
          refine z_iconst (TX8_itWas.at 41 rfl) ?_
          refine z_goto (tgt := 67) (TX8_itWas.at 42 rfl) rfl ?_
          refine z_ist_2 (TX8_itWas.at 44 rfl) (Nat.le_of_ble_eq_true rfl) rfl ?_
          refine z_iinc_3 (TX8_itWas.at 45 rfl) (Nat.le_of_ble_eq_true rfl) rfl ?_
          refine z_goto (tgt := 15) (TX8_itWas.at 46 rfl) rfl ?_
          exact ih (i + 1) _ _ _ _ _ (by omega) (by omega) (by omega) hD (by first | exact al_f0 i0 es (by omega) | exact al_t i0 es (by omega) (decide_eq_true (by rw [← hD _ hse.1.1 hse.1.2]; omega)) | exact al_f1 i0 (fun z => absurd (of_decide_eq_true z) (by rw [← hD _ hse.1.1 hse.1.2]; omega))) eg2 eg30 eg31 eg32 ef33 hfE hgE hH hA

set_option maxHeartbeats 4000000 in
set_option maxRecDepth 100000 in
theorem m_itWas {l : Launch} {o : Nat} {ar : Nat → Nat} {f : mF} {g j : mA} {K : Int → Int} {B : Int → Int} {Hd : Int → Int} {C : Int → Int} {k : Int} {cl : List Cla} (eg2 : g 2 = K) (eg30 : g 30 = B) (eg31 : g 31 = Hd) (eg32 : g 32 = C) (ef33 : f 33 = ctS K cl) (hk : zIn k) (k0 : 0 ≤ k) (k7 : k ≤ 7) (hK : KOK K) (hT : TmOK K cl B Hd) : MM l o ar MX8_itWas 60 [.ref o, vI k] f g j (PI (fun r f' g' j' => (r = b2i (wasB K cl k = true)) ∧ eqx [] f f' ∧ eqx [32] g g' ∧ j' = j)) := by
  refine MM.intro [some (.ref o), some (vI k), none, none] (by decide) (Nat.le_of_ble_eq_true rfl) rfl (fun d hd h0 h hH hA => ?_)
  have hfE : eqx [] f f := eqx.rf
  have hgE : eqx [32] g g := eqx.rf
  have hn := hK.1
  have hcs := ctS_31 (cl := cl) hK
  have hsh := shl_in (i := k) k0 (by omega)
  have h78 := hK.2.2.2.2.2.2.1
  refine z_ald_0 (TX8_itWas.at 0 rfl) ?_
  refine z_iconst (TX8_itWas.at 1 rfl) ?_
  refine z_ild_1 (TX8_itWas.at 2 rfl) ?_
  refine z_ishl (TX8_itWas.at 3 rfl) ?_
  refine z_ald_0 (TX8_itWas.at 4 rfl) ?_
  refine zm_getIE ef33 (TX8_itWas.at 5 rfl) fl8_333 hH rfl (by decide) (fun r5 => ?_)
  refine zm_callV2 (m_firesFrom eg2 eg30 eg31 rfl (by omega) (by omega) (by omega) hcs hn.1 hn.2 (hT.fr hK)) (TX8_itWas.at 6 rfl) c8_387 rfl rfl hH hA (by omega) (Nat.le_of_ble_eq_true rfl) (fun f8 g8 j8 h q8 hH hA => ?_)
  obtain ⟨q8, xf, xg, xj⟩ := q8
  rw [xj] at hH
  have ef33 := (xf 33 (by decide)).trans ef33
  have hfE := hfE.trans xf (by decide)
  have eg2 := (xg 2 (by decide)).trans eg2
  have eg30 := (xg 30 (by decide)).trans eg30
  have eg31 := (xg 31 (by decide)).trans eg31
  have hgE := hgE.trans xg (by decide)
  have qL := q8
  obtain ⟨C, eg32⟩ : ∃ z, g8 32 = z := ⟨_, rfl⟩
  rw [eg32, hT.dist hK] at qL
  have hD : ag8 C (cmP K cl (zshl 1 k)) := qL
  have hCD : COK (cmP K cl (zshl 1 k)) := cmP_ok hK
  refine z_iconst (TX8_itWas.at 7 rfl) ?_
  refine z_ist_2 (TX8_itWas.at 8 rfl) (Nat.le_of_ble_eq_true rfl) rfl ?_
  refine z_iconst (TX8_itWas.at 9 rfl) ?_
  refine z_ist_3 (TX8_itWas.at 10 rfl) (Nat.le_of_ble_eq_true rfl) rfl ?_
  refine lp_itWas (k := k) (by omega) hK hT (fun C2 f15 g15 h eg2 eg30 eg31 eg32 ef33 xf xg hH hA => ?_) 7 0 1 _ _ _ _ (by omega) (by omega) (by omega) hD rfl eg2 eg30 eg31 eg32 ef33 eqx.rf eqx.rf hH hA
  have hfE := hfE.trans xf (by decide)
  have hgE := hgE.trans xg (by decide)
  refine z_ild_2 (TX8_itWas.at 47 rfl) ?_
  refine zm_zret (TX8_itWas.at 48 rfl) rfl hH hA (by first | omega | exact b2i_01 _) ?_
  exact ⟨rfl, hfE, hgE, rfl⟩

set_option maxHeartbeats 4000000 in
set_option maxRecDepth 100000 in
theorem lp_was {l : Launch} {o : Nat} {ar : Nat → Nat} {d : Nat} {Pz : Option Value → zH → Prop} {h0 : zH} {f0 : mF} {g0 : mA} {j : mA} (hd : 61 ≤ d) {K B Hd : Int → Int} {cl : List Cla}  (hK : KOK K) (hT : TmOK K cl B Hd) (kx : ∀  (C : Int → Int) (f : mF) (g : mA) (h : zH), g 2 = K → g 30 = B → g 31 = Hd → g 32 = C → f 33 = ctS K cl → eqx [] f0 f → eqx [32] g0 g → HM o ar f g j h → zAg o ar h0 h → Z l MX8_was d 0 0 Pz 38 [some (.ref o), some (vI (wasV K cl)), some (vI 8)] [] h 0 0)  : ∀ (n : Nat) (k : Int) (s : Int) (C : Int → Int) (f : mF) (g : mA) (h : zH) (k0 : 0 ≤ k) (k1 : k ≤ 8) (k2 : 8 < k + n) (es : s = msk (wasB K cl) k.toNat) (eg2 : g 2 = K) (eg30 : g 30 = B) (eg31 : g 31 = Hd) (eg32 : g 32 = C) (ef33 : f 33 = ctS K cl) (hfE : eqx [] f0 f) (hgE : eqx [32] g0 g) (hH : HM o ar f g j h) (hA : zAg o ar h0 h), Z l MX8_was d 0 0 Pz 8 [some (.ref o), some (vI s), some (vI k)] [] h 0 0 := by
  intro n
  induction n with
  | zero => intro k s C f g h k0 k1 k2 es eg2 eg30 eg31 eg32 ef33 hfE hgE hH hA; exfalso; omega
  | succ n ih =>
    intro k s C f g h k0 k1 k2 es eg2 eg30 eg31 eg32 ef33 hfE hgE hH hA
    have hn := hK.1
    have hcs := ctS_31 (cl := cl) hK
    have hm := msk_31 (p := wasB K cl) (n := k.toNat) (by omega)
    rw [← es] at hm
    refine z_ild_2 (TX8_was.at 6 rfl) ?_
    refine z_bipush (by decide) (TX8_was.at 7 rfl) ?_
    refine z_icmp_ge (tgt := 38) (TX8_was.at 8 rfl) rfl (by omega) (by omega) (fun c1 => ?_) (fun c1 => ?_)
    · skip
      obtain rfl : k = 8 := by omega
      rw [es]
      exact kx _ _ _ _ eg2 eg30 eg31 eg32 ef33 hfE hgE hH hA
    · skip
      refine z_ild_1 (TX8_was.at 9 rfl) ?_
      refine z_ald_0 (TX8_was.at 10 rfl) ?_
      refine z_ild_2 (TX8_was.at 11 rfl) ?_
      refine zm_callI1 (m_itWas (cl := cl) eg2 eg30 eg31 eg32 ef33 (by omega) k0 (by omega) hK hT) (TX8_was.at 12 rfl) c8_423 rfl rfl hH hA (by omega) (Nat.le_of_ble_eq_true rfl) (fun x17 f17 g17 j17 h r17 q17 hH hA => ?_)
      obtain ⟨q17, xf, xg, xj⟩ := q17
      rw [xj] at hH
      have ef33 := (xf 33 (by decide)).trans ef33
      have hfE := hfE.trans xf (by decide)
      have eg2 := (xg 2 (by decide)).trans eg2
      have eg30 := (xg 30 (by decide)).trans eg30
      have eg31 := (xg 31 (by decide)).trans eg31
      have hgE := hgE.trans xg (by decide)
      have qL := q17
      obtain rfl := qL
      obtain ⟨C, eg32⟩ : ∃ z, g17 32 = z := ⟨_, rfl⟩
      refine z_if_eqB (tgt := 29) (TX8_was.at 13 rfl) rfl (fun c2 => ?_) (fun c2 => ?_)
      · skip
        refine z_iconst (TX8_was.at 18 rfl) ?_
        refine z_ior (TX8_was.at 19 rfl) ?_
        have zz := zor_31 (msk_31 (p := wasB K cl) (n := k.toNat) (by omega)) (show z31 0 by decide)
        rw [← es] at zz
        refine z_ist_1 (TX8_was.at 20 rfl) (Nat.le_of_ble_eq_true rfl) rfl ?_
        refine z_iinc_2 (TX8_was.at 21 rfl) (Nat.le_of_ble_eq_true rfl) rfl ?_
        refine z_goto (tgt := 8) (TX8_was.at 22 rfl) rfl ?_
        exact ih (k + 1) _ _ _ _ _ (by omega) (by omega) (by omega) (by first | exact msk_1 k0 (by assumption) (by rw [es]) | exact msk_0 k0 (by assumption) (by rw [es])) eg2 eg30 eg31 eg32 ef33 hfE hgE hH hA
      · skip
        refine z_iconst (TX8_was.at 14 rfl) ?_
        refine z_ild_2 (TX8_was.at 15 rfl) ?_
        refine z_ishl (TX8_was.at 16 rfl) ?_
        refine z_goto (tgt := 30) (TX8_was.at 17 rfl) rfl ?_
        refine z_ior (TX8_was.at 19 rfl) ?_
        have zz := zor_31 (msk_31 (p := wasB K cl) (n := k.toNat) (by omega)) (shl_31 k0 (by omega))
        rw [← es] at zz
        refine z_ist_1 (TX8_was.at 20 rfl) (Nat.le_of_ble_eq_true rfl) rfl ?_
        refine z_iinc_2 (TX8_was.at 21 rfl) (Nat.le_of_ble_eq_true rfl) rfl ?_
        refine z_goto (tgt := 8) (TX8_was.at 22 rfl) rfl ?_
        exact ih (k + 1) _ _ _ _ _ (by omega) (by omega) (by omega) (by first | exact msk_1 k0 (by assumption) (by rw [es]) | exact msk_0 k0 (by assumption) (by rw [es])) eg2 eg30 eg31 eg32 ef33 hfE hgE hH hA

theorem wasV_in (K : Int → Int) (cl : List Cla) : 0 ≤ wasV K cl ∧ wasV K cl ≤ 255 := by
  have a := msk_in (p := wasB K cl) (n := 8) (by decide)
  have c : (2 ^ 8 : Nat) = 256 := by decide
  unfold wasV
  omega
set_option maxHeartbeats 4000000 in
set_option maxRecDepth 100000 in
theorem m_was {l : Launch} {o : Nat} {ar : Nat → Nat} {f : mF} {g j : mA} {K : Int → Int} {cl : List Cla} (eg2 : g 2 = K) (hK : KOK K) (hL : LawK K cl) : MM l o ar MX8_was 62 [.ref o] f g j (PI (fun r f' g' j' => (r = wasV K cl ∧ TmOK K cl (g' 30) (g' 31) ∧ f' 33 = ctS K cl) ∧ eqx [22, 23, 24, 25, 33] f f' ∧ eqx [26, 30, 31, 32] g g' ∧ j' = j)) := by
  refine MM.intro [some (.ref o), none, none] (by decide) (Nat.le_of_ble_eq_true rfl) rfl (fun d hd h0 h hH hA => ?_)
  have hfE : eqx [22, 23, 24, 25, 33] f f := eqx.rf
  have hgE : eqx [26, 30, 31, 32] g g := eqx.rf
  have hn := hK.1
  have hcs := ctS_31 (cl := cl) hK
  have hwi := wasV_in K cl
  refine z_ald_0 (TX8_was.at 0 rfl) ?_
  refine zm_callV0 (m_laysTimes eg2 rfl rfl rfl hK.lawH hL) (TX8_was.at 1 rfl) c8_348 rfl rfl hH hA (by omega) (Nat.le_of_ble_eq_true rfl) (fun f1 g1 j1 h q1 hH hA => ?_)
  obtain ⟨q1, xf, xg, xj⟩ := q1
  rw [xj] at hH
  have hfE := hfE.trans xf (by decide)
  have eg2 := (xg 2 (by decide)).trans eg2
  have hgE := hgE.trans xg (by decide)
  have qL := q1
  obtain ⟨B, eg30⟩ : ∃ z, g1 30 = z := ⟨_, rfl⟩
  obtain ⟨Hd, eg31⟩ : ∃ z, g1 31 = z := ⟨_, rfl⟩
  have ef33 := qL.2.2
  rw [show msk (fun t => decide (ctc K cl t)) (K 76).toNat = ctS K cl from rfl] at ef33
  have hT : TmOK K cl B Hd := tm_of hK (eg30.symm.trans qL.1) (eg31.symm.trans qL.2.1)
  refine z_iconst (TX8_was.at 2 rfl) ?_
  refine z_ist_1 (TX8_was.at 3 rfl) (Nat.le_of_ble_eq_true rfl) rfl ?_
  refine z_iconst (TX8_was.at 4 rfl) ?_
  refine z_ist_2 (TX8_was.at 5 rfl) (Nat.le_of_ble_eq_true rfl) rfl ?_
  refine lp_was (by omega)  hK hT (fun C f8 g8 h eg2 eg30 eg31 eg32 ef33 xf xg hH hA => ?_) 9 0 0 _ _ _ _ (by omega) (by omega) (by omega) rfl eg2 eg30 eg31 rfl ef33 eqx.rf eqx.rf hH hA
  have hfE := hfE.trans xf (by decide)
  have hgE := hgE.trans xg (by decide)
  refine z_ild_1 (TX8_was.at 23 rfl) ?_
  refine zm_iret (TX8_was.at 24 rfl) rfl hH hA (by omega) ?_
  exact ⟨⟨rfl, by rw [eg30, eg31]; exact hT, ef33⟩, hfE, hgE, rfl⟩

def alkN (w : Int → Int) (s a : Int) : Int := sm (fun b => b2i (bt s b ∧ w a = w b)) 8
def mAl (w : Int → Int) (s : Int) : Int := lastN (alkN w s) s 8
theorem alk_in {w : Int → Int} {s a i : Int} (h : 0 ≤ i) : 0 ≤ sm (fun b => b2i (bt s b ∧ w a = w b)) i ∧ sm (fun b => b2i (bt s b ∧ w a = w b)) i ≤ i := sm_in h (fun t _ _ => by have := b2i_01 (bt s t ∧ w a = w t); omega)
theorem mAl_in {w : Int → Int} {s : Int} {n : Nat} : 0 ≤ lastN (alkN w s) s n ∧ lastN (alkN w s) s n ≤ 8 := lastN_in (by decide) n (fun t _ _ => (alk_in (by decide)).2)
set_option maxHeartbeats 4000000 in
set_option maxRecDepth 100000 in
theorem lp_mal1 {l : Launch} {o : Nat} {ar : Nat → Nat} {d : Nat} {Pz : Option Value → zH → Prop} {h0 : zH} {f0 : mF} {g0 : mA} {j : mA} (hd : 1 ≤ d) {X w : Int → Int} {s t m a : Int} (hs : z31 s) (t0 : 0 ≤ t) (t7 : t ≤ 7) (a0 : 0 ≤ a) (a7 : a ≤ 7) (hw : ∀ a : Int, 0 ≤ a → a ≤ 7 → X (8 * a + t) = w a) (kx : ∀ (f : mF) (g : mA) (h : zH), g 38 = X → eqx [] f0 f → eqx [] g0 g → HM o ar f g j h → zAg o ar h0 h → Z l MX8_mostAlike d 0 0 Pz 77 [some (.ref o), some (vI s), some (vI t), some (vI m), some (vI a), some (vI (alkN w s a)), some (vI 8)] [] h 0 0)  : ∀ (n : Nat) (b : Int) (x : Int) (f : mF) (g : mA) (h : zH) (b0 : 0 ≤ b) (b1 : b ≤ 8) (b2 : 8 < b + n) (es : x = sm (fun b => b2i (bt s b ∧ w a = w b)) b) (eg38 : g 38 = X) (hfE : eqx [] f0 f) (hgE : eqx [] g0 g) (hH : HM o ar f g j h) (hA : zAg o ar h0 h), Z l MX8_mostAlike d 0 0 Pz 18 [some (.ref o), some (vI s), some (vI t), some (vI m), some (vI a), some (vI x), some (vI b)] [] h 0 0 := by
  intro n
  induction n with
  | zero => intro b x f g h b0 b1 b2 es eg38 hfE hgE hH hA; exfalso; omega
  | succ n ih =>
    intro b x f g h b0 b1 b2 es eg38 hfE hgE hH hA
    have hx := alk_in (w := w) (s := s) (a := a) b0
    refine z_ild_6 (TX8_mostAlike.at 11 rfl) ?_
    refine z_bipush (by decide) (TX8_mostAlike.at 12 rfl) ?_
    refine z_icmp_ge (tgt := 77) (TX8_mostAlike.at 13 rfl) rfl (by omega) (by omega) (fun c1 => ?_) (fun c1 => ?_)
    · skip
      obtain rfl : b = 8 := by omega
      rw [es]
      exact kx _ _ _ eg38 hfE hgE hH hA
    · skip
      refine z_ild_5 (TX8_mostAlike.at 14 rfl) ?_
      refine z_ild_1 (TX8_mostAlike.at 15 rfl) ?_
      refine z_ild_6 (TX8_mostAlike.at 16 rfl) ?_
      refine zs_call2 (s_isIn (by omega) (by omega) (by omega)) (TX8_mostAlike.at 17 rfl) c8_339 rfl (by omega) (Nat.le_of_ble_eq_true rfl) (fun r30 => ?_)
      refine z_if_eqB (tgt := 67) (TX8_mostAlike.at 18 rfl) rfl (fun c2 => ?_) (fun c2 => ?_)
      · skip
        refine z_iconst (TX8_mostAlike.at 38 rfl) ?_
        refine z_iadd (TX8_mostAlike.at 39 rfl) ?_
        refine z_ist_5 (TX8_mostAlike.at 40 rfl) (Nat.le_of_ble_eq_true rfl) rfl ?_
        refine z_iinc_6 (TX8_mostAlike.at 41 rfl) (Nat.le_of_ble_eq_true rfl) rfl ?_
        refine z_goto (tgt := 18) (TX8_mostAlike.at 42 rfl) rfl ?_
        exact ih (b + 1) _ _ _ _ (by omega) (by omega) (by omega) (by rw [es, sm_s b0]; first | (rw [b2i_t ⟨by assumption, by rw [← hw a a0 a7, ← hw b b0 (by omega)]; omega⟩]; done) | (rw [b2i_f (fun z => absurd z.1 (by assumption))]; done) | (rw [b2i_f (fun z => absurd z.2 (by rw [← hw a a0 a7, ← hw b b0 (by omega)]; omega))]; done)) eg38 hfE hgE hH hA
      · skip
        refine z_ald_0 (TX8_mostAlike.at 19 rfl) ?_
        refine zm_getA (TX8_mostAlike.at 20 rfl) fl8_84 hH (by decide) (by decide) ?_
        refine z_bipush (by decide) (TX8_mostAlike.at 21 rfl) ?_
        refine z_ild_4 (TX8_mostAlike.at 22 rfl) ?_
        refine z_imul (TX8_mostAlike.at 23 rfl) ?_
        refine z_ild_2 (TX8_mostAlike.at 24 rfl) ?_
        refine z_iadd (TX8_mostAlike.at 25 rfl) ?_
        refine zm_ialdE eg38 (TX8_mostAlike.at 26 rfl) hH rfl (by omega) (show _ < ((64 : Nat) : Int) by omega) (fun r47 => ?_)
        refine z_ald_0 (TX8_mostAlike.at 27 rfl) ?_
        refine zm_getA (TX8_mostAlike.at 28 rfl) fl8_84 hH (by decide) (by decide) ?_
        refine z_bipush (by decide) (TX8_mostAlike.at 29 rfl) ?_
        refine z_ild_6 (TX8_mostAlike.at 30 rfl) ?_
        refine z_imul (TX8_mostAlike.at 31 rfl) ?_
        refine z_ild_2 (TX8_mostAlike.at 32 rfl) ?_
        refine z_iadd (TX8_mostAlike.at 33 rfl) ?_
        refine zm_ialdE eg38 (TX8_mostAlike.at 34 rfl) hH rfl (by omega) (show _ < ((64 : Nat) : Int) by omega) (fun r59 => ?_)
        refine z_icmp_ne (tgt := 67) (TX8_mostAlike.at 35 rfl) rfl (by omega) (by omega) (fun c3 => ?_) (fun c3 => ?_)
        · skip
          refine z_iconst (TX8_mostAlike.at 38 rfl) ?_
          refine z_iadd (TX8_mostAlike.at 39 rfl) ?_
          refine z_ist_5 (TX8_mostAlike.at 40 rfl) (Nat.le_of_ble_eq_true rfl) rfl ?_
          refine z_iinc_6 (TX8_mostAlike.at 41 rfl) (Nat.le_of_ble_eq_true rfl) rfl ?_
          refine z_goto (tgt := 18) (TX8_mostAlike.at 42 rfl) rfl ?_
          exact ih (b + 1) _ _ _ _ (by omega) (by omega) (by omega) (by rw [es, sm_s b0]; first | (rw [b2i_t ⟨by assumption, by rw [← hw a a0 a7, ← hw b b0 (by omega)]; omega⟩]; done) | (rw [b2i_f (fun z => absurd z.1 (by assumption))]; done) | (rw [b2i_f (fun z => absurd z.2 (by rw [← hw a a0 a7, ← hw b b0 (by omega)]; omega))]; done)) eg38 hfE hgE hH hA
        · skip
          refine z_iconst (TX8_mostAlike.at 36 rfl) ?_
          refine z_goto (tgt := 68) (TX8_mostAlike.at 37 rfl) rfl ?_
          refine z_iadd (TX8_mostAlike.at 39 rfl) ?_
          refine z_ist_5 (TX8_mostAlike.at 40 rfl) (Nat.le_of_ble_eq_true rfl) rfl ?_
          refine z_iinc_6 (TX8_mostAlike.at 41 rfl) (Nat.le_of_ble_eq_true rfl) rfl ?_
          refine z_goto (tgt := 18) (TX8_mostAlike.at 42 rfl) rfl ?_
          exact ih (b + 1) _ _ _ _ (by omega) (by omega) (by omega) (by rw [es, sm_s b0]; first | (rw [b2i_t ⟨by assumption, by rw [← hw a a0 a7, ← hw b b0 (by omega)]; omega⟩]; done) | (rw [b2i_f (fun z => absurd z.1 (by assumption))]; done) | (rw [b2i_f (fun z => absurd z.2 (by rw [← hw a a0 a7, ← hw b b0 (by omega)]; omega))]; done)) eg38 hfE hgE hH hA

set_option maxHeartbeats 4000000 in
set_option maxRecDepth 100000 in
theorem lp_mal2 {l : Launch} {o : Nat} {ar : Nat → Nat} {d : Nat} {Pz : Option Value → zH → Prop} {h0 : zH} {f0 : mF} {g0 : mA} {j : mA} (hd : 1 ≤ d) {X w : Int → Int} {s t : Int} (hs : z31 s) (t0 : 0 ≤ t) (t7 : t ≤ 7) (hw : ∀ a : Int, 0 ≤ a → a ≤ 7 → X (8 * a + t) = w a) (kx : ∀ (o5 o6 : Option Value) (f : mF) (g : mA) (h : zH), eqx [] f0 f → eqx [] g0 g → HM o ar f g j h → zAg o ar h0 h → Z l MX8_mostAlike d 0 0 Pz 103 [some (.ref o), some (vI s), some (vI t), some (vI (mAl w s)), some (vI 8), o5, o6] [] h 0 0)  : ∀ (n : Nat) (a : Int) (m : Int) (o5 : Option Value) (o6 : Option Value) (f : mF) (g : mA) (h : zH) (a0 : 0 ≤ a) (a1 : a ≤ 8) (a2 : 8 < a + n) (es : m = lastN (alkN w s) s a.toNat) (eg38 : g 38 = X) (hfE : eqx [] f0 f) (hgE : eqx [] g0 g) (hH : HM o ar f g j h) (hA : zAg o ar h0 h), Z l MX8_mostAlike d 0 0 Pz 5 [some (.ref o), some (vI s), some (vI t), some (vI m), some (vI a), o5, o6] [] h 0 0 := by
  intro n
  induction n with
  | zero => intro a m o5 o6 f g h a0 a1 a2 es eg38 hfE hgE hH hA; exfalso; omega
  | succ n ih =>
    intro a m o5 o6 f g h a0 a1 a2 es eg38 hfE hgE hH hA
    have hx := mAl_in (w := w) (s := s) (n := a.toNat)
    have hx2 := alk_in (w := w) (s := s) (a := a) (i := 8) (by decide)
    rw [show sm (fun b => b2i (bt s b ∧ w a = w b)) 8 = alkN w s a from rfl] at hx2
    refine z_ild_4 (TX8_mostAlike.at 4 rfl) ?_
    refine z_bipush (by decide) (TX8_mostAlike.at 5 rfl) ?_
    refine z_icmp_ge (tgt := 103) (TX8_mostAlike.at 6 rfl) rfl (by omega) (by omega) (fun c1 => ?_) (fun c1 => ?_)
    · skip
      obtain rfl : a = 8 := by omega
      rw [es]
      exact kx _ _ _ _ _ hfE hgE hH hA
    · skip
      refine z_iconst (TX8_mostAlike.at 7 rfl) ?_
      refine z_ist_5 (TX8_mostAlike.at 8 rfl) (Nat.le_of_ble_eq_true rfl) rfl ?_
      refine z_iconst (TX8_mostAlike.at 9 rfl) ?_
      refine z_ist_6 (TX8_mostAlike.at 10 rfl) (Nat.le_of_ble_eq_true rfl) rfl ?_
      refine lp_mal1 (t := t) (m := m) (w := w) hd hs t0 t7 a0 (by omega) hw (fun f18 g18 h eg38 xf xg hH hA => ?_) 9 0 0 _ _ _ (by omega) (by omega) (by omega) rfl eg38 eqx.rf eqx.rf hH hA
      have hfE := hfE.trans xf (by decide)
      have hgE := hgE.trans xg (by decide)
      refine z_ild_1 (TX8_mostAlike.at 43 rfl) ?_
      refine z_ild_4 (TX8_mostAlike.at 44 rfl) ?_
      refine zs_call2 (s_isIn (by omega) (by omega) (by omega)) (TX8_mostAlike.at 45 rfl) c8_339 rfl (by omega) (Nat.le_of_ble_eq_true rfl) (fun r80 => ?_)
      refine z_if_eqB (tgt := 95) (TX8_mostAlike.at 46 rfl) rfl (fun c2 => ?_) (fun c2 => ?_)
      · skip
        refine z_ild_3 (TX8_mostAlike.at 51 rfl) ?_
        refine z_ist_3 (TX8_mostAlike.at 52 rfl) (Nat.le_of_ble_eq_true rfl) rfl ?_
        refine z_iinc_4 (TX8_mostAlike.at 53 rfl) (Nat.le_of_ble_eq_true rfl) rfl ?_
        refine z_goto (tgt := 5) (TX8_mostAlike.at 54 rfl) rfl ?_
        exact ih (a + 1) _ _ _ _ _ _ (by omega) (by omega) (by omega) (by rw [es, lastN_s a0]; first | rw [if_pos (by assumption)] | rw [if_neg (by assumption)]) eg38 hfE hgE hH hA
      · skip
        refine z_ild_3 (TX8_mostAlike.at 47 rfl) ?_
        refine z_ild_5 (TX8_mostAlike.at 48 rfl) ?_
        refine zs_call2 (s_greater (by omega) (by omega)) (TX8_mostAlike.at 49 rfl) c8_390 rfl (by omega) (Nat.le_of_ble_eq_true rfl) (fun r89 => ?_)
        refine z_goto (tgt := 96) (TX8_mostAlike.at 50 rfl) rfl ?_
        refine z_ist_3 (TX8_mostAlike.at 52 rfl) (Nat.le_of_ble_eq_true rfl) rfl ?_
        refine z_iinc_4 (TX8_mostAlike.at 53 rfl) (Nat.le_of_ble_eq_true rfl) rfl ?_
        refine z_goto (tgt := 5) (TX8_mostAlike.at 54 rfl) rfl ?_
        exact ih (a + 1) _ _ _ _ _ _ (by omega) (by omega) (by omega) (by rw [es, lastN_s a0]; first | rw [if_pos (by assumption)] | rw [if_neg (by assumption)]) eg38 hfE hgE hH hA

set_option maxHeartbeats 4000000 in
set_option maxRecDepth 100000 in
theorem m_mostAlike {l : Launch} {o : Nat} {ar : Nat → Nat} {f : mF} {g j : mA} {X : Int → Int} {s t : Int} {w : Int → Int} (eg38 : g 38 = X) (hs : zIn s) (ht : zIn t) (hs : z31 s) (t0 : 0 ≤ t) (t7 : t ≤ 7) (hw : ∀ a : Int, 0 ≤ a → a ≤ 7 → X (8 * a + t) = w a) : MM l o ar MX8_mostAlike 1 [.ref o, vI s, vI t] f g j (PI (fun r f' g' j' => (r = mAl w s) ∧ eqx [] f f' ∧ eqx [] g g' ∧ j' = j)) := by
  refine MM.intro [some (.ref o), some (vI s), some (vI t), none, none, none, none] (by decide) (Nat.le_of_ble_eq_true rfl) rfl (fun d hd h0 h hH hA => ?_)
  have hfE : eqx [] f f := eqx.rf
  have hgE : eqx [] g g := eqx.rf
  have hx := mAl_in (w := w) (s := s) (n := 8)
  rw [show lastN (alkN w s) s 8 = mAl w s from rfl] at hx
  refine z_iconst (TX8_mostAlike.at 0 rfl) ?_
  refine z_ist_3 (TX8_mostAlike.at 1 rfl) (Nat.le_of_ble_eq_true rfl) rfl ?_
  refine z_iconst (TX8_mostAlike.at 2 rfl) ?_
  refine z_ist_4 (TX8_mostAlike.at 3 rfl) (Nat.le_of_ble_eq_true rfl) rfl ?_
  refine lp_mal2 (w := w) hd hs t0 t7 hw (fun o5 o6 f5 g5 h  xf xg hH hA => ?_) 9 0 0 none none _ _ _ (by omega) (by omega) (by omega) rfl eg38 eqx.rf eqx.rf hH hA
  have hfE := hfE.trans xf (by decide)
  have eg38 := (xg 38 (by decide)).trans eg38
  have hgE := hgE.trans xg (by decide)
  refine z_ild_3 (TX8_mostAlike.at 55 rfl) ?_
  refine zm_iret (TX8_mostAlike.at 56 rfl) rfl hH hA (by omega) ?_
  exact ⟨rfl, hfE, hgE, rfl⟩

def lkS (K : Int → Int) (cl : List Cla) : Int × Int := if wasV K cl = 0 then (1000000, -1) else srch (fun _ => true) (fun t => mAl (fun a => cmP K cl (zshl 1 a) t) (wasV K cl)) 8
def lkV (K : Int → Int) (cl : List Cla) (w : Int) : Int := if 0 ≤ w ∧ w ≤ 1 then srchR (lkS K cl) (w = 0) else -1
set_option maxHeartbeats 4000000 in
set_option maxRecDepth 100000 in
theorem lp_look1 {l : Launch} {o : Nat} {ar : Nat → Nat} {d : Nat} {Pz : Option Value → zH → Prop} {h0 : zH} {f0 : mF} {g0 : mA} {j : mA}  {K B Hd C X : Int → Int} {cl : List Cla} {w s a : Int} (a0 : 0 ≤ a) (a7 : a ≤ 7) (kx : ∀ (f : mF) (g : mA) (h : zH), g 2 = K → g 30 = B → g 31 = Hd → g 32 = C → g 38 = cpy X C (8 * a) 0 8 → f 33 = ctS K cl → eqx [] f0 f → eqx [38] g0 g → HM o ar f g j h → zAg o ar h0 h → Z l MX8_look d 0 0 Pz 70 [some (.ref o), some (vI w), some (vI s), some (vI a), some (vI 8), none, none] [] h 0 0)  : ∀ (n : Nat) (b : Int) (f : mF) (g : mA) (h : zH) (b0 : 0 ≤ b) (b1 : b ≤ 8) (b2 : 8 < b + n) (eg2 : g 2 = K) (eg30 : g 30 = B) (eg31 : g 31 = Hd) (eg32 : g 32 = C) (eg38 : g 38 = cpy X C (8 * a) 0 b) (ef33 : f 33 = ctS K cl) (hfE : eqx [] f0 f) (hgE : eqx [38] g0 g) (hH : HM o ar f g j h) (hA : zAg o ar h0 h), Z l MX8_look d 0 0 Pz 38 [some (.ref o), some (vI w), some (vI s), some (vI a), some (vI b), none, none] [] h 0 0 := by
  intro n
  induction n with
  | zero => intro b f g h b0 b1 b2 eg2 eg30 eg31 eg32 eg38 ef33 hfE hgE hH hA; exfalso; omega
  | succ n ih =>
    intro b f g h b0 b1 b2 eg2 eg30 eg31 eg32 eg38 ef33 hfE hgE hH hA
    refine z_ild_4 (TX8_look_0.at 24 rfl) ?_
    refine z_bipush (by decide) (TX8_look_0.at 25 rfl) ?_
    refine z_icmp_ge (tgt := 70) (TX8_look_0.at 26 rfl) rfl (by omega) (by omega) (fun c1 => ?_) (fun c1 => ?_)
    · skip
      obtain rfl : b = 8 := by omega
      exact kx _ _ _ eg2 eg30 eg31 eg32 eg38 ef33 hfE hgE hH hA
    · skip
      refine z_ald_0 (TX8_look_0.at 27 rfl) ?_
      refine zm_getA (TX8_look_0.at 28 rfl) fl8_84 hH (by decide) (by decide) ?_
      refine z_bipush (by decide) (TX8_look_0.at 29 rfl) ?_
      refine z_ild_3 (TX8_look_0.at 30 rfl) ?_
      refine z_imul (TX8_look_0.at 31 rfl) ?_
      refine z_ild_4 (TX8_look_0.at 32 rfl) ?_
      refine z_iadd (TX8_look_0.at 33 rfl) ?_
      refine z_ald_0 (TX8_look_0.at 34 rfl) ?_
      refine zm_getA (TX8_look_0.at 35 rfl) fl8_72 hH (by decide) (by decide) ?_
      refine z_ild_4 (TX8_look_0.at 36 rfl) ?_
      refine zm_ialdE eg32 (TX8_look_0.at 37 rfl) hH rfl (by omega) (show _ < ((8 : Nat) : Int) by omega) (fun r62 => ?_)
      refine zm_iastE (TX8_look_0.at 38 rfl) hH hA rfl (by omega) (show _ < ((64 : Nat) : Int) by omega) (by omega) (fun h g63 e1 e2 hH hA => ?_)
      have eg2 := (e1 2 (by decide)).trans eg2
      have eg30 := (e1 30 (by decide)).trans eg30
      have eg31 := (e1 31 (by decide)).trans eg31
      have eg32 := (e1 32 (by decide)).trans eg32
      rw [eg38] at e2; have eg38 := e2
      have hgE := hgE.put e1 (by decide)
      refine z_iinc_4 (TX8_look_0.at 39 rfl) (Nat.le_of_ble_eq_true rfl) rfl ?_
      refine z_goto (tgt := 38) (TX8_look_1.at 0 rfl) rfl ?_
      exact ih (b + 1) _ _ _ (by omega) (by omega) (by omega) eg2 eg30 eg31 eg32 (by rw [cpy_s b0 (by omega) (by omega)] at eg38; exact eg38) ef33 hfE hgE hH hA

set_option maxHeartbeats 4000000 in
set_option maxRecDepth 100000 in
theorem lp_look2 {l : Launch} {o : Nat} {ar : Nat → Nat} {d : Nat} {Pz : Option Value → zH → Prop} {h0 : zH} {f0 : mF} {g0 : mA} {j : mA} (hd : 60 ≤ d) {K B Hd : Int → Int} {cl : List Cla} {w s : Int} (hK : KOK K) (hT : TmOK K cl B Hd) (kx : ∀ (X : Int → Int) (o4 : Option Value) (f : mF) (g : mA) (h : zH), (∀ t b : Int, 0 ≤ t → t < 8 → 0 ≤ b → b ≤ 7 → X (8 * t + b) = cmP K cl (zshl 1 t) b) → g 38 = X → eqx [] f0 f → eqx [32, 38] g0 g → HM o ar f g j h → zAg o ar h0 h → Z l MX8_look d 0 0 Pz 76 [some (.ref o), some (vI w), some (vI s), some (vI 8), o4, none, none] [] h 0 0)  : ∀ (n : Nat) (a : Int) (C : Int → Int) (X : Int → Int) (o4 : Option Value) (f : mF) (g : mA) (h : zH) (a0 : 0 ≤ a) (a1 : a ≤ 8) (a2 : 8 < a + n) (hX : ∀ t b : Int, 0 ≤ t → t < a → 0 ≤ b → b ≤ 7 → X (8 * t + b) = cmP K cl (zshl 1 t) b) (eg2 : g 2 = K) (eg30 : g 30 = B) (eg31 : g 31 = Hd) (eg32 : g 32 = C) (eg38 : g 38 = X) (ef33 : f 33 = ctS K cl) (hfE : eqx [] f0 f) (hgE : eqx [32, 38] g0 g) (hH : HM o ar f g j h) (hA : zAg o ar h0 h), Z l MX8_look d 0 0 Pz 18 [some (.ref o), some (vI w), some (vI s), some (vI a), o4, none, none] [] h 0 0 := by
  intro n
  induction n with
  | zero => intro a C X o4 f g h a0 a1 a2 hX eg2 eg30 eg31 eg32 eg38 ef33 hfE hgE hH hA; exfalso; omega
  | succ n ih =>
    intro a C X o4 f g h a0 a1 a2 hX eg2 eg30 eg31 eg32 eg38 ef33 hfE hgE hH hA
    have hn := hK.1
    have hcs := ctS_31 (cl := cl) hK
    refine z_ild_3 (TX8_look_0.at 12 rfl) ?_
    refine z_bipush (by decide) (TX8_look_0.at 13 rfl) ?_
    refine z_icmp_ge (tgt := 76) (TX8_look_0.at 14 rfl) rfl (by omega) (by omega) (fun c1 => ?_) (fun c1 => ?_)
    · skip
      obtain rfl : a = 8 := by omega
      exact kx X _ _ _ _ hX eg38 hfE hgE hH hA
    · skip
      refine z_ald_0 (TX8_look_0.at 15 rfl) ?_
      refine z_iconst (TX8_look_0.at 16 rfl) ?_
      refine z_ild_3 (TX8_look_0.at 17 rfl) ?_
      have hsh := shl_in (i := a) a0 (by omega)
      refine z_ishl (TX8_look_0.at 18 rfl) ?_
      refine z_ald_0 (TX8_look_0.at 19 rfl) ?_
      refine zm_getIE ef33 (TX8_look_0.at 20 rfl) fl8_333 hH rfl (by decide) (fun r29 => ?_)
      refine zm_callV2 (m_firesFrom eg2 eg30 eg31 rfl (by omega) (by omega) (by omega) hcs hn.1 hn.2 (hT.fr hK)) (TX8_look_0.at 21 rfl) c8_387 rfl rfl hH hA (by omega) (Nat.le_of_ble_eq_true rfl) (fun f32 g32 j32 h q32 hH hA => ?_)
      obtain ⟨q32, xf, xg, xj⟩ := q32
      rw [xj] at hH
      have ef33 := (xf 33 (by decide)).trans ef33
      have hfE := hfE.trans xf (by decide)
      have eg2 := (xg 2 (by decide)).trans eg2
      have eg30 := (xg 30 (by decide)).trans eg30
      have eg31 := (xg 31 (by decide)).trans eg31
      have eg38 := (xg 38 (by decide)).trans eg38
      have hgE := hgE.trans xg (by decide)
      have qL := q32
      obtain ⟨C, eg32⟩ : ∃ z, g32 32 = z := ⟨_, rfl⟩
      rw [eg32, hT.dist hK] at qL
      have hD : ag8 C (cmP K cl (zshl 1 a)) := qL
      have hCD : COK (cmP K cl (zshl 1 a)) := cmP_ok hK
      refine z_iconst (TX8_look_0.at 22 rfl) ?_
      refine z_ist_4 (TX8_look_0.at 23 rfl) (Nat.le_of_ble_eq_true rfl) rfl ?_
      refine lp_look1 (cl := cl) (w := w) (s := s) (a := a) a0 (by omega) (fun f38 g38 h eg2 eg30 eg31 eg32 eg38 ef33 xf xg hH hA => ?_) 9 0 _ _ _ (by omega) (by omega) (by omega) eg2 eg30 eg31 eg32 (eg38.trans (cpy_0 _ _ _ _).symm) ef33 eqx.rf eqx.rf hH hA
      have hfE := hfE.trans xf (by decide)
      have hgE := hgE.trans xg (by decide)
      refine z_iinc_3 (TX8_look_1.at 1 rfl) (Nat.le_of_ble_eq_true rfl) rfl ?_
      refine z_goto (tgt := 18) (TX8_look_1.at 2 rfl) rfl ?_
      exact ih (a + 1) _ _ _ _ _ _ (by omega) (by omega) (by omega) (fun t b t0 t1 b0 b7 => by
        unfold cpy
        rcases (show t < a ∨ t = a by omega) with q | q
        · rw [if_neg (by omega)]; exact hX t b t0 q b0 b7
        · subst q; rw [if_pos (by omega), show 8 * t + b - 8 * t + 0 = b by omega]; exact hD b b0 b7) eg2 eg30 eg31 eg32 eg38 ef33 hfE hgE hH hA

set_option maxHeartbeats 4000000 in
set_option maxRecDepth 100000 in
theorem lp_look3 {l : Launch} {o : Nat} {ar : Nat → Nat} {d : Nat} {Pz : Option Value → zH → Prop} {h0 : zH} {f0 : mF} {g0 : mA} {j : mA} (hd : 3 ≤ d) {K X : Int → Int} {cl : List Cla} {w s : Int} (hs : z31 s) (hX : ∀ t b : Int, 0 ≤ t → t < 8 → 0 ≤ b → b ≤ 7 → X (8 * t + b) = cmP K cl (zshl 1 t) b) (kx : ∀ (a b : Int) (o5 o6 : Option Value) (f : mF) (g : mA) (h : zH), (a, b) = (if s = 0 then (1000000, -1) else srch (fun _ => true) (fun t => mAl (fun a => cmP K cl (zshl 1 a) t) s) 8) → eqx [] f0 f → eqx [] g0 g → HM o ar f g j h → zAg o ar h0 h → Z l MX8_look d 0 0 Pz 128 [some (.ref o), some (vI w), some (vI s), some (vI b), some (vI a), o5, o6] [] h 0 0)  : ∀ (n : Nat) (t : Int) (a : Int) (b : Int) (o6 : Option Value) (f : mF) (g : mA) (h : zH) (k0 : 0 ≤ t) (k1 : t ≤ 8) (k2 : 8 < t + n) (iz : s = 0 → t = 0) (es : (a, b) = srch (fun _ => true) (fun t => mAl (fun a => cmP K cl (zshl 1 a) t) s) t.toNat) (eg38 : g 38 = X) (hfE : eqx [] f0 f) (hgE : eqx [] g0 g) (hH : HM o ar f g j h) (hA : zAg o ar h0 h), Z l MX8_look d 0 0 Pz 85 [some (.ref o), some (vI w), some (vI s), some (vI b), some (vI a), some (vI t), o6] [] h 0 0 := by
  intro n
  induction n with
  | zero => intro t a b o6 f g h k0 k1 k2 iz es eg38 hfE hgE hH hA; exfalso; omega
  | succ n ih =>
    intro t a b o6 f g h k0 k1 k2 iz es eg38 hfE hgE hH hA
    have hsi := srch_in (p := (fun _ => true)) (v := (fun t => mAl (fun a => cmP K cl (zshl 1 a) t) s)) t.toNat (fun t _ _ => (mAl_in (n := 8)).1)
    rw [← es] at hsi
    simp only at hsi
    refine z_ild_5 (TX8_look_1.at 9 rfl) ?_
    refine z_bipush (by decide) (TX8_look_1.at 10 rfl) ?_
    refine z_icmp_ge (tgt := 128) (TX8_look_1.at 11 rfl) rfl (by omega) (by omega) (fun c1 => ?_) (fun c1 => ?_)
    · skip
      exact kx a b _ _ _ _ _ (by first | (have ht : t = 8 := (by omega); subst ht; rw [if_neg (fun z => absurd (iz z) (by decide))]; exact es) | (have ht : s = 0 := (by omega); have ht2 := iz ht; subst ht2; rw [if_pos ht]; exact es)) hfE hgE hH hA
    · skip
      refine z_ild_2 (TX8_look_1.at 12 rfl) ?_
      refine z_if_eq (tgt := 128) (TX8_look_1.at 13 rfl) rfl (by omega) (fun c2 => ?_) (fun c2 => ?_)
      · skip
        exact kx a b _ _ _ _ _ (by first | (have ht : t = 8 := (by omega); subst ht; rw [if_neg (fun z => absurd (iz z) (by decide))]; exact es) | (have ht : s = 0 := (by omega); have ht2 := iz ht; subst ht2; rw [if_pos ht]; exact es)) hfE hgE hH hA
      · skip
        refine z_ald_0 (TX8_look_1.at 14 rfl) ?_
        refine z_ild_2 (TX8_look_1.at 15 rfl) ?_
        refine z_ild_5 (TX8_look_1.at 16 rfl) ?_
        refine zm_callI2 (m_mostAlike (w := fun a => cmP K cl (zshl 1 a) t) eg38 (by omega) (by omega) hs k0 (by omega) (fun a a0 a7 => hX a t a0 (by omega) k0 (by omega))) (TX8_look_1.at 17 rfl) c8_429 rfl rfl hH hA (by omega) (Nat.le_of_ble_eq_true rfl) (fun x100 f100 g100 j100 h r100 q100 hH hA => ?_)
        obtain ⟨q100, xf, xg, xj⟩ := q100
        rw [xj] at hH
        have hfE := hfE.trans xf (by decide)
        have eg38 := (xg 38 (by decide)).trans eg38
        have hgE := hgE.trans xg (by decide)
        have qL := q100
        rw [qL] at r100 ⊢
        have hla := mAl_in (w := fun a => cmP K cl (zshl 1 a) t) (s := s) (n := 8)
        rw [show lastN (alkN (fun a => cmP K cl (zshl 1 a) t) s) s 8 = mAl (fun a => cmP K cl (zshl 1 a) t) s from rfl] at hla
        refine z_ist_6 (TX8_look_1.at 18 rfl) (Nat.le_of_ble_eq_true rfl) rfl ?_
        refine z_ild_6 (TX8_look_1.at 19 rfl) ?_
        refine z_ild_4 (TX8_look_1.at 20 rfl) ?_
        refine z_icmp_lt (tgt := 115) (TX8_look_1.at 21 rfl) rfl (by omega) (by omega) (fun c3 => ?_) (fun c3 => ?_)
        · skip
          refine z_ild_6 (TX8_look_1.at 23 rfl) ?_
          refine z_ist_4 (TX8_look_1.at 24 rfl) (Nat.le_of_ble_eq_true rfl) rfl ?_
          refine z_ild_5 (TX8_look_1.at 25 rfl) ?_
          refine z_ist_3 (TX8_look_1.at 26 rfl) (Nat.le_of_ble_eq_true rfl) rfl ?_
          refine z_iinc_5 (TX8_look_1.at 27 rfl) (Nat.le_of_ble_eq_true rfl) rfl ?_
          refine z_goto (tgt := 85) (TX8_look_1.at 28 rfl) rfl ?_
          exact ih (t + 1) _ _ _ _ _ _ (by omega) (by omega) (by omega) (fun z => by omega) (by first | exact srch_t k0 es rfl (by first | omega | (simp only; omega)) | exact srch_f k0 es (fun z => absurd z.2 (by first | omega | (simp only; omega)))) eg38 hfE hgE hH hA
        · skip
          refine z_goto (tgt := 122) (TX8_look_1.at 22 rfl) rfl ?_
          refine z_iinc_5 (TX8_look_1.at 27 rfl) (Nat.le_of_ble_eq_true rfl) rfl ?_
          refine z_goto (tgt := 85) (TX8_look_1.at 28 rfl) rfl ?_
          exact ih (t + 1) _ _ _ _ _ _ (by omega) (by omega) (by omega) (fun z => by omega) (by first | exact srch_t k0 es rfl (by first | omega | (simp only; omega)) | exact srch_f k0 es (fun z => absurd z.2 (by first | omega | (simp only; omega)))) eg38 hfE hgE hH hA

set_option maxHeartbeats 4000000 in
set_option maxRecDepth 100000 in
theorem m_look {l : Launch} {o : Nat} {ar : Nat → Nat} {f : mF} {g j : mA} {K : Int → Int} {w : Int} {cl : List Cla} (eg2 : g 2 = K) (hw : zIn w) (hK : KOK K) (hL : LawK K cl) : MM l o ar MX8_look 64 [.ref o, vI w] f g j (PI (fun r f' g' j' => (r = lkV K cl w) ∧ eqx [22, 23, 24, 25, 33] f f' ∧ eqx [26, 30, 31, 32, 38] g g' ∧ j' = j)) := by
  refine MM.intro [some (.ref o), some (vI w), none, none, none, none, none] (by decide) (Nat.le_of_ble_eq_true rfl) rfl (fun d hd h0 h hH hA => ?_)
  have hfE : eqx [22, 23, 24, 25, 33] f f := eqx.rf
  have hgE : eqx [26, 30, 31, 32, 38] g g := eqx.rf
  have hn := hK.1
  have hcs := ctS_31 (cl := cl) hK
  have hwi := wasV_in K cl
  refine z_ild_1 (TX8_look_0.at 0 rfl) ?_
  refine z_iconst (TX8_look_0.at 1 rfl) ?_
  refine z_iconst (TX8_look_0.at 2 rfl) ?_
  refine zs_call3 (s_lies (by omega) (by omega) (by omega)) (TX8_look_0.at 3 rfl) c8_18 rfl (by omega) (Nat.le_of_ble_eq_true rfl) (fun r3 => ?_)
  refine z_if_neB (tgt := 11) (TX8_look_0.at 4 rfl) rfl (fun c1 => ?_) (fun c1 => ?_)
  · skip
    refine z_ald_0 (TX8_look_0.at 7 rfl) ?_
    refine zm_callI0 (m_was (cl := cl) eg2 hK hL) (TX8_look_0.at 8 rfl) c8_426 rfl rfl hH hA (by omega) (Nat.le_of_ble_eq_true rfl) (fun x12 f12 g12 j12 h r12 q12 hH hA => ?_)
    obtain ⟨q12, xf, xg, xj⟩ := q12
    rw [xj] at hH
    have hfE := hfE.trans xf (by decide)
    have eg2 := (xg 2 (by decide)).trans eg2
    have hgE := hgE.trans xg (by decide)
    have qL := q12
    obtain ⟨B, eg30⟩ : ∃ z, g12 30 = z := ⟨_, rfl⟩
    obtain ⟨Hd, eg31⟩ : ∃ z, g12 31 = z := ⟨_, rfl⟩
    obtain ⟨X, eg38⟩ : ∃ z, g12 38 = z := ⟨_, rfl⟩
    rw [eg30, eg31] at qL
    obtain ⟨q1, hT, ef33⟩ := qL
    rw [q1] at r12 ⊢
    refine z_ist_2 (TX8_look_0.at 9 rfl) (Nat.le_of_ble_eq_true rfl) rfl ?_
    refine z_iconst (TX8_look_0.at 10 rfl) ?_
    refine z_ist_3 (TX8_look_0.at 11 rfl) (Nat.le_of_ble_eq_true rfl) rfl ?_
    refine lp_look2 (cl := cl) (w := w) (s := wasV K cl) (by omega) hK hT (fun X2 o4 f18 g18 h hX eg38 xf xg hH hA => ?_) 9 0 _ _ _ _ _ _ (by omega) (by omega) (by omega) (fun t b t0 t1 => by omega) eg2 eg30 eg31 rfl eg38 ef33 eqx.rf eqx.rf hH hA
    have ef33 := (xf 33 (by decide)).trans ef33
    have hfE := hfE.trans xf (by decide)
    have eg2 := (xg 2 (by decide)).trans eg2
    have eg30 := (xg 30 (by decide)).trans eg30
    have eg31 := (xg 31 (by decide)).trans eg31
    have hgE := hgE.trans xg (by decide)
    refine z_iconst (TX8_look_1.at 3 rfl) ?_
    refine z_ist_3 (TX8_look_1.at 4 rfl) (Nat.le_of_ble_eq_true rfl) rfl ?_
    refine z_ldc (v := 1000000) (TX8_look_1.at 5 rfl) k8_169 (by decide) ?_
    refine z_ist_4 (TX8_look_1.at 6 rfl) (Nat.le_of_ble_eq_true rfl) rfl ?_
    refine z_iconst (TX8_look_1.at 7 rfl) ?_
    refine z_ist_5 (TX8_look_1.at 8 rfl) (Nat.le_of_ble_eq_true rfl) rfl ?_
    refine lp_look3 (K := K) (cl := cl) (w := w) (s := wasV K cl) (by omega) ⟨hwi.1, by omega⟩ hX (fun a b o5 o6 f85 g85 h es xf xg hH hA => ?_) 9 0 1000000 (-1) none _ _ _ (by omega) (by omega) (by omega) (fun _ => rfl) rfl eg38 eqx.rf eqx.rf hH hA
    have ef33 := (xf 33 (by decide)).trans ef33
    have hfE := hfE.trans xf (by decide)
    have eg2 := (xg 2 (by decide)).trans eg2
    have eg30 := (xg 30 (by decide)).trans eg30
    have eg31 := (xg 31 (by decide)).trans eg31
    have eg38 := (xg 38 (by decide)).trans eg38
    have hgE := hgE.trans xg (by decide)
    have hsi : (0 ≤ a ∧ a ≤ 1000000) ∧ -1 ≤ b ∧ b < 8 := by
      have q := srch_in (p := (fun _ => true)) (v := (fun t => mAl (fun a => cmP K cl (zshl 1 a) t) (wasV K cl))) 8 (fun t _ _ => (mAl_in (n := 8)).1)
      split at es
      · cases es; omega
      · rw [← es] at q; simp only at q; omega
    refine z_ild_3 (TX8_look_1.at 29 rfl) ?_
    refine z_iconst (TX8_look_1.at 30 rfl) ?_
    refine z_icmp_eq (tgt := 137) (TX8_look_1.at 31 rfl) rfl (by omega) (by omega) (fun c2 => ?_) (fun c2 => ?_)
    · skip
      refine z_ild_3 (TX8_look_1.at 34 rfl) ?_
      refine z_goto (tgt := 143) (TX8_look_1.at 35 rfl) rfl ?_
      refine zm_iret (TX8_look_1.at 37 rfl) rfl hH hA (by omega) ?_
      exact ⟨by unfold lkV srchR lkS; rw [if_pos (show 0 ≤ w ∧ w ≤ 1 by omega), ← es]; simp only; first | (rw [if_pos (by omega)]; done) | (rw [if_neg (by omega)]; done), hfE, hgE, rfl⟩
    · skip
      refine z_ild_1 (TX8_look_1.at 32 rfl) ?_
      refine z_if_ne (tgt := 141) (TX8_look_1.at 33 rfl) rfl (by omega) (fun c3 => ?_) (fun c3 => ?_)
      · skip
        refine z_ild_4 (TX8_look_1.at 36 rfl) ?_
        refine zm_iret (TX8_look_1.at 37 rfl) rfl hH hA (by omega) ?_
        exact ⟨by unfold lkV srchR lkS; rw [if_pos (show 0 ≤ w ∧ w ≤ 1 by omega), ← es]; simp only; first | (rw [if_pos (by omega)]; done) | (rw [if_neg (by omega)]; done), hfE, hgE, rfl⟩
      · skip
        refine z_ild_3 (TX8_look_1.at 34 rfl) ?_
        refine z_goto (tgt := 143) (TX8_look_1.at 35 rfl) rfl ?_
        refine zm_iret (TX8_look_1.at 37 rfl) rfl hH hA (by omega) ?_
        exact ⟨by unfold lkV srchR lkS; rw [if_pos (show 0 ≤ w ∧ w ≤ 1 by omega), ← es]; simp only; first | (rw [if_pos (by omega)]; done) | (rw [if_neg (by omega)]; done), hfE, hgE, rfl⟩
  · skip
    refine z_iconst (TX8_look_0.at 5 rfl) ?_
    refine zm_iret (TX8_look_0.at 6 rfl) rfl hH hA (by omega) ?_
    exact ⟨by unfold lkV; rw [if_neg (by omega)], hfE, hgE, rfl⟩

def wetB (K : Int → Int) (cl : List Cla) (a b s x : Int) : Bool := decide (K x = 0 ∧ orN (dK K cl (zand (ctS K cl) (zxor (zshl 1 x) (-1))) (src (zshl 1 a)) b) = s)
def wetV (K : Int → Int) (cl : List Cla) (a b s : Int) : Int := if (0 ≤ a ∧ a ≤ 7) ∧ (0 ≤ b ∧ b ≤ 7) ∧ -1 ≤ s ∧ s ≤ 999 then msk (wetB K cl a b s) (K 76).toNat else -1
set_option maxHeartbeats 4000000 in
set_option maxRecDepth 100000 in
theorem lp_wet {l : Launch} {o : Nat} {ar : Nat → Nat} {d : Nat} {Pz : Option Value → zH → Prop} {h0 : zH} {f0 : mF} {g0 : mA} {j : mA} (hd : 60 ≤ d) {K B Hd : Int → Int} {cl : List Cla} {a b sc : Int} (a0 : 0 ≤ a) (a7 : a ≤ 7) (b0 : 0 ≤ b) (b7 : b ≤ 7) (hsc : zIn sc) (hK : KOK K) (hT : TmOK K cl B Hd) (kx : ∀  (C : Int → Int) (f : mF) (g : mA) (h : zH), g 2 = K → g 30 = B → g 31 = Hd → g 32 = C → f 33 = ctS K cl → eqx [] f0 f → eqx [32] g0 g → HM o ar f g j h → zAg o ar h0 h → Z l MX8_wet d 0 0 Pz 108 [some (.ref o), some (vI a), some (vI b), some (vI sc), some (vI (msk (wetB K cl a b sc) (K 76).toNat)), some (vI (K 76))] [] h 0 0)  : ∀ (n : Nat) (x : Int) (v : Int) (C : Int → Int) (f : mF) (g : mA) (h : zH) (x0 : 0 ≤ x) (x1 : x ≤ K 76) (x2 : K 76 < x + n) (es : v = msk (wetB K cl a b sc) x.toNat) (eg2 : g 2 = K) (eg30 : g 30 = B) (eg31 : g 31 = Hd) (eg32 : g 32 = C) (ef33 : f 33 = ctS K cl) (hfE : eqx [] f0 f) (hgE : eqx [32] g0 g) (hH : HM o ar f g j h) (hA : zAg o ar h0 h), Z l MX8_wet d 0 0 Pz 37 [some (.ref o), some (vI a), some (vI b), some (vI sc), some (vI v), some (vI x)] [] h 0 0 := by
  intro n
  induction n with
  | zero => intro x v C f g h x0 x1 x2 es eg2 eg30 eg31 eg32 ef33 hfE hgE hH hA; exfalso; omega
  | succ n ih =>
    intro x v C f g h x0 x1 x2 es eg2 eg30 eg31 eg32 ef33 hfE hgE hH hA
    have hn := hK.1
    have hcs := ctS_31 (cl := cl) hK
    have hm := msk_31 (p := wetB K cl a b sc) (n := x.toNat) (by omega)
    rw [← es] at hm
    refine z_ild_5 (TX8_wet_0.at 19 rfl) ?_
    refine z_ald_0 (TX8_wet_0.at 20 rfl) ?_
    refine zm_callP0 (m_fuseMany) (TX8_wet_0.at 21 rfl) c8_109 rfl rfl hH hA (by omega) (Nat.le_of_ble_eq_true rfl) (fun h r40 hH hA => ?_)
    rw [eg2] at r40 ⊢
    refine z_icmp_ge (tgt := 108) (TX8_wet_0.at 22 rfl) rfl (by omega) (by omega) (fun c1 => ?_) (fun c1 => ?_)
    · skip
      obtain rfl : x = K 76 := by omega
      rw [es]
      exact kx _ _ _ _ eg2 eg30 eg31 eg32 ef33 hfE hgE hH hA
    · skip
      refine z_ald_0 (TX8_wet_0.at 23 rfl) ?_
      refine z_iconst (TX8_wet_0.at 24 rfl) ?_
      refine z_ild_1 (TX8_wet_0.at 25 rfl) ?_
      have hsh := shl_in (i := a) a0 (by omega)
      refine z_ishl (TX8_wet_0.at 26 rfl) ?_
      refine z_ald_0 (TX8_wet_0.at 27 rfl) ?_
      refine zm_getIE ef33 (TX8_wet_0.at 28 rfl) fl8_333 hH rfl (by decide) (fun r51 => ?_)
      refine z_iconst (TX8_wet_0.at 29 rfl) ?_
      refine z_ild_5 (TX8_wet_0.at 30 rfl) ?_
      refine z_ishl (TX8_wet_0.at 31 rfl) ?_
      refine z_iconst (TX8_wet_0.at 32 rfl) ?_
      refine z_ixor (TX8_wet_0.at 33 rfl) ?_
      refine z_iand (TX8_wet_0.at 34 rfl) ?_
      have hzz := zandn_le (s := ctS K cl) (t := zshl 1 x) hcs (shl_31 x0 (by omega))
      refine zm_callV2 (m_firesFrom eg2 eg30 eg31 rfl (by omega) (by omega) (by omega) (by omega) hn.1 hn.2 (hT.fr hK)) (TX8_wet_0.at 35 rfl) c8_387 rfl rfl hH hA (by omega) (Nat.le_of_ble_eq_true rfl) (fun f61 g61 j61 h q61 hH hA => ?_)
      obtain ⟨q61, xf, xg, xj⟩ := q61
      rw [xj] at hH
      have ef33 := (xf 33 (by decide)).trans ef33
      have hfE := hfE.trans xf (by decide)
      have eg2 := (xg 2 (by decide)).trans eg2
      have eg30 := (xg 30 (by decide)).trans eg30
      have eg31 := (xg 31 (by decide)).trans eg31
      have hgE := hgE.trans xg (by decide)
      have qL := q61
      obtain ⟨C, eg32⟩ : ∃ z, g61 32 = z := ⟨_, rfl⟩
      rw [eg32, hT.dist hK] at qL
      have hD := qL
      refine z_ild_4 (TX8_wet_0.at 36 rfl) ?_
      refine z_ald_0 (TX8_wet_0.at 37 rfl) ?_
      refine zm_getA (TX8_wet_0.at 38 rfl) fl8_28 hH (by decide) (by decide) ?_
      refine z_iconst (TX8_wet_0.at 39 rfl) ?_
      refine z_ild_5 (TX8_wet_1.at 0 rfl) ?_
      refine z_iadd (TX8_wet_1.at 1 rfl) ?_
      refine zm_ialdE eg2 (TX8_wet_1.at 2 rfl) hH rfl (by omega) (show _ < ((5688 : Nat) : Int) by omega) (fun r74 => ?_)
      refine z_if_ne (tgt := 98) (TX8_wet_1.at 3 rfl) rfl (by omega) (fun c2 => ?_) (fun c2 => ?_)
      · skip
        refine z_iconst (TX8_wet_1.at 15 rfl) ?_
        refine z_ior (TX8_wet_1.at 16 rfl) ?_
        have zz := zor_31 (msk_31 (p := wetB K cl a b sc) (n := x.toNat) (by omega)) (show z31 0 by decide)
        rw [← es] at zz
        refine z_ist_4 (TX8_wet_1.at 17 rfl) (Nat.le_of_ble_eq_true rfl) rfl ?_
        refine z_iinc_5 (TX8_wet_1.at 18 rfl) (Nat.le_of_ble_eq_true rfl) rfl ?_
        refine z_goto (tgt := 37) (TX8_wet_1.at 19 rfl) rfl ?_
        exact ih (x + 1) _ _ _ _ _ (by omega) (by omega) (by omega) (by first | exact msk_1 x0 (decide_eq_true ⟨by rw [show (0 : Int) + x = x by omega] at *; omega, by rw [← hD b b0 b7]; omega⟩) (by rw [es]) | exact msk_0 x0 (fun z => absurd (of_decide_eq_true z).1 (by rw [show (0 : Int) + x = x by omega] at *; omega)) (by rw [es]) | exact msk_0 x0 (fun z => absurd (of_decide_eq_true z).2 (by rw [← hD b b0 b7]; omega)) (by rw [es])) eg2 eg30 eg31 eg32 ef33 hfE hgE hH hA
      · skip
        refine z_ald_0 (TX8_wet_1.at 4 rfl) ?_
        refine zm_getA (TX8_wet_1.at 5 rfl) fl8_72 hH (by decide) (by decide) ?_
        refine z_ild_2 (TX8_wet_1.at 6 rfl) ?_
        refine zm_ialdE eg32 (TX8_wet_1.at 7 rfl) hH rfl (by omega) (show _ < ((8 : Nat) : Int) by omega) (fun r83 => ?_)
        refine zs_call1 (s_orNone (by omega)) (TX8_wet_1.at 8 rfl) c8_357 rfl (by omega) (Nat.le_of_ble_eq_true rfl) (fun r84 => ?_)
        rw [show (if C b = 1000000 then -1 else C b) = orN (C b) from rfl] at r84 ⊢
        refine z_ild_3 (TX8_wet_1.at 9 rfl) ?_
        refine z_icmp_ne (tgt := 98) (TX8_wet_1.at 10 rfl) rfl (by omega) (by omega) (fun c3 => ?_) (fun c3 => ?_)
        · skip
          refine z_iconst (TX8_wet_1.at 15 rfl) ?_
          refine z_ior (TX8_wet_1.at 16 rfl) ?_
          have zz := zor_31 (msk_31 (p := wetB K cl a b sc) (n := x.toNat) (by omega)) (shl_31 x0 (by omega))
          rw [← es] at zz
          refine z_ist_4 (TX8_wet_1.at 17 rfl) (Nat.le_of_ble_eq_true rfl) rfl ?_
          refine z_iinc_5 (TX8_wet_1.at 18 rfl) (Nat.le_of_ble_eq_true rfl) rfl ?_
          refine z_goto (tgt := 37) (TX8_wet_1.at 19 rfl) rfl ?_
          exact ih (x + 1) _ _ _ _ _ (by omega) (by omega) (by omega) (by first | exact msk_1 x0 (decide_eq_true ⟨by rw [show (0 : Int) + x = x by omega] at *; omega, by rw [← hD b b0 b7]; omega⟩) (by rw [es]) | exact msk_0 x0 (fun z => absurd (of_decide_eq_true z).1 (by rw [show (0 : Int) + x = x by omega] at *; omega)) (by rw [es]) | exact msk_0 x0 (fun z => absurd (of_decide_eq_true z).2 (by rw [← hD b b0 b7]; omega)) (by rw [es])) eg2 eg30 eg31 eg32 ef33 hfE hgE hH hA
        · skip
          refine z_iconst (TX8_wet_1.at 11 rfl) ?_
          refine z_ild_5 (TX8_wet_1.at 12 rfl) ?_
          refine z_ishl (TX8_wet_1.at 13 rfl) ?_
          refine z_goto (tgt := 99) (TX8_wet_1.at 14 rfl) rfl ?_
          refine z_ior (TX8_wet_1.at 16 rfl) ?_
          have zz := zor_31 (msk_31 (p := wetB K cl a b sc) (n := x.toNat) (by omega)) (show z31 0 by decide)
          rw [← es] at zz
          refine z_ist_4 (TX8_wet_1.at 17 rfl) (Nat.le_of_ble_eq_true rfl) rfl ?_
          refine z_iinc_5 (TX8_wet_1.at 18 rfl) (Nat.le_of_ble_eq_true rfl) rfl ?_
          refine z_goto (tgt := 37) (TX8_wet_1.at 19 rfl) rfl ?_
          exact ih (x + 1) _ _ _ _ _ (by omega) (by omega) (by omega) (by first | exact msk_1 x0 (decide_eq_true ⟨by rw [show (0 : Int) + x = x by omega] at *; omega, by rw [← hD b b0 b7]; omega⟩) (by rw [es]) | exact msk_0 x0 (fun z => absurd (of_decide_eq_true z).1 (by rw [show (0 : Int) + x = x by omega] at *; omega)) (by rw [es]) | exact msk_0 x0 (fun z => absurd (of_decide_eq_true z).2 (by rw [← hD b b0 b7]; omega)) (by rw [es])) eg2 eg30 eg31 eg32 ef33 hfE hgE hH hA

set_option maxHeartbeats 4000000 in
set_option maxRecDepth 100000 in
theorem m_wet {l : Launch} {o : Nat} {ar : Nat → Nat} {f : mF} {g j : mA} {K : Int → Int} {a b sc : Int} {cl : List Cla} (eg2 : g 2 = K) (ha : zIn a) (hb : zIn b) (hsc : zIn sc) (hK : KOK K) (hL : LawK K cl) : MM l o ar MX8_wet 61 [.ref o, vI a, vI b, vI sc] f g j (PI (fun r f' g' j' => (r = wetV K cl a b sc) ∧ eqx [22, 23, 24, 25, 33] f f' ∧ eqx [26, 30, 31, 32] g g' ∧ j' = j)) := by
  refine MM.intro [some (.ref o), some (vI a), some (vI b), some (vI sc), none, none] (by decide) (Nat.le_of_ble_eq_true rfl) rfl (fun d hd h0 h hH hA => ?_)
  have hfE : eqx [22, 23, 24, 25, 33] f f := eqx.rf
  have hgE : eqx [26, 30, 31, 32] g g := eqx.rf
  have hn := hK.1
  have hcs := ctS_31 (cl := cl) hK
  have hm := msk_31 (p := wetB K cl a b sc) (n := (K 76).toNat) (by omega)
  refine z_ild_1 (TX8_wet_0.at 0 rfl) ?_
  refine zs_call1 (s_isKnot (by omega)) (TX8_wet_0.at 1 rfl) c8_113 rfl (by omega) (Nat.le_of_ble_eq_true rfl) (fun r1 => ?_)
  refine z_if_eqB (tgt := 25) (TX8_wet_0.at 2 rfl) rfl (fun c1 => ?_) (fun c1 => ?_)
  · skip
    refine z_iconst (TX8_wet_0.at 11 rfl) ?_
    refine zm_iret (TX8_wet_0.at 12 rfl) rfl hH hA (by omega) ?_
    exact ⟨by unfold wetV; rw [if_neg (by omega)], hfE, hgE, rfl⟩
  · skip
    refine z_ild_2 (TX8_wet_0.at 3 rfl) ?_
    refine zs_call1 (s_isKnot (by omega)) (TX8_wet_0.at 4 rfl) c8_113 rfl (by omega) (Nat.le_of_ble_eq_true rfl) (fun r8 => ?_)
    refine z_if_eqB (tgt := 25) (TX8_wet_0.at 5 rfl) rfl (fun c2 => ?_) (fun c2 => ?_)
    · skip
      refine z_iconst (TX8_wet_0.at 11 rfl) ?_
      refine zm_iret (TX8_wet_0.at 12 rfl) rfl hH hA (by omega) ?_
      exact ⟨by unfold wetV; rw [if_neg (by omega)], hfE, hgE, rfl⟩
    · skip
      refine z_ild_3 (TX8_wet_0.at 6 rfl) ?_
      refine z_iconst (TX8_wet_0.at 7 rfl) ?_
      refine z_sipush (by decide) (TX8_wet_0.at 8 rfl) ?_
      refine zs_call3 (s_lies (by omega) (by omega) (by omega)) (TX8_wet_0.at 9 rfl) c8_18 rfl (by omega) (Nat.le_of_ble_eq_true rfl) (fun r19 => ?_)
      refine z_if_neB (tgt := 27) (TX8_wet_0.at 10 rfl) rfl (fun c3 => ?_) (fun c3 => ?_)
      · skip
        refine z_ald_0 (TX8_wet_0.at 13 rfl) ?_
        refine zm_callV0 (m_laysTimes eg2 rfl rfl rfl hK.lawH hL) (TX8_wet_0.at 14 rfl) c8_348 rfl rfl hH hA (by omega) (Nat.le_of_ble_eq_true rfl) (fun f28 g28 j28 h q28 hH hA => ?_)
        obtain ⟨q28, xf, xg, xj⟩ := q28
        rw [xj] at hH
        have hfE := hfE.trans xf (by decide)
        have eg2 := (xg 2 (by decide)).trans eg2
        have hgE := hgE.trans xg (by decide)
        have qL := q28
        obtain ⟨B, eg30⟩ : ∃ z, g28 30 = z := ⟨_, rfl⟩
        obtain ⟨Hd, eg31⟩ : ∃ z, g28 31 = z := ⟨_, rfl⟩
        have ef33 := qL.2.2
        rw [show msk (fun t => decide (ctc K cl t)) (K 76).toNat = ctS K cl from rfl] at ef33
        have hT : TmOK K cl B Hd := tm_of hK (eg30.symm.trans qL.1) (eg31.symm.trans qL.2.1)
        refine z_iconst (TX8_wet_0.at 15 rfl) ?_
        refine z_ist_4 (TX8_wet_0.at 16 rfl) (Nat.le_of_ble_eq_true rfl) rfl ?_
        refine z_iconst (TX8_wet_0.at 17 rfl) ?_
        refine z_ist_5 (TX8_wet_0.at 18 rfl) (Nat.le_of_ble_eq_true rfl) rfl ?_
        refine lp_wet (by omega) (a := a) (b := b) (sc := sc) (by omega) (by omega) (by omega) (by omega) (by omega) hK hT (fun C f37 g37 h eg2 eg30 eg31 eg32 ef33 xf xg hH hA => ?_) ((K 76).toNat + 1) 0 0 _ _ _ _ (by omega) (by omega) (by omega) rfl eg2 eg30 eg31 rfl ef33 eqx.rf eqx.rf hH hA
        have hfE := hfE.trans xf (by decide)
        have hgE := hgE.trans xg (by decide)
        refine z_ild_4 (TX8_wet_1.at 20 rfl) ?_
        refine zm_iret (TX8_wet_1.at 21 rfl) rfl hH hA (by omega) ?_
        exact ⟨by unfold wetV; rw [if_pos (by omega)], hfE, hgE, rfl⟩
      · skip
        refine z_iconst (TX8_wet_0.at 11 rfl) ?_
        refine zm_iret (TX8_wet_0.at 12 rfl) rfl hH hA (by omega) ?_
        exact ⟨by unfold wetV; rw [if_neg (by omega)], hfE, hgE, rfl⟩

def cntV (K X1 : Int → Int) (cl : List Cla) (u tp w : Int) : Int := if w = 0 then K 76 else if w = 1 then sm K (K 76) else if w = 2 then sm (fun k => b2i (K (20 + k) ≠ -1)) 8 else if w = 3 then K 77 else if w = 4 then K 78 else if w = 5 then K 79 else if w = 6 then u else if w = 7 then tp else if w = 8 then X1 1 else if w = 9 then X1 2 else if w = 10 then X1 3 else if w = 11 then X1 5 else if w = 12 then X1 6 else if w = 13 then K 80 else if w = 14 then K 28 else if w = 15 then K 74 else if w = 16 then K 75 else if w = 17 then gone K cl else -1
set_option maxHeartbeats 4000000 in
set_option maxRecDepth 100000 in
theorem m_count {l : Launch} {o : Nat} {ar : Nat → Nat} {f : mF} {g j : mA} {X1 : Int → Int} {K : Int → Int} {tp : Int} {u : Int} {w : Int} {cl : List Cla} (eg1 : g 1 = X1) (eg2 : g 2 = K) (ef13 : f 13 = tp) (ef36 : f 36 = u) (hw : zIn w) (hK : KOK K) (hL : LawK K cl) : MM l o ar MX8_count 56 [.ref o, vI w] f g j (PI (fun r f' g' j' => (r = cntV K X1 cl u tp w) ∧ eqx [22, 23, 24, 25, 33] f f' ∧ eqx [26, 30, 31, 32] g g' ∧ j' = j)) := by
  refine MM.intro [some (.ref o), some (vI w)] (by decide) (Nat.le_of_ble_eq_true rfl) rfl (fun d hd h0 h hH hA => ?_)
  have hfE : eqx [22, 23, 24, 25, 33] f f := eqx.rf
  have hgE : eqx [26, 30, 31, 32] g g := eqx.rf
  have hn := hK.1
  refine z_ild_1 (TX8_count_0.at 0 rfl) ?_
  rcases (show w = 0 ∨ w = 1 ∨ w = 2 ∨ w = 3 ∨ w = 4 ∨ w = 5 ∨ w = 6 ∨ w = 7 ∨ w = 8 ∨ w = 9 ∨ w = 10 ∨ w = 11 ∨ w = 12 ∨ w = 13 ∨ w = 14 ∨ w = 15 ∨ w = 16 ∨ w = 17 ∨ (w < 0 ∨ 17 < w) by omega) with sw0 | sw1 | sw2 | sw3 | sw4 | sw5 | sw6 | sw7 | sw8 | sw9 | sw10 | sw11 | sw12 | sw13 | sw14 | sw15 | sw16 | sw17 | sw18
  · refine z_swIn (off := 87) (tgt := 88) (TX8_count_0.at 1 rfl) (by omega) (by omega) (by omega) (by rw [sw0]; rfl) rfl ?_
    refine z_ald_0 (TX8_count_0.at 2 rfl) ?_
    refine zm_callP0 (m_fuseMany) (TX8_count_0.at 3 rfl) c8_109 rfl rfl hH hA (by omega) (Nat.le_of_ble_eq_true rfl) (fun h r89 hH hA => ?_)
    rw [eg2] at r89 ⊢
    refine zm_iret (TX8_count_0.at 4 rfl) rfl hH hA (by omega) ?_
    exact ⟨by unfold cntV; rw [if_pos (by omega)], hfE, hgE, rfl⟩
  · refine z_swIn (off := 92) (tgt := 93) (TX8_count_0.at 1 rfl) (by omega) (by omega) (by omega) (by rw [sw1]; rfl) rfl ?_
    refine z_ald_0 (TX8_count_0.at 5 rfl) ?_
    refine zm_callI0 (m_dampMany eg2 hn.1 hn.2 hK.lawH.2.2) (TX8_count_0.at 6 rfl) c8_305 rfl rfl hH hA (by omega) (Nat.le_of_ble_eq_true rfl) (fun x94 f94 g94 j94 h r94 q94 hH hA => ?_)
    obtain ⟨q94, xf, xg, xj⟩ := q94
    rw [xj] at hH
    have ef13 := (xf 13 (by decide)).trans ef13
    have ef36 := (xf 36 (by decide)).trans ef36
    have hfE := hfE.trans xf (by decide)
    have eg1 := (xg 1 (by decide)).trans eg1
    have eg2 := (xg 2 (by decide)).trans eg2
    have hgE := hgE.trans xg (by decide)
    have qL := q94
    refine zm_iret (TX8_count_0.at 7 rfl) rfl hH hA (by omega) ?_
    exact ⟨by unfold cntV; rw [if_neg (by omega), if_pos (by omega)]; exact qL, hfE, hgE, rfl⟩
  · refine z_swIn (off := 97) (tgt := 98) (TX8_count_0.at 1 rfl) (by omega) (by omega) (by omega) (by rw [sw2]; rfl) rfl ?_
    refine z_ald_0 (TX8_count_0.at 8 rfl) ?_
    refine zm_callI0 (m_matchMany eg2) (TX8_count_0.at 9 rfl) c8_487 rfl rfl hH hA (by omega) (Nat.le_of_ble_eq_true rfl) (fun x99 f99 g99 j99 h r99 q99 hH hA => ?_)
    obtain ⟨q99, xf, xg, xj⟩ := q99
    rw [xj] at hH
    have ef13 := (xf 13 (by decide)).trans ef13
    have ef36 := (xf 36 (by decide)).trans ef36
    have hfE := hfE.trans xf (by decide)
    have eg1 := (xg 1 (by decide)).trans eg1
    have eg2 := (xg 2 (by decide)).trans eg2
    have hgE := hgE.trans xg (by decide)
    have qL := q99
    refine zm_iret (TX8_count_0.at 10 rfl) rfl hH hA (by omega) ?_
    exact ⟨by unfold cntV; rw [if_neg (by omega), if_neg (by omega), if_pos (by omega)]; exact qL, hfE, hgE, rfl⟩
  · refine z_swIn (off := 102) (tgt := 103) (TX8_count_0.at 1 rfl) (by omega) (by omega) (by omega) (by rw [sw3]; rfl) rfl ?_
    refine z_ald_0 (TX8_count_0.at 11 rfl) ?_
    refine zm_getA (TX8_count_0.at 12 rfl) fl8_28 hH (by decide) (by decide) ?_
    refine z_bipush (by decide) (TX8_count_0.at 13 rfl) ?_
    refine zm_ialdE eg2 (TX8_count_0.at 14 rfl) hH rfl (by omega) (show _ < ((5688 : Nat) : Int) by omega) (fun r109 => ?_)
    refine zm_iret (TX8_count_0.at 15 rfl) rfl hH hA (by omega) ?_
    exact ⟨by unfold cntV; rw [if_neg (by omega), if_neg (by omega), if_neg (by omega), if_pos (by omega)], hfE, hgE, rfl⟩
  · refine z_swIn (off := 110) (tgt := 111) (TX8_count_0.at 1 rfl) (by omega) (by omega) (by omega) (by rw [sw4]; rfl) rfl ?_
    refine z_ald_0 (TX8_count_0.at 16 rfl) ?_
    refine zm_getA (TX8_count_0.at 17 rfl) fl8_28 hH (by decide) (by decide) ?_
    refine z_bipush (by decide) (TX8_count_0.at 18 rfl) ?_
    refine zm_ialdE eg2 (TX8_count_0.at 19 rfl) hH rfl (by omega) (show _ < ((5688 : Nat) : Int) by omega) (fun r117 => ?_)
    refine zm_iret (TX8_count_0.at 20 rfl) rfl hH hA (by omega) ?_
    exact ⟨by unfold cntV; rw [if_neg (by omega), if_neg (by omega), if_neg (by omega), if_neg (by omega), if_pos (by omega)], hfE, hgE, rfl⟩
  · refine z_swIn (off := 118) (tgt := 119) (TX8_count_0.at 1 rfl) (by omega) (by omega) (by omega) (by rw [sw5]; rfl) rfl ?_
    refine z_ald_0 (TX8_count_0.at 21 rfl) ?_
    refine zm_getA (TX8_count_0.at 22 rfl) fl8_28 hH (by decide) (by decide) ?_
    refine z_bipush (by decide) (TX8_count_0.at 23 rfl) ?_
    refine zm_ialdE eg2 (TX8_count_0.at 24 rfl) hH rfl (by omega) (show _ < ((5688 : Nat) : Int) by omega) (fun r125 => ?_)
    refine zm_iret (TX8_count_0.at 25 rfl) rfl hH hA (by omega) ?_
    exact ⟨by unfold cntV; rw [if_neg (by omega), if_neg (by omega), if_neg (by omega), if_neg (by omega), if_neg (by omega), if_pos (by omega)], hfE, hgE, rfl⟩
  · refine z_swIn (off := 126) (tgt := 127) (TX8_count_0.at 1 rfl) (by omega) (by omega) (by omega) (by rw [sw6]; rfl) rfl ?_
    refine z_ald_0 (TX8_count_0.at 26 rfl) ?_
    refine zm_getIE ef36 (TX8_count_0.at 27 rfl) fl8_11 hH rfl (by decide) (fun r128 => ?_)
    refine zm_iret (TX8_count_0.at 28 rfl) rfl hH hA (by omega) ?_
    exact ⟨by unfold cntV; rw [if_neg (by omega), if_neg (by omega), if_neg (by omega), if_neg (by omega), if_neg (by omega), if_neg (by omega), if_pos (by omega)], hfE, hgE, rfl⟩
  · refine z_swIn (off := 131) (tgt := 132) (TX8_count_0.at 1 rfl) (by omega) (by omega) (by omega) (by rw [sw7]; rfl) rfl ?_
    refine z_ald_0 (TX8_count_0.at 29 rfl) ?_
    refine zm_getIE ef13 (TX8_count_0.at 30 rfl) fl8_150 hH rfl (by decide) (fun r133 => ?_)
    refine zm_iret (TX8_count_0.at 31 rfl) rfl hH hA (by omega) ?_
    exact ⟨by unfold cntV; rw [if_neg (by omega), if_neg (by omega), if_neg (by omega), if_neg (by omega), if_neg (by omega), if_neg (by omega), if_neg (by omega), if_pos (by omega)], hfE, hgE, rfl⟩
  · refine z_swIn (off := 136) (tgt := 137) (TX8_count_0.at 1 rfl) (by omega) (by omega) (by omega) (by rw [sw8]; rfl) rfl ?_
    refine z_ald_0 (TX8_count_0.at 32 rfl) ?_
    refine zm_getA (TX8_count_0.at 33 rfl) fl8_7 hH (by decide) (by decide) ?_
    refine z_ild_1 (TX8_count_0.at 34 rfl) ?_
    refine z_bipush (by decide) (TX8_count_0.at 35 rfl) ?_
    refine z_isub (TX8_count_0.at 36 rfl) ?_
    refine zm_ialdE eg1 (TX8_count_0.at 37 rfl) hH rfl (by omega) (show _ < ((7 : Nat) : Int) by omega) (fun r145 => ?_)
    refine zm_iret (TX8_count_0.at 38 rfl) rfl hH hA (by omega) ?_
    exact ⟨by first | (have hw : w = 8 := (by omega); subst hw; rfl) | (have hw : w = 9 := (by omega); subst hw; rfl) | (have hw : w = 10 := (by omega); subst hw; rfl), hfE, hgE, rfl⟩
  · refine z_swIn (off := 136) (tgt := 137) (TX8_count_0.at 1 rfl) (by omega) (by omega) (by omega) (by rw [sw9]; rfl) rfl ?_
    refine z_ald_0 (TX8_count_0.at 32 rfl) ?_
    refine zm_getA (TX8_count_0.at 33 rfl) fl8_7 hH (by decide) (by decide) ?_
    refine z_ild_1 (TX8_count_0.at 34 rfl) ?_
    refine z_bipush (by decide) (TX8_count_0.at 35 rfl) ?_
    refine z_isub (TX8_count_0.at 36 rfl) ?_
    refine zm_ialdE eg1 (TX8_count_0.at 37 rfl) hH rfl (by omega) (show _ < ((7 : Nat) : Int) by omega) (fun r145 => ?_)
    refine zm_iret (TX8_count_0.at 38 rfl) rfl hH hA (by omega) ?_
    exact ⟨by first | (have hw : w = 8 := (by omega); subst hw; rfl) | (have hw : w = 9 := (by omega); subst hw; rfl) | (have hw : w = 10 := (by omega); subst hw; rfl), hfE, hgE, rfl⟩
  · refine z_swIn (off := 136) (tgt := 137) (TX8_count_0.at 1 rfl) (by omega) (by omega) (by omega) (by rw [sw10]; rfl) rfl ?_
    refine z_ald_0 (TX8_count_0.at 32 rfl) ?_
    refine zm_getA (TX8_count_0.at 33 rfl) fl8_7 hH (by decide) (by decide) ?_
    refine z_ild_1 (TX8_count_0.at 34 rfl) ?_
    refine z_bipush (by decide) (TX8_count_0.at 35 rfl) ?_
    refine z_isub (TX8_count_0.at 36 rfl) ?_
    refine zm_ialdE eg1 (TX8_count_0.at 37 rfl) hH rfl (by omega) (show _ < ((7 : Nat) : Int) by omega) (fun r145 => ?_)
    refine zm_iret (TX8_count_0.at 38 rfl) rfl hH hA (by omega) ?_
    exact ⟨by first | (have hw : w = 8 := (by omega); subst hw; rfl) | (have hw : w = 9 := (by omega); subst hw; rfl) | (have hw : w = 10 := (by omega); subst hw; rfl), hfE, hgE, rfl⟩
  · refine z_swIn (off := 146) (tgt := 147) (TX8_count_0.at 1 rfl) (by omega) (by omega) (by omega) (by rw [sw11]; rfl) rfl ?_
    refine z_ald_0 (TX8_count_0.at 39 rfl) ?_
    refine zm_getA (TX8_count_1.at 0 rfl) fl8_7 hH (by decide) (by decide) ?_
    refine z_iconst (TX8_count_1.at 1 rfl) ?_
    refine zm_ialdE eg1 (TX8_count_1.at 2 rfl) hH rfl (by omega) (show _ < ((7 : Nat) : Int) by omega) (fun r152 => ?_)
    refine zm_iret (TX8_count_1.at 3 rfl) rfl hH hA (by omega) ?_
    exact ⟨by unfold cntV; rw [if_neg (by omega), if_neg (by omega), if_neg (by omega), if_neg (by omega), if_neg (by omega), if_neg (by omega), if_neg (by omega), if_neg (by omega), if_neg (by omega), if_neg (by omega), if_neg (by omega), if_pos (by omega)], hfE, hgE, rfl⟩
  · refine z_swIn (off := 153) (tgt := 154) (TX8_count_0.at 1 rfl) (by omega) (by omega) (by omega) (by rw [sw12]; rfl) rfl ?_
    refine z_ald_0 (TX8_count_1.at 4 rfl) ?_
    refine zm_getA (TX8_count_1.at 5 rfl) fl8_7 hH (by decide) (by decide) ?_
    refine z_bipush (by decide) (TX8_count_1.at 6 rfl) ?_
    refine zm_ialdE eg1 (TX8_count_1.at 7 rfl) hH rfl (by omega) (show _ < ((7 : Nat) : Int) by omega) (fun r160 => ?_)
    refine zm_iret (TX8_count_1.at 8 rfl) rfl hH hA (by omega) ?_
    exact ⟨by unfold cntV; rw [if_neg (by omega), if_neg (by omega), if_neg (by omega), if_neg (by omega), if_neg (by omega), if_neg (by omega), if_neg (by omega), if_neg (by omega), if_neg (by omega), if_neg (by omega), if_neg (by omega), if_neg (by omega), if_pos (by omega)], hfE, hgE, rfl⟩
  · refine z_swIn (off := 161) (tgt := 162) (TX8_count_0.at 1 rfl) (by omega) (by omega) (by omega) (by rw [sw13]; rfl) rfl ?_
    refine z_ald_0 (TX8_count_1.at 9 rfl) ?_
    refine zm_getA (TX8_count_1.at 10 rfl) fl8_28 hH (by decide) (by decide) ?_
    refine z_bipush (by decide) (TX8_count_1.at 11 rfl) ?_
    refine zm_ialdE eg2 (TX8_count_1.at 12 rfl) hH rfl (by omega) (show _ < ((5688 : Nat) : Int) by omega) (fun r168 => ?_)
    refine zm_iret (TX8_count_1.at 13 rfl) rfl hH hA (by omega) ?_
    exact ⟨by unfold cntV; rw [if_neg (by omega), if_neg (by omega), if_neg (by omega), if_neg (by omega), if_neg (by omega), if_neg (by omega), if_neg (by omega), if_neg (by omega), if_neg (by omega), if_neg (by omega), if_neg (by omega), if_neg (by omega), if_neg (by omega), if_pos (by omega)], hfE, hgE, rfl⟩
  · refine z_swIn (off := 169) (tgt := 170) (TX8_count_0.at 1 rfl) (by omega) (by omega) (by omega) (by rw [sw14]; rfl) rfl ?_
    refine z_ald_0 (TX8_count_1.at 14 rfl) ?_
    refine zm_getA (TX8_count_1.at 15 rfl) fl8_28 hH (by decide) (by decide) ?_
    refine z_ild_1 (TX8_count_1.at 16 rfl) ?_
    refine z_bipush (by decide) (TX8_count_1.at 17 rfl) ?_
    refine z_isub (TX8_count_1.at 18 rfl) ?_
    refine zs_call1 (s_termAt (by omega)) (TX8_count_1.at 19 rfl) c8_147 rfl (by omega) (Nat.le_of_ble_eq_true rfl) (fun r178 => ?_)
    have ht : (if w - 14 = 0 then (28 : Int) else if w - 14 = 1 then 74 else 75) = 28 ∨ (if w - 14 = 0 then (28 : Int) else if w - 14 = 1 then 74 else 75) = 74 ∨ (if w - 14 = 0 then (28 : Int) else if w - 14 = 1 then 74 else 75) = 75 := tAt_or (w - 14)
    refine zm_ialdE eg2 (TX8_count_1.at 20 rfl) hH rfl (by omega) (show _ < ((5688 : Nat) : Int) by omega) (fun r181 => ?_)
    refine zm_iret (TX8_count_1.at 21 rfl) rfl hH hA (by omega) ?_
    exact ⟨by first | (have hw : w = 14 := (by omega); subst hw; rfl) | (have hw : w = 15 := (by omega); subst hw; rfl) | (have hw : w = 16 := (by omega); subst hw; rfl), hfE, hgE, rfl⟩
  · refine z_swIn (off := 169) (tgt := 170) (TX8_count_0.at 1 rfl) (by omega) (by omega) (by omega) (by rw [sw15]; rfl) rfl ?_
    refine z_ald_0 (TX8_count_1.at 14 rfl) ?_
    refine zm_getA (TX8_count_1.at 15 rfl) fl8_28 hH (by decide) (by decide) ?_
    refine z_ild_1 (TX8_count_1.at 16 rfl) ?_
    refine z_bipush (by decide) (TX8_count_1.at 17 rfl) ?_
    refine z_isub (TX8_count_1.at 18 rfl) ?_
    refine zs_call1 (s_termAt (by omega)) (TX8_count_1.at 19 rfl) c8_147 rfl (by omega) (Nat.le_of_ble_eq_true rfl) (fun r178 => ?_)
    have ht : (if w - 14 = 0 then (28 : Int) else if w - 14 = 1 then 74 else 75) = 28 ∨ (if w - 14 = 0 then (28 : Int) else if w - 14 = 1 then 74 else 75) = 74 ∨ (if w - 14 = 0 then (28 : Int) else if w - 14 = 1 then 74 else 75) = 75 := tAt_or (w - 14)
    refine zm_ialdE eg2 (TX8_count_1.at 20 rfl) hH rfl (by omega) (show _ < ((5688 : Nat) : Int) by omega) (fun r181 => ?_)
    refine zm_iret (TX8_count_1.at 21 rfl) rfl hH hA (by omega) ?_
    exact ⟨by first | (have hw : w = 14 := (by omega); subst hw; rfl) | (have hw : w = 15 := (by omega); subst hw; rfl) | (have hw : w = 16 := (by omega); subst hw; rfl), hfE, hgE, rfl⟩
  · refine z_swIn (off := 169) (tgt := 170) (TX8_count_0.at 1 rfl) (by omega) (by omega) (by omega) (by rw [sw16]; rfl) rfl ?_
    refine z_ald_0 (TX8_count_1.at 14 rfl) ?_
    refine zm_getA (TX8_count_1.at 15 rfl) fl8_28 hH (by decide) (by decide) ?_
    refine z_ild_1 (TX8_count_1.at 16 rfl) ?_
    refine z_bipush (by decide) (TX8_count_1.at 17 rfl) ?_
    refine z_isub (TX8_count_1.at 18 rfl) ?_
    refine zs_call1 (s_termAt (by omega)) (TX8_count_1.at 19 rfl) c8_147 rfl (by omega) (Nat.le_of_ble_eq_true rfl) (fun r178 => ?_)
    have ht : (if w - 14 = 0 then (28 : Int) else if w - 14 = 1 then 74 else 75) = 28 ∨ (if w - 14 = 0 then (28 : Int) else if w - 14 = 1 then 74 else 75) = 74 ∨ (if w - 14 = 0 then (28 : Int) else if w - 14 = 1 then 74 else 75) = 75 := tAt_or (w - 14)
    refine zm_ialdE eg2 (TX8_count_1.at 20 rfl) hH rfl (by omega) (show _ < ((5688 : Nat) : Int) by omega) (fun r181 => ?_)
    refine zm_iret (TX8_count_1.at 21 rfl) rfl hH hA (by omega) ?_
    exact ⟨by first | (have hw : w = 14 := (by omega); subst hw; rfl) | (have hw : w = 15 := (by omega); subst hw; rfl) | (have hw : w = 16 := (by omega); subst hw; rfl), hfE, hgE, rfl⟩
  · refine z_swIn (off := 182) (tgt := 183) (TX8_count_0.at 1 rfl) (by omega) (by omega) (by omega) (by rw [sw17]; rfl) rfl ?_
    refine z_ald_0 (TX8_count_1.at 22 rfl) ?_
    refine zm_callI0 (m_goneMany eg2 hK hL) (TX8_count_1.at 23 rfl) c8_366 rfl rfl hH hA (by omega) (Nat.le_of_ble_eq_true rfl) (fun x184 f184 g184 j184 h r184 q184 hH hA => ?_)
    obtain ⟨q184, xf, xg, xj⟩ := q184
    rw [xj] at hH
    have ef13 := (xf 13 (by decide)).trans ef13
    have ef36 := (xf 36 (by decide)).trans ef36
    have hfE := hfE.trans xf (by decide)
    have eg1 := (xg 1 (by decide)).trans eg1
    have eg2 := (xg 2 (by decide)).trans eg2
    have hgE := hgE.trans xg (by decide)
    have qL := q184
    refine zm_iret (TX8_count_1.at 24 rfl) rfl hH hA (by omega) ?_
    exact ⟨by unfold cntV; rw [if_neg (by omega), if_neg (by omega), if_neg (by omega), if_neg (by omega), if_neg (by omega), if_neg (by omega), if_neg (by omega), if_neg (by omega), if_neg (by omega), if_neg (by omega), if_neg (by omega), if_neg (by omega), if_neg (by omega), if_neg (by omega), if_neg (by omega), if_neg (by omega), if_neg (by omega), if_pos (by omega)]; exact qL, hfE, hgE, rfl⟩
  · refine z_swOut (tgt := 188) (TX8_count_0.at 1 rfl) (by omega) sw18 rfl ?_
    refine z_iconst (TX8_count_1.at 25 rfl) ?_
    refine zm_iret (TX8_count_1.at 26 rfl) rfl hH hA (by omega) ?_
    exact ⟨by unfold cntV; rw [if_neg (by omega), if_neg (by omega), if_neg (by omega), if_neg (by omega), if_neg (by omega), if_neg (by omega), if_neg (by omega), if_neg (by omega), if_neg (by omega), if_neg (by omega), if_neg (by omega), if_neg (by omega), if_neg (by omega), if_neg (by omega), if_neg (by omega), if_neg (by omega), if_neg (by omega), if_neg (by omega)], hfE, hgE, rfl⟩

