/-! ===== the class: knots that look alike ===== -/
def akP (kn : Int) (AL : Int → Int) (a c : Int) : Int := b2i (bt kn a ∧ bt kn c ∧ AL a = AL c)
theorem ak_01 (kn : Int) (AL : Int → Int) (a c : Int) : 0 ≤ akP kn AL a c ∧ akP kn AL a c ≤ 1 := by
  have := b2i_01 (bt kn a ∧ bt kn c ∧ AL a = AL c)
  unfold akP
  omega
theorem ak_in {kn : Int} {AL : Int → Int} {a i : Int} (h : 0 ≤ i) : 0 ≤ sm (akP kn AL a) i ∧ sm (akP kn AL a) i ≤ i := sm_in h (fun t _ _ => ak_01 kn AL a t)
theorem ak_yes {kn a : Int} {AL W : Int → Int} (hw : ∀ t u : Int, 0 ≤ t → t ≤ 7 → 0 ≤ u → u ≤ 7 → (AL t = AL u ↔ W t = W u)) (a0 : 0 ≤ a) (a1 : a ≤ 7) (hb : bt kn a) : sm (akP kn AL a) 8 = alkN W kn a := by
  unfold alkN
  refine sm_cg (fun t t0 t1 => ?_)
  unfold akP
  refine b2i_iff.mpr ⟨fun z => ⟨z.2.1, (hw a t a0 a1 t0 (by omega)).mp z.2.2⟩, fun z => ⟨hb, z.1, (hw a t a0 a1 t0 (by omega)).mpr z.2⟩⟩
theorem ak_no {kn a : Int} {AL : Int → Int} (hb : ¬ bt kn a) : sm (akP kn AL a) 8 = 0 := by
  have h : sm (akP kn AL a) 8 = sm (fun _ => 0) 8 := sm_cg (fun t _ _ => b2i_f (fun z => hb z.1))
  rw [h]
  decide
set_option maxHeartbeats 4000000 in
set_option maxRecDepth 100000 in
theorem lp_al1 {l : Launch} {E : cE} {d : Nat} {Pz : Option Value → zH → Prop} {h0 : zH} {f0 : mF} {g0 : mA} {j : mA} (hd : 1 ≤ d) {AL : Int → Int} {kn tt mo a : Int} (hk : z31 kn) (a0 : 0 ≤ a) (a1 : a ≤ 7) (kx : ∀ (f : mF) (g : mA) (h : zH), g 357 = AL → eqx [] f0 f → eqx [] g0 g → HC E f g j h → cAg E h0 h → Z l MX0_mostAlike d 0 0 Pz 103 [some (.ref (E.1 383)), some (.ref (E.1 63)), some (vI kn), some (vI tt), some (vI mo), some (vI a), some (vI (sm (akP kn AL a) 8)), some (vI 8)] [] h 0 0)  : ∀ (n : Nat) (c : Int) (s : Int) (f : mF) (g : mA) (h : zH) (c0 : 0 ≤ c) (c1 : c ≤ 8) (c2 : 8 < c + n) (es : s = sm (akP kn AL a) c) (eg357 : g 357 = AL) (hfE : eqx [] f0 f) (hgE : eqx [] g0 g) (hH : HC E f g j h) (hA : cAg E h0 h), Z l MX0_mostAlike d 0 0 Pz 50 [some (.ref (E.1 383)), some (.ref (E.1 63)), some (vI kn), some (vI tt), some (vI mo), some (vI a), some (vI s), some (vI c)] [] h 0 0 := by
  intro n
  induction n with
  | zero => intro c s f g h c0 c1 c2 es eg357 hfE hgE hH hA; exfalso; omega
  | succ n ih =>
    intro c s f g h c0 c1 c2 es eg357 hfE hgE hH hA
    have hsi := ak_in (kn := kn) (AL := AL) (a := a) c0
    rw [← es] at hsi
    refine z_ild_7 (TX0_mostAlike.at 27 rfl) ?_
    refine z_bipush (by decide) (TX0_mostAlike.at 28 rfl) ?_
    refine z_icmp_ge (tgt := 103) (TX0_mostAlike.at 29 rfl) rfl (by omega) (by omega) (fun c1 => ?_) (fun c1 => ?_)
    · skip
      obtain rfl : c = 8 := by omega
      rw [es]
      exact kx _ _ _ eg357 hfE hgE hH hA
    · skip
      refine z_ild_2 (TX0_mostAlike.at 30 rfl) ?_
      refine z_ild_5 (TX0_mostAlike.at 31 rfl) ?_
      refine zs_callN2 (c_bit hk ⟨by omega, by omega⟩) (TX0_mostAlike.at 32 rfl) c0_90 rfl (by omega) (Nat.le_of_ble_eq_true rfl) (fun r60 => ?_)
      refine z_iconst (TX0_mostAlike.at 33 rfl) ?_
      refine z_icmp_ne (tgt := 97) (TX0_mostAlike.at 34 rfl) rfl (by omega) (by omega) (fun c2 => ?_) (fun c2 => ?_)
      · skip
        refine z_iinc_7 (TX0_mostAlike.at 50 rfl) (Nat.le_of_ble_eq_true rfl) rfl ?_
        refine z_goto (tgt := 50) (TX0_mostAlike.at 51 rfl) rfl ?_
        exact ih (c + 1) _ _ _ _ (by omega) (by omega) (by omega) (by rw [sm_s c0, ← es]; unfold akP; first | rw [b2i_t ⟨b2y (by assumption), b2y (by assumption), by assumption⟩] | (rw [b2i_f (fun z => absurd (b2i_t z.1) (by assumption))]; omega) | (rw [b2i_f (fun z => absurd (b2i_t z.2.1) (by assumption))]; omega) | (rw [b2i_f (fun z => absurd z.2.2 (by assumption))]; omega)) eg357 hfE hgE hH hA
      · skip
        refine z_ild_2 (TX0_mostAlike.at 35 rfl) ?_
        refine z_ild_7 (TX0_mostAlike.at 36 rfl) ?_
        refine zs_callN2 (c_bit hk ⟨by omega, by omega⟩) (TX0_mostAlike.at 37 rfl) c0_90 rfl (by omega) (Nat.le_of_ble_eq_true rfl) (fun r70 => ?_)
        refine z_iconst (TX0_mostAlike.at 38 rfl) ?_
        refine z_icmp_ne (tgt := 97) (TX0_mostAlike.at 39 rfl) rfl (by omega) (by omega) (fun c3 => ?_) (fun c3 => ?_)
        · skip
          refine z_iinc_7 (TX0_mostAlike.at 50 rfl) (Nat.le_of_ble_eq_true rfl) rfl ?_
          refine z_goto (tgt := 50) (TX0_mostAlike.at 51 rfl) rfl ?_
          exact ih (c + 1) _ _ _ _ (by omega) (by omega) (by omega) (by rw [sm_s c0, ← es]; unfold akP; first | rw [b2i_t ⟨b2y (by assumption), b2y (by assumption), by assumption⟩] | (rw [b2i_f (fun z => absurd (b2i_t z.1) (by assumption))]; omega) | (rw [b2i_f (fun z => absurd (b2i_t z.2.1) (by assumption))]; omega) | (rw [b2i_f (fun z => absurd z.2.2 (by assumption))]; omega)) eg357 hfE hgE hH hA
        · skip
          refine z_ald_0 (TX0_mostAlike.at 40 rfl) ?_
          refine zc_getA (m := 11) (s := 5) (k := 357) (hH.lv (by decide)) (TX0_mostAlike.at 41 rfl) fl0_28 hH rfl rfl (by decide) (by decide) ?_
          refine z_ild_5 (TX0_mostAlike.at 42 rfl) ?_
          refine zcf_iald (k := 357) (N := 8) (hH.lv (by decide)) (by decide) rfl eg357 (TX0_mostAlike.at 43 rfl) hH (by decide) (by omega) (show _ < ((8 : Nat) : Int) by omega) (fun r83 => ?_)
          refine z_ald_0 (TX0_mostAlike.at 44 rfl) ?_
          refine zc_getA (m := 11) (s := 5) (k := 357) (hH.lv (by decide)) (TX0_mostAlike.at 45 rfl) fl0_28 hH rfl rfl (by decide) (by decide) ?_
          refine z_ild_7 (TX0_mostAlike.at 46 rfl) ?_
          refine zcf_iald (k := 357) (N := 8) (hH.lv (by decide)) (by decide) rfl eg357 (TX0_mostAlike.at 47 rfl) hH (by decide) (by omega) (show _ < ((8 : Nat) : Int) by omega) (fun r90 => ?_)
          refine z_icmp_ne (tgt := 97) (TX0_mostAlike.at 48 rfl) rfl (by omega) (by omega) (fun c4 => ?_) (fun c4 => ?_)
          · skip
            refine z_iinc_7 (TX0_mostAlike.at 50 rfl) (Nat.le_of_ble_eq_true rfl) rfl ?_
            refine z_goto (tgt := 50) (TX0_mostAlike.at 51 rfl) rfl ?_
            exact ih (c + 1) _ _ _ _ (by omega) (by omega) (by omega) (by rw [sm_s c0, ← es]; unfold akP; first | rw [b2i_t ⟨b2y (by assumption), b2y (by assumption), by assumption⟩] | (rw [b2i_f (fun z => absurd (b2i_t z.1) (by assumption))]; omega) | (rw [b2i_f (fun z => absurd (b2i_t z.2.1) (by assumption))]; omega) | (rw [b2i_f (fun z => absurd z.2.2 (by assumption))]; omega)) eg357 hfE hgE hH hA
          · skip
            refine z_iinc_6 (TX0_mostAlike.at 49 rfl) (Nat.le_of_ble_eq_true rfl) rfl ?_
            refine z_iinc_7 (TX0_mostAlike.at 50 rfl) (Nat.le_of_ble_eq_true rfl) rfl ?_
            refine z_goto (tgt := 50) (TX0_mostAlike.at 51 rfl) rfl ?_
            exact ih (c + 1) _ _ _ _ (by omega) (by omega) (by omega) (by rw [sm_s c0, ← es]; unfold akP; first | rw [b2i_t ⟨b2y (by assumption), b2y (by assumption), by assumption⟩] | (rw [b2i_f (fun z => absurd (b2i_t z.1) (by assumption))]; omega) | (rw [b2i_f (fun z => absurd (b2i_t z.2.1) (by assumption))]; omega) | (rw [b2i_f (fun z => absurd z.2.2 (by assumption))]; omega)) eg357 hfE hgE hH hA

set_option maxHeartbeats 4000000 in
set_option maxRecDepth 100000 in
theorem lp_al2 {l : Launch} {E : cE} {d : Nat} {Pz : Option Value → zH → Prop} {h0 : zH} {f0 : mF} {g0 : mA} {j : mA} (hd : 1 ≤ d) {AL W : Int → Int} {kn tt : Int} (hk : z31 kn) (hw : ∀ t u : Int, 0 ≤ t → t ≤ 7 → 0 ≤ u → u ≤ 7 → (AL t = AL u ↔ W t = W u)) (kx : ∀ (o6 o7 : Option Value) (f : mF) (g : mA) (h : zH), eqx [] f0 f → eqx [] g0 g → HC E f g j h → cAg E h0 h → Z l MX0_mostAlike d 0 0 Pz 118 [some (.ref (E.1 383)), some (.ref (E.1 63)), some (vI kn), some (vI tt), some (vI (mAl W kn)), some (vI 8), o6, o7] [] h 0 0)  : ∀ (n : Nat) (a : Int) (mo : Int) (o6 : Option Value) (o7 : Option Value) (f : mF) (g : mA) (h : zH) (a0 : 0 ≤ a) (a1 : a ≤ 8) (a2 : 8 < a + n) (es : mo = lastN (alkN W kn) kn a.toNat) (eg357 : g 357 = AL) (hfE : eqx [] f0 f) (hgE : eqx [] g0 g) (hH : HC E f g j h) (hA : cAg E h0 h), Z l MX0_mostAlike d 0 0 Pz 37 [some (.ref (E.1 383)), some (.ref (E.1 63)), some (vI kn), some (vI tt), some (vI mo), some (vI a), o6, o7] [] h 0 0 := by
  intro n
  induction n with
  | zero => intro a mo o6 o7 f g h a0 a1 a2 es eg357 hfE hgE hH hA; exfalso; omega
  | succ n ih =>
    intro a mo o6 o7 f g h a0 a1 a2 es eg357 hfE hgE hH hA
    have hm := mAl_in (w := W) (s := kn) (n := a.toNat)
    rw [← es] at hm
    refine z_ild_5 (TX0_mostAlike.at 20 rfl) ?_
    refine z_bipush (by decide) (TX0_mostAlike.at 21 rfl) ?_
    refine z_icmp_ge (tgt := 118) (TX0_mostAlike.at 22 rfl) rfl (by omega) (by omega) (fun c1 => ?_) (fun c1 => ?_)
    · skip
      obtain rfl : a = 8 := by omega
      rw [es]
      exact kx _ _ _ _ _ hfE hgE hH hA
    · skip
      refine z_iconst (TX0_mostAlike.at 23 rfl) ?_
      refine z_ist_6 (TX0_mostAlike.at 24 rfl) (Nat.le_of_ble_eq_true rfl) rfl ?_
      refine z_iconst (TX0_mostAlike.at 25 rfl) ?_
      refine z_ist_7 (TX0_mostAlike.at 26 rfl) (Nat.le_of_ble_eq_true rfl) rfl ?_
      have hsi := ak_in (kn := kn) (AL := AL) (a := a) (i := 8) (by decide)
      refine lp_al1 hd hk a0 (by omega) (fun f3 g3 h3 eg357 xf xg hH hA => ?_) 9 0 0 _ _ _ (by omega) (by omega) (by omega) rfl eg357 eqx.rf eqx.rf hH hA
      refine z_ild_4 (TX0_mostAlike.at 52 rfl) ?_
      refine z_ild_6 (TX0_mostAlike.at 53 rfl) ?_
      refine z_max (TX0_mostAlike.at 54 rfl) cm0_84 (by omega) (by omega) (by omega) (Nat.le_of_ble_eq_true rfl) ?_
      refine z_ist_4 (TX0_mostAlike.at 55 rfl) (Nat.le_of_ble_eq_true rfl) rfl ?_
      refine z_iinc_5 (TX0_mostAlike.at 56 rfl) (Nat.le_of_ble_eq_true rfl) rfl ?_
      refine z_goto (tgt := 37) (TX0_mostAlike.at 57 rfl) rfl ?_
      refine ih (a + 1) _ _ _ _ _ _ (by omega) (by omega) (by omega) ?_ eg357 (hfE.trans xf (by decide)) (hgE.trans xg (by decide)) hH hA
      rw [lastN_s a0, ← es]
      by_cases hb : bt kn a
      · rw [if_pos hb, ak_yes hw a0 (by omega) hb]
      · rw [if_neg hb, ak_no hb]
        omega

set_option maxHeartbeats 4000000 in
set_option maxRecDepth 100000 in
theorem c_alike {l : Launch} {E : cE} {f : mF} {g j : mA} {Fr : Int → Int} {To : Int → Int} {BX : Int → Int} {HX : Int → Int} {X : Int → Int} {Al : Int → Int} {n9 : Int} {S : Int} {kn tt : Int} {fr to B Hd : Int → Int} (eg33 : g 33 = Fr) (eg34 : g 34 = To) (eg352 : g 352 = BX) (eg353 : g 353 = HX) (eg355 : g 355 = X) (eg357 : g 357 = Al) (ef32 : f 32 = n9) (ef354 : f 354 = S) (hkn : zIn kn) (htt : zIn tt) (hT : FiT Fr To BX HX fr to B Hd n9 S) (hk : z31 kn) (ht0 : 0 ≤ tt) (ht1 : tt ≤ 7) : CM l E MX0_mostAlike 5 [.ref (E.1 383), .ref (E.1 63), vI kn, vI tt] f g j (PI (fun r f' g' j' => (r = mAl (fun k => dist fr to B Hd S n9.toNat (src (zshl 1 k)) tt) kn) ∧ eqx [] f f' ∧ eqx [355, 357] g g' ∧ j' = j)) := by
  refine CM.intro [some (.ref (E.1 383)), some (.ref (E.1 63)), some (vI kn), some (vI tt), none, none, none, none] (by decide) (Nat.le_of_ble_eq_true rfl) rfl (fun d hd h0 h hH hA => ?_)
  have hfE : eqx [] f f := eqx.rf
  have hgE : eqx [355, 357] g g := eqx.rf
  refine z_iconst (TX0_mostAlike.at 0 rfl) ?_
  refine z_ist_4 (TX0_mostAlike.at 1 rfl) (Nat.le_of_ble_eq_true rfl) rfl ?_
  have hw : ∀ t u : Int, 0 ≤ t → t ≤ 7 → 0 ≤ u → u ≤ 7 → (cpF Al (fun k => nC (dist fr to B Hd S n9.toNat (src (zshl 1 k))) tt) 0 8 t = cpF Al (fun k => nC (dist fr to B Hd S n9.toNat (src (zshl 1 k))) tt) 0 8 u ↔ (fun k => dist fr to B Hd S n9.toNat (src (zshl 1 k)) tt) t = (fun k => dist fr to B Hd S n9.toNat (src (zshl 1 k)) tt) u) := by
    intro t u t0 t7 u0 u7
    have a1 := ((dist_ok (S := S) hT.2.2.1 (COK_src (zshl 1 t))).1.bd ht0 ht1).1
    have a2 := ((dist_ok (S := S) hT.2.2.1 (COK_src (zshl 1 u))).1.bd ht0 ht1).1
    unfold cpF
    rw [if_pos (by omega), if_pos (by omega), show t - 0 = t by omega, show u - 0 = u by omega]
    exact nC_inj a1 a2
  refine lp_al0 (Al := Al) hd hT ht0 ht1 (fun f3 g3 h3 eg357 xf xg hH hA => ?_) 9 0 _ _ _ _ (by omega) (by omega) (by omega) eg33 eg34 eg352 eg353 eg355 (eg357.trans (cpF_0 _ _ _).symm) ef32 ef354 eqx.rf eqx.rf hH hA
  refine z_iconst (TX0_mostAlike.at 16 rfl) ?_
  refine z_ist_4 (TX0_mostAlike.at 17 rfl) (Nat.le_of_ble_eq_true rfl) rfl ?_
  refine z_iconst (TX0_mostAlike.at 18 rfl) ?_
  refine z_ist_5 (TX0_mostAlike.at 19 rfl) (Nat.le_of_ble_eq_true rfl) rfl ?_
  refine lp_al2 (W := (fun k => dist fr to B Hd S n9.toNat (src (zshl 1 k)) tt)) (by omega) hk hw (fun o6 o7 f4 g4 h4 yf yg hH hA => ?_) 9 0 0 _ _ _ _ _ (by omega) (by omega) (by omega) rfl eg357 eqx.rf eqx.rf hH hA
  have hm := mAl_in (w := (fun k => dist fr to B Hd S n9.toNat (src (zshl 1 k)) tt)) (s := kn) (n := 8)
  refine z_ild_4 (TX0_mostAlike.at 58 rfl) ?_
  refine zc_iret (TX0_mostAlike.at 59 rfl) rfl hH hA (show zIn (lastN (alkN (fun k => dist fr to B Hd S n9.toNat (src (zshl 1 k)) tt) kn) kn 8) by omega) ?_
  exact ⟨rfl, xf.trans yf (by decide), xg.trans yg (by decide), rfl⟩

