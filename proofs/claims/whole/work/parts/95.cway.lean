/-! ===== the class itself: ways ===== -/
section WY
variable {K : Int → Int} {cl : List Cla}
abbrev wS (K : Int → Int) (cl : List Cla) (b t : Int) : Int := wK K cl (ctS K cl) t b
theorem wS_b {b t : Int} (hK : KOK K) (b0 : 0 ≤ b) (b7 : b ≤ 7) : wS K cl b t = 1000000 ∨ (0 ≤ wS K cl b t ∧ wS K cl b t ≤ 1863) := by
  have := (cmP_ok (q := zshl 1 t) (cl := cl) hK).bd b0 b7
  show cmP K cl (zshl 1 t) b = 1000000 ∨ (0 ≤ cmP K cl (zshl 1 t) b ∧ cmP K cl (zshl 1 t) b ≤ 1863)
  omega
theorem wS_g {b : Int} (hK : KOK K) (b0 : 0 ≤ b) (b7 : b ≤ 7) : wS K cl b b = 0 := by
  have h1 := (dist_ok (S := ctS K cl) (hK.fr (cl := cl)) (COK_src (zshl 1 b))).2.1 b
  have h2 := wS_b (cl := cl) (t := b) hK b0 b7
  rw [src_1 b0 b7 b0, if_pos rfl] at h1
  have h3 : wS K cl b b ≤ 0 := h1
  omega
theorem lb_no {L : Int → Int} {S k x : Int} (h : oe K x k = -1 ∨ ¬ bt S x) : lbV K cl S L k x = 1000000 := if_pos h
theorem lb_ye {L : Int → Int} {S k x : Int} (h1 : oe K x k ≠ -1) (h2 : bt S x) : lbV K cl S L k x = min 1000000 (hld K cl k + brn K cl x + L (oe K x k)) := if_neg (fun z => z.elim h1 (fun q => q h2))
/-- how many knots are no farther than this one -/
def nfr (K : Int → Int) (cl : List Cla) (b k : Int) : Int := sm (fun t => b2i (wS K cl b t ≤ wS K cl b k)) 8
theorem sm_lt {p q : Int → Int} {i : Int} : ∀ n : Nat, (∀ t : Int, 0 ≤ t → t < n → p t ≤ q t) → 0 ≤ i → i < n → p i < q i → smN p n < smN q n := by
  intro n
  induction n with
  | zero => intro _ i0 i1 _; omega
  | succ n ih =>
    intro h i0 i1 hi
    simp only [smN]
    have hn := h n (by omega) (by omega)
    by_cases e : i = n
    · subst e
      have : smN p n ≤ smN q n := by
        clear ih hi hn i1
        have h2 : ∀ t : Int, 0 ≤ t → t < n → p t ≤ q t := fun t t0 t1 => h t t0 (by omega)
        clear h
        induction n with
        | zero => exact Int.le_refl _
        | succ n ih2 =>
          simp only [smN]
          have a := ih2 (by omega) (fun t t0 t1 => h2 t t0 (by omega))
          have b := h2 n (by omega) (by omega)
          omega
      omega
    · have := ih (fun t t0 t1 => h t t0 (by omega)) i0 (by omega) hi
      omega
theorem nfr_lt {b k k2 : Int} (k0 : 0 ≤ k) (k7 : k ≤ 7) (h : wS K cl b k2 < wS K cl b k) : nfr K cl b k2 < nfr K cl b k := by
  unfold nfr
  refine sm_lt (i := k) 8 (fun t _ _ => ?_) k0 (by omega) ?_
  · by_cases e : wS K cl b t ≤ wS K cl b k2
    · rw [b2i_t e, b2i_t (by omega)]; decide
    · rw [b2i_f e]; rcases b2i_01 (wS K cl b t ≤ wS K cl b k) with z | z <;> rw [z] <;> decide
  · rw [b2i_f (by omega), b2i_t (Int.le_refl _)]; decide
theorem smN_two {p : Int → Int} {i j : Int} : ∀ n : Nat, (∀ t : Int, 0 ≤ t → t < n → 0 ≤ p t) → 0 ≤ i → i < j → j < n → p i + p j ≤ smN p n := by
  intro n
  induction n with
  | zero => intro _ i0 _ j1; omega
  | succ n ih =>
    intro h i0 ij j1
    simp only [smN]
    have hn := h n (by omega) (by omega)
    by_cases e : j = n
    · have := (smN_ge (V := p) (v := i) n (fun t t0 t1 => h t t0 (by omega))).2 i0 (by omega)
      rw [e]; omega
    · have := ih (fun t t0 t1 => h t t0 (by omega)) i0 ij (by omega)
      omega
theorem nfr_2 {b k : Int} (hK : KOK K) (b0 : 0 ≤ b) (b7 : b ≤ 7) (k0 : 0 ≤ k) (k7 : k ≤ 7) (h : k ≠ b) : 2 ≤ nfr K cl b k := by
  have g := wS_g (cl := cl) hK b0 b7
  have hk := wS_b (cl := cl) (t := k) hK b0 b7
  have pk : b2i (wS K cl b k ≤ wS K cl b k) = 1 := b2i_t (Int.le_refl _)
  have pb : b2i (wS K cl b b ≤ wS K cl b k) = 1 := b2i_t (by omega)
  unfold nfr sm
  rcases (show k < b ∨ b < k by omega) with z | z
  · have := smN_two (p := fun t => b2i (wS K cl b t ≤ wS K cl b k)) (i := k) (j := b) 8 (fun t _ _ => by rcases b2i_01 (wS K cl b t ≤ wS K cl b k) with y | y <;> simp only [y] <;> decide) k0 z (by omega)
    simp only [pk, pb] at this
    exact this
  · have := smN_two (p := fun t => b2i (wS K cl b t ≤ wS K cl b k)) (i := b) (j := k) 8 (fun t _ _ => by rcases b2i_01 (wS K cl b t ≤ wS K cl b k) with y | y <;> simp only [y] <;> decide) b0 z (by omega)
    simp only [pk, pb] at this
    exact this
theorem nfr_0 {b k : Int} : 0 ≤ nfr K cl b k := (sm_in (by decide) (fun t _ _ => by have := b2i_01 (wS K cl b t ≤ wS K cl b k); omega)).1
theorem nfr_8 {b k : Int} : nfr K cl b k ≤ 8 := (sm_in (by decide) (fun t _ _ => by have := b2i_01 (wS K cl b t ≤ wS K cl b k); omega)).2
theorem fstP_get {p : Int → Bool} : ∀ n : Nat, fstP p n = -1 ∨ (0 ≤ fstP p n ∧ fstP p n < n ∧ p (fstP p n) = true) := by
  intro n
  induction n with
  | zero => exact Or.inl rfl
  | succ n ih =>
    simp only [fstP]
    split
    · rcases ih with z | z
      · exact absurd z (by assumption)
      · exact Or.inr ⟨z.1, by omega, z.2.2⟩
    · split
      · rename_i hp; exact Or.inr ⟨by omega, by omega, hp⟩
      · exact Or.inl rfl
theorem fstP_ex {p : Int → Bool} {i : Int} : ∀ n : Nat, 0 ≤ i → i < n → p i = true → fstP p n ≠ -1 := by
  intro n
  induction n with
  | zero => intro i0 i1; omega
  | succ n ih =>
    intro i0 i1 hp
    simp only [fstP]
    split
    · assumption
    · by_cases e : i = n
      · subst e; rw [if_pos hp]; omega
      · rename_i hh; exact absurd (ih i0 (by omega) hp) hh
/-- the next fuse on a way: what it is -/
theorem nxt_at {b k : Int} (hK : KOK K) (b0 : 0 ≤ b) (b7 : b ≤ 7) (k0 : 0 ≤ k) (k7 : k ≤ 7) (hk : k ≠ b) (hf : wS K cl b k ≠ 1000000) : ∃ y : Int, nxt K cl (ctS K cl) (wS K cl b) k = y ∧ 0 ≤ y ∧ y < K 76 ∧ (0 ≤ oe K y k ∧ oe K y k ≤ 7) ∧ wS K cl b (oe K y k) ≠ 1000000 ∧ hld K cl k + brn K cl y + wS K cl b (oe K y k) = wS K cl b k := by
  have hn := hK.1
  obtain ⟨y, y0, y1, -, -, -, -, y2⟩ := nxt_ok (cl := cl) (S := ctS K cl) hK b0 b7 k0 k7 hk hf
  have h1 := fstP_ex (p := fun x => decide (lbV K cl (ctS K cl) (wS K cl b) k x = wS K cl b k)) (K 76).toNat y0 (by omega) (decide_eq_true y2)
  rcases fstP_get (p := fun x => decide (lbV K cl (ctS K cl) (wS K cl b) k x = wS K cl b k)) (K 76).toNat with z | ⟨z0, z1, z2⟩
  · exact absurd z h1
  · have q := lbV_fin (cl := cl) (S := ctS K cl) hK b0 b7 z0 (by omega) hf (of_decide_eq_true z2)
    exact ⟨fstP (fun x => decide (lbV K cl (ctS K cl) (wS K cl b) k x = wS K cl b k)) (K 76).toNat, rfl, z0, by omega, q.2.1, q.2.2.1, q.2.2.2⟩
theorem oe_end {x k : Int} (h : K (29 + x) = k ∨ K (39 + x) = k) (hne : K (29 + x) ≠ K (39 + x)) : oe K x k = (if K (29 + x) = k then K (39 + x) else K (29 + x)) := by
  unfold oe
  by_cases e : K (29 + x) = k
  · rw [if_pos e, if_pos e]
  · rw [if_neg e, if_neg e, if_pos (h.resolve_left e)]
theorem oe_non {x k : Int} (h : ¬ (K (29 + x) = k ∨ K (39 + x) = k)) : oe K x k = -1 := by
  unfold oe
  rw [if_neg (fun z => h (Or.inl z)), if_neg (fun z => h (Or.inr z))]
end WY
set_option maxHeartbeats 4000000 in
set_option maxRecDepth 100000 in
theorem lp_next {l : Launch} {E : cE} {d : Nat} {Pz : Option Value → zH → Prop} {h0 : zH} {f0 : mF} {g0 : mA} {j : mA} (hd : 5 ≤ d) {Fr To BX HX K : Int → Int} {S2 : Int} {cl : List Cla} (hK : KOK K) (hT : FiT Fr To BX HX (frK K) (toK K) (brn K cl) (hld K cl) (K 76) S2) (hct : ∀ x : Int, 0 ≤ x → x < K 76 → (bt S2 x ↔ ctc K cl x)) {k b v : Int} (k0 : 0 ≤ k) (k7 : k ≤ 7) (b0 : 0 ≤ b) (b7 : b ≤ 7) (hv : v = wS K cl b k) (v0 : 0 ≤ v) (v1 : v ≤ 1863) (ePz : Pz = CP E h0 (PI (fun r f' g' j' => r = nxt K cl (ctS K cl) (wS K cl b) k ∧ eqx [] f0 f' ∧ eqx [355] g0 g' ∧ j' = j))) (kx : ∀ (o5 : Option Value) (f : mF) (g : mA) (h : zH), (∀ t : Int, 0 ≤ t → t < K 76 → ¬ (fun x => decide (lbV K cl (ctS K cl) (wS K cl b) k x = wS K cl b k)) t = true) → eqx [] f0 f → eqx [355] g0 g → HC E f g j h → cAg E h0 h → Z l MX7_nextOnWay d 0 0 Pz 112 [some (.ref (E.1 31)), some (vI k), some (vI b), some (vI v), some (vI (K 76)), o5] [] h 0 0)  : ∀ (n : Nat) (x : Int) (o5 : Option Value) (X : Int → Int) (f : mF) (g : mA) (h : zH) (x0 : 0 ≤ x) (x1 : x ≤ K 76) (x2 : K 76 < x + n) (es : ∀ t : Int, 0 ≤ t → t < x → ¬ (fun x => decide (lbV K cl (ctS K cl) (wS K cl b) k x = wS K cl b k)) t = true) (eg33 : g 33 = Fr) (eg34 : g 34 = To) (eg352 : g 352 = BX) (eg353 : g 353 = HX) (eg355 : g 355 = X) (ef32 : f 32 = (K 76)) (ef354 : f 354 = S2) (hfE : eqx [] f0 f) (hgE : eqx [355] g0 g) (hH : HC E f g j h) (hA : cAg E h0 h), Z l MX7_nextOnWay d 0 0 Pz 3 [some (.ref (E.1 31)), some (vI k), some (vI b), some (vI v), some (vI x), o5] [] h 0 0 := by
  intro n
  induction n with
  | zero => intro x o5 X f g h x0 x1 x2 es eg33 eg34 eg352 eg353 eg355 ef32 ef354 hfE hgE hH hA; exfalso; omega
  | succ n ih =>
    intro x o5 X f g h x0 x1 x2 es eg33 eg34 eg352 eg353 eg355 ef32 ef354 hfE hgE hH hA
    have hn := hK.1
    subst ePz
    refine z_ild_4 (TX7_nextOnWay.at 2 rfl) ?_
    refine z_ald_0 (TX7_nextOnWay.at 3 rfl) ?_
    refine zc_getO (m := 0) (s := 0) (k := 63) (hH.lv (by decide)) (TX7_nextOnWay.at 4 rfl) fl7_12 hH rfl rfl (by decide) (by decide) ?_
    refine zc_getIE (m := 1) (s := 0) (k := 32) (hH.lv (by decide)) ef32 (TX7_nextOnWay.at 5 rfl) fl7_96 hH rfl rfl (by decide) (by decide) (fun r9 => ?_)
    refine z_icmp_ge (tgt := 112) (TX7_nextOnWay.at 6 rfl) rfl (by omega) (by omega) (fun c1 => ?_) (fun c1 => ?_)
    · skip
      obtain rfl : x = K 76 := by omega
      exact kx _ _ _ _ es hfE hgE hH hA
    · skip
      have hfx := hT.2.2.2.1 x x0 (by omega)
      have hkx := hK.2.1 x x0 (by omega)
      have hcx := hct x x0 (by omega)
      have hbr := hT.2.2.1.2.1 x x0 (by omega)
      have hhd := hT.2.2.1.2.2 k k0 k7
      have hhx := hT.2.2.2.2 k k0 k7
      refine z_ald_0 (TX7_nextOnWay.at 7 rfl) ?_
      refine zc_getO (m := 0) (s := 9) (k := 383) (hH.lv (by decide)) (TX7_nextOnWay.at 8 rfl) fl7_60 hH rfl rfl (by decide) (by decide) ?_
      refine zc_getIE (m := 11) (s := 2) (k := 354) (hH.lv (by decide)) ef354 (TX7_nextOnWay.at 9 rfl) fl7_146 hH rfl rfl (by decide) (by decide) (fun r19 => ?_)
      refine z_ild_4 (TX7_nextOnWay.at 10 rfl) ?_
      refine zs_call2 (c_bit hT.1 (by omega)) (TX7_nextOnWay.at 11 rfl) c7_128 rfl (by omega) (Nat.le_of_ble_eq_true rfl) (fun r24 => ?_)
      refine z_if_eq (tgt := 106) (TX7_nextOnWay.at 12 rfl) rfl (by omega) (fun c2 => ?_) (fun c2 => ?_)
      · skip
        have hpx : ¬ lbV K cl (ctS K cl) (wS K cl b) k x = wS K cl b k := by rw [lb_no (Or.inr (fun z => absurd (hcx.mpr ((ctS_bt hK x0 (by omega)).mp z)) (by first | assumption | (intro q; rw [b2i_t q] at *; omega))))]; omega
        refine z_iinc_4 (TX7_nextOnWay.at 52 rfl) (Nat.le_of_ble_eq_true rfl) rfl ?_
        refine z_goto (tgt := 3) (TX7_nextOnWay.at 53 rfl) rfl ?_
        exact ih (x + 1) _ _ _ _ _ (by omega) (by omega) (by omega) (fun t t0 t1 => by by_cases e : t = x; subst e; exact fun z => absurd (of_decide_eq_true z) hpx; exact es t t0 (by omega)) eg33 eg34 eg352 eg353 eg355 ef32 ef354 hfE hgE hH hA
      · skip
        refine z_ald_0 (TX7_nextOnWay.at 13 rfl) ?_
        refine zc_getO (m := 0) (s := 0) (k := 63) (hH.lv (by decide)) (TX7_nextOnWay.at 14 rfl) fl7_12 hH rfl rfl (by decide) (by decide) ?_
        refine z_ild_4 (TX7_nextOnWay.at 15 rfl) ?_
        refine z_ild_1 (TX7_nextOnWay.at 16 rfl) ?_
        refine zc_callI2 (m := 1) (c_isTied1 eg33 eg34 (by omega) (by omega) (by omega) (by omega)) (hH.lv (by decide)) (TX7_nextOnWay.at 17 rfl) c7_352 rfl rfl hH hA (by omega) (Nat.le_of_ble_eq_true rfl) (fun x37 f37 g37 j37 h r37 q37 hH hA => ?_)
        obtain ⟨q37, xf, xg, xj⟩ := q37
        rw [xj] at hH
        have ef32 := (xf 32 (by decide)).trans ef32
        have ef354 := (xf 354 (by decide)).trans ef354
        have hfE := hfE.trans xf (by decide)
        have eg33 := (xg 33 (by decide)).trans eg33
        have eg34 := (xg 34 (by decide)).trans eg34
        have eg352 := (xg 352 (by decide)).trans eg352
        have eg353 := (xg 353 (by decide)).trans eg353
        have eg355 := (xg 355 (by decide)).trans eg355
        have hgE := hgE.trans xg (by decide)
        have qL := q37
        rw [hfx.1, hfx.2.1] at qL
        subst qL
        refine z_if_neB (tgt := 46) (TX7_nextOnWay.at 18 rfl) rfl (fun c3 => ?_) (fun c3 => ?_)
        · skip
          have ht : K (29 + x) = k ∨ K (39 + x) = k := by assumption
          have hon : oe K x k ≠ -1 := by rw [oe_end ht hkx.2.2.2.2.1]; split <;> omega
          have hbx : bt (ctS K cl) x := by rw [ctS_bt hK x0 (by omega)]; exact hcx.mp (by first | assumption | (apply b2y; omega) | (by_cases e : bt S2 x; exact e; rw [b2i_f e] at *; omega))
          refine z_ald_0 (TX7_nextOnWay.at 20 rfl) ?_
          refine zc_getO (m := 0) (s := 9) (k := 383) (hH.lv (by decide)) (TX7_nextOnWay.at 21 rfl) fl7_60 hH rfl rfl (by decide) (by decide) ?_
          refine z_ald_0 (TX7_nextOnWay.at 22 rfl) ?_
          refine zc_getO (m := 0) (s := 0) (k := 63) (hH.lv (by decide)) (TX7_nextOnWay.at 23 rfl) fl7_12 hH rfl rfl (by decide) (by decide) ?_
          refine z_ald_0 (TX7_nextOnWay.at 24 rfl) ?_
          refine zc_getO (m := 0) (s := 0) (k := 63) (hH.lv (by decide)) (TX7_nextOnWay.at 25 rfl) fl7_12 hH rfl rfl (by decide) (by decide) ?_
          refine z_ild_4 (TX7_nextOnWay.at 26 rfl) ?_
          refine z_ild_1 (TX7_nextOnWay.at 27 rfl) ?_
          refine zc_callI2 (m := 1) (c_otherEnd eg33 eg34 (by omega) (by omega) (by omega) (by omega)) (hH.lv (by decide)) (TX7_nextOnWay.at 28 rfl) c7_349 rfl rfl hH hA (by omega) (Nat.le_of_ble_eq_true rfl) (fun x61 f61 g61 j61 h r61 q61 hH hA => ?_)
          obtain ⟨q61, xf, xg, xj⟩ := q61
          rw [xj] at hH
          have ef32 := (xf 32 (by decide)).trans ef32
          have ef354 := (xf 354 (by decide)).trans ef354
          have hfE := hfE.trans xf (by decide)
          have eg33 := (xg 33 (by decide)).trans eg33
          have eg34 := (xg 34 (by decide)).trans eg34
          have eg352 := (xg 352 (by decide)).trans eg352
          have eg353 := (xg 353 (by decide)).trans eg353
          have eg355 := (xg 355 (by decide)).trans eg355
          have hgE := hgE.trans xg (by decide)
          have qL := q61
          rw [hfx.1, hfx.2.1, ← oe_end ht hkx.2.2.2.2.1] at qL
          subst qL
          have hoe : 0 ≤ oe K x k ∧ oe K x k ≤ 7 := by rcases oe_in (k := k) hK x0 (by omega) with z | z; exact absurd z hon; exact z.1
          refine z_ild_2 (TX7_nextOnWay.at 29 rfl) ?_
          refine zc_callI3 (m := 11) (c_fromTo eg33 eg34 eg352 eg353 eg355 ef32 ef354 (by omega) (by omega) hT (by omega) (by omega) (by omega) (by omega)) (hH.lv (by decide)) (TX7_nextOnWay.at 30 rfl) c7_342 rfl rfl hH hA (by omega) (Nat.le_of_ble_eq_true rfl) (fun x65 f65 g65 j65 h r65 q65 hH hA => ?_)
          obtain ⟨q65, xf, xg, xj⟩ := q65
          rw [xj] at hH
          have ef32 := (xf 32 (by decide)).trans ef32
          have ef354 := (xf 354 (by decide)).trans ef354
          have hfE := hfE.trans xf (by decide)
          have eg33 := (xg 33 (by decide)).trans eg33
          have eg34 := (xg 34 (by decide)).trans eg34
          have eg352 := (xg 352 (by decide)).trans eg352
          have eg353 := (xg 353 (by decide)).trans eg353
          have hgE := hgE.trans xg (by decide)
          have qL := q65
          rw [fire_cm hK hct] at qL
          obtain ⟨X65, eg355⟩ : ∃ z, g65 355 = z := ⟨_, rfl⟩
          rw [nC_orN, show cmP K cl (zshl 1 (oe K x k)) b = wS K cl b (oe K x k) from rfl] at qL
          subst qL
          have hwb := wS_b (cl := cl) (t := oe K x k) hK b0 b7
          have hov := orN_b (v := wS K cl b (oe K x k)) (by omega)
          have hly := lb_ye (cl := cl) (L := wS K cl b) (S := ctS K cl) hon hbx
          refine z_ist_5 (TX7_nextOnWay.at 31 rfl) (Nat.le_of_ble_eq_true rfl) rfl ?_
          refine z_ild_5 (TX7_nextOnWay.at 32 rfl) ?_
          refine z_iconst (TX7_nextOnWay.at 33 rfl) ?_
          refine z_icmp_eq (tgt := 106) (TX7_nextOnWay.at 34 rfl) rfl (by omega) (by omega) (fun c4 => ?_) (fun c4 => ?_)
          · skip
            have hpx : ¬ lbV K cl (ctS K cl) (wS K cl b) k x = wS K cl b k := by rw [hly]; omega
            refine z_iinc_4 (TX7_nextOnWay.at 52 rfl) (Nat.le_of_ble_eq_true rfl) rfl ?_
            refine z_goto (tgt := 3) (TX7_nextOnWay.at 53 rfl) rfl ?_
            exact ih (x + 1) _ _ _ _ _ (by omega) (by omega) (by omega) (fun t t0 t1 => by by_cases e : t = x; subst e; exact fun z => absurd (of_decide_eq_true z) hpx; exact es t t0 (by omega)) eg33 eg34 eg352 eg353 eg355 ef32 ef354 hfE hgE hH hA
          · skip
            refine z_ald_0 (TX7_nextOnWay.at 35 rfl) ?_
            refine zc_getO (m := 0) (s := 9) (k := 383) (hH.lv (by decide)) (TX7_nextOnWay.at 36 rfl) fl7_60 hH rfl rfl (by decide) (by decide) ?_
            refine zc_getA (m := 11) (s := 1) (k := 353) (hH.lv (by decide)) (TX7_nextOnWay.at 37 rfl) fl7_163 hH rfl rfl (by decide) (by decide) ?_
            refine z_ild_1 (TX7_nextOnWay.at 38 rfl) ?_
            refine zcf_iald (k := 353) (N := 8) (hH.lv (by decide)) (by decide) rfl eg353 (TX7_nextOnWay.at 39 rfl) hH (by decide) (by omega) (show _ < ((8 : Nat) : Int) by omega) (fun r84 => ?_)
            refine z_ald_0 (TX7_nextOnWay.at 40 rfl) ?_
            refine zc_getO (m := 0) (s := 9) (k := 383) (hH.lv (by decide)) (TX7_nextOnWay.at 41 rfl) fl7_60 hH rfl rfl (by decide) (by decide) ?_
            refine zc_getA (m := 11) (s := 0) (k := 352) (hH.lv (by decide)) (TX7_nextOnWay.at 42 rfl) fl7_143 hH rfl rfl (by decide) (by decide) ?_
            refine z_ild_4 (TX7_nextOnWay.at 43 rfl) ?_
            refine zcf_iald (k := 352) (N := 10) (hH.lv (by decide)) (by decide) rfl eg352 (TX7_nextOnWay.at 44 rfl) hH (by decide) (by omega) (show _ < ((10 : Nat) : Int) by omega) (fun r94 => ?_)
            refine z_iadd (TX7_nextOnWay.at 45 rfl) ?_
            refine z_ild_5 (TX7_nextOnWay.at 46 rfl) ?_
            refine z_iadd (TX7_nextOnWay.at 47 rfl) ?_
            refine z_ild_3 (TX7_nextOnWay.at 48 rfl) ?_
            refine z_icmp_ne (tgt := 106) (TX7_nextOnWay.at 49 rfl) rfl (by omega) (by omega) (fun c5 => ?_) (fun c5 => ?_)
            · skip
              have hpx : ¬ lbV K cl (ctS K cl) (wS K cl b) k x = wS K cl b k := by rw [hly]; omega
              refine z_iinc_4 (TX7_nextOnWay.at 52 rfl) (Nat.le_of_ble_eq_true rfl) rfl ?_
              refine z_goto (tgt := 3) (TX7_nextOnWay.at 53 rfl) rfl ?_
              exact ih (x + 1) _ _ _ _ _ (by omega) (by omega) (by omega) (fun t t0 t1 => by by_cases e : t = x; subst e; exact fun z => absurd (of_decide_eq_true z) hpx; exact es t t0 (by omega)) eg33 eg34 eg352 eg353 eg355 ef32 ef354 hfE hgE hH hA
            · skip
              refine z_ild_4 (TX7_nextOnWay.at 50 rfl) ?_
              refine zc_iret (TX7_nextOnWay.at 51 rfl) rfl hH hA (by omega) ?_
              exact ⟨(fstP_i x0 (show x < (K 76).toNat by omega) es (decide_eq_true (by rw [hly]; omega))).symm, hfE, hgE, rfl⟩
        · skip
          refine z_goto (tgt := 106) (TX7_nextOnWay.at 19 rfl) rfl ?_
          have hpx : ¬ lbV K cl (ctS K cl) (wS K cl b) k x = wS K cl b k := by rw [lb_no (Or.inl (oe_non (by assumption)))]; omega
          refine z_iinc_4 (TX7_nextOnWay.at 52 rfl) (Nat.le_of_ble_eq_true rfl) rfl ?_
          refine z_goto (tgt := 3) (TX7_nextOnWay.at 53 rfl) rfl ?_
          exact ih (x + 1) _ _ _ _ _ (by omega) (by omega) (by omega) (fun t t0 t1 => by by_cases e : t = x; subst e; exact fun z => absurd (of_decide_eq_true z) hpx; exact es t t0 (by omega)) eg33 eg34 eg352 eg353 eg355 ef32 ef354 hfE hgE hH hA

set_option maxHeartbeats 4000000 in
set_option maxRecDepth 100000 in
theorem c_next2 {l : Launch} {E : cE} {f : mF} {g j : mA} {Fr : Int → Int} {To : Int → Int} {BX : Int → Int} {HX : Int → Int} {X : Int → Int} {S2 : Int} {k b v : Int} {K : Int → Int} {cl : List Cla} (eg33 : g 33 = Fr) (eg34 : g 34 = To) (eg352 : g 352 = BX) (eg353 : g 353 = HX) (eg355 : g 355 = X) (ef32 : f 32 = (K 76)) (ef354 : f 354 = S2) (hk : zIn k) (hb : zIn b) (hv : zIn v) (hK : KOK K) (hT : FiT Fr To BX HX (frK K) (toK K) (brn K cl) (hld K cl) (K 76) S2) (hct : ∀ x : Int, 0 ≤ x → x < K 76 → (bt S2 x ↔ ctc K cl x)) (k0 : 0 ≤ k) (k7 : k ≤ 7) (b0 : 0 ≤ b) (b7 : b ≤ 7) (hv : v = wS K cl b k) (v0 : 0 ≤ v) (v1 : v ≤ 1863) : CM l E MX7_nextOnWay 5 [.ref (E.1 31), vI k, vI b, vI v] f g j (PI (fun r f' g' j' => (r = nxt K cl (ctS K cl) (wS K cl b) k) ∧ eqx [] f f' ∧ eqx [355] g g' ∧ j' = j)) := by
  refine CM.intro [some (.ref (E.1 31)), some (vI k), some (vI b), some (vI v), none, none] (by decide) (Nat.le_of_ble_eq_true rfl) rfl (fun d hd h0 h hH hA => ?_)
  have hfE : eqx [] f f := eqx.rf
  have hgE : eqx [355] g g := eqx.rf
  have hn := hK.1
  refine z_iconst (TX7_nextOnWay.at 0 rfl) ?_
  refine z_ist_4 (TX7_nextOnWay.at 1 rfl) (Nat.le_of_ble_eq_true rfl) rfl ?_
  refine lp_next hd hK hT hct k0 k7 b0 b7 hv v0 v1 rfl (fun o5 f3 g3 h3 es xf xg hH hA => ?_) 11 0 _ _ _ _ _ (by omega) (by omega) (by omega) (fun t t0 t1 => by omega) eg33 eg34 eg352 eg353 eg355 ef32 ef354 eqx.rf eqx.rf hH hA
  refine z_iconst (TX7_nextOnWay.at 54 rfl) ?_
  refine zc_iret (TX7_nextOnWay.at 55 rfl) rfl hH hA (by omega) ?_
  exact ⟨(fstP_none (K 76).toNat (fun t t0 t1 => es t t0 (by omega))).symm, xf, xg, rfl⟩

theorem wayG_x {K : Int → Int} {cl : List Cla} {S : Int} {lw : Int → Int} {g k : Int} {m : Nat} (h : 0 < m) (x y : Int) : wayG K cl S lw g m k x = wayG K cl S lw g m k y := by
  cases m with
  | zero => omega
  | succ m => rfl
set_option maxHeartbeats 4000000 in
set_option maxRecDepth 100000 in
theorem lp_cway {l : Launch} {E : cE} {d : Nat} {Pz : Option Value → zH → Prop} {h0 : zH} {f0 : mF} {g0 : mA} {j : mA} {h1 : zH} {f1 : mF} {g1 : mA} (hd : 6 ≤ d) {Fr To BX HX K : Int → Int} {S2 : Int} {cl : List Cla} (hK : KOK K) (hT : FiT Fr To BX HX (frK K) (toK K) (brn K cl) (hld K cl) (K 76) S2) (hct : ∀ x : Int, 0 ≤ x → x < K 76 → (bt S2 x ↔ ctc K cl x)) {a b i W : Int} (b0 : 0 ≤ b) (b7 : b ≤ 7) (hi : zIn i) (ePz : Pz = CP E h1 (PI (fun r f' g' j' => r = W ∧ eqx [354] f1 f' ∧ eqx [352, 353, 355, 356, 384] g1 g' ∧ j' = j))) (hf1 : eqx [354] f1 f0) (hg1 : eqx [352, 353, 355, 356, 384] g1 g0) (hA1 : cAg E h1 h0) (kx : ∀ (k v s : Int) (o7 : Option Value) (f : mF) (g : mA) (h : zH), k = b → W = -1 → eqx [] f0 f → eqx [355] g0 g → HC E f g j h → cAg E h0 h → Z l MX7_way d 0 0 Pz 158 [some (.ref (E.1 31)), some (vI a), some (vI b), some (vI i), some (vI v), some (vI k), some (vI s), o7] [] h 0 0)  : ∀ (n : Nat) (k : Int) (v : Int) (s : Int) (o7 : Option Value) (X : Int → Int) (f : mF) (g : mA) (h : zH) (k0 : 0 ≤ k) (k7 : k ≤ 7) (hv : v = wS K cl b k) (v0 : 0 ≤ v) (v1 : v ≤ 1863) (s0 : 0 ≤ s) (si : s ≤ i) (hnf : nfr K cl b k ≤ 8 - s) (s2 : 9 < s + n) (hval : ∀ x, wayG K cl (ctS K cl) (wS K cl b) b (i + 1 - s).toNat k x = W) (eg33 : g 33 = Fr) (eg34 : g 34 = To) (eg352 : g 352 = BX) (eg353 : g 353 = HX) (eg355 : g 355 = X) (ef32 : f 32 = (K 76)) (ef354 : f 354 = S2) (hfE : eqx [] f0 f) (hgE : eqx [355] g0 g) (hH : HC E f g j h) (hA : cAg E h0 h), Z l MX7_way d 0 0 Pz 74 [some (.ref (E.1 31)), some (vI a), some (vI b), some (vI i), some (vI v), some (vI k), some (vI s), o7] [] h 0 0 := by
  intro n
  induction n with
  | zero => intro k v s o7 X f g h k0 k7 hv v0 v1 s0 si hnf s2 hval eg33 eg34 eg352 eg353 eg355 ef32 ef354 hfE hgE hH hA; exfalso; have := nfr_0 (K := K) (cl := cl) (b := b) (k := k); omega
  | succ n ih =>
    intro k v s o7 X f g h k0 k7 hv v0 v1 s0 si hnf s2 hval eg33 eg34 eg352 eg353 eg355 ef32 ef354 hfE hgE hH hA
    have hn := hK.1
    subst ePz
    refine z_ild_6 (TX7_way_0.at 39 rfl) ?_
    refine z_bipush (by decide) (TX7_way_1.at 0 rfl) ?_
    refine z_icmp_ge (tgt := 158) (TX7_way_1.at 1 rfl) rfl (by omega) (by omega) (fun c1 => ?_) (fun c1 => ?_)
    · skip
      exact kx _ _ _ _ _ _ _ (by by_cases e : k = b; exact e; have := nfr_2 (cl := cl) hK b0 b7 k0 k7 e; omega) (by have z := hval 0; rw [show (i + 1 - s).toNat = (i - s).toNat + 1 by omega, wayG, if_pos (by by_cases e : k = b; exact e; have := nfr_2 (cl := cl) hK b0 b7 k0 k7 e; omega)] at z; exact z.symm) hfE hgE hH hA
    · skip
      refine z_ild_5 (TX7_way_1.at 2 rfl) ?_
      refine z_ild_2 (TX7_way_1.at 3 rfl) ?_
      refine z_icmp_eq (tgt := 158) (TX7_way_1.at 4 rfl) rfl (by omega) (by omega) (fun c2 => ?_) (fun c2 => ?_)
      · skip
        exact kx _ _ _ _ _ _ _ (by by_cases e : k = b; exact e; have := nfr_2 (cl := cl) hK b0 b7 k0 k7 e; omega) (by have z := hval 0; rw [show (i + 1 - s).toNat = (i - s).toNat + 1 by omega, wayG, if_pos (by by_cases e : k = b; exact e; have := nfr_2 (cl := cl) hK b0 b7 k0 k7 e; omega)] at z; exact z.symm) hfE hgE hH hA
      · skip
        refine z_ald_0 (TX7_way_1.at 5 rfl) ?_
        refine z_ild_5 (TX7_way_1.at 6 rfl) ?_
        refine z_ild_2 (TX7_way_1.at 7 rfl) ?_
        refine z_ild_4 (TX7_way_1.at 8 rfl) ?_
        refine zc_callI3 (m := 0) (c_next2 eg33 eg34 eg352 eg353 eg355 ef32 ef354 (by omega) (by omega) (by omega) hK hT hct (by omega) (by omega) (by omega) (by omega) hv (by omega) (by omega)) (hH.lv (by decide)) (TX7_way_1.at 9 rfl) c7_346 rfl rfl hH hA (by omega) (Nat.le_of_ble_eq_true rfl) (fun x93 f93 g93 j93 h r93 q93 hH hA => ?_)
        obtain ⟨q93, xf, xg, xj⟩ := q93
        rw [xj] at hH
        have ef32 := (xf 32 (by decide)).trans ef32
        have ef354 := (xf 354 (by decide)).trans ef354
        have hfE := hfE.trans xf (by decide)
        have eg33 := (xg 33 (by decide)).trans eg33
        have eg34 := (xg 34 (by decide)).trans eg34
        have eg352 := (xg 352 (by decide)).trans eg352
        have eg353 := (xg 353 (by decide)).trans eg353
        have hgE := hgE.trans xg (by decide)
        have qL := q93
        obtain ⟨X93, eg355⟩ : ∃ z, g93 355 = z := ⟨_, rfl⟩
        obtain ⟨y, ny, y0, y1, hoe, hwf, hsum⟩ := nxt_at (cl := cl) hK b0 b7 k0 k7 (by omega) (by omega)
        rw [ny] at qL
        have qe := qL.symm
        subst qe
        have hst : ∀ x, wayG K cl (ctS K cl) (wS K cl b) b (i + 1 - s).toNat k x = wayG K cl (ctS K cl) (wS K cl b) b (i - s).toNat (oe K y k) y := fun x => by rw [show (i + 1 - s).toNat = (i - s).toNat + 1 by omega, wayG, if_neg (by omega), ny]
        have hfx := hT.2.2.2.1 y y0 (by omega)
        have hkx := hK.2.1 y y0 (by omega)
        have hbr := hT.2.2.1.2.1 y y0 (by omega)
        have hhd := hT.2.2.1.2.2 k k0 k7
        have hhx := hT.2.2.2.2 k k0 k7
        have hw2 := wS_b (cl := cl) (t := oe K y k) hK b0 b7
        have hnl := nfr_lt (K := K) (cl := cl) (b := b) (k := k) (k2 := oe K y k) k0 k7 (by omega)
        have hty : K (29 + y) = k ∨ K (39 + y) = k := by by_cases e : K (29 + y) = k ∨ K (39 + y) = k; exact e; have := oe_non e; omega
        refine z_ist_7 (TX7_way_1.at 10 rfl) (Nat.le_of_ble_eq_true rfl) rfl ?_
        refine z_ild_7 (TX7_way_1.at 11 rfl) ?_
        refine z_iconst (TX7_way_1.at 12 rfl) ?_
        refine z_icmp_eq (tgt := 110) (TX7_way_1.at 13 rfl) rfl (by omega) (by omega) (fun c3 => absurd c3 (by omega)) (fun c3 => ?_)
        refine z_ild_6 (TX7_way_1.at 14 rfl) ?_
        refine z_ild_3 (TX7_way_1.at 15 rfl) ?_
        refine z_icmp_ne (tgt := 113) (TX7_way_1.at 16 rfl) rfl (by omega) (by omega) (fun c4 => ?_) (fun c4 => ?_)
        · skip
          refine z_ild_4 (TX7_way_1.at 19 rfl) ?_
          refine z_ald_0 (TX7_way_1.at 20 rfl) ?_
          refine zc_getO (m := 0) (s := 9) (k := 383) (hH.lv (by decide)) (TX7_way_1.at 21 rfl) fl7_60 hH rfl rfl (by decide) (by decide) ?_
          refine zc_getA (m := 11) (s := 1) (k := 353) (hH.lv (by decide)) (TX7_way_1.at 22 rfl) fl7_163 hH rfl rfl (by decide) (by decide) ?_
          refine z_ild_5 (TX7_way_1.at 23 rfl) ?_
          refine zcf_iald (k := 353) (N := 8) (hH.lv (by decide)) (by decide) rfl eg353 (TX7_way_1.at 24 rfl) hH (by decide) (by omega) (show _ < ((8 : Nat) : Int) by omega) (fun r124 => ?_)
          refine z_ald_0 (TX7_way_1.at 25 rfl) ?_
          refine zc_getO (m := 0) (s := 9) (k := 383) (hH.lv (by decide)) (TX7_way_1.at 26 rfl) fl7_60 hH rfl rfl (by decide) (by decide) ?_
          refine zc_getA (m := 11) (s := 0) (k := 352) (hH.lv (by decide)) (TX7_way_1.at 27 rfl) fl7_143 hH rfl rfl (by decide) (by decide) ?_
          refine z_ild_7 (TX7_way_1.at 28 rfl) ?_
          refine zcf_iald (k := 352) (N := 10) (hH.lv (by decide)) (by decide) rfl eg352 (TX7_way_1.at 29 rfl) hH (by decide) (by omega) (show _ < ((10 : Nat) : Int) by omega) (fun r134 => ?_)
          refine z_iadd (TX7_way_1.at 30 rfl) ?_
          refine z_isub (TX7_way_1.at 31 rfl) ?_
          refine z_ist_4 (TX7_way_1.at 32 rfl) (Nat.le_of_ble_eq_true rfl) rfl ?_
          refine z_ald_0 (TX7_way_1.at 33 rfl) ?_
          refine zc_getO (m := 0) (s := 0) (k := 63) (hH.lv (by decide)) (TX7_way_1.at 34 rfl) fl7_12 hH rfl rfl (by decide) (by decide) ?_
          refine z_ild_7 (TX7_way_1.at 35 rfl) ?_
          refine z_ild_5 (TX7_way_1.at 36 rfl) ?_
          refine zc_callI2 (m := 1) (c_otherEnd eg33 eg34 (by omega) (by omega) (by omega) (by omega)) (hH.lv (by decide)) (TX7_way_1.at 37 rfl) c7_349 rfl rfl hH hA (by omega) (Nat.le_of_ble_eq_true rfl) (fun x147 f147 g147 j147 h r147 q147 hH hA => ?_)
          obtain ⟨q147, xf, xg, xj⟩ := q147
          rw [xj] at hH
          have ef32 := (xf 32 (by decide)).trans ef32
          have ef354 := (xf 354 (by decide)).trans ef354
          have hfE := hfE.trans xf (by decide)
          have eg33 := (xg 33 (by decide)).trans eg33
          have eg34 := (xg 34 (by decide)).trans eg34
          have eg352 := (xg 352 (by decide)).trans eg352
          have eg353 := (xg 353 (by decide)).trans eg353
          have eg355 := (xg 355 (by decide)).trans eg355
          have hgE := hgE.trans xg (by decide)
          have qL := q147
          rw [hfx.1, hfx.2.1, ← oe_end hty hkx.2.2.2.2.1] at qL
          subst qL
          refine z_ist_5 (TX7_way_1.at 38 rfl) (Nat.le_of_ble_eq_true rfl) rfl ?_
          refine z_iinc_6 (TX7_way_1.at 39 rfl) (Nat.le_of_ble_eq_true rfl) rfl ?_
          refine z_goto (tgt := 74) (TX7_way_2.at 0 rfl) rfl ?_
          exact ih (oe K y k) _ (s + 1) _ _ _ _ _ (by omega) (by omega) (by omega) (by omega) (by omega) (by omega) (by omega) (by omega) (by omega) (fun x => by have z := hval 0; rw [hst] at z; rw [show (i + 1 - (s + 1)).toNat = (i - s).toNat by omega, wayG_x (by omega) x y]; exact z) eg33 eg34 eg352 eg353 eg355 ef32 ef354 hfE hgE hH hA
        · skip
          have hA := hA1.trans hA
          have hW : y = W := by have z := hval 0; rw [hst, show (i - s).toNat = 0 by omega] at z; exact z
          refine z_ild_7 (TX7_way_1.at 17 rfl) ?_
          refine zc_iret (TX7_way_1.at 18 rfl) rfl hH hA (by omega) ?_
          exact ⟨hW, hf1.trans hfE (by decide), hg1.trans hgE (by decide), rfl⟩

set_option maxHeartbeats 4000000 in
set_option maxRecDepth 100000 in
theorem c_way {l : Launch} {E : cE} {f : mF} {g j : mA} {Fr : Int → Int} {To : Int → Int} {Ln : Int → Int} {Kd : Int → Int} {Tm : Int → Int} {Lw : Int → Int} {dp : Int} {S : Int} {a b i : Int} {K : Int → Int} {cl : List Cla} (eg33 : g 33 = Fr) (eg34 : g 34 = To) (eg35 : g 35 = Ln) (eg36 : g 36 = Kd) (eg44 : g 44 = Tm) (eg46 : g 46 = Lw) (ef32 : f 32 = (K 76)) (ef37 : f 37 = dp) (ef354 : f 354 = S) (ef45 : f 45 = (K 79)) (ef47 : f 47 = (K 80)) (ha : zIn a) (hb : zIn b) (hi : zIn i) (hL : LwN E f g (if 0 ≤ K 80 ∧ K 80 < K 79 then Lw (K 80) else -1) cl) (hK : KOK K) (hP : FrA Fr To Ln Kd dp K) (hS : z31 S) (t0 : Tm 0 = K 28) (t2 : Tm 2 = K 75) : CM l E MX7_way 7 [.ref (E.1 31), vI a, vI b, vI i] f g j (PI (fun r f' g' j' => (r = wayV K cl a b i) ∧ eqx [354] f f' ∧ eqx [352, 353, 355, 356, 384] g g' ∧ j' = j)) := by
  refine CM.intro [some (.ref (E.1 31)), some (vI a), some (vI b), some (vI i), none, none, none, none] (by decide) (Nat.le_of_ble_eq_true rfl) rfl (fun d hd h0 h hH hA => ?_)
  have hfE : eqx [354] f f := eqx.rf
  have hgE : eqx [352, 353, 355, 356, 384] g g := eqx.rf
  have h79 := hK.2.2.2.2.2.2.2.2.2.2.1
  have hn := hK.1
  refine z_ild_1 (TX7_way_0.at 0 rfl) ?_
  refine zs_call1 (c_isKnot (by omega)) (TX7_way_0.at 1 rfl) c7_157 rfl (by omega) (Nat.le_of_ble_eq_true rfl) (fun r1 => ?_)
  refine z_if_eqB (tgt := 19) (TX7_way_0.at 2 rfl) rfl (fun c1 => ?_) (fun c1 => ?_)
  · skip
    refine z_iconst (TX7_way_0.at 9 rfl) ?_
    refine zc_iret (TX7_way_0.at 10 rfl) rfl hH hA (by omega) ?_
    exact ⟨by unfold wayV; rw [if_neg (by omega)], hfE, hgE, rfl⟩
  · skip
    refine z_ild_2 (TX7_way_0.at 3 rfl) ?_
    refine zs_call1 (c_isKnot (by omega)) (TX7_way_0.at 4 rfl) c7_157 rfl (by omega) (Nat.le_of_ble_eq_true rfl) (fun r8 => ?_)
    refine z_if_eqB (tgt := 19) (TX7_way_0.at 5 rfl) rfl (fun c2 => ?_) (fun c2 => ?_)
    · skip
      refine z_iconst (TX7_way_0.at 9 rfl) ?_
      refine zc_iret (TX7_way_0.at 10 rfl) rfl hH hA (by omega) ?_
      exact ⟨by unfold wayV; rw [if_neg (by omega)], hfE, hgE, rfl⟩
    · skip
      refine z_ild_3 (TX7_way_0.at 6 rfl) ?_
      refine z_iconst (TX7_way_0.at 7 rfl) ?_
      refine z_icmp_ge (tgt := 21) (TX7_way_0.at 8 rfl) rfl (by omega) (by omega) (fun c3 => ?_) (fun c3 => ?_)
      · skip
        refine z_ald_0 (TX7_way_0.at 11 rfl) ?_
        refine zc_getO (m := 0) (s := 9) (k := 383) (hH.lv (by decide)) (TX7_way_0.at 12 rfl) fl7_60 hH rfl rfl (by decide) (by decide) ?_
        refine z_ald_0 (TX7_way_0.at 13 rfl) ?_
        refine zc_getO (m := 0) (s := 0) (k := 63) (hH.lv (by decide)) (TX7_way_0.at 14 rfl) fl7_12 hH rfl rfl (by decide) (by decide) ?_
        refine z_ald_0 (TX7_way_0.at 15 rfl) ?_
        refine zc_getO (m := 0) (s := 0) (k := 63) (hH.lv (by decide)) (TX7_way_0.at 16 rfl) fl7_12 hH rfl rfl (by decide) (by decide) ?_
        refine zc_callO (m := 1) (As := []) (c_lawIn1 eg46 ef45 ef47 h79.1 h79.2) (hH.lv (by decide)) (TX7_way_0.at 17 rfl) c7_135 rfl rfl hH hA (by omega) (Nat.le_of_ble_eq_true rfl) (fun y33 f33 g33 j33 h q33 hH hA => ?_)
        obtain ⟨q33, xf, xg, xj⟩ := q33
        rw [xj] at hH
        have ef32 := (xf 32 (by decide)).trans ef32
        have ef37 := (xf 37 (by decide)).trans ef37
        have ef354 := (xf 354 (by decide)).trans ef354
        have ef45 := (xf 45 (by decide)).trans ef45
        have ef47 := (xf 47 (by decide)).trans ef47
        have hfE := hfE.trans xf (by decide)
        have eg33 := (xg 33 (by decide)).trans eg33
        have eg34 := (xg 34 (by decide)).trans eg34
        have eg35 := (xg 35 (by decide)).trans eg35
        have eg36 := (xg 36 (by decide)).trans eg36
        have eg44 := (xg 44 (by decide)).trans eg44
        have eg46 := (xg 46 (by decide)).trans eg46
        have hgE := hgE.trans xg (by decide)
        have qL := q33
        have hL := LwN_cg hL xf xg
        rw [← qL] at hL
        refine zc_callV2 (m := 11) (c_measY1 eg33 eg34 eg35 eg36 eg44 ef32 ef37 ef354 hL hK hP hS t0 t2) (hH.lv (by decide)) (TX7_way_0.at 18 rfl) c7_139 rfl rfl hH hA (by omega) (Nat.le_of_ble_eq_true rfl) (fun f36 g36 j36 h q36 hH hA => ?_)
        obtain ⟨q36, xf, xg, xj⟩ := q36
        rw [xj] at hH
        have ef32 := (xf 32 (by decide)).trans ef32
        have ef37 := (xf 37 (by decide)).trans ef37
        have ef45 := (xf 45 (by decide)).trans ef45
        have ef47 := (xf 47 (by decide)).trans ef47
        have hfE := hfE.trans xf (by decide)
        have eg33 := (xg 33 (by decide)).trans eg33
        have eg34 := (xg 34 (by decide)).trans eg34
        have eg35 := (xg 35 (by decide)).trans eg35
        have eg36 := (xg 36 (by decide)).trans eg36
        have eg44 := (xg 44 (by decide)).trans eg44
        have eg46 := (xg 46 (by decide)).trans eg46
        have hgE := hgE.trans xg (by decide)
        have qL := q36
        obtain ⟨hT, hct⟩ := qL
        obtain ⟨BX, eg352⟩ : ∃ z, g36 352 = z := ⟨_, rfl⟩
        obtain ⟨HX, eg353⟩ : ∃ z, g36 353 = z := ⟨_, rfl⟩
        obtain ⟨S2, ef354⟩ : ∃ z, f36 354 = z := ⟨_, rfl⟩
        rw [eg352, eg353, ef354] at hT
        rw [ef354] at hct
        refine z_ald_0 (TX7_way_0.at 19 rfl) ?_
        refine zc_getO (m := 0) (s := 9) (k := 383) (hH.lv (by decide)) (TX7_way_0.at 20 rfl) fl7_60 hH rfl rfl (by decide) (by decide) ?_
        refine z_ald_0 (TX7_way_0.at 21 rfl) ?_
        refine zc_getO (m := 0) (s := 0) (k := 63) (hH.lv (by decide)) (TX7_way_0.at 22 rfl) fl7_12 hH rfl rfl (by decide) (by decide) ?_
        refine z_ild_1 (TX7_way_0.at 23 rfl) ?_
        refine z_ild_2 (TX7_way_0.at 24 rfl) ?_
        refine zc_callI3 (m := 11) (c_fromTo eg33 eg34 eg352 eg353 rfl ef32 ef354 (by omega) (by omega) hT (by omega) (by omega) (by omega) (by omega)) (hH.lv (by decide)) (TX7_way_0.at 25 rfl) c7_342 rfl rfl hH hA (by omega) (Nat.le_of_ble_eq_true rfl) (fun x49 f49 g49 j49 h r49 q49 hH hA => ?_)
        obtain ⟨q49, xf, xg, xj⟩ := q49
        rw [xj] at hH
        have ef32 := (xf 32 (by decide)).trans ef32
        have ef37 := (xf 37 (by decide)).trans ef37
        have ef354 := (xf 354 (by decide)).trans ef354
        have ef45 := (xf 45 (by decide)).trans ef45
        have ef47 := (xf 47 (by decide)).trans ef47
        have hfE := hfE.trans xf (by decide)
        have eg33 := (xg 33 (by decide)).trans eg33
        have eg34 := (xg 34 (by decide)).trans eg34
        have eg35 := (xg 35 (by decide)).trans eg35
        have eg36 := (xg 36 (by decide)).trans eg36
        have eg44 := (xg 44 (by decide)).trans eg44
        have eg46 := (xg 46 (by decide)).trans eg46
        have eg352 := (xg 352 (by decide)).trans eg352
        have eg353 := (xg 353 (by decide)).trans eg353
        have hgE := hgE.trans xg (by decide)
        have qL := q49
        rw [fire_cm hK hct] at qL
        obtain ⟨X49, eg355⟩ : ∃ z, g49 355 = z := ⟨_, rfl⟩
        rw [nC_orN, show cmP K cl (zshl 1 a) b = wS K cl b a from rfl] at qL
        subst qL
        have hwb := wS_b (cl := cl) (t := a) hK (show 0 ≤ b by omega) (show b ≤ 7 by omega)
        have hov := orN_b (v := wS K cl b a) (by omega)
        refine z_ist_4 (TX7_way_0.at 26 rfl) (Nat.le_of_ble_eq_true rfl) rfl ?_
        refine z_ild_4 (TX7_way_0.at 27 rfl) ?_
        refine z_iconst (TX7_way_0.at 28 rfl) ?_
        refine z_icmp_eq (tgt := 65) (TX7_way_0.at 29 rfl) rfl (by omega) (by omega) (fun c4 => ?_) (fun c4 => ?_)
        · skip
          refine z_ild_4 (TX7_way_0.at 33 rfl) ?_
          refine zc_iret (TX7_way_0.at 34 rfl) rfl hH hA (by omega) ?_
          exact ⟨by unfold wayV; rw [if_pos (by omega), if_pos (show wS K cl b a = 1000000 ∨ i = -1 by omega)], hfE, hgE, rfl⟩
        · skip
          refine z_ild_3 (TX7_way_0.at 30 rfl) ?_
          refine z_iconst (TX7_way_0.at 31 rfl) ?_
          refine z_icmp_ne (tgt := 68) (TX7_way_0.at 32 rfl) rfl (by omega) (by omega) (fun c5 => ?_) (fun c5 => ?_)
          · skip
            refine z_ild_1 (TX7_way_0.at 35 rfl) ?_
            refine z_ist_5 (TX7_way_0.at 36 rfl) (Nat.le_of_ble_eq_true rfl) rfl ?_
            refine z_iconst (TX7_way_0.at 37 rfl) ?_
            refine z_ist_6 (TX7_way_0.at 38 rfl) (Nat.le_of_ble_eq_true rfl) rfl ?_
            rcases hov with hov | hov
            · exfalso; omega
            rw [hov.1]
            refine lp_cway (by omega) hK hT hct (a := a) (W := wayV K cl a b i) (by omega) (by omega) hi rfl hfE hgE hA (fun k9 v9 s9 o7 f9 g9 h9 ek eW xf xg hH hA2 => ?_) 10 a _ 0 none _ _ _ _ (by omega) (by omega) rfl (by omega) (by omega) (by omega) (by omega) (by have := nfr_8 (K := K) (cl := cl) (b := b) (k := a); omega) (by omega) (fun x => ?_) eg33 eg34 eg352 eg353 eg355 ef32 ef354 eqx.rf eqx.rf hH cAg.refl
            · have hA := hA.trans hA2
              refine z_iconst (TX7_way_2.at 1 rfl) ?_
              refine zc_iret (TX7_way_2.at 2 rfl) rfl hH hA (by omega) ?_
              exact ⟨eW.symm, hfE.trans xf (by decide), hgE.trans xg (by decide), rfl⟩
            · unfold wayV
              rw [if_pos (by omega), if_neg (show ¬ (wS K cl b a = 1000000 ∨ i = -1) by omega), show (i + 1 - 0).toNat = (i + 1).toNat by omega]
              exact wayG_x (by omega) x (-1)
          · skip
            refine z_ild_4 (TX7_way_0.at 33 rfl) ?_
            refine zc_iret (TX7_way_0.at 34 rfl) rfl hH hA (by omega) ?_
            exact ⟨by unfold wayV; rw [if_pos (by omega), if_pos (show wS K cl b a = 1000000 ∨ i = -1 by omega)], hfE, hgE, rfl⟩
      · skip
        refine z_iconst (TX7_way_0.at 9 rfl) ?_
        refine zc_iret (TX7_way_0.at 10 rfl) rfl hH hA (by omega) ?_
        exact ⟨by unfold wayV; rw [if_neg (by omega)], hfE, hgE, rfl⟩

