/-! ===== the class itself: how many bits; what it asks of the fire ===== -/
def zushr (x y : Int) : Int := ((Int32.ofInt x).toUInt32 >>> ((Int32.ofInt y).toUInt32 &&& Int32.toUInt32 31)).toInt32.toInt
theorem z_iushr {l : Launch} {M : zM} {d mc ms : Nat} {P : Option Value → zH → Prop} {pc pc' : Nat} {L : List (Option Value)} {S : List Value} {h : zH} {kc ks : Nat} {x y : Int} (hd : zAt M 1 pc pc' (.iushr)) (k : Z l M d mc ms P pc' L (vI (zushr x y) :: S) h kc ks) : Z l M d mc ms P pc L (vI y :: vI x :: S) h kc ks := by
  obtain ⟨hd, rfl⟩ := hd
  refine z_pure (fun hx hb w => ?_) k
  unfold vI zushr at w
  rw [Int32.ofInt_toInt] at w
  exact lv_iushr hx hb hd rfl w
theorem kNone_265 : Cond.constant "java/lang/Integer" 265 (1431655765) ∈ zTbl := zt4 12 (by decide +kernel) rfl
theorem kNone_266 : Cond.constant "java/lang/Integer" 266 (858993459) ∈ zTbl := zt4 13 (by decide +kernel) rfl
theorem kNone_267 : Cond.constant "java/lang/Integer" 267 (252645135) ∈ zTbl := zt4 14 (by decide +kernel) rfl
def bc1 (q : Int) : Int := q - zand (zushr q 1) 1431655765
def bc2 (q : Int) : Int := zand q 858993459 + zand (zushr q 2) 858993459
def bc3 (q : Int) : Int := zand (q + zushr q 4) 252645135
def bc4 (q : Int) : Int := q + zushr q 8
def bc5 (q : Int) : Int := q + zushr q 16
def bcE (q : Int) : Int := zand (bc5 (bc4 (bc3 (bc2 (bc1 q))))) 63
theorem bc_all : ∀ n : Fin 1024, bcE (n.val : Int) = cnt (n.val : Int) 10 := by decide +kernel
theorem bc_eq {q : Int} (q0 : 0 ≤ q) (q1 : q ≤ 1023) : bcE q = cnt q 10 := by
  have := bc_all ⟨q.toNat, by omega⟩
  rwa [show ((q.toNat : Nat) : Int) = q by omega] at this
set_option maxHeartbeats 4000000 in
set_option maxRecDepth 100000 in
theorem c_bits {l : Launch} {q : Int} (q0 : 0 ≤ q) (q1 : q ≤ 1023) : SI l MJ6_bitCount_0f7a4 0 [vI q] (cnt q 10) := by
  have hc := cnt_le q 10
  refine SI.intro [some (vI q)] (by omega) (by decide) (Nat.le_of_ble_eq_true rfl) rfl (fun d hd h => ?_)
  refine z_ild_0 (TJ6_bitCount_0f7a4.at 0 rfl) ?_
  refine z_ild_0 (TJ6_bitCount_0f7a4.at 1 rfl) ?_
  refine z_iconst (TJ6_bitCount_0f7a4.at 2 rfl) ?_
  refine z_iushr (TJ6_bitCount_0f7a4.at 3 rfl) ?_
  refine z_ldcw (v := 1431655765) (TJ6_bitCount_0f7a4.at 4 rfl) kNone_265 (by decide) ?_
  refine z_iand (TJ6_bitCount_0f7a4.at 5 rfl) ?_
  refine z_isub (TJ6_bitCount_0f7a4.at 6 rfl) ?_
  refine z_ist_0 (TJ6_bitCount_0f7a4.at 7 rfl) (Nat.le_of_ble_eq_true rfl) ?_
  show Z _ _ _ _ _ _ _ [some (vI (bc1 q))] _ _ _ _
  refine z_ild_0 (TJ6_bitCount_0f7a4.at 8 rfl) ?_
  refine z_ldcw (v := 858993459) (TJ6_bitCount_0f7a4.at 9 rfl) kNone_266 (by decide) ?_
  refine z_iand (TJ6_bitCount_0f7a4.at 10 rfl) ?_
  refine z_ild_0 (TJ6_bitCount_0f7a4.at 11 rfl) ?_
  refine z_iconst (TJ6_bitCount_0f7a4.at 12 rfl) ?_
  refine z_iushr (TJ6_bitCount_0f7a4.at 13 rfl) ?_
  refine z_ldcw (v := 858993459) (TJ6_bitCount_0f7a4.at 14 rfl) kNone_266 (by decide) ?_
  refine z_iand (TJ6_bitCount_0f7a4.at 15 rfl) ?_
  refine z_iadd (TJ6_bitCount_0f7a4.at 16 rfl) ?_
  refine z_ist_0 (TJ6_bitCount_0f7a4.at 17 rfl) (Nat.le_of_ble_eq_true rfl) ?_
  show Z _ _ _ _ _ _ _ [some (vI (bc2 (bc1 q)))] _ _ _ _
  refine z_ild_0 (TJ6_bitCount_0f7a4.at 18 rfl) ?_
  refine z_ild_0 (TJ6_bitCount_0f7a4.at 19 rfl) ?_
  refine z_iconst (TJ6_bitCount_0f7a4.at 20 rfl) ?_
  refine z_iushr (TJ6_bitCount_0f7a4.at 21 rfl) ?_
  refine z_iadd (TJ6_bitCount_0f7a4.at 22 rfl) ?_
  refine z_ldcw (v := 252645135) (TJ6_bitCount_0f7a4.at 23 rfl) kNone_267 (by decide) ?_
  refine z_iand (TJ6_bitCount_0f7a4.at 24 rfl) ?_
  refine z_ist_0 (TJ6_bitCount_0f7a4.at 25 rfl) (Nat.le_of_ble_eq_true rfl) ?_
  show Z _ _ _ _ _ _ _ [some (vI (bc3 (bc2 (bc1 q))))] _ _ _ _
  refine z_ild_0 (TJ6_bitCount_0f7a4.at 26 rfl) ?_
  refine z_ild_0 (TJ6_bitCount_0f7a4.at 27 rfl) ?_
  refine z_bipush (by decide) (TJ6_bitCount_0f7a4.at 28 rfl) ?_
  refine z_iushr (TJ6_bitCount_0f7a4.at 29 rfl) ?_
  refine z_iadd (TJ6_bitCount_0f7a4.at 30 rfl) ?_
  refine z_ist_0 (TJ6_bitCount_0f7a4.at 31 rfl) (Nat.le_of_ble_eq_true rfl) ?_
  show Z _ _ _ _ _ _ _ [some (vI (bc4 (bc3 (bc2 (bc1 q)))))] _ _ _ _
  refine z_ild_0 (TJ6_bitCount_0f7a4.at 32 rfl) ?_
  refine z_ild_0 (TJ6_bitCount_0f7a4.at 33 rfl) ?_
  refine z_bipush (by decide) (TJ6_bitCount_0f7a4.at 34 rfl) ?_
  refine z_iushr (TJ6_bitCount_0f7a4.at 35 rfl) ?_
  refine z_iadd (TJ6_bitCount_0f7a4.at 36 rfl) ?_
  refine z_ist_0 (TJ6_bitCount_0f7a4.at 37 rfl) (Nat.le_of_ble_eq_true rfl) ?_
  show Z _ _ _ _ _ _ _ [some (vI (bc5 (bc4 (bc3 (bc2 (bc1 q))))))] _ _ _ _
  refine z_ild_0 (TJ6_bitCount_0f7a4.at 38 rfl) ?_
  refine z_bipush (by decide) (TJ6_bitCount_0f7a4.at 39 rfl) ?_
  refine z_iand (TJ6_bitCount_0f7a4.at 40 rfl) ?_
  exact zs_iret (TJ6_bitCount_0f7a4.at 41 rfl) rfl (bc_eq q0 q1)

theorem lastN_b {v : Int → Int} {S : Int} : ∀ n : Nat, (∀ t : Int, 0 ≤ t → t < n → v t = 1000000 ∨ (0 ≤ v t ∧ v t ≤ 4000)) → lastN v S n = 1000000 ∨ (0 ≤ lastN v S n ∧ lastN v S n ≤ 4000) := by
  intro n
  induction n with
  | zero => intro _; exact Or.inr ⟨Int.le_refl 0, show (0 : Int) ≤ 4000 by decide⟩
  | succ n ih =>
    intro h
    have a := ih (fun t t0 t1 => h t t0 (by omega))
    have c := h n (by omega) (by omega)
    simp only [lastN]
    split
    · omega
    · exact a
theorem mosN_b {v : Int → Int} : ∀ n : Nat, (∀ t : Int, 0 ≤ t → t < n → v t = 1000000 ∨ (0 ≤ v t ∧ v t ≤ 4000)) → mosN v n = 1000000 ∨ (0 ≤ mosN v n ∧ mosN v n ≤ 4000) := by
  intro n
  induction n with
  | zero => intro _; exact Or.inr ⟨Int.le_refl 0, show (0 : Int) ≤ 4000 by decide⟩
  | succ n ih =>
    intro h
    have a := ih (fun t t0 t1 => h t t0 (by omega))
    have c := h n (by omega) (by omega)
    simp only [mosN]
    omega
theorem orN_a {a : Int} (h0 : 0 ≤ a) (h1 : a ≤ 1000000) : (orN a = -1 ∧ a = 1000000) ∨ (orN a = a ∧ 0 ≤ a ∧ a < 1000000) := by
  unfold orN
  split
  · exact Or.inl ⟨rfl, by assumption⟩
  · exact Or.inr ⟨rfl, by omega, by omega⟩
theorem LwN_fr {fm gm : List Nat} {E : cE} {f f' : mF} {g g' : mA} {y : Int} {cl : List Cla} (h : LwN E f g y cl) (xf : eqx fm f f') (xg : eqx gm g g') (hf : ∀ k ∈ fm, k < 512) (hg : ∀ k ∈ gm, k < 512) : LwN E f' g' y cl := by
  rcases h with h | ⟨m, h0, h1, h2, h3, h4, h5, h6, h7, h8, h9, h10, h11⟩
  · exact Or.inl h
  · have nf : ∀ s, f' (32 * m + s) = f (32 * m + s) := fun s => xf _ (fun z => absurd (hf _ z) (by omega))
    have ng : ∀ s, g' (32 * m + s) = g (32 * m + s) := fun s => xg _ (fun z => absurd (hg _ z) (by omega))
    exact Or.inr ⟨m, h0, h1, h2, h3, by rw [nf]; exact h4, by rw [nf]; exact h5, h6, h7, h8, h9, by rw [nf, ng, ng, ng, ng]; exact h10, by rw [nf]; exact h11⟩
theorem z31.zin {x : Int} (h : z31 x) : zIn x := ⟨by have := h.1; omega, by have := h.2; omega⟩
set_option maxHeartbeats 4000000 in
set_option maxRecDepth 100000 in
theorem c_stands {l : Launch} {E : cE} {f : mF} {g j : mA} {Fr : Int → Int} {To : Int → Int} {Ln : Int → Int} {Kd : Int → Int} {Tm : Int → Int} {Lw : Int → Int} {Lt : Int → Int} {dp : Int} {S : Int} {q t : Int} {K : Int → Int} {cl : List Cla} (eg33 : g 33 = Fr) (eg34 : g 34 = To) (eg35 : g 35 = Ln) (eg36 : g 36 = Kd) (eg44 : g 44 = Tm) (eg46 : g 46 = Lw) (eg40 : g 40 = Lt) (ef32 : f 32 = (K 76)) (ef37 : f 37 = dp) (ef354 : f 354 = S) (ef45 : f 45 = (K 79)) (ef47 : f 47 = (K 80)) (ef39 : f 39 = (K 77)) (hq : zIn q) (ht : zIn t) (hL : LwN E f g (if 0 ≤ K 80 ∧ K 80 < K 79 then Lw (K 80) else -1) cl) (hK : KOK K) (hP : FrA Fr To Ln Kd dp K) (hS : z31 S) (t0 : Tm 0 = K 28) (t2 : Tm 2 = K 75) (hLt : ∀ i : Int, 0 ≤ i → i < K 77 → Lt i = K (59 + i)) : CM l E MX7_stands 7 [.ref (E.1 31), vI q, vI t] f g j (PI (fun r f' g' j' => (r = standV K cl q t) ∧ eqx [354] f f' ∧ eqx [352, 353, 355, 356, 384] g g' ∧ j' = j)) := by
  refine CM.intro [some (.ref (E.1 31)), some (vI q), some (vI t)] (by decide) (Nat.le_of_ble_eq_true rfl) rfl (fun d hd h0 h hH hA => ?_)
  have hfE : eqx [354] f f := eqx.rf
  have hgE : eqx [352, 353, 355, 356, 384] g g := eqx.rf
  have h79 := hK.2.2.2.2.2.2.2.2.2.2.1
  have hn := hK.1
  have h77 := hK.2.2.2.2.1
  refine z_ild_1 (TX7_stands.at 0 rfl) ?_
  refine zs_call1 (c_areKnots (by omega)) (TX7_stands.at 1 rfl) c7_308 rfl (by omega) (Nat.le_of_ble_eq_true rfl) (fun r1 => ?_)
  refine z_if_eqB (tgt := 22) (TX7_stands.at 2 rfl) rfl (fun c1 => ?_) (fun c1 => ?_)
  · skip
    refine z_iconst (TX7_stands.at 10 rfl) ?_
    refine zc_iret (TX7_stands.at 11 rfl) rfl hH hA (by omega) ?_
    exact ⟨by unfold standV; rw [if_neg (by omega)], hfE, hgE, rfl⟩
  · skip
    refine z_ild_2 (TX7_stands.at 3 rfl) ?_
    refine z_if_lt (tgt := 22) (TX7_stands.at 4 rfl) rfl (by omega) (fun c2 => ?_) (fun c2 => ?_)
    · skip
      refine z_iconst (TX7_stands.at 10 rfl) ?_
      refine zc_iret (TX7_stands.at 11 rfl) rfl hH hA (by omega) ?_
      exact ⟨by unfold standV; rw [if_neg (by omega)], hfE, hgE, rfl⟩
    · skip
      refine z_ild_2 (TX7_stands.at 5 rfl) ?_
      refine z_ald_0 (TX7_stands.at 6 rfl) ?_
      refine zc_getO (m := 0) (s := 0) (k := 63) (hH.lv (by decide)) (TX7_stands.at 7 rfl) fl7_12 hH rfl rfl (by decide) (by decide) ?_
      refine zc_getIE (m := 1) (s := 7) (k := 39) (hH.lv (by decide)) ef39 (TX7_stands.at 8 rfl) fl7_169 hH rfl rfl (by decide) (by decide) (fun r16 => ?_)
      refine z_icmp_lt (tgt := 24) (TX7_stands.at 9 rfl) rfl (by omega) (by omega) (fun c3 => ?_) (fun c3 => ?_)
      · skip
        refine z_ald_0 (TX7_stands.at 12 rfl) ?_
        refine z_ild_1 (TX7_stands.at 13 rfl) ?_
        refine zc_callV1 (m := 0) (c_burnP eg33 eg34 eg35 eg36 eg44 eg46 ef32 ef37 ef354 ef45 ef47 hL hK hP hS t0 t2 ⟨by omega, by omega⟩) (hH.lv (by decide)) (TX7_stands.at 14 rfl) c7_311 rfl rfl hH hA (by omega) (Nat.le_of_ble_eq_true rfl) (fun f26 g26 j26 h q26 hH hA => ?_)
        obtain ⟨q26, xf, xg, xj⟩ := q26
        rw [xj] at hH
        have ef32 := (xf 32 (by decide)).trans ef32
        have ef37 := (xf 37 (by decide)).trans ef37
        have ef45 := (xf 45 (by decide)).trans ef45
        have ef47 := (xf 47 (by decide)).trans ef47
        have ef39 := (xf 39 (by decide)).trans ef39
        have hfE := hfE.trans xf (by decide)
        have eg33 := (xg 33 (by decide)).trans eg33
        have eg34 := (xg 34 (by decide)).trans eg34
        have eg35 := (xg 35 (by decide)).trans eg35
        have eg36 := (xg 36 (by decide)).trans eg36
        have eg44 := (xg 44 (by decide)).trans eg44
        have eg46 := (xg 46 (by decide)).trans eg46
        have eg40 := (xg 40 (by decide)).trans eg40
        have hgE := hgE.trans xg (by decide)
        have qL := q26
        obtain ⟨hI, hct⟩ := qL
        refine z_ald_0 (TX7_stands.at 15 rfl) ?_
        refine zc_getO (m := 0) (s := 9) (k := 383) (hH.lv (by decide)) (TX7_stands.at 16 rfl) fl7_60 hH rfl rfl (by decide) (by decide) ?_
        refine z_ald_0 (TX7_stands.at 17 rfl) ?_
        refine zc_getO (m := 0) (s := 0) (k := 63) (hH.lv (by decide)) (TX7_stands.at 18 rfl) fl7_12 hH rfl rfl (by decide) (by decide) ?_
        refine z_ald_0 (TX7_stands.at 19 rfl) ?_
        refine zc_getO (m := 0) (s := 0) (k := 63) (hH.lv (by decide)) (TX7_stands.at 20 rfl) fl7_12 hH rfl rfl (by decide) (by decide) ?_
        refine zc_getA (m := 1) (s := 8) (k := 40) (hH.lv (by decide)) (TX7_stands.at 21 rfl) fl7_172 hH rfl rfl (by decide) (by decide) ?_
        refine z_ild_2 (TX7_stands.at 22 rfl) ?_
        refine zcf_iald (k := 40) (N := 3) (hH.lv (by decide)) (by decide) rfl eg40 (TX7_stands.at 23 rfl) hH (by decide) (by omega) (show _ < ((3 : Nat) : Int) by omega) (fun r45 => ?_)
        have hlt := hLt t (by omega) (by omega)
        have hl2 := hK.2.2.2.2.2.1 t (by omega) (by omega)
        have hz1 : z31 (Lt t) := ⟨by omega, by omega⟩
        refine zc_callI2 (m := 11) (c_lastOut1 eg33 eg34 rfl rfl rfl ef32 rfl hz1.zin hI hz1) (hH.lv (by decide)) (TX7_stands.at 24 rfl) c7_318 rfl rfl hH hA (by omega) (Nat.le_of_ble_eq_true rfl) (fun x46 f46 g46 j46 h r46 q46 hH hA => ?_)
        obtain ⟨q46, xf, xg, xj⟩ := q46
        rw [xj] at hH
        have ef32 := (xf 32 (by decide)).trans ef32
        have ef37 := (xf 37 (by decide)).trans ef37
        have ef45 := (xf 45 (by decide)).trans ef45
        have ef47 := (xf 47 (by decide)).trans ef47
        have ef39 := (xf 39 (by decide)).trans ef39
        have hfE := hfE.trans xf (by decide)
        have eg33 := (xg 33 (by decide)).trans eg33
        have eg34 := (xg 34 (by decide)).trans eg34
        have eg35 := (xg 35 (by decide)).trans eg35
        have eg36 := (xg 36 (by decide)).trans eg36
        have eg44 := (xg 44 (by decide)).trans eg44
        have eg46 := (xg 46 (by decide)).trans eg46
        have eg40 := (xg 40 (by decide)).trans eg40
        have hgE := hgE.trans xg (by decide)
        have qL := q46
        rw [fire_la hK hct] at qL
        subst qL
        refine zc_iret (TX7_stands.at 25 rfl) rfl hH hA (by omega) ?_
        exact ⟨by unfold standV; rw [if_pos (by omega), hlt], hfE, hgE, rfl⟩
      · skip
        refine z_iconst (TX7_stands.at 10 rfl) ?_
        refine zc_iret (TX7_stands.at 11 rfl) rfl hH hA (by omega) ?_
        exact ⟨by unfold standV; rw [if_neg (by omega)], hfE, hgE, rfl⟩

theorem srch_n {p : Int → Bool} {v : Int → Int} {a b : Int} {n : Nat} (e : (a, b) = srch p v n) : (b = -1 ↔ a = 1000000) ∧ (b = -1 ∨ a < 1000000) := by
  have key : ((srch p v n).2 = -1 ∧ (srch p v n).1 = 1000000) ∨ (0 ≤ (srch p v n).2 ∧ (srch p v n).1 < 1000000) := by
    clear e
    induction n with
    | zero => exact Or.inl ⟨rfl, rfl⟩
    | succ n ih =>
      simp only [srch]
      split
      · rename_i hh
        refine Or.inr ⟨by simp only; omega, ?_⟩
        have := hh.2
        simp only
        omega
      · exact ih
  rw [← e] at key
  simp only at key
  omega
set_option maxHeartbeats 4000000 in
set_option maxRecDepth 100000 in
theorem lp_cbest {l : Launch} {E : cE} {d : Nat} {Pz : Option Value → zH → Prop} {h0 : zH} {f0 : mF} {g0 : mA} {j : mA} (hd : 4 ≤ d) {Fr To BX HX K : Int → Int} {S2 : Int} {cl : List Cla} (hK : KOK K) (hT : FiT Fr To BX HX (frK K) (toK K) (brn K cl) (hld K cl) (K 76) S2) (hct : ∀ x : Int, 0 ≤ x → x < K 76 → (bt S2 x ↔ ctc K cl x)) {m w : Int} (hm : 1 ≤ m ∧ m ≤ 3) (kx : ∀ (a b : Int) (o6 : Option Value) (f : mF) (g : mA) (h : zH), (a, b) = srch (fun q => decide (cnt q 10 = m)) (fun q => laP K cl q 1023) 256 → eqx [] f0 f → eqx [355] g0 g → HC E f g j h → cAg E h0 h → Z l MX7_best d 0 0 Pz 116 [some (.ref (E.1 31)), some (vI m), some (vI w), some (vI (orN a)), some (vI b), some (vI 256), o6] [] h 0 0)  : ∀ (n : Nat) (q : Int) (a : Int) (b : Int) (o6 : Option Value) (X : Int → Int) (f : mF) (g : mA) (h : zH) (q0 : 1 ≤ q) (q1 : q ≤ 256) (q2 : 256 < q + n) (es : (a, b) = srch (fun q => decide (cnt q 10 = m)) (fun q => laP K cl q 1023) q.toNat) (eg33 : g 33 = Fr) (eg34 : g 34 = To) (eg352 : g 352 = BX) (eg353 : g 353 = HX) (eg355 : g 355 = X) (ef32 : f 32 = (K 76)) (ef354 : f 354 = S2) (hfE : eqx [] f0 f) (hgE : eqx [355] g0 g) (hH : HC E f g j h) (hA : cAg E h0 h), Z l MX7_best d 0 0 Pz 45 [some (.ref (E.1 31)), some (vI m), some (vI w), some (vI (orN a)), some (vI b), some (vI q), o6] [] h 0 0 := by
  intro n
  induction n with
  | zero => intro q a b o6 X f g h q0 q1 q2 es eg33 eg34 eg352 eg353 eg355 ef32 ef354 hfE hgE hH hA; exfalso; omega
  | succ n ih =>
    intro q a b o6 X f g h q0 q1 q2 es eg33 eg34 eg352 eg353 eg355 ef32 ef354 hfE hgE hH hA
    have hn := hK.1
    have hsi := srch_in (p := (fun q => decide (cnt q 10 = m))) (v := (fun q => laP K cl q 1023)) q.toNat (fun t _ _ => (laP_in hK).1)
    rw [← es] at hsi
    simp only at hsi
    have hoa := orN_a hsi.1 hsi.2.1
    refine z_ild_5 (TX7_best_0.at 25 rfl) ?_
    refine z_sipush (by decide) (TX7_best_0.at 26 rfl) ?_
    refine z_icmp_gt (tgt := 116) (TX7_best_0.at 27 rfl) rfl (by omega) (by omega) (fun c1 => ?_) (fun c1 => ?_)
    · skip
      obtain rfl : q = 256 := by omega
      exact kx a b _ _ _ _ es hfE hgE hH hA
    · skip
      refine z_ild_5 (TX7_best_0.at 28 rfl) ?_
      refine zs_call1 (c_bits (by omega) (by omega)) (TX7_best_0.at 29 rfl) c7_264 rfl (by omega) (Nat.le_of_ble_eq_true rfl) (fun r55 => ?_)
      refine z_ild_1 (TX7_best_0.at 30 rfl) ?_
      refine z_icmp_eq (tgt := 65) (TX7_best_0.at 31 rfl) rfl (by omega) (by omega) (fun c2 => ?_) (fun c2 => ?_)
      · skip
        have hz1 : z31 q := ⟨by omega, by omega⟩
        have hz2 : z31 1023 := by decide
        refine z_ald_0 (TX7_best_0.at 33 rfl) ?_
        refine zc_getO (m := 0) (s := 9) (k := 383) (hH.lv (by decide)) (TX7_best_0.at 34 rfl) fl7_60 hH rfl rfl (by decide) (by decide) ?_
        refine z_ald_0 (TX7_best_0.at 35 rfl) ?_
        refine zc_getO (m := 0) (s := 0) (k := 63) (hH.lv (by decide)) (TX7_best_0.at 36 rfl) fl7_12 hH rfl rfl (by decide) (by decide) ?_
        refine z_ild_5 (TX7_best_0.at 37 rfl) ?_
        refine zc_callV2 (m := 11) (c_sprF1 eg33 eg34 eg352 eg353 rfl ef32 ef354 hz1.zin hz1 hT) (hH.lv (by decide)) (TX7_best_0.at 38 rfl) c7_314 rfl rfl hH hA (by omega) (Nat.le_of_ble_eq_true rfl) (fun f75 g75 j75 h q75 hH hA => ?_)
        obtain ⟨q75, xf, xg, xj⟩ := q75
        rw [xj] at hH
        have ef32 := (xf 32 (by decide)).trans ef32
        have ef354 := (xf 354 (by decide)).trans ef354
        have hfE := hfE.trans xf (by decide)
        have eg33 := (xg 33 (by decide)).trans eg33
        have eg34 := (xg 34 (by decide)).trans eg34
        have eg352 := (xg 352 (by decide)).trans eg352
        have eg353 := (xg 353 (by decide)).trans eg353
        have hgE := hgE.trans xg (by decide)
        have qL := q75
        have hI := qL
        rw [fire_cm hK hct] at hI
        obtain ⟨X75, eg355⟩ : ∃ z, g75 355 = z := ⟨_, rfl⟩
        rw [eg355] at hI
        refine z_ald_0 (TX7_best_0.at 39 rfl) ?_
        refine zc_getO (m := 0) (s := 9) (k := 383) (hH.lv (by decide)) (TX7_best_1.at 0 rfl) fl7_60 hH rfl rfl (by decide) (by decide) ?_
        refine z_ald_0 (TX7_best_1.at 1 rfl) ?_
        refine zc_getO (m := 0) (s := 0) (k := 63) (hH.lv (by decide)) (TX7_best_1.at 2 rfl) fl7_12 hH rfl rfl (by decide) (by decide) ?_
        refine z_sipush (by decide) (TX7_best_1.at 3 rfl) ?_
        refine zc_callI2 (m := 11) (c_lastOut1 eg33 eg34 eg352 eg353 eg355 ef32 ef354 hz2.zin hI hz2) (hH.lv (by decide)) (TX7_best_1.at 4 rfl) c7_318 rfl rfl hH hA (by omega) (Nat.le_of_ble_eq_true rfl) (fun x89 f89 g89 j89 h r89 q89 hH hA => ?_)
        obtain ⟨q89, xf, xg, xj⟩ := q89
        rw [xj] at hH
        have ef32 := (xf 32 (by decide)).trans ef32
        have ef354 := (xf 354 (by decide)).trans ef354
        have hfE := hfE.trans xf (by decide)
        have eg33 := (xg 33 (by decide)).trans eg33
        have eg34 := (xg 34 (by decide)).trans eg34
        have eg352 := (xg 352 (by decide)).trans eg352
        have eg353 := (xg 353 (by decide)).trans eg353
        have eg355 := (xg 355 (by decide)).trans eg355
        have hgE := hgE.trans xg (by decide)
        have qL := q89
        have hv := lastN_b (S := 1023) (K 76).toNat (fun t t0 t1 => out_b hI t0 (by omega))
        rw [fire_la hK hct] at hv qL
        have hov := orN_b hv
        subst qL
        refine z_ist_6 (TX7_best_1.at 5 rfl) (Nat.le_of_ble_eq_true rfl) rfl ?_
        refine z_ild_6 (TX7_best_1.at 6 rfl) ?_
        refine z_ild_3 (TX7_best_1.at 7 rfl) ?_
        refine zs_call2 (c_isSooner (by omega) (by omega)) (TX7_best_1.at 8 rfl) c7_324 rfl (by omega) (Nat.le_of_ble_eq_true rfl) (fun r97 => ?_)
        refine z_if_eqB (tgt := 110) (TX7_best_1.at 9 rfl) rfl (fun c3 => ?_) (fun c3 => ?_)
        · skip
          refine z_iinc_5 (TX7_best_1.at 14 rfl) (Nat.le_of_ble_eq_true rfl) rfl ?_
          refine z_goto (tgt := 45) (TX7_best_1.at 15 rfl) rfl ?_
          exact ih (q + 1) _ _ _ _ _ _ _ (by omega) (by omega) (by omega) (by first | exact srch_t (by omega) es (decide_eq_true (by omega)) (by omega) | exact srch_f (by omega) es (fun z => absurd (of_decide_eq_true z.1) (by omega)) | exact srch_f (by omega) es (fun z => absurd z.2 (by first | omega | (simp only; omega)))) eg33 eg34 eg352 eg353 eg355 ef32 ef354 hfE hgE hH hA
        · skip
          refine z_ild_6 (TX7_best_1.at 10 rfl) ?_
          refine z_ist_3 (TX7_best_1.at 11 rfl) (Nat.le_of_ble_eq_true rfl) rfl ?_
          refine z_ild_5 (TX7_best_1.at 12 rfl) ?_
          refine z_ist_4 (TX7_best_1.at 13 rfl) (Nat.le_of_ble_eq_true rfl) rfl ?_
          refine z_iinc_5 (TX7_best_1.at 14 rfl) (Nat.le_of_ble_eq_true rfl) rfl ?_
          refine z_goto (tgt := 45) (TX7_best_1.at 15 rfl) rfl ?_
          exact ih (q + 1) _ _ _ _ _ _ _ (by omega) (by omega) (by omega) (by first | exact srch_t (by omega) es (decide_eq_true (by omega)) (by omega) | exact srch_f (by omega) es (fun z => absurd (of_decide_eq_true z.1) (by omega)) | exact srch_f (by omega) es (fun z => absurd z.2 (by first | omega | (simp only; omega)))) eg33 eg34 eg352 eg353 eg355 ef32 ef354 hfE hgE hH hA
      · skip
        refine z_goto (tgt := 110) (TX7_best_0.at 32 rfl) rfl ?_
        refine z_iinc_5 (TX7_best_1.at 14 rfl) (Nat.le_of_ble_eq_true rfl) rfl ?_
        refine z_goto (tgt := 45) (TX7_best_1.at 15 rfl) rfl ?_
        exact ih (q + 1) _ _ _ _ _ _ _ (by omega) (by omega) (by omega) (by first | exact srch_t (by omega) es (decide_eq_true (by omega)) (by omega) | exact srch_f (by omega) es (fun z => absurd (of_decide_eq_true z.1) (by omega)) | exact srch_f (by omega) es (fun z => absurd z.2 (by first | omega | (simp only; omega)))) eg33 eg34 eg352 eg353 eg355 ef32 ef354 hfE hgE hH hA

set_option maxHeartbeats 4000000 in
set_option maxRecDepth 100000 in
theorem c_best {l : Launch} {E : cE} {f : mF} {g j : mA} {Fr : Int → Int} {To : Int → Int} {Ln : Int → Int} {Kd : Int → Int} {Tm : Int → Int} {Lw : Int → Int} {dp : Int} {S : Int} {m w : Int} {K : Int → Int} {cl : List Cla} (eg33 : g 33 = Fr) (eg34 : g 34 = To) (eg35 : g 35 = Ln) (eg36 : g 36 = Kd) (eg44 : g 44 = Tm) (eg46 : g 46 = Lw) (ef32 : f 32 = (K 76)) (ef37 : f 37 = dp) (ef354 : f 354 = S) (ef45 : f 45 = (K 79)) (ef47 : f 47 = (K 80)) (hm : zIn m) (hw : zIn w) (hL : LwN E f g (if 0 ≤ K 80 ∧ K 80 < K 79 then Lw (K 80) else -1) cl) (hK : KOK K) (hP : FrA Fr To Ln Kd dp K) (hS : z31 S) (t0 : Tm 0 = K 28) (t2 : Tm 2 = K 75) : CM l E MX7_best 7 [.ref (E.1 31), vI m, vI w] f g j (PI (fun r f' g' j' => (r = bestV K cl m w) ∧ eqx [354] f f' ∧ eqx [352, 353, 355, 356, 384] g g' ∧ j' = j)) := by
  refine CM.intro [some (.ref (E.1 31)), some (vI m), some (vI w), none, none, none, none] (by decide) (Nat.le_of_ble_eq_true rfl) rfl (fun d hd h0 h hH hA => ?_)
  have hfE : eqx [354] f f := eqx.rf
  have hgE : eqx [352, 353, 355, 356, 384] g g := eqx.rf
  have h79 := hK.2.2.2.2.2.2.2.2.2.2.1
  have hn := hK.1
  refine z_ild_1 (TX7_best_0.at 0 rfl) ?_
  refine z_iconst (TX7_best_0.at 1 rfl) ?_
  refine z_icmp_lt (tgt := 17) (TX7_best_0.at 2 rfl) rfl (by omega) (by omega) (fun c1 => ?_) (fun c1 => ?_)
  · skip
    refine z_iconst (TX7_best_0.at 9 rfl) ?_
    refine zc_iret (TX7_best_0.at 10 rfl) rfl hH hA (by omega) ?_
    exact ⟨by unfold bestV; rw [if_neg (by omega)], hfE, hgE, rfl⟩
  · skip
    refine z_ild_1 (TX7_best_0.at 3 rfl) ?_
    refine z_iconst (TX7_best_0.at 4 rfl) ?_
    refine z_icmp_gt (tgt := 17) (TX7_best_0.at 5 rfl) rfl (by omega) (by omega) (fun c2 => ?_) (fun c2 => ?_)
    · skip
      refine z_iconst (TX7_best_0.at 9 rfl) ?_
      refine zc_iret (TX7_best_0.at 10 rfl) rfl hH hA (by omega) ?_
      exact ⟨by unfold bestV; rw [if_neg (by omega)], hfE, hgE, rfl⟩
    · skip
      refine z_ild_2 (TX7_best_0.at 6 rfl) ?_
      refine zs_call1 (c_isPair (by omega)) (TX7_best_0.at 7 rfl) c7_321 rfl (by omega) (Nat.le_of_ble_eq_true rfl) (fun r11 => ?_)
      refine z_if_neB (tgt := 19) (TX7_best_0.at 8 rfl) rfl (fun c3 => ?_) (fun c3 => ?_)
      · skip
        refine z_ald_0 (TX7_best_0.at 11 rfl) ?_
        refine zc_getO (m := 0) (s := 9) (k := 383) (hH.lv (by decide)) (TX7_best_0.at 12 rfl) fl7_60 hH rfl rfl (by decide) (by decide) ?_
        refine z_ald_0 (TX7_best_0.at 13 rfl) ?_
        refine zc_getO (m := 0) (s := 0) (k := 63) (hH.lv (by decide)) (TX7_best_0.at 14 rfl) fl7_12 hH rfl rfl (by decide) (by decide) ?_
        refine z_ald_0 (TX7_best_0.at 15 rfl) ?_
        refine zc_getO (m := 0) (s := 0) (k := 63) (hH.lv (by decide)) (TX7_best_0.at 16 rfl) fl7_12 hH rfl rfl (by decide) (by decide) ?_
        refine zc_callO (m := 1) (As := []) (c_lawIn1 eg46 ef45 ef47 h79.1 h79.2) (hH.lv (by decide)) (TX7_best_0.at 17 rfl) c7_135 rfl rfl hH hA (by omega) (Nat.le_of_ble_eq_true rfl) (fun y31 f31 g31 j31 h q31 hH hA => ?_)
        obtain ⟨q31, xf, xg, xj⟩ := q31
        rw [xj] at hH
        have ef32 := (xf 32 (by decide)).trans ef32
        have ef37 := (xf 37 (by decide)).trans ef37
        have ef354 := (xf 354 (by decide)).trans ef354
        have ef45 := (xf 45 (by decide)).trans ef45
        have ef47 := (xf 47 (by decide)).trans ef47
        have hfE := hfE.trans xf (by decide)
        have eg33 := (xg 33 (by decide)).trans eg33
        have eg34 := (xg 34 (by decide)).trans eg34
        have eg35 := (xg 35 (by decide)).trans eg35
        have eg36 := (xg 36 (by decide)).trans eg36
        have eg44 := (xg 44 (by decide)).trans eg44
        have eg46 := (xg 46 (by decide)).trans eg46
        have hgE := hgE.trans xg (by decide)
        have qL := q31
        have hL := LwN_cg hL xf xg
        rw [← qL] at hL
        refine zc_callV2 (m := 11) (c_measY1 eg33 eg34 eg35 eg36 eg44 ef32 ef37 ef354 hL hK hP hS t0 t2) (hH.lv (by decide)) (TX7_best_0.at 18 rfl) c7_139 rfl rfl hH hA (by omega) (Nat.le_of_ble_eq_true rfl) (fun f34 g34 j34 h q34 hH hA => ?_)
        obtain ⟨q34, xf, xg, xj⟩ := q34
        rw [xj] at hH
        have ef32 := (xf 32 (by decide)).trans ef32
        have ef37 := (xf 37 (by decide)).trans ef37
        have ef45 := (xf 45 (by decide)).trans ef45
        have ef47 := (xf 47 (by decide)).trans ef47
        have hfE := hfE.trans xf (by decide)
        have eg33 := (xg 33 (by decide)).trans eg33
        have eg34 := (xg 34 (by decide)).trans eg34
        have eg35 := (xg 35 (by decide)).trans eg35
        have eg36 := (xg 36 (by decide)).trans eg36
        have eg44 := (xg 44 (by decide)).trans eg44
        have eg46 := (xg 46 (by decide)).trans eg46
        have hgE := hgE.trans xg (by decide)
        have qL := q34
        obtain ⟨hT, hct⟩ := qL
        obtain ⟨BX, eg352⟩ : ∃ z, g34 352 = z := ⟨_, rfl⟩
        obtain ⟨HX, eg353⟩ : ∃ z, g34 353 = z := ⟨_, rfl⟩
        obtain ⟨S2, ef354⟩ : ∃ z, f34 354 = z := ⟨_, rfl⟩
        rw [eg352, eg353, ef354] at hT
        rw [ef354] at hct
        refine z_iconst (TX7_best_0.at 19 rfl) ?_
        refine z_ist_3 (TX7_best_0.at 20 rfl) (Nat.le_of_ble_eq_true rfl) rfl ?_
        refine z_iconst (TX7_best_0.at 21 rfl) ?_
        refine z_ist_4 (TX7_best_0.at 22 rfl) (Nat.le_of_ble_eq_true rfl) rfl ?_
        refine z_iconst (TX7_best_0.at 23 rfl) ?_
        refine z_ist_5 (TX7_best_0.at 24 rfl) (Nat.le_of_ble_eq_true rfl) rfl ?_
        refine lp_cbest (by omega) hK hT hct (m := m) (w := w) (by omega) (fun a b o6 f45 g45 h es xf xg hH hA => ?_) 256 1 1000000 (-1) none _ _ _ _ (by omega) (by omega) (by omega) (by show _ = srch _ _ 1; rw [srch, if_neg (fun z => absurd (of_decide_eq_true z.1) (by show ¬ cnt ((0 : Nat) : Int) 10 = m; rw [show cnt ((0 : Nat) : Int) 10 = 0 by decide]; omega))]; rfl) eg33 eg34 eg352 eg353 rfl  ef32 ef354  eqx.rf eqx.rf hH hA
        have ef32 := (xf 32 (by decide)).trans ef32
        have ef37 := (xf 37 (by decide)).trans ef37
        have ef354 := (xf 354 (by decide)).trans ef354
        have ef45 := (xf 45 (by decide)).trans ef45
        have ef47 := (xf 47 (by decide)).trans ef47
        have hfE := hfE.trans xf (by decide)
        have eg33 := (xg 33 (by decide)).trans eg33
        have eg34 := (xg 34 (by decide)).trans eg34
        have eg35 := (xg 35 (by decide)).trans eg35
        have eg36 := (xg 36 (by decide)).trans eg36
        have eg44 := (xg 44 (by decide)).trans eg44
        have eg46 := (xg 46 (by decide)).trans eg46
        have eg352 := (xg 352 (by decide)).trans eg352
        have eg353 := (xg 353 (by decide)).trans eg353
        have hgE := hgE.trans xg (by decide)
        have hsi := srch_in (p := (fun q => decide (cnt q 10 = m))) (v := (fun q => laP K cl q 1023)) 256 (fun t _ _ => (laP_in hK).1)
        rw [← es] at hsi
        simp only at hsi
        have hoa := orN_a hsi.1 hsi.2.1
        have hb1 := srch_n es
        refine z_ild_2 (TX7_best_1.at 16 rfl) ?_
        refine z_if_ne (tgt := 124) (TX7_best_1.at 17 rfl) rfl (by omega) (fun c4 => ?_) (fun c4 => ?_)
        · skip
          refine z_ild_4 (TX7_best_1.at 20 rfl) ?_
          refine zc_iret (TX7_best_1.at 21 rfl) rfl hH hA (by omega) ?_
          exact ⟨by unfold bestV srchR bestS; rw [if_pos (by omega), ← es]; simp only; split <;> omega, hfE, hgE, rfl⟩
        · skip
          refine z_ild_3 (TX7_best_1.at 18 rfl) ?_
          refine z_goto (tgt := 126) (TX7_best_1.at 19 rfl) rfl ?_
          refine zc_iret (TX7_best_1.at 21 rfl) rfl hH hA (by omega) ?_
          exact ⟨by unfold bestV srchR bestS; rw [if_pos (by omega), ← es]; simp only; split <;> omega, hfE, hgE, rfl⟩
      · skip
        refine z_iconst (TX7_best_0.at 9 rfl) ?_
        refine zc_iret (TX7_best_0.at 10 rfl) rfl hH hA (by omega) ?_
        exact ⟨by unfold bestV; rw [if_neg (by omega)], hfE, hgE, rfl⟩

set_option maxHeartbeats 4000000 in
set_option maxRecDepth 100000 in
theorem lp_clbe {l : Launch} {E : cE} {d : Nat} {Pz : Option Value → zH → Prop} {h0 : zH} {f0 : mF} {g0 : mA} {j : mA} (hd : 3 ≤ d) {Fr To BX HX K : Int → Int} {S2 : Int} {cl : List Cla} (hK : KOK K) (hT : FiT Fr To BX HX (frK K) (toK K) (brn K cl) (hld K cl) (K 76) S2) (hct : ∀ x : Int, 0 ≤ x → x < K 76 → (bt S2 x ↔ ctc K cl x)) {Lt : Int → Int} {q : Int} (hLt : ∀ i : Int, 0 ≤ i → i < K 77 → Lt i = K (59 + i)) (ePz : Pz = CP E h0 (PI (fun r f' g' j' => r = orN (unevF (letP K cl q) (K 77).toNat) ∧ eqx [] f0 f' ∧ eqx [] g0 g' ∧ j' = j))) (kx : ∀ (la ea : Int) (o4 : Option Value) (f : mF) (g : mA) (h : zH), ((K 77 = 0 ∧ la = -1 ∧ ea = -1) ∨ (0 < K 77 ∧ la = mosN (letP K cl q) (K 77).toNat ∧ ea = leaN (letP K cl q) (K 77).toNat ∧ 0 ≤ ea ∧ ea ≤ la ∧ la ≤ 4000)) → eqx [] f0 f → eqx [] g0 g → HC E f g j h → cAg E h0 h → Z l MX7_latestBehindEarliest d 0 0 Pz 77 [some (.ref (E.1 31)), some (vI la), some (vI ea), some (vI (K 77)), o4] [] h 0 0)  : ∀ (n : Nat) (i : Int) (la : Int) (ea : Int) (o4 : Option Value) (X : Int → Int) (f : mF) (g : mA) (h : zH) (i0 : 0 ≤ i) (i1 : i ≤ K 77) (i2 : K 77 < i + n) (hS : (i = 0 ∧ la = -1 ∧ ea = -1) ∨ (0 < i ∧ la = mosN (letP K cl q) i.toNat ∧ ea = leaN (letP K cl q) i.toNat ∧ 0 ≤ ea ∧ ea ≤ la ∧ la ≤ 4000)) (hI : FiH Fr To BX HX (frK K) (toK K) (brn K cl) (hld K cl) (K 76) S2 X (cmP K cl q)) (eg33 : g 33 = Fr) (eg34 : g 34 = To) (eg352 : g 352 = BX) (eg353 : g 353 = HX) (eg355 : g 355 = X) (eg40 : g 40 = Lt) (ef32 : f 32 = (K 76)) (ef354 : f 354 = S2) (ef39 : f 39 = (K 77)) (hfE : eqx [] f0 f) (hgE : eqx [] g0 g) (hH : HC E f g j h) (hA : cAg E h0 h), Z l MX7_latestBehindEarliest d 0 0 Pz 6 [some (.ref (E.1 31)), some (vI la), some (vI ea), some (vI i), o4] [] h 0 0 := by
  intro n
  induction n with
  | zero => intro i la ea o4 X f g h i0 i1 i2 hS hI eg33 eg34 eg352 eg353 eg355 eg40 ef32 ef354 ef39 hfE hgE hH hA; exfalso; omega
  | succ n ih =>
    intro i la ea o4 X f g h i0 i1 i2 hS hI eg33 eg34 eg352 eg353 eg355 eg40 ef32 ef354 ef39 hfE hgE hH hA
    have hn := hK.1
    subst ePz
    have hm0 : i = 0 → mosN (letP K cl q) i.toNat = 0 ∧ leaN (letP K cl q) i.toNat = 1000000 := by intro e; subst e; exact ⟨rfl, rfl⟩
    have h77 := hK.2.2.2.2.1
    refine z_ild_3 (TX7_latestBehindEarliest.at 6 rfl) ?_
    refine z_ald_0 (TX7_latestBehindEarliest.at 7 rfl) ?_
    refine zc_getO (m := 0) (s := 0) (k := 63) (hH.lv (by decide)) (TX7_latestBehindEarliest.at 8 rfl) fl7_12 hH rfl rfl (by decide) (by decide) ?_
    refine zc_getIE (m := 1) (s := 7) (k := 39) (hH.lv (by decide)) ef39 (TX7_latestBehindEarliest.at 9 rfl) fl7_169 hH rfl rfl (by decide) (by decide) (fun r11 => ?_)
    refine z_icmp_ge (tgt := 77) (TX7_latestBehindEarliest.at 10 rfl) rfl (by omega) (by omega) (fun c1 => ?_) (fun c1 => ?_)
    · skip
      obtain rfl : i = K 77 := by omega
      exact kx la ea _ _ _ _ hS hfE hgE hH hA
    · skip
      refine z_ald_0 (TX7_latestBehindEarliest.at 11 rfl) ?_
      refine zc_getO (m := 0) (s := 9) (k := 383) (hH.lv (by decide)) (TX7_latestBehindEarliest.at 12 rfl) fl7_60 hH rfl rfl (by decide) (by decide) ?_
      refine z_ald_0 (TX7_latestBehindEarliest.at 13 rfl) ?_
      refine zc_getO (m := 0) (s := 0) (k := 63) (hH.lv (by decide)) (TX7_latestBehindEarliest.at 14 rfl) fl7_12 hH rfl rfl (by decide) (by decide) ?_
      refine z_ald_0 (TX7_latestBehindEarliest.at 15 rfl) ?_
      refine zc_getO (m := 0) (s := 0) (k := 63) (hH.lv (by decide)) (TX7_latestBehindEarliest.at 16 rfl) fl7_12 hH rfl rfl (by decide) (by decide) ?_
      refine zc_getA (m := 1) (s := 8) (k := 40) (hH.lv (by decide)) (TX7_latestBehindEarliest.at 17 rfl) fl7_172 hH rfl rfl (by decide) (by decide) ?_
      refine z_ild_3 (TX7_latestBehindEarliest.at 18 rfl) ?_
      refine zcf_iald (k := 40) (N := 3) (hH.lv (by decide)) (by decide) rfl eg40 (TX7_latestBehindEarliest.at 19 rfl) hH (by decide) (by omega) (show _ < ((3 : Nat) : Int) by omega) (fun r33 => ?_)
      have hlt := hLt i (by omega) (by omega)
      have hl2 := hK.2.2.2.2.2.1 i (by omega) (by omega)
      have hz1 : z31 (Lt i) := ⟨by omega, by omega⟩
      refine zc_callI2 (m := 11) (c_lastOut1 eg33 eg34 eg352 eg353 eg355 ef32 ef354 hz1.zin hI hz1) (hH.lv (by decide)) (TX7_latestBehindEarliest.at 20 rfl) c7_318 rfl rfl hH hA (by omega) (Nat.le_of_ble_eq_true rfl) (fun x34 f34 g34 j34 h r34 q34 hH hA => ?_)
      obtain ⟨q34, xf, xg, xj⟩ := q34
      rw [xj] at hH
      have ef32 := (xf 32 (by decide)).trans ef32
      have ef354 := (xf 354 (by decide)).trans ef354
      have ef39 := (xf 39 (by decide)).trans ef39
      have hfE := hfE.trans xf (by decide)
      have eg33 := (xg 33 (by decide)).trans eg33
      have eg34 := (xg 34 (by decide)).trans eg34
      have eg352 := (xg 352 (by decide)).trans eg352
      have eg353 := (xg 353 (by decide)).trans eg353
      have eg355 := (xg 355 (by decide)).trans eg355
      have eg40 := (xg 40 (by decide)).trans eg40
      have hgE := hgE.trans xg (by decide)
      have qL := q34
      have hv := lastN_b (S := (Lt i)) (K 76).toNat (fun t t0 t1 => out_b hI t0 (by omega))
      rw [fire_la hK hct] at hv qL
      have hov := orN_b hv
      subst qL
      refine z_ist_4 (TX7_latestBehindEarliest.at 21 rfl) (Nat.le_of_ble_eq_true rfl) rfl ?_
      refine z_ild_4 (TX7_latestBehindEarliest.at 22 rfl) ?_
      refine z_iconst (TX7_latestBehindEarliest.at 23 rfl) ?_
      refine z_icmp_ne (tgt := 47) (TX7_latestBehindEarliest.at 24 rfl) rfl (by omega) (by omega) (fun c2 => ?_) (fun c2 => ?_)
      · skip
        refine z_ild_1 (TX7_latestBehindEarliest.at 27 rfl) ?_
        refine z_ild_4 (TX7_latestBehindEarliest.at 28 rfl) ?_
        refine z_max (TX7_latestBehindEarliest.at 29 rfl) cm7_331 (by omega) (by omega) (by omega) (Nat.le_of_ble_eq_true rfl) ?_
        refine z_ist_1 (TX7_latestBehindEarliest.at 30 rfl) (Nat.le_of_ble_eq_true rfl) rfl ?_
        refine z_ild_2 (TX7_latestBehindEarliest.at 31 rfl) ?_
        refine z_iconst (TX7_latestBehindEarliest.at 32 rfl) ?_
        refine z_icmp_ne (tgt := 64) (TX7_latestBehindEarliest.at 33 rfl) rfl (by omega) (by omega) (fun c3 => ?_) (fun c3 => ?_)
        · skip
          refine z_ild_2 (TX7_latestBehindEarliest.at 36 rfl) ?_
          refine z_ild_4 (TX7_latestBehindEarliest.at 37 rfl) ?_
          refine z_min (TX7_latestBehindEarliest.at 38 rfl) cm7_336 (by omega) (by omega) (by omega) (Nat.le_of_ble_eq_true rfl) ?_
          refine z_ist_2 (TX7_latestBehindEarliest.at 39 rfl) (Nat.le_of_ble_eq_true rfl) rfl ?_
          refine z_iinc_3 (TX7_latestBehindEarliest.at 40 rfl) (Nat.le_of_ble_eq_true rfl) rfl ?_
          refine z_goto (tgt := 6) (TX7_latestBehindEarliest.at 41 rfl) rfl ?_
          exact ih (i + 1) _ _ _ _ _ _ _ (by omega) (by omega) (by omega) (by rw [mosN_s i0, leaN_s i0, show letP K cl q i = laP K cl q (Lt i) by rw [hlt]; rfl]; omega) hI eg33 eg34 eg352 eg353 eg355 eg40 ef32 ef354 ef39 hfE hgE hH hA
        · skip
          refine z_ild_4 (TX7_latestBehindEarliest.at 34 rfl) ?_
          refine z_goto (tgt := 70) (TX7_latestBehindEarliest.at 35 rfl) rfl ?_
          refine z_ist_2 (TX7_latestBehindEarliest.at 39 rfl) (Nat.le_of_ble_eq_true rfl) rfl ?_
          refine z_iinc_3 (TX7_latestBehindEarliest.at 40 rfl) (Nat.le_of_ble_eq_true rfl) rfl ?_
          refine z_goto (tgt := 6) (TX7_latestBehindEarliest.at 41 rfl) rfl ?_
          exact ih (i + 1) _ _ _ _ _ _ _ (by omega) (by omega) (by omega) (by rw [mosN_s i0, leaN_s i0, show letP K cl q i = laP K cl q (Lt i) by rw [hlt]; rfl]; omega) hI eg33 eg34 eg352 eg353 eg355 eg40 ef32 ef354 ef39 hfE hgE hH hA
      · skip
        refine z_iconst (TX7_latestBehindEarliest.at 25 rfl) ?_
        refine zc_iret (TX7_latestBehindEarliest.at 26 rfl) rfl hH hA (by omega) ?_
        exact ⟨by have ht : mosN (letP K cl q) (K 77).toNat = 1000000 := mosN_top (i := i) (fun t t0 t1 => by have hc := lastN_b (v := outC (frK K) (toK K) (brn K cl) (hld K cl) S2 (cmP K cl q)) (S := K (59 + t)) (K 76).toNat (fun t t0 t1 => out_b hI t0 (by omega)); rw [fire_la hK hct] at hc; show laP K cl q (K (59 + t)) ≤ 1000000; omega) i0 (by omega) (by show laP K cl q (K (59 + i)) = 1000000; rw [← hlt]; omega)
                  unfold unevF; rw [if_pos ht]; rfl, hfE, hgE, rfl⟩

set_option maxHeartbeats 4000000 in
set_option maxRecDepth 100000 in
theorem c_lbe {l : Launch} {E : cE} {f : mF} {g j : mA} {Fr : Int → Int} {To : Int → Int} {BX : Int → Int} {HX : Int → Int} {X : Int → Int} {Lt : Int → Int} {S2 : Int} {K : Int → Int} {cl : List Cla} {q : Int} (eg33 : g 33 = Fr) (eg34 : g 34 = To) (eg352 : g 352 = BX) (eg353 : g 353 = HX) (eg355 : g 355 = X) (eg40 : g 40 = Lt) (ef32 : f 32 = (K 76)) (ef354 : f 354 = S2) (ef39 : f 39 = (K 77)) (hK : KOK K) (hT : FiT Fr To BX HX (frK K) (toK K) (brn K cl) (hld K cl) (K 76) S2) (hct : ∀ x : Int, 0 ≤ x → x < K 76 → (bt S2 x ↔ ctc K cl x)) (hLt : ∀ i : Int, 0 ≤ i → i < K 77 → Lt i = K (59 + i)) (hI : FiH Fr To BX HX (frK K) (toK K) (brn K cl) (hld K cl) (K 76) S2 X (cmP K cl q)) (hne : K 77 ≠ 0) : CM l E MX7_latestBehindEarliest 3 [.ref (E.1 31)] f g j (PI (fun r f' g' j' => (r = orN (unevF (letP K cl q) (K 77).toNat)) ∧ eqx [] f f' ∧ eqx [] g g' ∧ j' = j)) := by
  refine CM.intro [some (.ref (E.1 31)), none, none, none, none] (by decide) (Nat.le_of_ble_eq_true rfl) rfl (fun d hd h0 h hH hA => ?_)
  have hfE : eqx [] f f := eqx.rf
  have hgE : eqx [] g g := eqx.rf
  have h77 := hK.2.2.2.2.1
  refine z_iconst (TX7_latestBehindEarliest.at 0 rfl) ?_
  refine z_ist_1 (TX7_latestBehindEarliest.at 1 rfl) (Nat.le_of_ble_eq_true rfl) rfl ?_
  refine z_iconst (TX7_latestBehindEarliest.at 2 rfl) ?_
  refine z_ist_2 (TX7_latestBehindEarliest.at 3 rfl) (Nat.le_of_ble_eq_true rfl) rfl ?_
  refine z_iconst (TX7_latestBehindEarliest.at 4 rfl) ?_
  refine z_ist_3 (TX7_latestBehindEarliest.at 5 rfl) (Nat.le_of_ble_eq_true rfl) rfl ?_
  refine lp_clbe (by omega) hK hT hct (q := q) hLt rfl (fun la ea o4 f6 g6 h hS xf xg hH hA => ?_) 4 0 (-1) (-1) none _ _ _ _ (by omega) (by omega) (by omega) (by omega) hI eg33 eg34 eg352 eg353 eg355 eg40 ef32 ef354 ef39 eqx.rf eqx.rf hH hA
  have ef32 := (xf 32 (by decide)).trans ef32
  have ef354 := (xf 354 (by decide)).trans ef354
  have ef39 := (xf 39 (by decide)).trans ef39
  have hfE := hfE.trans xf (by decide)
  have eg33 := (xg 33 (by decide)).trans eg33
  have eg34 := (xg 34 (by decide)).trans eg34
  have eg352 := (xg 352 (by decide)).trans eg352
  have eg353 := (xg 353 (by decide)).trans eg353
  have eg355 := (xg 355 (by decide)).trans eg355
  have eg40 := (xg 40 (by decide)).trans eg40
  have hgE := hgE.trans xg (by decide)
  refine z_ild_1 (TX7_latestBehindEarliest.at 42 rfl) ?_
  refine z_ild_2 (TX7_latestBehindEarliest.at 43 rfl) ?_
  refine z_isub (TX7_latestBehindEarliest.at 44 rfl) ?_
  refine zc_iret (TX7_latestBehindEarliest.at 45 rfl) rfl hH hA (by omega) ?_
  exact ⟨by unfold unevF; rcases hS with hS | hS; omega; rw [if_neg (by omega)]; unfold orN; rw [if_neg (by omega)]; omega, hfE, hgE, rfl⟩

theorem unev_b {Fr To BX HX K X : Int → Int} {S2 q : Int} {cl : List Cla} {n : Nat} (hK : KOK K) (hct : ∀ x : Int, 0 ≤ x → x < K 76 → (bt S2 x ↔ ctc K cl x)) (hI : FiH Fr To BX HX (frK K) (toK K) (brn K cl) (hld K cl) (K 76) S2 X (cmP K cl q)) (hne : n ≠ 0) : unevF (letP K cl q) n = 1000000 ∨ (0 ≤ unevF (letP K cl q) n ∧ unevF (letP K cl q) n ≤ 4000) := by
  have h1 := mosN_b (v := letP K cl q) n (fun t t0 t1 => by
    have hc := lastN_b (v := outC (frK K) (toK K) (brn K cl) (hld K cl) S2 (cmP K cl q)) (S := K (59 + t)) (K 76).toNat (fun t t0 t1 => out_b hI t0 (by have := hK.1; omega))
    rw [fire_la hK hct] at hc
    exact hc)
  have h2 := unev_in (cl := cl) (q := q) hK hne
  have h3 := leaN_in (v := letP K cl q) n (fun t _ _ => (laP_in hK).1)
  unfold unevF at h2 ⊢
  split
  · exact Or.inl rfl
  · rename_i hh
    rw [if_neg hh] at h2
    exact Or.inr ⟨h2.1, by omega⟩
set_option maxHeartbeats 4000000 in
set_option maxRecDepth 100000 in
theorem lp_ceven {l : Launch} {E : cE} {d : Nat} {Pz : Option Value → zH → Prop} {h0 : zH} {f0 : mF} {g0 : mA} {j : mA} (hd : 4 ≤ d) {Fr To BX HX K : Int → Int} {S2 : Int} {cl : List Cla} (hK : KOK K) (hT : FiT Fr To BX HX (frK K) (toK K) (brn K cl) (hld K cl) (K 76) S2) (hct : ∀ x : Int, 0 ≤ x → x < K 76 → (bt S2 x ↔ ctc K cl x)) {Lt : Int → Int} {w : Int} (hLt : ∀ i : Int, 0 ≤ i → i < K 77 → Lt i = K (59 + i)) (hne : K 77 ≠ 0) (kx : ∀ (a b : Int) (o5 : Option Value) (f : mF) (g : mA) (h : zH), (a, b) = srch (fun _ => true) (fun k => unevF (letP K cl (zshl 1 k)) (K 77).toNat) 8 → eqx [] f0 f → eqx [355] g0 g → HC E f g j h → cAg E h0 h → Z l MX7_even d 0 0 Pz 93 [some (.ref (E.1 31)), some (vI w), some (vI (orN a)), some (vI b), some (vI 8), o5] [] h 0 0)  : ∀ (n : Nat) (k : Int) (a : Int) (b : Int) (o5 : Option Value) (X : Int → Int) (f : mF) (g : mA) (h : zH) (k0 : 0 ≤ k) (k1 : k ≤ 8) (k2 : 8 < k + n) (es : (a, b) = srch (fun _ => true) (fun k => unevF (letP K cl (zshl 1 k)) (K 77).toNat) k.toNat) (eg33 : g 33 = Fr) (eg34 : g 34 = To) (eg352 : g 352 = BX) (eg353 : g 353 = HX) (eg355 : g 355 = X) (eg40 : g 40 = Lt) (ef32 : f 32 = (K 76)) (ef354 : f 354 = S2) (ef39 : f 39 = (K 77)) (hfE : eqx [] f0 f) (hgE : eqx [355] g0 g) (hH : HC E f g j h) (hA : cAg E h0 h), Z l MX7_even d 0 0 Pz 44 [some (.ref (E.1 31)), some (vI w), some (vI (orN a)), some (vI b), some (vI k), o5] [] h 0 0 := by
  intro n
  induction n with
  | zero => intro k a b o5 X f g h k0 k1 k2 es eg33 eg34 eg352 eg353 eg355 eg40 ef32 ef354 ef39 hfE hgE hH hA; exfalso; omega
  | succ n ih =>
    intro k a b o5 X f g h k0 k1 k2 es eg33 eg34 eg352 eg353 eg355 eg40 ef32 ef354 ef39 hfE hgE hH hA
    have hn := hK.1
    have hln := hK.2.2.2.2.1
    have hsi := srch_in (p := (fun _ => true)) (v := (fun k => unevF (letP K cl (zshl 1 k)) (K 77).toNat)) k.toNat (fun t _ _ => (unev_in hK (by omega)).1)
    rw [← es] at hsi
    simp only at hsi
    have hoa := orN_a hsi.1 hsi.2.1
    refine z_ild_4 (TX7_even.at 23 rfl) ?_
    refine z_bipush (by decide) (TX7_even.at 24 rfl) ?_
    refine z_icmp_ge (tgt := 93) (TX7_even.at 25 rfl) rfl (by omega) (by omega) (fun c1 => ?_) (fun c1 => ?_)
    · skip
      obtain rfl : k = 8 := by omega
      exact kx a b _ _ _ _ es hfE hgE hH hA
    · skip
      refine z_ald_0 (TX7_even.at 26 rfl) ?_
      refine zc_getO (m := 0) (s := 9) (k := 383) (hH.lv (by decide)) (TX7_even.at 27 rfl) fl7_60 hH rfl rfl (by decide) (by decide) ?_
      refine z_ald_0 (TX7_even.at 28 rfl) ?_
      refine zc_getO (m := 0) (s := 0) (k := 63) (hH.lv (by decide)) (TX7_even.at 29 rfl) fl7_12 hH rfl rfl (by decide) (by decide) ?_
      refine z_iconst (TX7_even.at 30 rfl) ?_
      refine z_ild_4 (TX7_even.at 31 rfl) ?_
      refine z_ishl (TX7_even.at 32 rfl) ?_
      have hz1 := shl_31 (i := k) (by omega) (by omega)
      refine zc_callV2 (m := 11) (c_sprF1 eg33 eg34 eg352 eg353 rfl ef32 ef354 hz1.zin hz1 hT) (hH.lv (by decide)) (TX7_even.at 33 rfl) c7_314 rfl rfl hH hA (by omega) (Nat.le_of_ble_eq_true rfl) (fun f63 g63 j63 h q63 hH hA => ?_)
      obtain ⟨q63, xf, xg, xj⟩ := q63
      rw [xj] at hH
      have ef32 := (xf 32 (by decide)).trans ef32
      have ef354 := (xf 354 (by decide)).trans ef354
      have ef39 := (xf 39 (by decide)).trans ef39
      have hfE := hfE.trans xf (by decide)
      have eg33 := (xg 33 (by decide)).trans eg33
      have eg34 := (xg 34 (by decide)).trans eg34
      have eg352 := (xg 352 (by decide)).trans eg352
      have eg353 := (xg 353 (by decide)).trans eg353
      have eg40 := (xg 40 (by decide)).trans eg40
      have hgE := hgE.trans xg (by decide)
      have qL := q63
      have hI := qL
      rw [fire_cm hK hct] at hI
      obtain ⟨X63, eg355⟩ : ∃ z, g63 355 = z := ⟨_, rfl⟩
      rw [eg355] at hI
      refine z_ald_0 (TX7_even.at 34 rfl) ?_
      refine zc_callI0 (m := 0) (c_lbe (cl := cl) (q := zshl 1 k) eg33 eg34 eg352 eg353 eg355 eg40 ef32 ef354 ef39 hK hT hct hLt hI hne) (hH.lv (by decide)) (TX7_even.at 35 rfl) c7_328 rfl rfl hH hA (by omega) (Nat.le_of_ble_eq_true rfl) (fun x67 f67 g67 j67 h r67 q67 hH hA => ?_)
      obtain ⟨q67, xf, xg, xj⟩ := q67
      rw [xj] at hH
      have ef32 := (xf 32 (by decide)).trans ef32
      have ef354 := (xf 354 (by decide)).trans ef354
      have ef39 := (xf 39 (by decide)).trans ef39
      have hfE := hfE.trans xf (by decide)
      have eg33 := (xg 33 (by decide)).trans eg33
      have eg34 := (xg 34 (by decide)).trans eg34
      have eg352 := (xg 352 (by decide)).trans eg352
      have eg353 := (xg 353 (by decide)).trans eg353
      have eg355 := (xg 355 (by decide)).trans eg355
      have eg40 := (xg 40 (by decide)).trans eg40
      have hgE := hgE.trans xg (by decide)
      have qL := q67
      subst qL
      have hla := unev_b (q := zshl 1 k) (cl := cl) (n := (K 77).toNat) hK hct hI (by omega)
      have hov := orN_b hla
      refine z_ist_5 (TX7_even.at 36 rfl) (Nat.le_of_ble_eq_true rfl) rfl ?_
      refine z_ild_5 (TX7_even.at 37 rfl) ?_
      refine z_ild_2 (TX7_even.at 38 rfl) ?_
      refine zs_call2 (c_isSooner (by omega) (by omega)) (TX7_even.at 39 rfl) c7_324 rfl (by omega) (Nat.le_of_ble_eq_true rfl) (fun r75 => ?_)
      refine z_if_eqB (tgt := 87) (TX7_even.at 40 rfl) rfl (fun c2 => ?_) (fun c2 => ?_)
      · skip
        refine z_iinc_4 (TX7_even.at 45 rfl) (Nat.le_of_ble_eq_true rfl) rfl ?_
        refine z_goto (tgt := 44) (TX7_even.at 46 rfl) rfl ?_
        exact ih (k + 1) _ _ _ _ _ _ _ (by omega) (by omega) (by omega) (by first | exact srch_t k0 es rfl (by first | omega | (simp only; omega)) | exact srch_f k0 es (fun z => absurd z.2 (by first | omega | (simp only; omega)))) eg33 eg34 eg352 eg353 eg355 eg40 ef32 ef354 ef39 hfE hgE hH hA
      · skip
        refine z_ild_5 (TX7_even.at 41 rfl) ?_
        refine z_ist_2 (TX7_even.at 42 rfl) (Nat.le_of_ble_eq_true rfl) rfl ?_
        refine z_ild_4 (TX7_even.at 43 rfl) ?_
        refine z_ist_3 (TX7_even.at 44 rfl) (Nat.le_of_ble_eq_true rfl) rfl ?_
        refine z_iinc_4 (TX7_even.at 45 rfl) (Nat.le_of_ble_eq_true rfl) rfl ?_
        refine z_goto (tgt := 44) (TX7_even.at 46 rfl) rfl ?_
        exact ih (k + 1) _ _ _ _ _ _ _ (by omega) (by omega) (by omega) (by first | exact srch_t k0 es rfl (by first | omega | (simp only; omega)) | exact srch_f k0 es (fun z => absurd z.2 (by first | omega | (simp only; omega)))) eg33 eg34 eg352 eg353 eg355 eg40 ef32 ef354 ef39 hfE hgE hH hA

set_option maxHeartbeats 4000000 in
set_option maxRecDepth 100000 in
theorem c_even {l : Launch} {E : cE} {f : mF} {g j : mA} {Fr : Int → Int} {To : Int → Int} {Ln : Int → Int} {Kd : Int → Int} {Tm : Int → Int} {Lw : Int → Int} {Lt : Int → Int} {dp : Int} {S : Int} {w : Int} {K : Int → Int} {cl : List Cla} (eg33 : g 33 = Fr) (eg34 : g 34 = To) (eg35 : g 35 = Ln) (eg36 : g 36 = Kd) (eg44 : g 44 = Tm) (eg46 : g 46 = Lw) (eg40 : g 40 = Lt) (ef32 : f 32 = (K 76)) (ef37 : f 37 = dp) (ef354 : f 354 = S) (ef45 : f 45 = (K 79)) (ef47 : f 47 = (K 80)) (ef39 : f 39 = (K 77)) (hw : zIn w) (hL : LwN E f g (if 0 ≤ K 80 ∧ K 80 < K 79 then Lw (K 80) else -1) cl) (hK : KOK K) (hP : FrA Fr To Ln Kd dp K) (hS : z31 S) (t0 : Tm 0 = K 28) (t2 : Tm 2 = K 75) (hLt : ∀ i : Int, 0 ≤ i → i < K 77 → Lt i = K (59 + i)) : CM l E MX7_even 7 [.ref (E.1 31), vI w] f g j (PI (fun r f' g' j' => (r = evenV K cl w) ∧ eqx [354] f f' ∧ eqx [352, 353, 355, 356, 384] g g' ∧ j' = j)) := by
  refine CM.intro [some (.ref (E.1 31)), some (vI w), none, none, none, none] (by decide) (Nat.le_of_ble_eq_true rfl) rfl (fun d hd h0 h hH hA => ?_)
  have hfE : eqx [354] f f := eqx.rf
  have hgE : eqx [352, 353, 355, 356, 384] g g := eqx.rf
  have h79 := hK.2.2.2.2.2.2.2.2.2.2.1
  have hn := hK.1
  have h77 := hK.2.2.2.2.1
  refine z_ild_1 (TX7_even.at 0 rfl) ?_
  refine zs_call1 (c_isPair (by omega)) (TX7_even.at 1 rfl) c7_321 rfl (by omega) (Nat.le_of_ble_eq_true rfl) (fun r1 => ?_)
  refine z_if_eqB (tgt := 17) (TX7_even.at 2 rfl) rfl (fun c1 => ?_) (fun c1 => ?_)
  · skip
    refine z_iconst (TX7_even.at 7 rfl) ?_
    refine zc_iret (TX7_even.at 8 rfl) rfl hH hA (by omega) ?_
    exact ⟨by unfold evenV; rw [if_neg (by omega)], hfE, hgE, rfl⟩
  · skip
    refine z_ald_0 (TX7_even.at 3 rfl) ?_
    refine zc_getO (m := 0) (s := 0) (k := 63) (hH.lv (by decide)) (TX7_even.at 4 rfl) fl7_12 hH rfl rfl (by decide) (by decide) ?_
    refine zc_getIE (m := 1) (s := 7) (k := 39) (hH.lv (by decide)) ef39 (TX7_even.at 5 rfl) fl7_169 hH rfl rfl (by decide) (by decide) (fun r11 => ?_)
    refine z_if_ne (tgt := 19) (TX7_even.at 6 rfl) rfl (by omega) (fun c2 => ?_) (fun c2 => ?_)
    · skip
      refine z_ald_0 (TX7_even.at 9 rfl) ?_
      refine zc_getO (m := 0) (s := 9) (k := 383) (hH.lv (by decide)) (TX7_even.at 10 rfl) fl7_60 hH rfl rfl (by decide) (by decide) ?_
      refine z_ald_0 (TX7_even.at 11 rfl) ?_
      refine zc_getO (m := 0) (s := 0) (k := 63) (hH.lv (by decide)) (TX7_even.at 12 rfl) fl7_12 hH rfl rfl (by decide) (by decide) ?_
      refine z_ald_0 (TX7_even.at 13 rfl) ?_
      refine zc_getO (m := 0) (s := 0) (k := 63) (hH.lv (by decide)) (TX7_even.at 14 rfl) fl7_12 hH rfl rfl (by decide) (by decide) ?_
      refine zc_callO (m := 1) (As := []) (c_lawIn1 eg46 ef45 ef47 h79.1 h79.2) (hH.lv (by decide)) (TX7_even.at 15 rfl) c7_135 rfl rfl hH hA (by omega) (Nat.le_of_ble_eq_true rfl) (fun y31 f31 g31 j31 h q31 hH hA => ?_)
      obtain ⟨q31, xf, xg, xj⟩ := q31
      rw [xj] at hH
      have ef32 := (xf 32 (by decide)).trans ef32
      have ef37 := (xf 37 (by decide)).trans ef37
      have ef354 := (xf 354 (by decide)).trans ef354
      have ef45 := (xf 45 (by decide)).trans ef45
      have ef47 := (xf 47 (by decide)).trans ef47
      have ef39 := (xf 39 (by decide)).trans ef39
      have hfE := hfE.trans xf (by decide)
      have eg33 := (xg 33 (by decide)).trans eg33
      have eg34 := (xg 34 (by decide)).trans eg34
      have eg35 := (xg 35 (by decide)).trans eg35
      have eg36 := (xg 36 (by decide)).trans eg36
      have eg44 := (xg 44 (by decide)).trans eg44
      have eg46 := (xg 46 (by decide)).trans eg46
      have eg40 := (xg 40 (by decide)).trans eg40
      have hgE := hgE.trans xg (by decide)
      have qL := q31
      have hL := LwN_cg hL xf xg
      rw [← qL] at hL
      refine zc_callV2 (m := 11) (c_measY1 eg33 eg34 eg35 eg36 eg44 ef32 ef37 ef354 hL hK hP hS t0 t2) (hH.lv (by decide)) (TX7_even.at 16 rfl) c7_139 rfl rfl hH hA (by omega) (Nat.le_of_ble_eq_true rfl) (fun f34 g34 j34 h q34 hH hA => ?_)
      obtain ⟨q34, xf, xg, xj⟩ := q34
      rw [xj] at hH
      have ef32 := (xf 32 (by decide)).trans ef32
      have ef37 := (xf 37 (by decide)).trans ef37
      have ef45 := (xf 45 (by decide)).trans ef45
      have ef47 := (xf 47 (by decide)).trans ef47
      have ef39 := (xf 39 (by decide)).trans ef39
      have hfE := hfE.trans xf (by decide)
      have eg33 := (xg 33 (by decide)).trans eg33
      have eg34 := (xg 34 (by decide)).trans eg34
      have eg35 := (xg 35 (by decide)).trans eg35
      have eg36 := (xg 36 (by decide)).trans eg36
      have eg44 := (xg 44 (by decide)).trans eg44
      have eg46 := (xg 46 (by decide)).trans eg46
      have eg40 := (xg 40 (by decide)).trans eg40
      have hgE := hgE.trans xg (by decide)
      have qL := q34
      obtain ⟨hT, hct⟩ := qL
      obtain ⟨BX, eg352⟩ : ∃ z, g34 352 = z := ⟨_, rfl⟩
      obtain ⟨HX, eg353⟩ : ∃ z, g34 353 = z := ⟨_, rfl⟩
      obtain ⟨S2, ef354⟩ : ∃ z, f34 354 = z := ⟨_, rfl⟩
      rw [eg352, eg353, ef354] at hT
      rw [ef354] at hct
      refine z_iconst (TX7_even.at 17 rfl) ?_
      refine z_ist_2 (TX7_even.at 18 rfl) (Nat.le_of_ble_eq_true rfl) rfl ?_
      refine z_iconst (TX7_even.at 19 rfl) ?_
      refine z_ist_3 (TX7_even.at 20 rfl) (Nat.le_of_ble_eq_true rfl) rfl ?_
      refine z_iconst (TX7_even.at 21 rfl) ?_
      refine z_ist_4 (TX7_even.at 22 rfl) (Nat.le_of_ble_eq_true rfl) rfl ?_
      refine lp_ceven (by omega) hK hT hct (w := w) hLt (by omega) (fun a b o5 f44 g44 h es xf xg hH hA => ?_) 9 0 1000000 (-1) none _ _ _ _ (by omega) (by omega) (by omega) rfl eg33 eg34 eg352 eg353 rfl eg40 ef32 ef354 ef39 eqx.rf eqx.rf hH hA
      have ef32 := (xf 32 (by decide)).trans ef32
      have ef37 := (xf 37 (by decide)).trans ef37
      have ef354 := (xf 354 (by decide)).trans ef354
      have ef45 := (xf 45 (by decide)).trans ef45
      have ef47 := (xf 47 (by decide)).trans ef47
      have ef39 := (xf 39 (by decide)).trans ef39
      have hfE := hfE.trans xf (by decide)
      have eg33 := (xg 33 (by decide)).trans eg33
      have eg34 := (xg 34 (by decide)).trans eg34
      have eg35 := (xg 35 (by decide)).trans eg35
      have eg36 := (xg 36 (by decide)).trans eg36
      have eg44 := (xg 44 (by decide)).trans eg44
      have eg46 := (xg 46 (by decide)).trans eg46
      have eg40 := (xg 40 (by decide)).trans eg40
      have eg352 := (xg 352 (by decide)).trans eg352
      have eg353 := (xg 353 (by decide)).trans eg353
      have hgE := hgE.trans xg (by decide)
      have hsi := srch_in (p := (fun _ => true)) (v := (fun k => unevF (letP K cl (zshl 1 k)) (K 77).toNat)) 8 (fun t _ _ => (unev_in hK (by omega)).1)
      rw [← es] at hsi
      simp only at hsi
      have hoa := orN_a hsi.1 hsi.2.1
      have hb1 := srch_n es
      refine z_ild_1 (TX7_even.at 47 rfl) ?_
      refine z_if_ne (tgt := 101) (TX7_even.at 48 rfl) rfl (by omega) (fun c3 => ?_) (fun c3 => ?_)
      · skip
        refine z_ild_2 (TX7_even.at 51 rfl) ?_
        refine zc_iret (TX7_even.at 52 rfl) rfl hH hA (by omega) ?_
        exact ⟨by unfold evenV srchR evenS; rw [if_pos (by omega), ← es]; simp only; split <;> omega, hfE, hgE, rfl⟩
      · skip
        refine z_ild_3 (TX7_even.at 49 rfl) ?_
        refine z_goto (tgt := 102) (TX7_even.at 50 rfl) rfl ?_
        refine zc_iret (TX7_even.at 52 rfl) rfl hH hA (by omega) ?_
        exact ⟨by unfold evenV srchR evenS; rw [if_pos (by omega), ← es]; simp only; split <;> omega, hfE, hgE, rfl⟩
    · skip
      refine z_iconst (TX7_even.at 7 rfl) ?_
      refine zc_iret (TX7_even.at 8 rfl) rfl hH hA (by omega) ?_
      exact ⟨by unfold evenV; rw [if_neg (by omega)], hfE, hgE, rfl⟩

theorem cmos_b {C : Int → Int} (h : COK C) : mosN C 8 = 1000000 ∨ (0 ≤ mosN C 8 ∧ mosN C 8 ≤ 4000) := mosN_b 8 (fun t t0 t1 => by have := h.bd t0 (by omega); omega)
set_option maxHeartbeats 4000000 in
set_option maxRecDepth 100000 in
theorem lp_ccent {l : Launch} {E : cE} {d : Nat} {Pz : Option Value → zH → Prop} {h0 : zH} {f0 : mF} {g0 : mA} {j : mA} (hd : 4 ≤ d) {Fr To BX HX K : Int → Int} {S2 : Int} {cl : List Cla} (hK : KOK K) (hT : FiT Fr To BX HX (frK K) (toK K) (brn K cl) (hld K cl) (K 76) S2) (hct : ∀ x : Int, 0 ≤ x → x < K 76 → (bt S2 x ↔ ctc K cl x)) {w : Int} (kx : ∀ (a b : Int) (o5 : Option Value) (f : mF) (g : mA) (h : zH), (a, b) = srch (fun _ => true) (fun k => mosN (cmP K cl (zshl 1 k)) 8) 8 → eqx [] f0 f → eqx [355] g0 g → HC E f g j h → cAg E h0 h → Z l MX7_centre d 0 0 Pz 86 [some (.ref (E.1 31)), some (vI w), some (vI (orN a)), some (vI b), some (vI 8), o5] [] h 0 0)  : ∀ (n : Nat) (k : Int) (a : Int) (b : Int) (o5 : Option Value) (X : Int → Int) (f : mF) (g : mA) (h : zH) (k0 : 0 ≤ k) (k1 : k ≤ 8) (k2 : 8 < k + n) (es : (a, b) = srch (fun _ => true) (fun k => mosN (cmP K cl (zshl 1 k)) 8) k.toNat) (eg33 : g 33 = Fr) (eg34 : g 34 = To) (eg352 : g 352 = BX) (eg353 : g 353 = HX) (eg355 : g 355 = X) (ef32 : f 32 = (K 76)) (ef354 : f 354 = S2) (hfE : eqx [] f0 f) (hgE : eqx [355] g0 g) (hH : HC E f g j h) (hA : cAg E h0 h), Z l MX7_centre d 0 0 Pz 34 [some (.ref (E.1 31)), some (vI w), some (vI (orN a)), some (vI b), some (vI k), o5] [] h 0 0 := by
  intro n
  induction n with
  | zero => intro k a b o5 X f g h k0 k1 k2 es eg33 eg34 eg352 eg353 eg355 ef32 ef354 hfE hgE hH hA; exfalso; omega
  | succ n ih =>
    intro k a b o5 X f g h k0 k1 k2 es eg33 eg34 eg352 eg353 eg355 ef32 ef354 hfE hgE hH hA
    have hn := hK.1
    have hsi := srch_in (p := (fun _ => true)) (v := (fun k => mosN (cmP K cl (zshl 1 k)) 8)) k.toNat (fun t _ _ => by have := cmos_b (cmP_ok (q := zshl 1 t) (cl := cl) hK); omega)
    rw [← es] at hsi
    simp only at hsi
    have hoa := orN_a hsi.1 hsi.2.1
    refine z_ild_4 (TX7_centre.at 19 rfl) ?_
    refine z_bipush (by decide) (TX7_centre.at 20 rfl) ?_
    refine z_icmp_ge (tgt := 86) (TX7_centre.at 21 rfl) rfl (by omega) (by omega) (fun c1 => ?_) (fun c1 => ?_)
    · skip
      obtain rfl : k = 8 := by omega
      exact kx a b _ _ _ _ es hfE hgE hH hA
    · skip
      refine z_ald_0 (TX7_centre.at 22 rfl) ?_
      refine zc_getO (m := 0) (s := 9) (k := 383) (hH.lv (by decide)) (TX7_centre.at 23 rfl) fl7_60 hH rfl rfl (by decide) (by decide) ?_
      refine z_ald_0 (TX7_centre.at 24 rfl) ?_
      refine zc_getO (m := 0) (s := 0) (k := 63) (hH.lv (by decide)) (TX7_centre.at 25 rfl) fl7_12 hH rfl rfl (by decide) (by decide) ?_
      refine z_iconst (TX7_centre.at 26 rfl) ?_
      refine z_ild_4 (TX7_centre.at 27 rfl) ?_
      refine z_ishl (TX7_centre.at 28 rfl) ?_
      have hz1 := shl_31 (i := k) (by omega) (by omega)
      refine zc_callV2 (m := 11) (c_sprF1 eg33 eg34 eg352 eg353 rfl ef32 ef354 hz1.zin hz1 hT) (hH.lv (by decide)) (TX7_centre.at 29 rfl) c7_314 rfl rfl hH hA (by omega) (Nat.le_of_ble_eq_true rfl) (fun f53 g53 j53 h q53 hH hA => ?_)
      obtain ⟨q53, xf, xg, xj⟩ := q53
      rw [xj] at hH
      have ef32 := (xf 32 (by decide)).trans ef32
      have ef354 := (xf 354 (by decide)).trans ef354
      have hfE := hfE.trans xf (by decide)
      have eg33 := (xg 33 (by decide)).trans eg33
      have eg34 := (xg 34 (by decide)).trans eg34
      have eg352 := (xg 352 (by decide)).trans eg352
      have eg353 := (xg 353 (by decide)).trans eg353
      have hgE := hgE.trans xg (by decide)
      have qL := q53
      have hI := qL
      rw [fire_cm hK hct] at hI
      obtain ⟨X53, eg355⟩ : ∃ z, g53 355 = z := ⟨_, rfl⟩
      rw [eg355] at hI
      refine z_ald_0 (TX7_centre.at 30 rfl) ?_
      refine zc_getO (m := 0) (s := 9) (k := 383) (hH.lv (by decide)) (TX7_centre.at 31 rfl) fl7_60 hH rfl rfl (by decide) (by decide) ?_
      refine zc_callI0 (m := 11) (c_every eg355 hI.2.1 hI.2.2.1) (hH.lv (by decide)) (TX7_centre.at 32 rfl) c7_339 rfl rfl hH hA (by omega) (Nat.le_of_ble_eq_true rfl) (fun x60 f60 g60 j60 h r60 q60 hH hA => ?_)
      obtain ⟨q60, xf, xg, xj⟩ := q60
      rw [xj] at hH
      have ef32 := (xf 32 (by decide)).trans ef32
      have ef354 := (xf 354 (by decide)).trans ef354
      have hfE := hfE.trans xf (by decide)
      have eg33 := (xg 33 (by decide)).trans eg33
      have eg34 := (xg 34 (by decide)).trans eg34
      have eg352 := (xg 352 (by decide)).trans eg352
      have eg353 := (xg 353 (by decide)).trans eg353
      have eg355 := (xg 355 (by decide)).trans eg355
      have hgE := hgE.trans xg (by decide)
      have qL := q60
      subst qL
      have hla := cmos_b hI.2.2.1
      have hov := orN_b hla
      refine z_ist_5 (TX7_centre.at 33 rfl) (Nat.le_of_ble_eq_true rfl) rfl ?_
      refine z_ild_5 (TX7_centre.at 34 rfl) ?_
      refine z_ild_2 (TX7_centre.at 35 rfl) ?_
      refine zs_call2 (c_isSooner (by omega) (by omega)) (TX7_centre.at 36 rfl) c7_324 rfl (by omega) (Nat.le_of_ble_eq_true rfl) (fun r68 => ?_)
      refine z_if_eqB (tgt := 80) (TX7_centre.at 37 rfl) rfl (fun c2 => ?_) (fun c2 => ?_)
      · skip
        refine z_iinc_4 (TX7_centre.at 42 rfl) (Nat.le_of_ble_eq_true rfl) rfl ?_
        refine z_goto (tgt := 34) (TX7_centre.at 43 rfl) rfl ?_
        exact ih (k + 1) _ _ _ _ _ _ _ (by omega) (by omega) (by omega) (by first | exact srch_t k0 es rfl (by first | omega | (simp only; omega)) | exact srch_f k0 es (fun z => absurd z.2 (by first | omega | (simp only; omega)))) eg33 eg34 eg352 eg353 eg355 ef32 ef354 hfE hgE hH hA
      · skip
        refine z_ild_5 (TX7_centre.at 38 rfl) ?_
        refine z_ist_2 (TX7_centre.at 39 rfl) (Nat.le_of_ble_eq_true rfl) rfl ?_
        refine z_ild_4 (TX7_centre.at 40 rfl) ?_
        refine z_ist_3 (TX7_centre.at 41 rfl) (Nat.le_of_ble_eq_true rfl) rfl ?_
        refine z_iinc_4 (TX7_centre.at 42 rfl) (Nat.le_of_ble_eq_true rfl) rfl ?_
        refine z_goto (tgt := 34) (TX7_centre.at 43 rfl) rfl ?_
        exact ih (k + 1) _ _ _ _ _ _ _ (by omega) (by omega) (by omega) (by first | exact srch_t k0 es rfl (by first | omega | (simp only; omega)) | exact srch_f k0 es (fun z => absurd z.2 (by first | omega | (simp only; omega)))) eg33 eg34 eg352 eg353 eg355 ef32 ef354 hfE hgE hH hA

set_option maxHeartbeats 4000000 in
set_option maxRecDepth 100000 in
theorem c_centre {l : Launch} {E : cE} {f : mF} {g j : mA} {Fr : Int → Int} {To : Int → Int} {Ln : Int → Int} {Kd : Int → Int} {Tm : Int → Int} {Lw : Int → Int} {dp : Int} {S : Int} {w : Int} {K : Int → Int} {cl : List Cla} (eg33 : g 33 = Fr) (eg34 : g 34 = To) (eg35 : g 35 = Ln) (eg36 : g 36 = Kd) (eg44 : g 44 = Tm) (eg46 : g 46 = Lw) (ef32 : f 32 = (K 76)) (ef37 : f 37 = dp) (ef354 : f 354 = S) (ef45 : f 45 = (K 79)) (ef47 : f 47 = (K 80)) (hw : zIn w) (hL : LwN E f g (if 0 ≤ K 80 ∧ K 80 < K 79 then Lw (K 80) else -1) cl) (hK : KOK K) (hP : FrA Fr To Ln Kd dp K) (hS : z31 S) (t0 : Tm 0 = K 28) (t2 : Tm 2 = K 75) : CM l E MX7_centre 7 [.ref (E.1 31), vI w] f g j (PI (fun r f' g' j' => (r = centV K cl w) ∧ eqx [354] f f' ∧ eqx [352, 353, 355, 356, 384] g g' ∧ j' = j)) := by
  refine CM.intro [some (.ref (E.1 31)), some (vI w), none, none, none, none] (by decide) (Nat.le_of_ble_eq_true rfl) rfl (fun d hd h0 h hH hA => ?_)
  have hfE : eqx [354] f f := eqx.rf
  have hgE : eqx [352, 353, 355, 356, 384] g g := eqx.rf
  have h79 := hK.2.2.2.2.2.2.2.2.2.2.1
  have hn := hK.1
  refine z_ild_1 (TX7_centre.at 0 rfl) ?_
  refine zs_call1 (c_isPair (by omega)) (TX7_centre.at 1 rfl) c7_321 rfl (by omega) (Nat.le_of_ble_eq_true rfl) (fun r1 => ?_)
  refine z_if_neB (tgt := 9) (TX7_centre.at 2 rfl) rfl (fun c1 => ?_) (fun c1 => ?_)
  · skip
    refine z_ald_0 (TX7_centre.at 5 rfl) ?_
    refine zc_getO (m := 0) (s := 9) (k := 383) (hH.lv (by decide)) (TX7_centre.at 6 rfl) fl7_60 hH rfl rfl (by decide) (by decide) ?_
    refine z_ald_0 (TX7_centre.at 7 rfl) ?_
    refine zc_getO (m := 0) (s := 0) (k := 63) (hH.lv (by decide)) (TX7_centre.at 8 rfl) fl7_12 hH rfl rfl (by decide) (by decide) ?_
    refine z_ald_0 (TX7_centre.at 9 rfl) ?_
    refine zc_getO (m := 0) (s := 0) (k := 63) (hH.lv (by decide)) (TX7_centre.at 10 rfl) fl7_12 hH rfl rfl (by decide) (by decide) ?_
    refine zc_callO (m := 1) (As := []) (c_lawIn1 eg46 ef45 ef47 h79.1 h79.2) (hH.lv (by decide)) (TX7_centre.at 11 rfl) c7_135 rfl rfl hH hA (by omega) (Nat.le_of_ble_eq_true rfl) (fun y21 f21 g21 j21 h q21 hH hA => ?_)
    obtain ⟨q21, xf, xg, xj⟩ := q21
    rw [xj] at hH
    have ef32 := (xf 32 (by decide)).trans ef32
    have ef37 := (xf 37 (by decide)).trans ef37
    have ef354 := (xf 354 (by decide)).trans ef354
    have ef45 := (xf 45 (by decide)).trans ef45
    have ef47 := (xf 47 (by decide)).trans ef47
    have hfE := hfE.trans xf (by decide)
    have eg33 := (xg 33 (by decide)).trans eg33
    have eg34 := (xg 34 (by decide)).trans eg34
    have eg35 := (xg 35 (by decide)).trans eg35
    have eg36 := (xg 36 (by decide)).trans eg36
    have eg44 := (xg 44 (by decide)).trans eg44
    have eg46 := (xg 46 (by decide)).trans eg46
    have hgE := hgE.trans xg (by decide)
    have qL := q21
    have hL := LwN_cg hL xf xg
    rw [← qL] at hL
    refine zc_callV2 (m := 11) (c_measY1 eg33 eg34 eg35 eg36 eg44 ef32 ef37 ef354 hL hK hP hS t0 t2) (hH.lv (by decide)) (TX7_centre.at 12 rfl) c7_139 rfl rfl hH hA (by omega) (Nat.le_of_ble_eq_true rfl) (fun f24 g24 j24 h q24 hH hA => ?_)
    obtain ⟨q24, xf, xg, xj⟩ := q24
    rw [xj] at hH
    have ef32 := (xf 32 (by decide)).trans ef32
    have ef37 := (xf 37 (by decide)).trans ef37
    have ef45 := (xf 45 (by decide)).trans ef45
    have ef47 := (xf 47 (by decide)).trans ef47
    have hfE := hfE.trans xf (by decide)
    have eg33 := (xg 33 (by decide)).trans eg33
    have eg34 := (xg 34 (by decide)).trans eg34
    have eg35 := (xg 35 (by decide)).trans eg35
    have eg36 := (xg 36 (by decide)).trans eg36
    have eg44 := (xg 44 (by decide)).trans eg44
    have eg46 := (xg 46 (by decide)).trans eg46
    have hgE := hgE.trans xg (by decide)
    have qL := q24
    obtain ⟨hT, hct⟩ := qL
    obtain ⟨BX, eg352⟩ : ∃ z, g24 352 = z := ⟨_, rfl⟩
    obtain ⟨HX, eg353⟩ : ∃ z, g24 353 = z := ⟨_, rfl⟩
    obtain ⟨S2, ef354⟩ : ∃ z, f24 354 = z := ⟨_, rfl⟩
    rw [eg352, eg353, ef354] at hT
    rw [ef354] at hct
    refine z_iconst (TX7_centre.at 13 rfl) ?_
    refine z_ist_2 (TX7_centre.at 14 rfl) (Nat.le_of_ble_eq_true rfl) rfl ?_
    refine z_iconst (TX7_centre.at 15 rfl) ?_
    refine z_ist_3 (TX7_centre.at 16 rfl) (Nat.le_of_ble_eq_true rfl) rfl ?_
    refine z_iconst (TX7_centre.at 17 rfl) ?_
    refine z_ist_4 (TX7_centre.at 18 rfl) (Nat.le_of_ble_eq_true rfl) rfl ?_
    refine lp_ccent (by omega) hK hT hct (w := w) (fun a b o5 f34 g34 h es xf xg hH hA => ?_) 9 0 1000000 (-1) none _ _ _ _ (by omega) (by omega) (by omega) rfl eg33 eg34 eg352 eg353 rfl  ef32 ef354  eqx.rf eqx.rf hH hA
    have ef32 := (xf 32 (by decide)).trans ef32
    have ef37 := (xf 37 (by decide)).trans ef37
    have ef354 := (xf 354 (by decide)).trans ef354
    have ef45 := (xf 45 (by decide)).trans ef45
    have ef47 := (xf 47 (by decide)).trans ef47
    have hfE := hfE.trans xf (by decide)
    have eg33 := (xg 33 (by decide)).trans eg33
    have eg34 := (xg 34 (by decide)).trans eg34
    have eg35 := (xg 35 (by decide)).trans eg35
    have eg36 := (xg 36 (by decide)).trans eg36
    have eg44 := (xg 44 (by decide)).trans eg44
    have eg46 := (xg 46 (by decide)).trans eg46
    have eg352 := (xg 352 (by decide)).trans eg352
    have eg353 := (xg 353 (by decide)).trans eg353
    have hgE := hgE.trans xg (by decide)
    have hsi := srch_in (p := (fun _ => true)) (v := (fun k => mosN (cmP K cl (zshl 1 k)) 8)) 8 (fun t _ _ => by have := cmos_b (cmP_ok (q := zshl 1 t) (cl := cl) hK); omega)
    rw [← es] at hsi
    simp only at hsi
    have hoa := orN_a hsi.1 hsi.2.1
    have hb1 := srch_n es
    refine z_ild_1 (TX7_centre.at 44 rfl) ?_
    refine z_if_ne (tgt := 94) (TX7_centre.at 45 rfl) rfl (by omega) (fun c2 => ?_) (fun c2 => ?_)
    · skip
      refine z_ild_2 (TX7_centre.at 48 rfl) ?_
      refine zc_iret (TX7_centre.at 49 rfl) rfl hH hA (by omega) ?_
      exact ⟨by unfold centV srchR centS; rw [if_pos (by omega), ← es]; simp only; split <;> omega, hfE, hgE, rfl⟩
    · skip
      refine z_ild_3 (TX7_centre.at 46 rfl) ?_
      refine z_goto (tgt := 95) (TX7_centre.at 47 rfl) rfl ?_
      refine zc_iret (TX7_centre.at 49 rfl) rfl hH hA (by omega) ?_
      exact ⟨by unfold centV srchR centS; rw [if_pos (by omega), ← es]; simp only; split <;> omega, hfE, hgE, rfl⟩
  · skip
    refine z_iconst (TX7_centre.at 3 rfl) ?_
    refine zc_iret (TX7_centre.at 4 rfl) rfl hH hA (by omega) ?_
    exact ⟨by unfold centV; rw [if_neg (by omega)], hfE, hgE, rfl⟩

