/-! ===== the class: a law is laid down, its end ===== -/
theorem z_invV0 {l : Launch} {M M' : zM} {d mc ms : Nat} {P : Option Value → zH → Prop} {pc pc' : Nat} {L : List (Option Value)} {S : List Value} {h : zH} {kc ks : Nat} {idx mc' ms' b ci : Nat} {fs : List Value} {T : u_T} {N : Nat} {P' : Option Value → zH → Prop} (hd : zAt M 3 pc pc' (.invokevirtual idx)) (hc : zCV M.1.cls idx M' 0) (hb : h b = some (.inr (ci, fs))) (hci : vwCl[ci]? = some (M'.1.cls, T, N)) (hdd : 1 ≤ d) (h1 : mc' ≤ kc) (h2 : ms' ≤ ks) (hW : (S.map fun v => v.category).sum ≤ 8) (hM : MZ l M' (d - 1) mc' ms' [.ref b] h P') (k : ∀ (v : Option Value) (h' : zH), P' v h' → Z l M d mc ms P pc' L (v.toList ++ S) h' (kc - mc') (ks - ms')) : Z l M d mc ms P pc L (.ref b :: S) h kc ks := by
  obtain ⟨hd, rfl⟩ := hd
  exact z_invV (As := []) hd hc rfl hb hci (by omega) h1 h2 hW hM k
theorem cpR_in {X : Int → Int} {n i : Int} (h : ∀ t, zIn (X t)) : zIn (cpR X n i) := by
  unfold cpR
  by_cases z : 0 ≤ i ∧ i < n
  · rw [if_pos z]; exact h i
  · rw [if_neg z]; decide
theorem cOb_lt (c s : Nat) : cOb c s < 448 := by unfold cOb; split <;> decide
/-- the reader's script, copied, is a node more -/
theorem HC.cp {E : cE} {f : mF} {g j : mA} {h h2 : zH} {m b : Nat} {ad : Nat → Nat} (hH : HC E f g j h) (m16 : 16 ≤ m) (hm : E.2.1 m = false) (hb : h b = none) (had : ∀ s, cTg 4 s < 6 → h (ad s) = none) (hfr : ∀ x, x ≠ b → (∀ s, cTg 4 s < 6 → x ≠ ad s) → h2 x = h x)
    (hN : Nd 4 b ad (fun s => .inl (0, lnC f s, .inl (fun i : Nat => Int32.ofInt (cpR (g (416 + s)) (if s = 8 then f 417 else f 416) i)))) (fun s => vI (f (416 + s))) h2) (n1 : f 416 ≤ 12) (k1 : f 417 ≤ 400)
    (hrf : ∀ (k i : Nat), E.2.1 (k / 32) = true → cTag k < 6 → cTag k ≠ 0 → cTag k ≠ 1 → g k i < 0 ∨ (g k i).toNat ≠ m) : HC (eAdd E m b ad (lnC f)) (fCp f m) (gCp f g m) (jCp j m) h2 := by
  have hcl : cCls m = 4 := cls16 m16
  have hp := hH.hp
  have key : ∀ k, cUse E k → ∃ e, h (E.1 k) = some e := fun k hk => hp.some hk
  refine HP.hc (HP.ndG (m := m) (ad := ad) (ln := lnC f) (ce := fun s => .inl (0, lnC f s, .inl (fun i : Nat => Int32.ofInt (cpR (g (416 + s)) (if s = 8 then f 417 else f 416) i)))) (fv := fun s => vI (f (416 + s))) hp hm (by rw [hcl]; exact hN) (fun k hk => if_neg hk) (fun k hk => if_neg hk) (fun k hk => if_neg hk) (fun s hs => ?_) (fun s hs q => ?_) (fun k hk => ?_) (fun x s _ _ => ?_) hrf (fun s _ => ⟨?_, fun z => absurd z (by omega)⟩) (fun k => ?_) (fun k i => ?_) (fun k i => ?_)) (fun x x1 x2 x3 => eAdd_v (hH.2.2.2.1 x x1 x2 x3)) (by unfold fCp; rw [if_neg (by omega)]; exact hH.2.2.2.2.2.2.1.2)
  · rw [hcl] at hs
    have h3 := sl4 hs
    have e1 : (32 * m + s) / 32 = m := by omega
    have e2 : (32 * m + s) % 32 = s := by omega
    have et : cTag (32 * m + s) = 0 := by
      unfold cTag
      rw [e1, e2, hcl]
      rcases h3 with z | z | z | z | z | z <;> rw [z] <;> rfl
    unfold cCell
    rw [if_neg (show ¬ cTag (32 * m + s) = 1 by omega), if_pos et, eAdd_ls (by omega)]
    have eg : gCp f g m (32 * m + s) = cpR (g (416 + s)) (if s = 8 then f 417 else f 416) := by
      unfold gCp
      rw [if_pos e1, e2, if_pos (by omega)]
    rw [eg]
  · rw [hcl] at hs q ⊢
    have hs : s < 9 := hs
    have h3 : s = 0 ∨ s = 1 ∨ s = 2 := (show ∀ s : Nat, s < 9 → ¬ cTg 4 s < 6 → s = 0 ∨ s = 1 ∨ s = 2 by decide) s hs q
    have e1 : (32 * m + s) / 32 = m := by omega
    have e2 : (32 * m + s) % 32 = s := by omega
    have e3 : cTg 4 s ≠ 8 := by rcases h3 with z | z | z <;> rw [z] <;> decide
    show vI (f (416 + s)) = cfv _ _ _ _
    unfold cfv
    rw [e2, if_neg q, if_neg e3]
    unfold fCp
    rw [if_pos e1, e2, if_pos (by omega)]
  · obtain ⟨e, he⟩ := key k hk
    have n1 : E.1 k ≠ b := (ne_so he hb).symm
    have n2 : ∀ s, cTg 4 s < 6 → E.1 k ≠ ad s := fun s hs => (ne_so he (had s hs)).symm
    exact ⟨hfr _ n1 n2, n1, by rw [hcl]; exact n2⟩
  · have := cOb_lt (cCls x) s; omega
  · unfold lnC; split <;> omega
  · unfold fCp
    split
    · split
      · exact hH.2.2.2.2.2.2.1.1 _
      · decide
    · exact hH.2.2.2.2.2.2.1.1 k
  · unfold gCp
    split
    · split
      · exact cpR_in (fun t => hH.2.2.2.2.2.2.2.1 _ t)
      · show zIn 0; decide
    · exact hH.2.2.2.2.2.2.2.1 k i
  · unfold jCp
    split
    · show zInL 0; decide
    · exact hH.2.2.2.2.2.2.2.2 k i
set_option maxHeartbeats 4000000 in
set_option maxRecDepth 100000 in
theorem sg_law98 {l : Launch} {E : cE} {d mc ms kc ks : Nat} {Pz : Option Value → zH → Prop} {h0 h : zH} {f0 f : mF} {g0 g j : mA} {n st : Int} (hd : 45 ≤ d) (n0 : 0 ≤ n) (n6 : n < 6) (k124 : ∀ (r : Int) (f' : mF) (g' : mA) (h' : zH), zIn r → r = n → f' 16 = 0 → f' 45 = n + 1 → eqx [16, 45] f0 f' → eqx [] g0 g' → HC E f' g' j h' → cAg E h0 h' → Pz (some (vI r)) h') (ef45 : f 45 = n) (ef16 : f 16 = st) (hfE : eqx [16, 45] f0 f) (hgE : eqx [] g0 g) (hH : HC E f g j h) (hA : cAg E h0 h) : Z l MX7_law d mc ms Pz 98 [some (.ref (E.1 31))] [] h kc ks := by
  refine z_ald_0 (TX7_law_1.at 7 rfl) ?_
  refine zk_getO (m := 0) (s := 0) (k := 63) (hH.lv (by decide)) (TX7_law_1.at 8 rfl) fl7_12 hH rfl rfl (by decide) (by decide) ?_
  refine z_dup rfl (TX7_law_1.at 9 rfl) ?_
  refine zk_getIE (m := 1) (s := 13) (k := 45) (hH.lv (by decide)) ef45 (TX7_law_1.at 10 rfl) fl7_193 hH rfl rfl (by decide) (by decide) (fun r103 => ?_)
  refine z_iconst (TX7_law_1.at 11 rfl) ?_
  refine z_iadd (TX7_law_1.at 12 rfl) ?_
  refine zk_putI (m := 1) (s := 13) (k := 45) (hH.lv (by decide)) (TX7_law_1.at 13 rfl) fp7_193 hH hA rfl rfl (by decide) (by decide) (by first | omega | exact b2i_01 _) (fun h f108 e1 e2 hH hA => ?_)
  have ef45 := e2
  have ef16 := (e1 16 (by decide)).trans ef16
  have hfE := hfE.put e1 (by decide)
  refine z_ald_0 (TX7_law_1.at 14 rfl) ?_
  refine z_ald_0 (TX7_law_1.at 15 rfl) ?_
  refine zk_getO (m := 0) (s := 0) (k := 63) (hH.lv (by decide)) (TX7_law_1.at 16 rfl) fl7_12 hH rfl rfl (by decide) (by decide) ?_
  refine zk_getIE (m := 1) (s := 13) (k := 45) (hH.lv (by decide)) ef45 (TX7_law_1.at 17 rfl) fl7_193 hH rfl rfl (by decide) (by decide) (fun r116 => ?_)
  refine z_iconst (TX7_law_1.at 18 rfl) ?_
  refine z_isub (TX7_law_1.at 19 rfl) ?_
  refine zk_callI1 (m := 0) (c_answered ef16 (by omega)) (hH.lv (by decide)) (TX7_law_1.at 20 rfl) c7_106 rfl rfl hH hA (by omega) (Nat.le_of_ble_eq_true rfl) (fun x121 f121 g121 j121 h r121 q121 hH hA => ?_)
  obtain ⟨q121, xf, xg, xj⟩ := q121
  rw [xj] at hH
  have ef45 := (xf 45 (by decide)).trans ef45
  have hfE := hfE.trans xf (by decide)
  have hgE := hgE.trans xg (by decide)
  have qL := q121
  obtain ⟨r5, ef16⟩ := qL
  exact z_iret (TX7_law_1.at 21 rfl) rfl (k124 _ _ _ _ (by omega) (by omega) ef16 ef45 hfE hgE hH hA)

/-- what law() leaves -/
def LawC (E : cE) (f : mF) (g j : mA) (h : zH) (m : Nat) (U Rf : Int → Int) (n z : Int) : Option Value → zH → Prop := fun v h' => ∃ r, v = some (vI r) ∧ zIn r ∧
  ((∃ f' g', ((n = 6 ∧ r = -5 ∧ f' 14 = f 14) ∨ (n < 6 ∧ ∃ e, txtS true U z = .error e ∧ r = -6 ∧ f' 14 = pT U z e)) ∧ f' 16 = r ∧ f' 256 = 0 ∧ g' 11 = bumC Rf r ∧ eqx [14, 16, 256, 289, 293, 294, 295, 296, 416, 417, 418] f f' ∧ eqx [11, 290, 291, 292, 419, 420, 421, 422, 423, 424] g g' ∧ HC E f' g' j h' ∧ cAg E h h') ∨
  (n < 6 ∧ r = n ∧ ∃ cl E' f' g' j' b, txtS true U z = .ok cl ∧ HC E' f' g' j' h' ∧ YN E E' m b h ∧ (∀ x, (∀ k, cUse E k → x ≠ E.1 k) → h x ≠ none → h' x = h x) ∧
    f' 14 = -1 ∧ f' 16 = 0 ∧ f' 45 = n + 1 ∧ f' 256 = 0 ∧ g' 46 = iu (g 46) n m ∧ g' 11 = Rf ∧ (∀ k, k / 32 ≠ m → E'.2.2 k = E.2.2 k) ∧
    f' (32 * m) = (cl.length : Int) ∧ (0 ≤ f' (32 * m + 1) ∧ f' (32 * m + 1) ≤ 400) ∧ in01 (f' (32 * m + 2)) ∧ RdR true (g' (32 * m + 3)) (g' (32 * m + 4)) (g' (32 * m + 5)) (g' (32 * m + 6)) (g' (32 * m + 7)) (g' (32 * m + 8)) (f' (32 * m + 1)) (f' (32 * m + 2)) cl ∧
    (∀ s, 3 ≤ s → s ≤ 7 → E'.2.2 (32 * m + s) = cl.length) ∧ (E'.2.2 (32 * m + 8) : Int) = f' (32 * m + 1) ∧
    (∀ k, k / 32 ≠ m → k ∉ [45, 14, 16, 256, 289, 293, 294, 295, 296, 416, 417, 418] → f' k = f k) ∧ (∀ k, k / 32 ≠ m → k ∉ [46, 11, 290, 291, 292, 419, 420, 421, 422, 423, 424] → g' k = g k) ∧ (∀ k, k / 32 ≠ m → j' k = j k)))
theorem cpR_of {X : Int → Int} {n i : Int} (h0 : 0 ≤ i) (h1 : i < n) : cpR X n i = X i := if_pos ⟨h0, h1⟩
theorem SmZ.keep0 {C C' : Int → Int} {N s : Int} {k : Den} (h : SmZ C N s k) (hC : ∀ q : Int, 0 ≤ q → q < N → C' q = C q) : SmZ C' N s k := by
  obtain ⟨e, w, h1, h2, h3, h4⟩ := h
  exact ⟨e, w, h1, h2, h3.keep (fun q a b => hC q (by omega) (by omega)), by rw [hC e (by omega) h1.2.2]; exact h4⟩
theorem CLz.cp {Vb Tm On Ot Te C Vb' Tm' On' Ot' Te' C' : Int → Int} {N i : Int} {k : Cla} (h : CLz Vb Tm On Ot Te C N i k) (hi : Vb' i = Vb i ∧ Tm' i = Tm i ∧ On' i = On i ∧ Ot' i = Ot i ∧ Te' i = Te i) (hC : ∀ q : Int, 0 ≤ q → q < N → C' q = C q) : CLz Vb' Tm' On' Ot' Te' C' N i k := by
  obtain ⟨h1, h2, h3, h4, h5⟩ := h
  obtain ⟨r1, r2, r3, r4, r5⟩ := hi
  unfold CLz
  rw [r1, r2, r3, r4, r5]
  refine ⟨h1, h2, ?_, ?_, ?_⟩
  · rcases h3 with z | z
    · exact Or.inl z
    · exact Or.inr ⟨z.1, z.2.keep0 hC⟩
  · rcases h4 with z | z
    · exact Or.inl ⟨z.1, z.2.keep0 hC⟩
    · exact Or.inr z
  · rcases h5 with z | ⟨kk, z1, z2, z3⟩
    · exact Or.inl z
    · exact Or.inr ⟨kk, z1, z2.keep0 hC, z3⟩
theorem RdR.cp {lw : Bool} {Vb Tm On Ot Te C : Int → Int} {N ag n : Int} {cl : List Cla} (h : RdR lw Vb Tm On Ot Te C N ag cl) (hn : n = (cl.length : Int)) : RdR lw (cpR Vb n) (cpR Tm n) (cpR On n) (cpR Ot n) (cpR Te n) (cpR C N) N ag cl := by
  intro i k hk
  have hi : i < cl.length := (List.getElem?_eq_some_iff.mp hk).1
  obtain ⟨h1, h2⟩ := h i k hk
  exact ⟨h1.cp ⟨cpR_of (by omega) (by omega), cpR_of (by omega) (by omega), cpR_of (by omega) (by omega), cpR_of (by omega) (by omega), cpR_of (by omega) (by omega)⟩ (fun q a b => cpR_of a b), h2⟩
set_option maxHeartbeats 4000000 in
set_option maxRecDepth 100000 in
theorem c_law {l : Launch} {d m : Nat} {E : cE} {f : mF} {g j : mA} {h : zH} {U Rf Lr : Int → Int} {n z x14 st y1 y2 y3 y4 y5 y6 y7 : Int} {X419 X420 X421 X422 X423 X424 : Int → Int} (hd : 45 ≤ d) (n0 : 0 ≤ n) (n6 : n ≤ 6) (z0 : 0 ≤ z) (z4 : z ≤ 400) (hU : ∀ i : Int, 0 ≤ i → i < 400 → 0 ≤ U i ∧ U i ≤ 255) (hb : ∀ i, Rf i ≤ 100000) (m16 : 16 ≤ m) (m31 : m < 2147483648) (hm : E.2.1 m = false) (hrf : ∀ (k i : Nat), E.2.1 (k / 32) = true → cTag k < 6 → cTag k ≠ 0 → cTag k ≠ 1 → g k i < 0 ∨ (g k i).toNat ≠ m) (eg257 : g 257 = U) (eg11 : g 11 = Rf) (eg46 : g 46 = Lr) (eg419 : g 419 = X419) (eg420 : g 420 = X420) (eg421 : g 421 = X421) (eg422 : g 422 = X422) (eg423 : g 423 = X423) (eg424 : g 424 = X424) (ef45 : f 45 = n) (ef256 : f 256 = z) (ef14 : f 14 = x14) (ef16 : f 16 = st) (ef289 : f 289 = y1) (ef294 : f 294 = y2) (ef295 : f 295 = y3) (ef296 : f 296 = y4) (ef416 : f 416 = y5) (ef417 : f 417 = y6) (ef418 : f 418 = y7) (hH : HC E f g j h) : MZ l MX7_law d 7 469 [.ref (E.1 31)] h (LawC E f g j h m U Rf n z) := by
  refine MZ.intro [some (.ref (E.1 31))] (by decide) (Nat.le_of_ble_eq_true rfl) rfl ?_
  refine sg_law (f0 := f) (g0 := g) (h0 := h) hd n0 n6 z0 z4 hU hb (fun r f' g' h' hr hx q16 q256 q11 xf xg hH' hA => ⟨r, rfl, hr, Or.inl ⟨f', g', by rw [ef14]; exact hx, q16, q256, q11, xf, xg, hH', hA⟩⟩) (fun fl cc N ag Vb Tm On Ot Te C f1 g1 h1 nn efl hT q14 q16 q45 q256 q416 q417 q418 p46 p11 p419 p420 p421 p422 p423 p424 xf xg hH1 hA1 => ?_) eg257 eg11 eg46 eg419 eg420 eg421 eg422 eg423 eg424 ef45 ef256 ef14 ef16 ef289 ef294 ef295 ef296 ef416 ef417 ef418 eqx.rf eqx.rf hH cAg.refl
  unfold LwT at hT
  rcases htx : txtS true U z with e | cl
  · exfalso; rw [htx] at hT; have h5 := hT.1; have h6 := hT.2; omega
  rw [htx] at hT
  obtain ⟨-, t1, t2, t3, t4⟩ := hT
  have hln : (cl.length : Int) ≤ 12 := by have h5 := ptext_len _ _ _ _ htx; omega
  have hrf1 : ∀ (k i : Nat), E.2.1 (k / 32) = true → cTag k < 6 → cTag k ≠ 0 → cTag k ≠ 1 → g1 k i < 0 ∨ (g1 k i).toNat ≠ m := fun k i k1 k2 k3 k4 => by
    have : g1 k = g k := xg k (fun hin => by
      simp only [List.mem_cons, List.not_mem_nil, or_false] at hin
      rcases hin with z | z | z | z | z | z | z | z | z | z <;> (subst z; exact k3 rfl))
    rw [this]; exact hrf k i k1 k2 k3 k4
  refine z_invV0 (TX7_law_1.at 5 rfl) c7_209 (hH1.1 13 (hH1.lv (by decide))) rfl (by omega) (Nat.le_refl _) (Nat.le_refl _) (Nat.le_of_ble_eq_true rfl) (i_copied (by omega) hH1 (by omega) (by omega) (by omega) (by omega) (by rw [q418]; exact t3)) (fun v h2 hp => ?_)
  obtain ⟨b, ad, rfl, hb0, had, hfr, hN⟩ := hp
  have hC := HC.cp hH1 m16 hm hb0 had hfr hN (by omega) (by omega) hrf1
  have hY : YN E (eAdd E m b ad (lnC f1)) m b h1 := YN.mk hb0 (fun s hs => had s (by rw [cls16 m16] at hs; exact hs))
  have hL3 : ∀ s, 3 ≤ s → s ≤ 7 → (eAdd E m b ad (lnC f1)).2.2 (32 * m + s) = cl.length := fun s s1 s2 => by rw [eAdd_ls (by omega)]; unfold lnC; rw [if_neg (by omega)]; omega
  have hL8 : ((eAdd E m b ad (lnC f1)).2.2 (32 * m + 8) : Int) = N := by rw [eAdd_ls (by omega)]; unfold lnC; rw [if_pos rfl]; omega
  have hL46 : (eAdd E m b ad (lnC f1)).2.2 46 = 6 := (eAdd_l (by omega)).trans (hH1.2.2.2.2.1 46 (by decide))
  have e31 : (eAdd E m b ad (lnC f1)).1 31 = E.1 31 := eAdd_o (by omega)
  have e46 : (eAdd E m b ad (lnC f1)).1 46 = E.1 46 := eAdd_o (by omega)
  have em : (eAdd E m b ad (lnC f1)).1 (32 * m + 31) = b := eAdd_a
  have hv1 : (eAdd E m b ad (lnC f1)).2.1 1 = true := eAdd_v (hH1.lv (by decide))
  have hvm : (eAdd E m b ad (lnC f1)).2.1 m = true := eAdd_m
  have hLn : ∀ k, k / 32 ≠ m → (eAdd E m b ad (lnC f1)).2.2 k = E.2.2 k := fun k hk => eAdd_l hk
  have huse : ∀ k, cUse (eAdd E m b ad (lnC f1)) k → (cUse E k ∧ (eAdd E m b ad (lnC f1)).1 k = E.1 k) ∨ h1 ((eAdd E m b ad (lnC f1)).1 k) = none := hY.2.2.2.2.2
  generalize eAdd E m b ad (lnC f1) = E' at hC hY hL3 hL8 hL46 e31 e46 em hv1 hvm huse hLn
  show Z l MX7_law d _ _ _ _ [some (.ref (E.1 31))] [.ref b, vI n, .ref (E.1 46)] h2 _ _
  rw [← e31, ← e46, ← em]
  refine zk_aast (k := 46) (r := (RX4, TX4, 9)) hC hv1 hvm (TX7_law_1.at 6 rfl) (by decide) (by decide) (by rw [cls16 m16]; rfl) rfl n0 (by rw [hL46]; omega) m31 (fun h3 g3 u1 u2 hC3 u3 => ?_)
  refine sg_law98 (f0 := fCp f1 m) (g0 := g3) (h0 := h3) (n := n) (st := st) hd n0 nn (fun r f4 g4 h4 hr hrn v16 v45 yf yg hH4 hA4 => ?_) ((if_neg (by omega)).trans q45) ((if_neg (by omega)).trans q16) eqx.rf eqx.rf hC3 cAg.refl
  have yg := eqx_nil yg
  subst yg
  have ft : ∀ k, k ≠ 16 → k ≠ 45 → f4 k = fCp f1 m k := fun k k1 k2 => yf k (by simp only [List.mem_cons, List.not_mem_nil, or_false, not_or]; exact ⟨k1, k2⟩)
  have fo : ∀ k, k / 32 ≠ m → fCp f1 m k = f1 k := fun k hk => if_neg hk
  have fm : ∀ s, s < 3 → fCp f1 m (32 * m + s) = f1 (416 + s) := fun s hs => by unfold fCp; rw [if_pos (by omega), show (32 * m + s) % 32 = s by omega, if_pos hs]
  have gm : ∀ s, 3 ≤ s → s ≤ 8 → g4 (32 * m + s) = cpR (g1 (416 + s)) (if s = 8 then f1 417 else f1 416) := fun s s1 s2 => by
    rw [u1 _ (by omega)]
    unfold gCp
    rw [if_pos (by omega), show (32 * m + s) % 32 = s by omega, if_pos ⟨s1, s2⟩]
  have go : ∀ k, k / 32 ≠ m → gCp f1 g1 m k = g1 k := fun k hk => if_neg hk
  have w0 : f4 (32 * m) = cc := by rw [ft _ (by omega) (by omega)]; exact (fm 0 (by omega)).trans q416
  have w1 : f4 (32 * m + 1) = N := by rw [ft _ (by omega) (by omega)]; exact (fm 1 (by omega)).trans q417
  have w2 : f4 (32 * m + 2) = ag := by rw [ft _ (by omega) (by omega)]; exact (fm 2 (by omega)).trans q418
  refine ⟨r, rfl, hr, Or.inr ⟨nn, hrn, cl, E', f4, g4, jCp j m, b, htx, hH4, ?_, ?_, ?_, v16, v45, ?_, ?_, ?_, hLn, w0.trans t1, by rw [w1]; exact t2, by rw [w2]; exact t3, ?_, hL3, by rw [w1]; exact hL8, ?_, ?_, fun k hk => if_neg hk⟩⟩
  · refine ⟨hY.1, hY.2.1, hY.2.2.1, hY.2.2.2.1, hY.2.2.2.2.1, fun k hk => ?_⟩
    rcases huse k hk with z | z
    · exact Or.inl z
    · right
      rw [← hA1 (E'.1 k) (fun k2 hk2 e => by obtain ⟨e5, he5⟩ := hH1.hp.some hk2; rw [← e, z] at he5; cases he5)]
      exact z
  · intro x hxE hxn
    have a1 : h1 x = h x := hA1 x hxE
    have a2 : ∀ k, cUse E' k → x ≠ E'.1 k := fun k hk e => by
      rcases huse k hk with ⟨z1, z2⟩ | z
      · exact hxE k z1 (e.trans z2)
      · rw [← e, a1] at z; exact hxn z
    have a3 : x ≠ b := fun e => by rw [e] at a1 hxn; rw [hb0] at a1; exact hxn a1.symm
    have a4 : ∀ s, cTg 4 s < 6 → x ≠ ad s := fun s hs e => by rw [e] at a1 hxn; rw [had s hs] at a1; exact hxn a1.symm
    rw [hA4 x a2, u3 x (a2 46 ⟨hv1, Or.inl (by decide)⟩), hfr x a3 a4, a1]
  · rw [ft 14 (by decide) (by decide), fo 14 (by omega), q14, efl]
  · rw [ft 256 (by decide) (by decide), fo 256 (by omega), q256]
  · rw [u2, go 46 (by omega), p46, eg46]
  · rw [u1 11 (by decide), go 11 (by omega), p11]
  · rw [gm 3 (by omega) (by omega), gm 4 (by omega) (by omega), gm 5 (by omega) (by omega), gm 6 (by omega) (by omega), gm 7 (by omega) (by omega), gm 8 (by omega) (by omega), w1, w2]
    have t5 := RdR.cp t4 t1
    rw [← p419, ← p420, ← p421, ← p422, ← p423, ← p424, ← q416] at t5
    rw [← q417] at t5 ⊢
    exact t5
  · intro k hk hkn
    simp only [List.mem_cons, List.not_mem_nil, or_false, not_or] at hkn
    rw [ft k (by omega) (by omega), fo k hk]
    exact xf k (by simp only [List.mem_cons, List.not_mem_nil, or_false, not_or]; omega)
  · intro k hk hkn
    simp only [List.mem_cons, List.not_mem_nil, or_false, not_or] at hkn
    rw [u1 k (by omega), go k hk]
    exact xg k (by simp only [List.mem_cons, List.not_mem_nil, or_false, not_or]; omega)
