/-! ===== the class: an image is kept ===== -/
section ZKF
variable {l : Launch} {M M' : zM} {d mc ms kc ks : Nat} {Pz : Option Value → zH → Prop} {pc pc' : Nat} {L : List (Option Value)} {S : List Value} {h h0 : zH} {E : cE} {f : mF} {g j : mA}
theorem zkf_aald {k N : Nat} {i : Int} {G : Int → Int} (hm : E.2.1 (k / 32) = true) (hk : k < 448) (hN : cLn (cCls (k / 32)) (k % 32) = N) (e : g k = G) (hd : zAt M 1 pc pc' .aaload) (hH : HC E f g j h) (ht : cTag k = 4 ∨ cTag k = 5) (hi0 : 0 ≤ i) (hi1 : i < (N : Int)) (K : Z l M d mc ms Pz pc' L (va_rf (crf E (G i)) :: S) h kc ks) : Z l M d mc ms Pz pc L (vI i :: .ref (E.1 k) :: S) h kc ks := by
  subst e
  exact z_aald hd (f := fun n : Nat => crf E (g k n)) (n := E.2.2 k) (hH.arrR hm ht) (by omega) (zTy_o ht) hi0 (by rw [hH.len hk hN]; exact hi1) (hH.2.2.2.2.2.1 k) (by rw [show ((i.toNat : Nat) : Int) = i by omega]; exact K)
end ZKF
theorem okR.mono {E E' : cE} {t : Nat} {x : Int} (h : okR E t x) (hv : ∀ m, E.2.1 m = true → E'.2.1 m = true) : okR E' t x := by
  rcases h with z | ⟨z1, z2, z3⟩
  · exact Or.inl z
  · exact Or.inr ⟨z1, hv _ z2, z3⟩
set_option maxHeartbeats 4000000 in
set_option maxRecDepth 100000 in
theorem sg_img4 {l : Launch} {E : cE} {d mc ms kc ks : Nat} {Pz : Option Value → zH → Prop} {h0 h : zH} {f0 f : mF} {g0 g j : mA} {k st : Int} (hd : 2 ≤ d) (hl4 : E.2.1 4 = true) (hOK : ∀ q : Int, 0 ≤ q → q < 6 → okR E 4 (g 46 q)) (kr : ∀ (r : Int) (f' : mF) (g' : mA) (h' : zH), zIn r → (r = 0 ∧ f' 16 = 0 ∧ BcQ 1 4 f g f' g') → eqx [16, 128, 133, 135, 137, 141, 143] f0 f' → eqx [129, 130, 131, 132, 134, 136, 138, 139, 140, 142] g0 g' → HC E f' g' j h' → cAg E h0 h' → Pz (some (vI r)) h') (ef16 : f 16 = st) (hfE : eqx [16, 128, 133, 135, 137, 141, 143] f0 f) (hgE : eqx [129, 130, 131, 132, 134, 136, 138, 139, 140, 142] g0 g) (hH : HC E f g j h) (hA : cAg E h0 h) : Z l MX7_image d mc ms Pz 41 [some (.ref (E.1 31)), some (vI k), some (.ref (E.1 159))] [] h kc ks := by
  refine z_ald_2 (TX7_image.at 25 rfl) ?_
  refine z_ald_0 (TX7_image.at 26 rfl) ?_
  refine zk_getO (m := 0) (s := 0) (k := 63) (hH.lv (by decide)) (TX7_image.at 27 rfl) fl7_12 hH rfl rfl (by decide) (by decide) ?_
  refine zk_callV1 (m := 4) (c_bec4_1 rfl rfl rfl rfl rfl rfl rfl rfl rfl rfl rfl rfl rfl rfl rfl rfl rfl rfl rfl rfl rfl rfl rfl rfl rfl rfl hl4 hOK) hl4 (TX7_image.at 28 rfl) c7_214 rfl rfl hH hA (by omega) (Nat.le_of_ble_eq_true rfl) (fun f46 g46 j46 h q46 hH hA => ?_)
  obtain ⟨q46, xf, xg, xj⟩ := q46
  rw [xj] at hH
  have ef16 := (xf 16 (by decide)).trans ef16
  have hfE := hfE.trans xf (by decide)
  have hgE := hgE.trans xg (by decide)
  have qL := q46
  have hbq := qL
  refine z_ald_0 (TX7_image.at 29 rfl) ?_
  refine z_iconst (TX7_image.at 30 rfl) ?_
  refine zk_callI1 (m := 0) (c_answered ef16 (by omega)) (hH.lv (by decide)) (TX7_image.at 31 rfl) c7_106 rfl rfl hH hA (by omega) (Nat.le_of_ble_eq_true rfl) (fun x51 f51 g51 j51 h r51 q51 hH hA => ?_)
  obtain ⟨q51, xf, xg, xj⟩ := q51
  rw [xj] at hH
  have hfE := hfE.trans xf (by decide)
  have hgE := hgE.trans xg (by decide)
  have qL := q51
  obtain ⟨r5, ef16⟩ := qL
  have hgZ := eqx_nil xg
  exact z_iret (TX7_image.at 32 rfl) rfl (kr _ _ _ _ (by omega) ⟨r5, ef16, by
    obtain ⟨a0, a5, a7, a9, a13, a15, b1, b2, b3, b4, b6, b8, b10, b11, b12, b14⟩ := hbq
    exact ⟨(xf 128 (by decide)).trans a0, (xf 133 (by decide)).trans a5, (xf 135 (by decide)).trans a7, (xf 137 (by decide)).trans a9, (xf 141 (by decide)).trans a13, (xf 143 (by decide)).trans a15, (by rw [hgZ]; exact b1), (by rw [hgZ]; exact b2), (by rw [hgZ]; exact b3), (by rw [hgZ]; exact b4), (by rw [hgZ]; exact b6), (by rw [hgZ]; exact b8), (by rw [hgZ]; exact b10), (by rw [hgZ]; exact b11), (by rw [hgZ]; exact b12), (by rw [hgZ]; exact b14)⟩⟩ hfE hgE hH hA)

set_option maxHeartbeats 4000000 in
set_option maxRecDepth 100000 in
theorem sg_img5 {l : Launch} {E : cE} {d mc ms kc ks : Nat} {Pz : Option Value → zH → Prop} {h0 h : zH} {f0 f : mF} {g0 g j : mA} {k st : Int} (hd : 2 ≤ d) (hl5 : E.2.1 5 = true) (hOK : ∀ q : Int, 0 ≤ q → q < 6 → okR E 4 (g 46 q)) (kr : ∀ (r : Int) (f' : mF) (g' : mA) (h' : zH), zIn r → (r = 0 ∧ f' 16 = 0 ∧ BcQ 1 5 f g f' g') → eqx [16, 160, 165, 167, 169, 173, 175] f0 f' → eqx [161, 162, 163, 164, 166, 168, 170, 171, 172, 174] g0 g' → HC E f' g' j h' → cAg E h0 h' → Pz (some (vI r)) h') (ef16 : f 16 = st) (hfE : eqx [16, 160, 165, 167, 169, 173, 175] f0 f) (hgE : eqx [161, 162, 163, 164, 166, 168, 170, 171, 172, 174] g0 g) (hH : HC E f g j h) (hA : cAg E h0 h) : Z l MX7_image d mc ms Pz 41 [some (.ref (E.1 31)), some (vI k), some (.ref (E.1 191))] [] h kc ks := by
  refine z_ald_2 (TX7_image.at 25 rfl) ?_
  refine z_ald_0 (TX7_image.at 26 rfl) ?_
  refine zk_getO (m := 0) (s := 0) (k := 63) (hH.lv (by decide)) (TX7_image.at 27 rfl) fl7_12 hH rfl rfl (by decide) (by decide) ?_
  refine zk_callV1 (m := 5) (c_bec5_1 rfl rfl rfl rfl rfl rfl rfl rfl rfl rfl rfl rfl rfl rfl rfl rfl rfl rfl rfl rfl rfl rfl rfl rfl rfl rfl hl5 hOK) hl5 (TX7_image.at 28 rfl) c7_214 rfl rfl hH hA (by omega) (Nat.le_of_ble_eq_true rfl) (fun f46 g46 j46 h q46 hH hA => ?_)
  obtain ⟨q46, xf, xg, xj⟩ := q46
  rw [xj] at hH
  have ef16 := (xf 16 (by decide)).trans ef16
  have hfE := hfE.trans xf (by decide)
  have hgE := hgE.trans xg (by decide)
  have qL := q46
  have hbq := qL
  refine z_ald_0 (TX7_image.at 29 rfl) ?_
  refine z_iconst (TX7_image.at 30 rfl) ?_
  refine zk_callI1 (m := 0) (c_answered ef16 (by omega)) (hH.lv (by decide)) (TX7_image.at 31 rfl) c7_106 rfl rfl hH hA (by omega) (Nat.le_of_ble_eq_true rfl) (fun x51 f51 g51 j51 h r51 q51 hH hA => ?_)
  obtain ⟨q51, xf, xg, xj⟩ := q51
  rw [xj] at hH
  have hfE := hfE.trans xf (by decide)
  have hgE := hgE.trans xg (by decide)
  have qL := q51
  obtain ⟨r5, ef16⟩ := qL
  have hgZ := eqx_nil xg
  exact z_iret (TX7_image.at 32 rfl) rfl (kr _ _ _ _ (by omega) ⟨r5, ef16, by
    obtain ⟨a0, a5, a7, a9, a13, a15, b1, b2, b3, b4, b6, b8, b10, b11, b12, b14⟩ := hbq
    exact ⟨(xf 160 (by decide)).trans a0, (xf 165 (by decide)).trans a5, (xf 167 (by decide)).trans a7, (xf 169 (by decide)).trans a9, (xf 173 (by decide)).trans a13, (xf 175 (by decide)).trans a15, (by rw [hgZ]; exact b1), (by rw [hgZ]; exact b2), (by rw [hgZ]; exact b3), (by rw [hgZ]; exact b4), (by rw [hgZ]; exact b6), (by rw [hgZ]; exact b8), (by rw [hgZ]; exact b10), (by rw [hgZ]; exact b11), (by rw [hgZ]; exact b12), (by rw [hgZ]; exact b14)⟩⟩ hfE hgE hH hA)

set_option maxHeartbeats 4000000 in
set_option maxRecDepth 100000 in
theorem sg_img0 {l : Launch} {E : cE} {d mc ms kc ks : Nat} {Pz : Option Value → zH → Prop} {h0 h : zH} {f0 f : mF} {g0 g j : mA} {k st : Int} {Rf : Int → Int} (hd : 3 ≤ d) (hk : zIn k) (hb : ∀ i, Rf i ≤ 100000) (kr : ∀ (r : Int) (f' : mF) (g' : mA) (h' : zH), zIn r → (¬ (0 ≤ k ∧ k ≤ 1) ∧ r = -1 ∧ f' 16 = r ∧ g' 11 = bumC Rf r) → eqx [16] f0 f' → eqx [11] g0 g' → HC E f' g' j h' → cAg E h0 h' → Pz (some (vI r)) h') (k20 : 0 ≤ k → k ≤ 1 → Z l MX7_image d mc ms Pz 20 [some (.ref (E.1 31)), some (vI k), none] [vI k, .ref (E.1 3)] h kc ks) (eg11 : g 11 = Rf) (ef16 : f 16 = st) (hfE : eqx [16] f0 f) (hgE : eqx [11] g0 g) (hH : HC E f g j h) (hA : cAg E h0 h) : Z l MX7_image d mc ms Pz 0 [some (.ref (E.1 31)), some (vI k), none] [] h kc ks := by
  refine z_ild_1 (TX7_image.at 0 rfl) ?_
  refine z_if_lt (tgt := 9) (TX7_image.at 1 rfl) rfl (by omega) (fun c1 => ?_) (fun c1 => ?_)
  · skip
    refine z_ald_0 (TX7_image.at 5 rfl) ?_
    refine z_iconst (TX7_image.at 6 rfl) ?_
    refine zk_callI1 (m := 0) (c_refused eg11 ef16 (by decide) (by decide) (by decide) hb) (hH.lv (by decide)) (TX7_image.at 7 rfl) c7_92 rfl rfl hH hA (by omega) (Nat.le_of_ble_eq_true rfl) (fun x11 f11 g11 j11 h r11 q11 hH hA => ?_)
    obtain ⟨q11, xf, xg, xj⟩ := q11
    rw [xj] at hH
    have hfE := hfE.trans xf (by decide)
    have hgE := hgE.trans xg (by decide)
    have qL := q11
    obtain ⟨r5, ef16, eg11⟩ := qL
    rw [← r5] at ef16 eg11
    exact z_iret (TX7_image.at 8 rfl) rfl (kr _ _ _ _ (by omega) ⟨by omega, r5, ef16, eg11⟩ hfE hgE hH hA)
  · skip
    refine z_ild_1 (TX7_image.at 2 rfl) ?_
    refine z_iconst (TX7_image.at 3 rfl) ?_
    refine z_icmp_lt (tgt := 15) (TX7_image.at 4 rfl) rfl (by omega) (by omega) (fun c2 => ?_) (fun c2 => ?_)
    · skip
      refine z_ald_0 (TX7_image.at 9 rfl) ?_
      refine zk_getA (m := 0) (s := 3) (k := 3) (hH.lv (by decide)) (TX7_image.at 10 rfl) fl7_22 hH rfl rfl (by decide) (by decide) ?_
      refine z_ild_1 (TX7_image.at 11 rfl) ?_
      exact k20 (by omega) (by omega)
    · skip
      refine z_ald_0 (TX7_image.at 5 rfl) ?_
      refine z_iconst (TX7_image.at 6 rfl) ?_
      refine zk_callI1 (m := 0) (c_refused eg11 ef16 (by decide) (by decide) (by decide) hb) (hH.lv (by decide)) (TX7_image.at 7 rfl) c7_92 rfl rfl hH hA (by omega) (Nat.le_of_ble_eq_true rfl) (fun x11 f11 g11 j11 h r11 q11 hH hA => ?_)
      obtain ⟨q11, xf, xg, xj⟩ := q11
      rw [xj] at hH
      have hfE := hfE.trans xf (by decide)
      have hgE := hgE.trans xg (by decide)
      have qL := q11
      obtain ⟨r5, ef16, eg11⟩ := qL
      rw [← r5] at ef16 eg11
      exact z_iret (TX7_image.at 8 rfl) rfl (kr _ _ _ _ (by omega) ⟨by omega, r5, ef16, eg11⟩ hfE hgE hH hA)

/-- what image() leaves -/
def ImgC (E : cE) (f : mF) (g j : mA) (h : zH) (Rf : Int → Int) (k : Int) : Option Value → zH → Prop := fun v h' => ∃ r, v = some (vI r) ∧ zIn r ∧
  ((∃ f' g', (¬ (0 ≤ k ∧ k ≤ 1) ∧ r = -1 ∧ f' 16 = r ∧ g' 11 = bumC Rf r) ∧ eqx [16] f f' ∧ eqx [11] g g' ∧ HC E f' g' j h' ∧ cAg E h h') ∨
  ((0 ≤ k ∧ k ≤ 1) ∧ r = 0 ∧ ∃ (m : Nat) (E' : cE) (f1 : mF) (g1 j' : mA) (f' : mF) (g' : mA), (m : Int) = 4 + k ∧ HC E' f' g' j' h' ∧ (E' = E ∨ ∃ b, YN E E' m b h) ∧ E'.2.1 m = true ∧ (∀ x, (∀ k, cUse E k → x ≠ E.1 k) → h x ≠ none → h' x = h x) ∧
    f' 16 = 0 ∧ ((∀ q, q / 32 ≠ m → E'.2.2 q = E.2.2 q) ∧ ((E' = E ∧ g1 (32 * m + 14) = g (32 * m + 14)) ∨ ∀ i : Int, g1 (32 * m + 14) i = -1)) ∧ (∀ q, q / 32 ≠ m → f1 q = f q) ∧ (∀ q, q / 32 ≠ m → q ≠ 3 → g1 q = g q) ∧ g1 3 = iu (g 3) k m ∧ (∀ q, q / 32 ≠ m → j' q = j q) ∧ BcQ 1 m f1 g1 f' g' ∧ (∀ q, q / 32 ≠ m → q ≠ 16 → f' q = f1 q) ∧ (∀ q, q / 32 ≠ m → g' q = g1 q)))
/-- a frame is born at a node that was not there -/
theorem HC.fr {E : cE} {f : mF} {g j : mA} {h h1 h2 : zH} {m b : Nat} {ad : Nat → Nat} (hH : HC E f g j h) (hcl : m = 4 ∨ m = 5) (hm : E.2.1 m = false) (hb : h b = none) (e2 : ∀ x, x ≠ b → h1 x = h x) (B : Bo 1 b ad ceF (fun s => match s with | 0 => vI 0 | 5 => vI 0 | 7 => vI 0 | 9 => vI 0 | 13 => vI 0 | 15 => vI (-1) | _ => .null) h1 h2)
    (hrf : ∀ (k i : Nat), E.2.1 (k / 32) = true → cTag k < 6 → cTag k ≠ 0 → cTag k ≠ 1 → g k i < 0 ∨ (g k i).toNat ≠ m) : HC (eAdd E m b ad (cLn 1)) (fun q => if q / 32 = m then fI q else f q) (fun q => if q / 32 = m then gI q else g q) (fun q => if q / 32 = m then (fun _ => 0) else j q) h2 := by
  have hp := hH.hp
  have hc1 : cCls m = 1 := by rcases hcl with z | z <;> rw [z] <;> rfl
  refine HP.hc (HP.nd (m := m) (ln := cLn 1) hp hm (by rw [hc1]; exact B.1) (fun k hk => if_neg hk) (fun k hk => if_neg hk) (fun k hk => if_neg hk) (fun k hk => if_pos hk) (fun k hk => if_pos hk) (fun k hk => if_pos hk) (fun s hs => ?_) (fun s hs q => ?_) (fun k hk => ?_) (fun x s _ ht => ?_) hrf (fun s _ => ⟨Nat.lt_of_le_of_lt (cLn_le _ _) (by decide), fun _ => by rw [hc1]⟩) (fun _ _ => rfl)) (fun x x1 x2 x3 => eAdd_v (hH.2.2.2.1 x x1 x2 x3)) (by rw [if_neg (by omega)]; exact hH.2.2.2.2.2.2.1.2)
  · rw [hc1] at hs ⊢
    rcases sl1 hs with rfl | rfl | rfl | rfl | rfl | rfl | rfl | rfl | rfl | rfl <;> rfl
  · rw [hc1] at hs q ⊢
    rcases hcl with z | z <;> subst z <;> rcases so1 hs q with rfl | rfl | rfl | rfl | rfl | rfl <;> rfl
  · obtain ⟨e, he⟩ := hp.some hk
    have n1 : E.1 k ≠ b := (ne_so he hb).symm
    have h5 := (e2 _ n1).trans he
    exact ⟨(B.keep h5 n1).trans he.symm, n1, by rw [hc1]; exact fun s hs => (ne_so h5 (B.2.1 s hs)).symm⟩
  · rcases t8 ht with ⟨q, w⟩ | ⟨q, w⟩ | q
    · rw [w]; omega
    · rw [w]; omega
    · have h9 : ∀ s : Nat, s < 17 → cTg 7 s = 8 → cOb 7 s / 32 ≠ 4 ∧ cOb 7 s / 32 ≠ 5 := by decide
      rw [q] at ht ⊢
      have h17 : s < 17 := by
        by_cases z : s < 17
        · exact z
        · rw [cTg_17 (by omega)] at ht; omega
      have := h9 s h17 ht
      rcases hcl with z | z <;> rw [z]
      · exact this.1
      · exact this.2
set_option maxHeartbeats 4000000 in
set_option maxRecDepth 100000 in
theorem c_image {l : Launch} {d : Nat} {E : cE} {f : mF} {g j : mA} {h : zH} {Rf X3 : Int → Int} {k st : Int} (hd : 3 ≤ d) (hk : zIn k) (hb : ∀ i, Rf i ≤ 100000) (eg3 : g 3 = X3) (eg11 : g 11 = Rf) (ef16 : f 16 = st) (hOK : ∀ q : Int, 0 ≤ q → q < 6 → okR E 4 (g 46 q))
    (hX : ∀ k : Int, 0 ≤ k → k ≤ 1 → (X3 k = -1 ∧ E.2.1 (4 + k.toNat) = false ∧ ∀ (q i : Nat), E.2.1 (q / 32) = true → cTag q < 6 → cTag q ≠ 0 → cTag q ≠ 1 → g q i < 0 ∨ (g q i).toNat ≠ 4 + k.toNat) ∨ (X3 k = 4 + k ∧ E.2.1 (4 + k.toNat) = true)) (hH : HC E f g j h) : MZ l MX7_image d 11 88 [.ref (E.1 31), vI k] h (ImgC E f g j h Rf k) := by
  refine MZ.intro [some (.ref (E.1 31)), some (vI k), none] (by decide) (Nat.le_of_ble_eq_true rfl) rfl ?_
  refine sg_img0 (f0 := f) (g0 := g) (h0 := h) hd hk hb (fun r f' g' h' hr hq xf xg hH' hA' => ⟨r, rfl, hr, Or.inl ⟨f', g', hq, xf, xg, hH', hA'⟩⟩) (fun k0 k1 => ?_) eg11 ef16 eqx.rf eqx.rf hH cAg.refl
  rcases (show k = 0 ∨ k = 1 by omega) with ek | ek
  · subst ek
    rcases hX 0 (by omega) (by omega) with e | e
    · refine zkf_aald (k := 3) (N := 2) (hH.lv (by decide)) (by decide) rfl eg3 (TX7_image.at 12 rfl) hH (by decide) (by omega) (show _ < ((2 : Nat) : Int) by omega) ?_
      rw [e.1]
      refine z_nst_2 (TX7_image.at 13 rfl) (by decide) rfl ?_
      refine z_nld_2 (TX7_image.at 14 rfl) ?_
      refine z_ifnnN (TX7_image.at 15 rfl) ?_
      refine z_newO (TX7_image.at 16 rfl) nw7_9 (by omega) (by show 16 ≤ _; omega) (fun b h1 hn e1 e2 => ?_)
      show Z l MX7_image d _ _ _ _ _ _ h1 _ (_ - 16)
      refine z_dup rfl (TX7_image.at 17 rfl) ?_
      refine z_invI0 (TX7_image.at 18 rfl) c7_11 (by omega) (by omega) (by omega) (Nat.le_of_ble_eq_true rfl) (i_X1 (by omega) e1) (fun v h2 hp => ?_)
      obtain ⟨rfl, ad, B⟩ := hp
      have hC := HC.fr (m := 4) hH (by omega) e.2.1 hn e2 B e.2.2
      have hY : YN E (eAdd E 4 b ad (cLn 1)) 4 b h := YN.mk hn (fun s hs => (e2 _ (B.1.2.2.2 s hs)).symm.trans (B.2.1 s hs))
      have e31 : (eAdd E 4 b ad (cLn 1)).1 31 = E.1 31 := rfl
      have e3 : (eAdd E 4 b ad (cLn 1)).1 3 = E.1 3 := rfl
      have em : (eAdd E 4 b ad (cLn 1)).1 159 = b := rfl
      have hvm : (eAdd E 4 b ad (cLn 1)).2.1 4 = true := eAdd_m
      have hv0 : (eAdd E 4 b ad (cLn 1)).2.1 0 = true := eAdd_v (hH.lv (by decide))
      have hl3 : (eAdd E 4 b ad (cLn 1)).2.2 3 = 2 := hH.2.2.2.2.1 3 (by decide)
      refine z_ast_2 (TX7_image.at 19 rfl) (by decide) rfl ?_
      refine z_ald_0 (TX7_image.at 20 rfl) ?_
      have hln : ∀ q, q / 32 ≠ 4 → (eAdd E 4 b ad (cLn 1)).2.2 q = E.2.2 q := fun q hq => eAdd_l hq
      generalize eAdd E 4 b ad (cLn 1) = E' at hC hY e31 e3 em hvm hv0 hl3 hln
      rw [← e31, ← em]
      refine zk_getA (m := 0) (s := 3) (k := 3) hv0 (TX7_image.at 21 rfl) fl7_22 hC rfl rfl (by decide) (by decide) ?_
      refine z_ild_1 (TX7_image.at 22 rfl) ?_
      refine z_ald_2 (TX7_image.at 23 rfl) ?_
      refine zk_aast (k := 3) (x := 4) (r := (RX1, TX1, 16)) hC hv0 hvm (TX7_image.at 24 rfl) (by decide) (by decide) rfl rfl (by omega) (by rw [hl3]; omega) (by omega) (fun h3 g3 u1 u2 hC3 u3 => ?_)
      refine sg_img4 (st := st) (f0 := fun q => if q / 32 = 4 then fI q else f q) (g0 := g3) (h0 := h3) (by omega) hvm (fun q q0 q1 => ?_) (fun r f' g' h' hr hq xf xg hH4 hA4 => ⟨r, rfl, hr, Or.inr ⟨by omega, hq.1, 4, E', (fun q => if q / 32 = 4 then fI q else f q), g3, (fun q => if q / 32 = 4 then (fun _ => 0) else j q), f', g', by omega, hH4, Or.inr ⟨b, hY⟩, hvm, fun x hxE hxn => ?_, hq.2.1, ⟨hln, Or.inr (fun i => by show g3 142 i = -1; rw [u1 142 (by decide)]; show gI 142 i = -1; unfold gI; rw [if_neg (by decide), if_neg (by decide), if_pos (by decide)])⟩, fun q hq => if_neg hq, fun q hq q3 => (u1 q q3).trans (if_neg hq), u2.trans (by rw [if_neg (by decide)]), fun q hq => if_neg hq, hq.2.2, fun q hq q16 => xf q (fun z => ?_), fun q hq => xg q (fun z => ?_)⟩⟩) (show (if 16 / 32 = 4 then fI 16 else f 16) = st from ef16) eqx.rf eqx.rf hC3 cAg.refl
      · rw [u1 46 (by decide)]
        show okR E' 4 (g 46 q)
        exact (hOK q q0 q1).mono hY.2.2.1
      · have a2 : ∀ k, cUse E' k → x ≠ E'.1 k := fun k hk ee => by
          rcases hY.2.2.2.2.2 k hk with ⟨z1, z2⟩ | z
          · exact hxE k z1 (ee.trans z2)
          · rw [← ee] at z; exact hxn z
        have a3 : x ≠ b := fun ee => hxn (by rw [ee]; exact hn)
        have a4 : ∀ s, cTg 1 s < 6 → x ≠ ad s := fun s hs ee => hxn (by rw [ee]; exact (e2 _ (B.1.2.2.2 s hs)).symm.trans (B.2.1 s hs))
        rw [hA4 x a2, u3 x (a2 3 ⟨hv0, Or.inl (by decide)⟩), B.2.2 x a3 a4, e2 x a3]
      · simp only [List.mem_cons, List.not_mem_nil, or_false] at z; omega
      · simp only [List.mem_cons, List.not_mem_nil, or_false] at z; omega
    · refine zkf_aald (k := 3) (N := 2) (hH.lv (by decide)) (by decide) rfl eg3 (TX7_image.at 12 rfl) hH (by decide) (by omega) (show _ < ((2 : Nat) : Int) by omega) ?_
      rw [e.1]
      show Z l MX7_image d _ _ _ _ _ [.ref (E.1 159)] h _ _
      refine z_ast_2 (TX7_image.at 13 rfl) (by decide) rfl ?_
      refine z_ald_2 (TX7_image.at 14 rfl) ?_
      refine z_ifnn (tgt := 41) (TX7_image.at 15 rfl) rfl ?_
      refine sg_img4 (st := st) (f0 := f) (g0 := g) (h0 := h) (by omega) e.2 hOK (fun r f' g' h' hr hq xf xg hH4 hA4 => ⟨r, rfl, hr, Or.inr ⟨by omega, hq.1, 4, E, f, g, j, f', g', by omega, hH4, Or.inl rfl, e.2, fun x hxE hxn => hA4 x hxE, hq.2.1, ⟨fun q _ => rfl, Or.inl ⟨rfl, rfl⟩⟩, fun q _ => rfl, fun q _ _ => rfl, ?_, fun q _ => rfl, hq.2.2, fun q hq q16 => xf q (fun z => ?_), fun q hq => xg q (fun z => ?_)⟩⟩) ef16 eqx.rf eqx.rf hH cAg.refl
      · funext t
        by_cases z : t = 0
        · rw [z, iu_self, eg3]; exact e.1
        · rw [iu_ne z]
      · simp only [List.mem_cons, List.not_mem_nil, or_false] at z; omega
      · simp only [List.mem_cons, List.not_mem_nil, or_false] at z; omega
  · subst ek
    rcases hX 1 (by omega) (by omega) with e | e
    · refine zkf_aald (k := 3) (N := 2) (hH.lv (by decide)) (by decide) rfl eg3 (TX7_image.at 12 rfl) hH (by decide) (by omega) (show _ < ((2 : Nat) : Int) by omega) ?_
      rw [e.1]
      refine z_nst_2 (TX7_image.at 13 rfl) (by decide) rfl ?_
      refine z_nld_2 (TX7_image.at 14 rfl) ?_
      refine z_ifnnN (TX7_image.at 15 rfl) ?_
      refine z_newO (TX7_image.at 16 rfl) nw7_9 (by omega) (by show 16 ≤ _; omega) (fun b h1 hn e1 e2 => ?_)
      show Z l MX7_image d _ _ _ _ _ _ h1 _ (_ - 16)
      refine z_dup rfl (TX7_image.at 17 rfl) ?_
      refine z_invI0 (TX7_image.at 18 rfl) c7_11 (by omega) (by omega) (by omega) (Nat.le_of_ble_eq_true rfl) (i_X1 (by omega) e1) (fun v h2 hp => ?_)
      obtain ⟨rfl, ad, B⟩ := hp
      have hC := HC.fr (m := 5) hH (by omega) e.2.1 hn e2 B e.2.2
      have hY : YN E (eAdd E 5 b ad (cLn 1)) 5 b h := YN.mk hn (fun s hs => (e2 _ (B.1.2.2.2 s hs)).symm.trans (B.2.1 s hs))
      have e31 : (eAdd E 5 b ad (cLn 1)).1 31 = E.1 31 := rfl
      have e3 : (eAdd E 5 b ad (cLn 1)).1 3 = E.1 3 := rfl
      have em : (eAdd E 5 b ad (cLn 1)).1 191 = b := rfl
      have hvm : (eAdd E 5 b ad (cLn 1)).2.1 5 = true := eAdd_m
      have hv0 : (eAdd E 5 b ad (cLn 1)).2.1 0 = true := eAdd_v (hH.lv (by decide))
      have hl3 : (eAdd E 5 b ad (cLn 1)).2.2 3 = 2 := hH.2.2.2.2.1 3 (by decide)
      refine z_ast_2 (TX7_image.at 19 rfl) (by decide) rfl ?_
      refine z_ald_0 (TX7_image.at 20 rfl) ?_
      have hln : ∀ q, q / 32 ≠ 5 → (eAdd E 5 b ad (cLn 1)).2.2 q = E.2.2 q := fun q hq => eAdd_l hq
      generalize eAdd E 5 b ad (cLn 1) = E' at hC hY e31 e3 em hvm hv0 hl3 hln
      rw [← e31, ← em]
      refine zk_getA (m := 0) (s := 3) (k := 3) hv0 (TX7_image.at 21 rfl) fl7_22 hC rfl rfl (by decide) (by decide) ?_
      refine z_ild_1 (TX7_image.at 22 rfl) ?_
      refine z_ald_2 (TX7_image.at 23 rfl) ?_
      refine zk_aast (k := 3) (x := 5) (r := (RX1, TX1, 16)) hC hv0 hvm (TX7_image.at 24 rfl) (by decide) (by decide) rfl rfl (by omega) (by rw [hl3]; omega) (by omega) (fun h3 g3 u1 u2 hC3 u3 => ?_)
      refine sg_img5 (st := st) (f0 := fun q => if q / 32 = 5 then fI q else f q) (g0 := g3) (h0 := h3) (by omega) hvm (fun q q0 q1 => ?_) (fun r f' g' h' hr hq xf xg hH4 hA4 => ⟨r, rfl, hr, Or.inr ⟨by omega, hq.1, 5, E', (fun q => if q / 32 = 5 then fI q else f q), g3, (fun q => if q / 32 = 5 then (fun _ => 0) else j q), f', g', by omega, hH4, Or.inr ⟨b, hY⟩, hvm, fun x hxE hxn => ?_, hq.2.1, ⟨hln, Or.inr (fun i => by show g3 174 i = -1; rw [u1 174 (by decide)]; show gI 174 i = -1; unfold gI; rw [if_neg (by decide), if_neg (by decide), if_pos (by decide)])⟩, fun q hq => if_neg hq, fun q hq q3 => (u1 q q3).trans (if_neg hq), u2.trans (by rw [if_neg (by decide)]), fun q hq => if_neg hq, hq.2.2, fun q hq q16 => xf q (fun z => ?_), fun q hq => xg q (fun z => ?_)⟩⟩) (show (if 16 / 32 = 5 then fI 16 else f 16) = st from ef16) eqx.rf eqx.rf hC3 cAg.refl
      · rw [u1 46 (by decide)]
        show okR E' 4 (g 46 q)
        exact (hOK q q0 q1).mono hY.2.2.1
      · have a2 : ∀ k, cUse E' k → x ≠ E'.1 k := fun k hk ee => by
          rcases hY.2.2.2.2.2 k hk with ⟨z1, z2⟩ | z
          · exact hxE k z1 (ee.trans z2)
          · rw [← ee] at z; exact hxn z
        have a3 : x ≠ b := fun ee => hxn (by rw [ee]; exact hn)
        have a4 : ∀ s, cTg 1 s < 6 → x ≠ ad s := fun s hs ee => hxn (by rw [ee]; exact (e2 _ (B.1.2.2.2 s hs)).symm.trans (B.2.1 s hs))
        rw [hA4 x a2, u3 x (a2 3 ⟨hv0, Or.inl (by decide)⟩), B.2.2 x a3 a4, e2 x a3]
      · simp only [List.mem_cons, List.not_mem_nil, or_false] at z; omega
      · simp only [List.mem_cons, List.not_mem_nil, or_false] at z; omega
    · refine zkf_aald (k := 3) (N := 2) (hH.lv (by decide)) (by decide) rfl eg3 (TX7_image.at 12 rfl) hH (by decide) (by omega) (show _ < ((2 : Nat) : Int) by omega) ?_
      rw [e.1]
      show Z l MX7_image d _ _ _ _ _ [.ref (E.1 191)] h _ _
      refine z_ast_2 (TX7_image.at 13 rfl) (by decide) rfl ?_
      refine z_ald_2 (TX7_image.at 14 rfl) ?_
      refine z_ifnn (tgt := 41) (TX7_image.at 15 rfl) rfl ?_
      refine sg_img5 (st := st) (f0 := f) (g0 := g) (h0 := h) (by omega) e.2 hOK (fun r f' g' h' hr hq xf xg hH4 hA4 => ⟨r, rfl, hr, Or.inr ⟨by omega, hq.1, 5, E, f, g, j, f', g', by omega, hH4, Or.inl rfl, e.2, fun x hxE hxn => hA4 x hxE, hq.2.1, ⟨fun q _ => rfl, Or.inl ⟨rfl, rfl⟩⟩, fun q _ => rfl, fun q _ _ => rfl, ?_, fun q _ => rfl, hq.2.2, fun q hq q16 => xf q (fun z => ?_), fun q hq => xg q (fun z => ?_)⟩⟩) ef16 eqx.rf eqx.rf hH cAg.refl
      · funext t
        by_cases z : t = 1
        · rw [z, iu_self, eg3]; exact e.1
        · rw [iu_ne z]
      · simp only [List.mem_cons, List.not_mem_nil, or_false] at z; omega
      · simp only [List.mem_cons, List.not_mem_nil, or_false] at z; omega

