/-- one clause: what told becomes -/
def tellS (head lo hi vb : Int) (z : Option Int) (so : Bool) (w : Int) : Int := if vb = head ∧ so = true then (match z with
      | none => w
      | some z => if z < lo then lo else if z > hi then hi else z) else w
theorem tellS_no {head lo hi vb : Int} {z : Option Int} {so : Bool} {w : Int} (h : ¬ (vb = head ∧ so = true ∧ z ≠ none)) : tellS head lo hi vb z so w = w := by
  unfold tellS
  split
  · rename_i h1
    cases z with
    | none => rfl
    | some x => exact absurd ⟨h1.1, h1.2, by simp⟩ h
  · rfl
theorem tellS_yes {head lo hi vb x : Int} {z : Option Int} {so : Bool} {w : Int} (h1 : vb = head) (h2 : so = true) (h3 : z = some x) : tellS head lo hi vb z so w = if x < lo then lo else if x > hi then hi else x := by
  subst h3
  unfold tellS
  rw [if_pos ⟨h1, h2⟩]
theorem ev_1 {z : Option Int} : (evB 1 0 z = 0 ∧ ∃ x, z = some x ∧ evV 1 0 z = x) ∨ (evB 1 0 z = 1 ∧ z = none) := by
  cases z with
  | none => exact Or.inr ⟨rfl, rfl⟩
  | some x => exact Or.inl ⟨rfl, x, rfl, rfl⟩
set_option maxHeartbeats 4000000 in
set_option maxRecDepth 100000 in
theorem tl_SI {l : Launch} {o : Nat} {ar : Nat → Nat} {d : Nat} {Pz : Option Value → zH → Prop} {h0 h : zH} {f0 f : mF} {g0 g j : mA} {K φ X26 : Int → Int} {b nt head lo hi wo w y24 : Int} {t p t1 p1 t2 p2 : Nat} {k1 k2 : Den} {o7 o8 o9 o10 o11 : Option Value} (hd : 45 ≤ d) (b0 : 0 ≤ b) (bn : b + nt ≤ 2800) (n4 : nt ≤ 400) (n0 : 0 ≤ K 76) (n1 : K 76 ≤ 10) (hd0 : ∀ i, 0 ≤ i → i < K 76 → K i = 0 ∨ K i = 1) (hh : zIn head) (hlo : zIn lo) (hhi : zIn hi) (hlh : lo ≤ hi) (hw : zIn w) (tn : (t : Int) < nt) (hφ : ∀ a, 0 ≤ a → a ≤ 8 → X26 a = φ a) (hvb : cK K b nt t = 1 ∨ cK K b nt t = 2) (hs : pSumD true (cK K b nt) (vK K b) 8 (t + 1) p = .ok (t1, p1, k1)) (t1n : (t1 : Int) ≤ nt) (hif : cK K b nt ((t1 : Nat) : Int) = 4) (hq : pTestD true (cK K b nt) (vK K b) 8 (t1 + 1) p1 = .ok (t2, p2, k2)) (t2n : (t2 : Int) ≤ nt) (kx : ∀ (w2 : Int) (o7 o8 o9 o10 o11 : Option Value) (f : mF) (g : mA) (h : zH), w2 = tellS head lo hi (cK K b nt t) (k1 φ) (k2 φ == some 1) w → zIn w2 → f 22 = b + ((t2 : Nat) : Int) + 1 → f 23 = b + nt → f 25 = 0 → g 2 = K → g 26 = X26 → eqx [22, 23, 24, 25] f0 f → eqx [] g0 g → HM o ar f g j h → zAg o ar h0 h → Z l MX8_tells d 0 0 Pz 63 [some (.ref o), some (vI head), some (vI lo), some (vI hi), some (vI wo), some (vL w2), none, o7, o8, o9, o10, o11] [] h 0 0) (eg2 : g 2 = K) (eg26 : g 26 = X26) (ef22 : f 22 = b + t) (ef23 : f 23 = b + nt) (ef24 : f 24 = y24) (ef25 : f 25 = 0) (hfE : eqx [22, 23, 24, 25] f0 f) (hgE : eqx [] g0 g) (hH : HM o ar f g j h) (hA : zAg o ar h0 h) : Z l MX8_tells d 0 0 Pz 74 [some (.ref o), some (vI head), some (vI lo), some (vI hi), some (vI wo), some (vL w), none, o7, o8, o9, o10, o11] [] h 0 0 := by
  refine z_ald_0 (TX8_tells_1.at 1 rfl) ?_
  refine z_ald_0 (TX8_tells_1.at 2 rfl) ?_
  refine zm_getIE ef22 (TX8_tells_1.at 3 rfl) fl8_260 hH rfl (by decide) (fun r76 => ?_)
  refine zm_callI1 (m_codeAt eg2 ef23 (by omega) (by omega) (by omega)) (TX8_tells_1.at 4 rfl) c8_263 rfl rfl hH hA (by omega) (Nat.le_of_ble_eq_true rfl) (fun x79 f79 g79 j79 h r79 q79 hH hA => ?_)
  obtain ⟨q79, xf, xg, xj⟩ := q79
  rw [xj] at hH
  have ef22 := (xf 22 (by decide)).trans ef22
  have ef23 := (xf 23 (by decide)).trans ef23
  have ef24 := (xf 24 (by decide)).trans ef24
  have ef25 := (xf 25 (by decide)).trans ef25
  have hfE := hfE.trans xf (by decide)
  have eg2 := (xg 2 (by decide)).trans eg2
  have eg26 := (xg 26 (by decide)).trans eg26
  have hgE := hgE.trans xg (by decide)
  have qL := q79
  obtain rfl := qL
  rw [cK_at] at r79 ⊢
  refine z_ist_7 (TX8_tells_1.at 5 rfl) (Nat.le_of_ble_eq_true rfl) rfl ?_
  refine z_ald_0 (TX8_tells_1.at 6 rfl) ?_
  refine z_iconst (TX8_tells_1.at 7 rfl) ?_
  refine zm_putZE (TX8_tells_1.at 8 rfl) fp8_270 hH hA rfl (by decide) (by first | omega | exact b2i_01 _) (fun h f86 e1 e2 hH hA => ?_)
  have ef22 := (e1 22 (by decide)).trans ef22
  have ef23 := (e1 23 (by decide)).trans ef23
  have ef24 := e2
  have ef25 := (e1 25 (by decide)).trans ef25
  have hfE := hfE.put e1 (by decide)
  refine z_ald_0 (TX8_tells_1.at 9 rfl) ?_
  refine z_dup rfl (TX8_tells_1.at 10 rfl) ?_
  refine zm_getIE ef22 (TX8_tells_1.at 11 rfl) fl8_260 hH rfl (by decide) (fun r91 => ?_)
  refine z_iconst (TX8_tells_1.at 12 rfl) ?_
  refine z_iadd (TX8_tells_1.at 13 rfl) ?_
  refine zm_putIE (TX8_tells_1.at 14 rfl) fp8_260 hH hA rfl (by decide) (by first | omega | exact b2i_01 _) (fun h f96 e1 e2 hH hA => ?_)
  have ef22 := e2
  have ef23 := (e1 23 (by decide)).trans ef23
  have ef24 := (e1 24 (by decide)).trans ef24
  have ef25 := (e1 25 (by decide)).trans ef25
  have hfE := hfE.put e1 (by decide)
  refine z_ild_7 (TX8_tells_1.at 15 rfl) ?_
  refine z_iconst (TX8_tells_1.at 16 rfl) ?_
  refine z_icmp_ne (tgt := 109) (TX8_tells_1.at 17 rfl) rfl (by omega) (by omega) (fun c1 => ?_) (fun c1 => absurd c1 (by omega))
  refine z_ald_0 (TX8_tells_1.at 20 rfl) ?_
  refine z_iconst (TX8_tells_1.at 21 rfl) ?_
  refine zm_callL1 (ev_sumD b0 bn n4 n0 n1 hd0 8 1 0 (t + 1) p t1 p1 k1 _ _ _ (Or.inr rfl) (Or.inl rfl) eg2 (by rw [ef22]; push_cast; omega) ef23 ef24 (show FOK true K _ _ φ from ⟨ef25, by rw [eg26]; exact hφ⟩) (by push_cast; omega) hs) (TX8_tells_1.at 22 rfl) c8_287 rfl rfl hH hA (by omega) (Nat.le_of_ble_eq_true rfl) (fun x111 f111 g111 j111 h r111 q111 hH hA => ?_)
  obtain ⟨q111, xf, xg, xj⟩ := q111
  rw [xj] at hH
  have ef23 := (xf 23 (by decide)).trans ef23
  have ef25 := (xf 25 (by decide)).trans ef25
  have hfE := hfE.trans xf (by decide)
  have eg2 := (xg 2 (by decide)).trans eg2
  have eg26 := (xg 26 (by decide)).trans eg26
  have hgE := hgE.trans xg (by decide)
  have qL := q111
  obtain ⟨rfl, ef24, ef22, rs⟩ := qL
  have ez1 := ev_1 (z := k1 φ)
  refine z_lst_8 (TX8_tells_1.at 23 rfl) (Nat.le_of_ble_eq_true rfl) rfl ?_
  refine z_ald_0 (TX8_tells_1.at 24 rfl) ?_
  refine zm_getIE ef24 (TX8_tells_1.at 25 rfl) fl8_270 hH rfl (by decide) (fun r117 => ?_)
  refine z_ist_10 (TX8_tells_1.at 26 rfl) (Nat.le_of_ble_eq_true rfl) rfl ?_
  refine z_ald_0 (TX8_tells_1.at 27 rfl) ?_
  refine z_iconst (TX8_tells_1.at 28 rfl) ?_
  refine zm_putZE (TX8_tells_1.at 29 rfl) fp8_270 hH hA rfl (by decide) (by first | omega | exact b2i_01 _) (fun h f124 e1 e2 hH hA => ?_)
  have ef22 := (e1 22 (by decide)).trans ef22
  have ef23 := (e1 23 (by decide)).trans ef23
  have ef24 := e2
  have ef25 := (e1 25 (by decide)).trans ef25
  have hfE := hfE.put e1 (by decide)
  refine z_ald_0 (TX8_tells_1.at 30 rfl) ?_
  refine z_iconst (TX8_tells_1.at 31 rfl) ?_
  refine zm_callI1 (m_passes0 (t := ((t1 : Nat) : Int)) eg2 ef22 ef23 (by omega) (by push_cast; omega) rfl b0 (by omega) bn (by push_cast; omega)) (TX8_tells_1.at 32 rfl) c8_284 rfl rfl hH hA (by omega) (Nat.le_of_ble_eq_true rfl) (fun x129 f129 g129 j129 h r129 q129 hH hA => ?_)
  obtain ⟨q129, xf, xg, xj⟩ := q129
  rw [xj] at hH
  have ef23 := (xf 23 (by decide)).trans ef23
  have ef24 := (xf 24 (by decide)).trans ef24
  have ef25 := (xf 25 (by decide)).trans ef25
  have hfE := hfE.trans xf (by decide)
  have eg2 := (xg 2 (by decide)).trans eg2
  have eg26 := (xg 26 (by decide)).trans eg26
  have hgE := hgE.trans xg (by decide)
  have qL := q129
  obtain ⟨rfl, ef22⟩ := qL
  rw [b2i_t hif] at ef22
  refine z_if_eqB (tgt := 143) (TX8_tells_1.at 33 rfl) rfl (fun c2 => absurd c2 (by exact fun q => q hif)) (fun c2 => ?_)
  refine z_ald_0 (TX8_tells_1.at 34 rfl) ?_
  refine z_iconst (TX8_tells_1.at 35 rfl) ?_
  refine zm_callI1 (ev_testD b0 bn n4 n0 n1 hd0 8 1 0 (t1 + 1) p1 t2 p2 k2 _ _ _ (Or.inr rfl) (Or.inl rfl) eg2 (by rw [ef22]; push_cast; omega) ef23 ef24 (show FOK true K _ _ φ from ⟨ef25, by rw [eg26]; exact hφ⟩) (by push_cast; have := cK_nz (K := K) (b := b) (nt := nt) t1 (by omega); push_cast at this; omega) hq) (TX8_tells_1.at 36 rfl) c8_317 rfl rfl hH hA (by omega) (Nat.le_of_ble_eq_true rfl) (fun x137 f137 g137 j137 h r137 q137 hH hA => ?_)
  obtain ⟨q137, xf, xg, xj⟩ := q137
  rw [xj] at hH
  have ef23 := (xf 23 (by decide)).trans ef23
  have ef25 := (xf 25 (by decide)).trans ef25
  have hfE := hfE.trans xf (by decide)
  have eg2 := (xg 2 (by decide)).trans eg2
  have eg26 := (xg 26 (by decide)).trans eg26
  have hgE := hgE.trans xg (by decide)
  have qL := q137
  obtain ⟨rt, ef24, ef22, ht⟩ := qL
  have ez2 := ev_1 (z := k2 φ)
  have ht := ht rfl rfl
  refine z_if_eq (tgt := 147) (TX8_tells_1.at 37 rfl) rfl (by omega) (fun c3 => ?_) (fun c3 => ?_)
  · skip
    refine z_iconst (TX8_tells_2.at 0 rfl) ?_
    refine z_ist_11 (TX8_tells_2.at 1 rfl) (Nat.le_of_ble_eq_true rfl) rfl ?_
    refine z_ild_7 (TX8_tells_2.at 2 rfl) ?_
    refine z_ild_1 (TX8_tells_2.at 3 rfl) ?_
    refine z_icmp_ne (tgt := 203) (TX8_tells_2.at 4 rfl) rfl (by omega) (by omega) (fun c4 => ?_) (fun c4 => ?_)
    · skip
      refine z_ald_0 (TX8_tells_2.at 30 rfl) ?_
      refine z_dup rfl (TX8_tells_2.at 31 rfl) ?_
      refine zm_getIE ef22 (TX8_tells_2.at 32 rfl) fl8_260 hH rfl (by decide) (fun r205 => ?_)
      refine z_iconst (TX8_tells_2.at 33 rfl) ?_
      refine z_iadd (TX8_tells_2.at 34 rfl) ?_
      refine zm_putIE (TX8_tells_2.at 35 rfl) fp8_260 hH hA rfl (by decide) (by first | omega | exact b2i_01 _) (fun h f210 e1 e2 hH hA => ?_)
      have ef22 := e2
      have ef23 := (e1 23 (by decide)).trans ef23
      have ef24 := (e1 24 (by decide)).trans ef24
      have ef25 := (e1 25 (by decide)).trans ef25
      have hfE := hfE.put e1 (by decide)
      refine z_goto (tgt := 63) (TX8_tells_2.at 36 rfl) rfl ?_
      first | (have hz : cK K b nt t ≠ head := (by omega); exact kx _ _ _ _ _ _ _ _ _ (tellS_no (fun q => absurd q.1 (by omega))).symm (by omega) ef22 ef23 ef25 eg2 eg26 hfE hgE hH hA) | (have hz : evB 1 0 (k1 φ) ≠ 0 := (by omega); exact kx _ _ _ _ _ _ _ _ _ (tellS_no (fun q => q.2.2 (by rcases ez1 with ⟨h1, -⟩ | ⟨-, h2⟩ <;> first | exact h2 | (exfalso; omega)))).symm (by omega) ef22 ef23 ef25 eg2 eg26 hfE hgE hH hA) | (have hz : x137 = 0 ∨ evB 1 0 (k2 φ) ≠ 0 := (by omega); exact kx _ _ _ _ _ _ _ _ _ (tellS_no (fun q => by have q1 := ht 1 (eq_of_beq q.2.1); have q2 := eq_of_beq q.2.1; rcases ez2 with ⟨h1, -⟩ | ⟨-, h2⟩ <;> first | (exfalso; omega) | (rw [h2] at q2; cases q2))).symm (by omega) ef22 ef23 ef25 eg2 eg26 hfE hgE hH hA) | (skip; exact kx _ _ _ _ _ _ _ _ _ (by rcases ez1 with ⟨-, x, hx, hv⟩ | ⟨h1, -⟩ <;> first | (exfalso; omega) | (rw [tellS_yes (x := x) (by omega) (by rcases ez2 with ⟨-, x, hx, -⟩ | ⟨h1, -⟩ <;> first | (exfalso; omega) | (have q1 := ht x hx; rw [hx, show x = 1 by omega]; rfl)) hx]; first | (rw [if_pos (by omega)]; done) | (rw [if_neg (by omega), if_pos (by omega)]; done) | (rw [if_neg (by omega), if_neg (by omega)]; done) | (rw [if_neg (by omega), if_neg (by omega)]; exact hv))) (by omega) ef22 ef23 ef25 eg2 eg26 hfE hgE hH hA)
    · skip
      refine z_ild_11 (TX8_tells_2.at 5 rfl) ?_
      refine z_if_eq (tgt := 203) (TX8_tells_2.at 6 rfl) rfl (by decide) (fun c5 => ?_) (fun c5 => absurd c5 (by decide))
      refine z_ald_0 (TX8_tells_2.at 30 rfl) ?_
      refine z_dup rfl (TX8_tells_2.at 31 rfl) ?_
      refine zm_getIE ef22 (TX8_tells_2.at 32 rfl) fl8_260 hH rfl (by decide) (fun r205 => ?_)
      refine z_iconst (TX8_tells_2.at 33 rfl) ?_
      refine z_iadd (TX8_tells_2.at 34 rfl) ?_
      refine zm_putIE (TX8_tells_2.at 35 rfl) fp8_260 hH hA rfl (by decide) (by first | omega | exact b2i_01 _) (fun h f210 e1 e2 hH hA => ?_)
      have ef22 := e2
      have ef23 := (e1 23 (by decide)).trans ef23
      have ef24 := (e1 24 (by decide)).trans ef24
      have ef25 := (e1 25 (by decide)).trans ef25
      have hfE := hfE.put e1 (by decide)
      refine z_goto (tgt := 63) (TX8_tells_2.at 36 rfl) rfl ?_
      first | (have hz : cK K b nt t ≠ head := (by omega); exact kx _ _ _ _ _ _ _ _ _ (tellS_no (fun q => absurd q.1 (by omega))).symm (by omega) ef22 ef23 ef25 eg2 eg26 hfE hgE hH hA) | (have hz : evB 1 0 (k1 φ) ≠ 0 := (by omega); exact kx _ _ _ _ _ _ _ _ _ (tellS_no (fun q => q.2.2 (by rcases ez1 with ⟨h1, -⟩ | ⟨-, h2⟩ <;> first | exact h2 | (exfalso; omega)))).symm (by omega) ef22 ef23 ef25 eg2 eg26 hfE hgE hH hA) | (have hz : x137 = 0 ∨ evB 1 0 (k2 φ) ≠ 0 := (by omega); exact kx _ _ _ _ _ _ _ _ _ (tellS_no (fun q => by have q1 := ht 1 (eq_of_beq q.2.1); have q2 := eq_of_beq q.2.1; rcases ez2 with ⟨h1, -⟩ | ⟨-, h2⟩ <;> first | (exfalso; omega) | (rw [h2] at q2; cases q2))).symm (by omega) ef22 ef23 ef25 eg2 eg26 hfE hgE hH hA) | (skip; exact kx _ _ _ _ _ _ _ _ _ (by rcases ez1 with ⟨-, x, hx, hv⟩ | ⟨h1, -⟩ <;> first | (exfalso; omega) | (rw [tellS_yes (x := x) (by omega) (by rcases ez2 with ⟨-, x, hx, -⟩ | ⟨h1, -⟩ <;> first | (exfalso; omega) | (have q1 := ht x hx; rw [hx, show x = 1 by omega]; rfl)) hx]; first | (rw [if_pos (by omega)]; done) | (rw [if_neg (by omega), if_pos (by omega)]; done) | (rw [if_neg (by omega), if_neg (by omega)]; done) | (rw [if_neg (by omega), if_neg (by omega)]; exact hv))) (by omega) ef22 ef23 ef25 eg2 eg26 hfE hgE hH hA)
  · skip
    refine z_iconst (TX8_tells_1.at 38 rfl) ?_
    refine z_goto (tgt := 148) (TX8_tells_1.at 39 rfl) rfl ?_
    refine z_ist_11 (TX8_tells_2.at 1 rfl) (Nat.le_of_ble_eq_true rfl) rfl ?_
    refine z_ild_7 (TX8_tells_2.at 2 rfl) ?_
    refine z_ild_1 (TX8_tells_2.at 3 rfl) ?_
    refine z_icmp_ne (tgt := 203) (TX8_tells_2.at 4 rfl) rfl (by omega) (by omega) (fun c6 => ?_) (fun c6 => ?_)
    · skip
      refine z_ald_0 (TX8_tells_2.at 30 rfl) ?_
      refine z_dup rfl (TX8_tells_2.at 31 rfl) ?_
      refine zm_getIE ef22 (TX8_tells_2.at 32 rfl) fl8_260 hH rfl (by decide) (fun r205 => ?_)
      refine z_iconst (TX8_tells_2.at 33 rfl) ?_
      refine z_iadd (TX8_tells_2.at 34 rfl) ?_
      refine zm_putIE (TX8_tells_2.at 35 rfl) fp8_260 hH hA rfl (by decide) (by first | omega | exact b2i_01 _) (fun h f210 e1 e2 hH hA => ?_)
      have ef22 := e2
      have ef23 := (e1 23 (by decide)).trans ef23
      have ef24 := (e1 24 (by decide)).trans ef24
      have ef25 := (e1 25 (by decide)).trans ef25
      have hfE := hfE.put e1 (by decide)
      refine z_goto (tgt := 63) (TX8_tells_2.at 36 rfl) rfl ?_
      first | (have hz : cK K b nt t ≠ head := (by omega); exact kx _ _ _ _ _ _ _ _ _ (tellS_no (fun q => absurd q.1 (by omega))).symm (by omega) ef22 ef23 ef25 eg2 eg26 hfE hgE hH hA) | (have hz : evB 1 0 (k1 φ) ≠ 0 := (by omega); exact kx _ _ _ _ _ _ _ _ _ (tellS_no (fun q => q.2.2 (by rcases ez1 with ⟨h1, -⟩ | ⟨-, h2⟩ <;> first | exact h2 | (exfalso; omega)))).symm (by omega) ef22 ef23 ef25 eg2 eg26 hfE hgE hH hA) | (have hz : x137 = 0 ∨ evB 1 0 (k2 φ) ≠ 0 := (by omega); exact kx _ _ _ _ _ _ _ _ _ (tellS_no (fun q => by have q1 := ht 1 (eq_of_beq q.2.1); have q2 := eq_of_beq q.2.1; rcases ez2 with ⟨h1, -⟩ | ⟨-, h2⟩ <;> first | (exfalso; omega) | (rw [h2] at q2; cases q2))).symm (by omega) ef22 ef23 ef25 eg2 eg26 hfE hgE hH hA) | (skip; exact kx _ _ _ _ _ _ _ _ _ (by rcases ez1 with ⟨-, x, hx, hv⟩ | ⟨h1, -⟩ <;> first | (exfalso; omega) | (rw [tellS_yes (x := x) (by omega) (by rcases ez2 with ⟨-, x, hx, -⟩ | ⟨h1, -⟩ <;> first | (exfalso; omega) | (have q1 := ht x hx; rw [hx, show x = 1 by omega]; rfl)) hx]; first | (rw [if_pos (by omega)]; done) | (rw [if_neg (by omega), if_pos (by omega)]; done) | (rw [if_neg (by omega), if_neg (by omega)]; done) | (rw [if_neg (by omega), if_neg (by omega)]; exact hv))) (by omega) ef22 ef23 ef25 eg2 eg26 hfE hgE hH hA)
    · skip
      refine z_ild_11 (TX8_tells_2.at 5 rfl) ?_
      refine z_if_eq (tgt := 203) (TX8_tells_2.at 6 rfl) rfl (by decide) (fun c7 => absurd c7 (by decide)) (fun c7 => ?_)
      refine z_ald_0 (TX8_tells_2.at 7 rfl) ?_
      refine zm_getIE ef24 (TX8_tells_2.at 8 rfl) fl8_270 hH rfl (by decide) (fun r162 => ?_)
      refine z_if_ne (tgt := 203) (TX8_tells_2.at 9 rfl) rfl (by rcases ev_1 (z := k2 φ) with h | h <;> omega) (fun c8 => ?_) (fun c8 => ?_)
      · skip
        refine z_ald_0 (TX8_tells_2.at 30 rfl) ?_
        refine z_dup rfl (TX8_tells_2.at 31 rfl) ?_
        refine zm_getIE ef22 (TX8_tells_2.at 32 rfl) fl8_260 hH rfl (by decide) (fun r205 => ?_)
        refine z_iconst (TX8_tells_2.at 33 rfl) ?_
        refine z_iadd (TX8_tells_2.at 34 rfl) ?_
        refine zm_putIE (TX8_tells_2.at 35 rfl) fp8_260 hH hA rfl (by decide) (by first | omega | exact b2i_01 _) (fun h f210 e1 e2 hH hA => ?_)
        have ef22 := e2
        have ef23 := (e1 23 (by decide)).trans ef23
        have ef24 := (e1 24 (by decide)).trans ef24
        have ef25 := (e1 25 (by decide)).trans ef25
        have hfE := hfE.put e1 (by decide)
        refine z_goto (tgt := 63) (TX8_tells_2.at 36 rfl) rfl ?_
        first | (have hz : cK K b nt t ≠ head := (by omega); exact kx _ _ _ _ _ _ _ _ _ (tellS_no (fun q => absurd q.1 (by omega))).symm (by omega) ef22 ef23 ef25 eg2 eg26 hfE hgE hH hA) | (have hz : evB 1 0 (k1 φ) ≠ 0 := (by omega); exact kx _ _ _ _ _ _ _ _ _ (tellS_no (fun q => q.2.2 (by rcases ez1 with ⟨h1, -⟩ | ⟨-, h2⟩ <;> first | exact h2 | (exfalso; omega)))).symm (by omega) ef22 ef23 ef25 eg2 eg26 hfE hgE hH hA) | (have hz : x137 = 0 ∨ evB 1 0 (k2 φ) ≠ 0 := (by omega); exact kx _ _ _ _ _ _ _ _ _ (tellS_no (fun q => by have q1 := ht 1 (eq_of_beq q.2.1); have q2 := eq_of_beq q.2.1; rcases ez2 with ⟨h1, -⟩ | ⟨-, h2⟩ <;> first | (exfalso; omega) | (rw [h2] at q2; cases q2))).symm (by omega) ef22 ef23 ef25 eg2 eg26 hfE hgE hH hA) | (skip; exact kx _ _ _ _ _ _ _ _ _ (by rcases ez1 with ⟨-, x, hx, hv⟩ | ⟨h1, -⟩ <;> first | (exfalso; omega) | (rw [tellS_yes (x := x) (by omega) (by rcases ez2 with ⟨-, x, hx, -⟩ | ⟨h1, -⟩ <;> first | (exfalso; omega) | (have q1 := ht x hx; rw [hx, show x = 1 by omega]; rfl)) hx]; first | (rw [if_pos (by omega)]; done) | (rw [if_neg (by omega), if_pos (by omega)]; done) | (rw [if_neg (by omega), if_neg (by omega)]; done) | (rw [if_neg (by omega), if_neg (by omega)]; exact hv))) (by omega) ef22 ef23 ef25 eg2 eg26 hfE hgE hH hA)
      · skip
        refine z_ild_10 (TX8_tells_2.at 10 rfl) ?_
        refine z_if_ne (tgt := 203) (TX8_tells_2.at 11 rfl) rfl (by rcases ev_1 (z := k1 φ) with h | h <;> omega) (fun c9 => ?_) (fun c9 => ?_)
        · skip
          refine z_ald_0 (TX8_tells_2.at 30 rfl) ?_
          refine z_dup rfl (TX8_tells_2.at 31 rfl) ?_
          refine zm_getIE ef22 (TX8_tells_2.at 32 rfl) fl8_260 hH rfl (by decide) (fun r205 => ?_)
          refine z_iconst (TX8_tells_2.at 33 rfl) ?_
          refine z_iadd (TX8_tells_2.at 34 rfl) ?_
          refine zm_putIE (TX8_tells_2.at 35 rfl) fp8_260 hH hA rfl (by decide) (by first | omega | exact b2i_01 _) (fun h f210 e1 e2 hH hA => ?_)
          have ef22 := e2
          have ef23 := (e1 23 (by decide)).trans ef23
          have ef24 := (e1 24 (by decide)).trans ef24
          have ef25 := (e1 25 (by decide)).trans ef25
          have hfE := hfE.put e1 (by decide)
          refine z_goto (tgt := 63) (TX8_tells_2.at 36 rfl) rfl ?_
          first | (have hz : cK K b nt t ≠ head := (by omega); exact kx _ _ _ _ _ _ _ _ _ (tellS_no (fun q => absurd q.1 (by omega))).symm (by omega) ef22 ef23 ef25 eg2 eg26 hfE hgE hH hA) | (have hz : evB 1 0 (k1 φ) ≠ 0 := (by omega); exact kx _ _ _ _ _ _ _ _ _ (tellS_no (fun q => q.2.2 (by rcases ez1 with ⟨h1, -⟩ | ⟨-, h2⟩ <;> first | exact h2 | (exfalso; omega)))).symm (by omega) ef22 ef23 ef25 eg2 eg26 hfE hgE hH hA) | (have hz : x137 = 0 ∨ evB 1 0 (k2 φ) ≠ 0 := (by omega); exact kx _ _ _ _ _ _ _ _ _ (tellS_no (fun q => by have q1 := ht 1 (eq_of_beq q.2.1); have q2 := eq_of_beq q.2.1; rcases ez2 with ⟨h1, -⟩ | ⟨-, h2⟩ <;> first | (exfalso; omega) | (rw [h2] at q2; cases q2))).symm (by omega) ef22 ef23 ef25 eg2 eg26 hfE hgE hH hA) | (skip; exact kx _ _ _ _ _ _ _ _ _ (by rcases ez1 with ⟨-, x, hx, hv⟩ | ⟨h1, -⟩ <;> first | (exfalso; omega) | (rw [tellS_yes (x := x) (by omega) (by rcases ez2 with ⟨-, x, hx, -⟩ | ⟨h1, -⟩ <;> first | (exfalso; omega) | (have q1 := ht x hx; rw [hx, show x = 1 by omega]; rfl)) hx]; first | (rw [if_pos (by omega)]; done) | (rw [if_neg (by omega), if_pos (by omega)]; done) | (rw [if_neg (by omega), if_neg (by omega)]; done) | (rw [if_neg (by omega), if_neg (by omega)]; exact hv))) (by omega) ef22 ef23 ef25 eg2 eg26 hfE hgE hH hA)
        · skip
          refine z_lld_8 (TX8_tells_2.at 12 rfl) ?_
          refine z_ild_2 (TX8_tells_2.at 13 rfl) ?_
          refine z_i2l (by omega) (TX8_tells_2.at 14 rfl) ?_
          refine z_lif_ge (tgt := 186) (TX8_tells_2.at 15 rfl) (TX8_tells_2.at 16 rfl) rfl (by omega) (by omega) (fun c10 => ?_) (fun c10 => ?_)
          · skip
            refine z_lld_8 (TX8_tells_2.at 20 rfl) ?_
            refine z_ild_3 (TX8_tells_2.at 21 rfl) ?_
            refine z_i2l (by omega) (TX8_tells_2.at 22 rfl) ?_
            refine z_lif_le (tgt := 199) (TX8_tells_2.at 23 rfl) (TX8_tells_2.at 24 rfl) rfl (by omega) (by omega) (fun c11 => ?_) (fun c11 => ?_)
            · skip
              refine z_lld_8 (TX8_tells_2.at 28 rfl) ?_
              refine z_lst_5 (TX8_tells_2.at 29 rfl) (Nat.le_of_ble_eq_true rfl) rfl ?_
              refine z_ald_0 (TX8_tells_2.at 30 rfl) ?_
              refine z_dup rfl (TX8_tells_2.at 31 rfl) ?_
              refine zm_getIE ef22 (TX8_tells_2.at 32 rfl) fl8_260 hH rfl (by decide) (fun r205 => ?_)
              refine z_iconst (TX8_tells_2.at 33 rfl) ?_
              refine z_iadd (TX8_tells_2.at 34 rfl) ?_
              refine zm_putIE (TX8_tells_2.at 35 rfl) fp8_260 hH hA rfl (by decide) (by first | omega | exact b2i_01 _) (fun h f210 e1 e2 hH hA => ?_)
              have ef22 := e2
              have ef23 := (e1 23 (by decide)).trans ef23
              have ef24 := (e1 24 (by decide)).trans ef24
              have ef25 := (e1 25 (by decide)).trans ef25
              have hfE := hfE.put e1 (by decide)
              refine z_goto (tgt := 63) (TX8_tells_2.at 36 rfl) rfl ?_
              first | (have hz : cK K b nt t ≠ head := (by omega); exact kx _ _ _ _ _ _ _ _ _ (tellS_no (fun q => absurd q.1 (by omega))).symm (by omega) ef22 ef23 ef25 eg2 eg26 hfE hgE hH hA) | (have hz : evB 1 0 (k1 φ) ≠ 0 := (by omega); exact kx _ _ _ _ _ _ _ _ _ (tellS_no (fun q => q.2.2 (by rcases ez1 with ⟨h1, -⟩ | ⟨-, h2⟩ <;> first | exact h2 | (exfalso; omega)))).symm (by omega) ef22 ef23 ef25 eg2 eg26 hfE hgE hH hA) | (have hz : x137 = 0 ∨ evB 1 0 (k2 φ) ≠ 0 := (by omega); exact kx _ _ _ _ _ _ _ _ _ (tellS_no (fun q => by have q1 := ht 1 (eq_of_beq q.2.1); have q2 := eq_of_beq q.2.1; rcases ez2 with ⟨h1, -⟩ | ⟨-, h2⟩ <;> first | (exfalso; omega) | (rw [h2] at q2; cases q2))).symm (by omega) ef22 ef23 ef25 eg2 eg26 hfE hgE hH hA) | (skip; exact kx _ _ _ _ _ _ _ _ _ (by rcases ez1 with ⟨-, x, hx, hv⟩ | ⟨h1, -⟩ <;> first | (exfalso; omega) | (rw [tellS_yes (x := x) (by omega) (by rcases ez2 with ⟨-, x, hx, -⟩ | ⟨h1, -⟩ <;> first | (exfalso; omega) | (have q1 := ht x hx; rw [hx, show x = 1 by omega]; rfl)) hx]; first | (rw [if_pos (by omega)]; done) | (rw [if_neg (by omega), if_pos (by omega)]; done) | (rw [if_neg (by omega), if_neg (by omega)]; done) | (rw [if_neg (by omega), if_neg (by omega)]; exact hv))) (by omega) ef22 ef23 ef25 eg2 eg26 hfE hgE hH hA)
            · skip
              refine z_ild_3 (TX8_tells_2.at 25 rfl) ?_
              refine z_i2l (by omega) (TX8_tells_2.at 26 rfl) ?_
              refine z_goto (tgt := 201) (TX8_tells_2.at 27 rfl) rfl ?_
              refine z_lst_5 (TX8_tells_2.at 29 rfl) (Nat.le_of_ble_eq_true rfl) rfl ?_
              refine z_ald_0 (TX8_tells_2.at 30 rfl) ?_
              refine z_dup rfl (TX8_tells_2.at 31 rfl) ?_
              refine zm_getIE ef22 (TX8_tells_2.at 32 rfl) fl8_260 hH rfl (by decide) (fun r205 => ?_)
              refine z_iconst (TX8_tells_2.at 33 rfl) ?_
              refine z_iadd (TX8_tells_2.at 34 rfl) ?_
              refine zm_putIE (TX8_tells_2.at 35 rfl) fp8_260 hH hA rfl (by decide) (by first | omega | exact b2i_01 _) (fun h f210 e1 e2 hH hA => ?_)
              have ef22 := e2
              have ef23 := (e1 23 (by decide)).trans ef23
              have ef24 := (e1 24 (by decide)).trans ef24
              have ef25 := (e1 25 (by decide)).trans ef25
              have hfE := hfE.put e1 (by decide)
              refine z_goto (tgt := 63) (TX8_tells_2.at 36 rfl) rfl ?_
              first | (have hz : cK K b nt t ≠ head := (by omega); exact kx _ _ _ _ _ _ _ _ _ (tellS_no (fun q => absurd q.1 (by omega))).symm (by omega) ef22 ef23 ef25 eg2 eg26 hfE hgE hH hA) | (have hz : evB 1 0 (k1 φ) ≠ 0 := (by omega); exact kx _ _ _ _ _ _ _ _ _ (tellS_no (fun q => q.2.2 (by rcases ez1 with ⟨h1, -⟩ | ⟨-, h2⟩ <;> first | exact h2 | (exfalso; omega)))).symm (by omega) ef22 ef23 ef25 eg2 eg26 hfE hgE hH hA) | (have hz : x137 = 0 ∨ evB 1 0 (k2 φ) ≠ 0 := (by omega); exact kx _ _ _ _ _ _ _ _ _ (tellS_no (fun q => by have q1 := ht 1 (eq_of_beq q.2.1); have q2 := eq_of_beq q.2.1; rcases ez2 with ⟨h1, -⟩ | ⟨-, h2⟩ <;> first | (exfalso; omega) | (rw [h2] at q2; cases q2))).symm (by omega) ef22 ef23 ef25 eg2 eg26 hfE hgE hH hA) | (skip; exact kx _ _ _ _ _ _ _ _ _ (by rcases ez1 with ⟨-, x, hx, hv⟩ | ⟨h1, -⟩ <;> first | (exfalso; omega) | (rw [tellS_yes (x := x) (by omega) (by rcases ez2 with ⟨-, x, hx, -⟩ | ⟨h1, -⟩ <;> first | (exfalso; omega) | (have q1 := ht x hx; rw [hx, show x = 1 by omega]; rfl)) hx]; first | (rw [if_pos (by omega)]; done) | (rw [if_neg (by omega), if_pos (by omega)]; done) | (rw [if_neg (by omega), if_neg (by omega)]; done) | (rw [if_neg (by omega), if_neg (by omega)]; exact hv))) (by omega) ef22 ef23 ef25 eg2 eg26 hfE hgE hH hA)
          · skip
            refine z_ild_2 (TX8_tells_2.at 17 rfl) ?_
            refine z_i2l (by omega) (TX8_tells_2.at 18 rfl) ?_
            refine z_goto (tgt := 201) (TX8_tells_2.at 19 rfl) rfl ?_
            refine z_lst_5 (TX8_tells_2.at 29 rfl) (Nat.le_of_ble_eq_true rfl) rfl ?_
            refine z_ald_0 (TX8_tells_2.at 30 rfl) ?_
            refine z_dup rfl (TX8_tells_2.at 31 rfl) ?_
            refine zm_getIE ef22 (TX8_tells_2.at 32 rfl) fl8_260 hH rfl (by decide) (fun r205 => ?_)
            refine z_iconst (TX8_tells_2.at 33 rfl) ?_
            refine z_iadd (TX8_tells_2.at 34 rfl) ?_
            refine zm_putIE (TX8_tells_2.at 35 rfl) fp8_260 hH hA rfl (by decide) (by first | omega | exact b2i_01 _) (fun h f210 e1 e2 hH hA => ?_)
            have ef22 := e2
            have ef23 := (e1 23 (by decide)).trans ef23
            have ef24 := (e1 24 (by decide)).trans ef24
            have ef25 := (e1 25 (by decide)).trans ef25
            have hfE := hfE.put e1 (by decide)
            refine z_goto (tgt := 63) (TX8_tells_2.at 36 rfl) rfl ?_
            first | (have hz : cK K b nt t ≠ head := (by omega); exact kx _ _ _ _ _ _ _ _ _ (tellS_no (fun q => absurd q.1 (by omega))).symm (by omega) ef22 ef23 ef25 eg2 eg26 hfE hgE hH hA) | (have hz : evB 1 0 (k1 φ) ≠ 0 := (by omega); exact kx _ _ _ _ _ _ _ _ _ (tellS_no (fun q => q.2.2 (by rcases ez1 with ⟨h1, -⟩ | ⟨-, h2⟩ <;> first | exact h2 | (exfalso; omega)))).symm (by omega) ef22 ef23 ef25 eg2 eg26 hfE hgE hH hA) | (have hz : x137 = 0 ∨ evB 1 0 (k2 φ) ≠ 0 := (by omega); exact kx _ _ _ _ _ _ _ _ _ (tellS_no (fun q => by have q1 := ht 1 (eq_of_beq q.2.1); have q2 := eq_of_beq q.2.1; rcases ez2 with ⟨h1, -⟩ | ⟨-, h2⟩ <;> first | (exfalso; omega) | (rw [h2] at q2; cases q2))).symm (by omega) ef22 ef23 ef25 eg2 eg26 hfE hgE hH hA) | (skip; exact kx _ _ _ _ _ _ _ _ _ (by rcases ez1 with ⟨-, x, hx, hv⟩ | ⟨h1, -⟩ <;> first | (exfalso; omega) | (rw [tellS_yes (x := x) (by omega) (by rcases ez2 with ⟨-, x, hx, -⟩ | ⟨h1, -⟩ <;> first | (exfalso; omega) | (have q1 := ht x hx; rw [hx, show x = 1 by omega]; rfl)) hx]; first | (rw [if_pos (by omega)]; done) | (rw [if_neg (by omega), if_pos (by omega)]; done) | (rw [if_neg (by omega), if_neg (by omega)]; done) | (rw [if_neg (by omega), if_neg (by omega)]; exact hv))) (by omega) ef22 ef23 ef25 eg2 eg26 hfE hgE hH hA)

set_option maxHeartbeats 4000000 in
set_option maxRecDepth 100000 in
theorem tl_SN {l : Launch} {o : Nat} {ar : Nat → Nat} {d : Nat} {Pz : Option Value → zH → Prop} {h0 h : zH} {f0 f : mF} {g0 g j : mA} {K φ X26 : Int → Int} {b nt head lo hi wo w y24 : Int} {t p t1 p1 t2 p2 : Nat} {k1 k2 : Den} {o7 o8 o9 o10 o11 : Option Value} (hd : 45 ≤ d) (b0 : 0 ≤ b) (bn : b + nt ≤ 2800) (n4 : nt ≤ 400) (n0 : 0 ≤ K 76) (n1 : K 76 ≤ 10) (hd0 : ∀ i, 0 ≤ i → i < K 76 → K i = 0 ∨ K i = 1) (hh : zIn head) (hlo : zIn lo) (hhi : zIn hi) (hlh : lo ≤ hi) (hw : zIn w) (tn : (t : Int) < nt) (hφ : ∀ a, 0 ≤ a → a ≤ 8 → X26 a = φ a) (hvb : cK K b nt t = 1 ∨ cK K b nt t = 2) (hs : pSumD true (cK K b nt) (vK K b) 8 (t + 1) p = .ok (t1, p1, k1)) (t1n : (t1 : Int) ≤ nt) (hif : ¬ cK K b nt ((t1 : Nat) : Int) = 4) (kx : ∀ (w2 : Int) (o7 o8 o9 o10 o11 : Option Value) (f : mF) (g : mA) (h : zH), w2 = tellS head lo hi (cK K b nt t) (k1 φ) true w → zIn w2 → f 22 = b + ((t1 : Nat) : Int) + 1 → f 23 = b + nt → f 25 = 0 → g 2 = K → g 26 = X26 → eqx [22, 23, 24, 25] f0 f → eqx [] g0 g → HM o ar f g j h → zAg o ar h0 h → Z l MX8_tells d 0 0 Pz 63 [some (.ref o), some (vI head), some (vI lo), some (vI hi), some (vI wo), some (vL w2), none, o7, o8, o9, o10, o11] [] h 0 0) (eg2 : g 2 = K) (eg26 : g 26 = X26) (ef22 : f 22 = b + t) (ef23 : f 23 = b + nt) (ef24 : f 24 = y24) (ef25 : f 25 = 0) (hfE : eqx [22, 23, 24, 25] f0 f) (hgE : eqx [] g0 g) (hH : HM o ar f g j h) (hA : zAg o ar h0 h) : Z l MX8_tells d 0 0 Pz 74 [some (.ref o), some (vI head), some (vI lo), some (vI hi), some (vI wo), some (vL w), none, o7, o8, o9, o10, o11] [] h 0 0 := by
  refine z_ald_0 (TX8_tells_1.at 1 rfl) ?_
  refine z_ald_0 (TX8_tells_1.at 2 rfl) ?_
  refine zm_getIE ef22 (TX8_tells_1.at 3 rfl) fl8_260 hH rfl (by decide) (fun r76 => ?_)
  refine zm_callI1 (m_codeAt eg2 ef23 (by omega) (by omega) (by omega)) (TX8_tells_1.at 4 rfl) c8_263 rfl rfl hH hA (by omega) (Nat.le_of_ble_eq_true rfl) (fun x79 f79 g79 j79 h r79 q79 hH hA => ?_)
  obtain ⟨q79, xf, xg, xj⟩ := q79
  rw [xj] at hH
  have ef22 := (xf 22 (by decide)).trans ef22
  have ef23 := (xf 23 (by decide)).trans ef23
  have ef24 := (xf 24 (by decide)).trans ef24
  have ef25 := (xf 25 (by decide)).trans ef25
  have hfE := hfE.trans xf (by decide)
  have eg2 := (xg 2 (by decide)).trans eg2
  have eg26 := (xg 26 (by decide)).trans eg26
  have hgE := hgE.trans xg (by decide)
  have qL := q79
  obtain rfl := qL
  rw [cK_at] at r79 ⊢
  refine z_ist_7 (TX8_tells_1.at 5 rfl) (Nat.le_of_ble_eq_true rfl) rfl ?_
  refine z_ald_0 (TX8_tells_1.at 6 rfl) ?_
  refine z_iconst (TX8_tells_1.at 7 rfl) ?_
  refine zm_putZE (TX8_tells_1.at 8 rfl) fp8_270 hH hA rfl (by decide) (by first | omega | exact b2i_01 _) (fun h f86 e1 e2 hH hA => ?_)
  have ef22 := (e1 22 (by decide)).trans ef22
  have ef23 := (e1 23 (by decide)).trans ef23
  have ef24 := e2
  have ef25 := (e1 25 (by decide)).trans ef25
  have hfE := hfE.put e1 (by decide)
  refine z_ald_0 (TX8_tells_1.at 9 rfl) ?_
  refine z_dup rfl (TX8_tells_1.at 10 rfl) ?_
  refine zm_getIE ef22 (TX8_tells_1.at 11 rfl) fl8_260 hH rfl (by decide) (fun r91 => ?_)
  refine z_iconst (TX8_tells_1.at 12 rfl) ?_
  refine z_iadd (TX8_tells_1.at 13 rfl) ?_
  refine zm_putIE (TX8_tells_1.at 14 rfl) fp8_260 hH hA rfl (by decide) (by first | omega | exact b2i_01 _) (fun h f96 e1 e2 hH hA => ?_)
  have ef22 := e2
  have ef23 := (e1 23 (by decide)).trans ef23
  have ef24 := (e1 24 (by decide)).trans ef24
  have ef25 := (e1 25 (by decide)).trans ef25
  have hfE := hfE.put e1 (by decide)
  refine z_ild_7 (TX8_tells_1.at 15 rfl) ?_
  refine z_iconst (TX8_tells_1.at 16 rfl) ?_
  refine z_icmp_ne (tgt := 109) (TX8_tells_1.at 17 rfl) rfl (by omega) (by omega) (fun c1 => ?_) (fun c1 => absurd c1 (by omega))
  refine z_ald_0 (TX8_tells_1.at 20 rfl) ?_
  refine z_iconst (TX8_tells_1.at 21 rfl) ?_
  refine zm_callL1 (ev_sumD b0 bn n4 n0 n1 hd0 8 1 0 (t + 1) p t1 p1 k1 _ _ _ (Or.inr rfl) (Or.inl rfl) eg2 (by rw [ef22]; push_cast; omega) ef23 ef24 (show FOK true K _ _ φ from ⟨ef25, by rw [eg26]; exact hφ⟩) (by push_cast; omega) hs) (TX8_tells_1.at 22 rfl) c8_287 rfl rfl hH hA (by omega) (Nat.le_of_ble_eq_true rfl) (fun x111 f111 g111 j111 h r111 q111 hH hA => ?_)
  obtain ⟨q111, xf, xg, xj⟩ := q111
  rw [xj] at hH
  have ef23 := (xf 23 (by decide)).trans ef23
  have ef25 := (xf 25 (by decide)).trans ef25
  have hfE := hfE.trans xf (by decide)
  have eg2 := (xg 2 (by decide)).trans eg2
  have eg26 := (xg 26 (by decide)).trans eg26
  have hgE := hgE.trans xg (by decide)
  have qL := q111
  obtain ⟨rfl, ef24, ef22, rs⟩ := qL
  have ez1 := ev_1 (z := k1 φ)
  refine z_lst_8 (TX8_tells_1.at 23 rfl) (Nat.le_of_ble_eq_true rfl) rfl ?_
  refine z_ald_0 (TX8_tells_1.at 24 rfl) ?_
  refine zm_getIE ef24 (TX8_tells_1.at 25 rfl) fl8_270 hH rfl (by decide) (fun r117 => ?_)
  refine z_ist_10 (TX8_tells_1.at 26 rfl) (Nat.le_of_ble_eq_true rfl) rfl ?_
  refine z_ald_0 (TX8_tells_1.at 27 rfl) ?_
  refine z_iconst (TX8_tells_1.at 28 rfl) ?_
  refine zm_putZE (TX8_tells_1.at 29 rfl) fp8_270 hH hA rfl (by decide) (by first | omega | exact b2i_01 _) (fun h f124 e1 e2 hH hA => ?_)
  have ef22 := (e1 22 (by decide)).trans ef22
  have ef23 := (e1 23 (by decide)).trans ef23
  have ef24 := e2
  have ef25 := (e1 25 (by decide)).trans ef25
  have hfE := hfE.put e1 (by decide)
  refine z_ald_0 (TX8_tells_1.at 30 rfl) ?_
  refine z_iconst (TX8_tells_1.at 31 rfl) ?_
  refine zm_callI1 (m_passes0 (t := ((t1 : Nat) : Int)) eg2 ef22 ef23 (by omega) (by push_cast; omega) rfl b0 (by omega) bn (by push_cast; omega)) (TX8_tells_1.at 32 rfl) c8_284 rfl rfl hH hA (by omega) (Nat.le_of_ble_eq_true rfl) (fun x129 f129 g129 j129 h r129 q129 hH hA => ?_)
  obtain ⟨q129, xf, xg, xj⟩ := q129
  rw [xj] at hH
  have ef23 := (xf 23 (by decide)).trans ef23
  have ef24 := (xf 24 (by decide)).trans ef24
  have ef25 := (xf 25 (by decide)).trans ef25
  have hfE := hfE.trans xf (by decide)
  have eg2 := (xg 2 (by decide)).trans eg2
  have eg26 := (xg 26 (by decide)).trans eg26
  have hgE := hgE.trans xg (by decide)
  have qL := q129
  obtain ⟨rfl, ef22⟩ := qL
  rw [b2i_f hif, Int.add_zero] at ef22
  refine z_if_eqB (tgt := 143) (TX8_tells_1.at 33 rfl) rfl (fun c2 => ?_) (fun c2 => absurd c2 (by exact hif))
  refine z_iconst (TX8_tells_1.at 38 rfl) ?_
  refine z_goto (tgt := 148) (TX8_tells_1.at 39 rfl) rfl ?_
  refine z_ist_11 (TX8_tells_2.at 1 rfl) (Nat.le_of_ble_eq_true rfl) rfl ?_
  refine z_ild_7 (TX8_tells_2.at 2 rfl) ?_
  refine z_ild_1 (TX8_tells_2.at 3 rfl) ?_
  refine z_icmp_ne (tgt := 203) (TX8_tells_2.at 4 rfl) rfl (by omega) (by omega) (fun c3 => ?_) (fun c3 => ?_)
  · skip
    refine z_ald_0 (TX8_tells_2.at 30 rfl) ?_
    refine z_dup rfl (TX8_tells_2.at 31 rfl) ?_
    refine zm_getIE ef22 (TX8_tells_2.at 32 rfl) fl8_260 hH rfl (by decide) (fun r205 => ?_)
    refine z_iconst (TX8_tells_2.at 33 rfl) ?_
    refine z_iadd (TX8_tells_2.at 34 rfl) ?_
    refine zm_putIE (TX8_tells_2.at 35 rfl) fp8_260 hH hA rfl (by decide) (by first | omega | exact b2i_01 _) (fun h f210 e1 e2 hH hA => ?_)
    have ef22 := e2
    have ef23 := (e1 23 (by decide)).trans ef23
    have ef24 := (e1 24 (by decide)).trans ef24
    have ef25 := (e1 25 (by decide)).trans ef25
    have hfE := hfE.put e1 (by decide)
    refine z_goto (tgt := 63) (TX8_tells_2.at 36 rfl) rfl ?_
    first | (have hz : cK K b nt t ≠ head := (by omega); exact kx _ _ _ _ _ _ _ _ _ (tellS_no (fun q => absurd q.1 (by omega))).symm (by omega) (by rw [ef22]) ef23 ef25 eg2 eg26 hfE hgE hH hA) | (have hz : evB 1 0 (k1 φ) ≠ 0 := (by omega); exact kx _ _ _ _ _ _ _ _ _ (tellS_no (fun q => q.2.2 (by rcases ez1 with ⟨h1, -⟩ | ⟨-, h2⟩ <;> first | exact h2 | (exfalso; omega)))).symm (by omega) (by rw [ef22]) ef23 ef25 eg2 eg26 hfE hgE hH hA) | (skip; exact kx _ _ _ _ _ _ _ _ _ (by rcases ez1 with ⟨-, x, hx, hv⟩ | ⟨h1, -⟩ <;> first | (exfalso; omega) | (rw [tellS_yes (x := x) (by omega) rfl hx]; first | (rw [if_pos (by omega)]; done) | (rw [if_neg (by omega), if_pos (by omega)]; done) | (rw [if_neg (by omega), if_neg (by omega)]; done) | (rw [if_neg (by omega), if_neg (by omega)]; exact hv))) (by omega) (by rw [ef22]) ef23 ef25 eg2 eg26 hfE hgE hH hA)
  · skip
    refine z_ild_11 (TX8_tells_2.at 5 rfl) ?_
    refine z_if_eq (tgt := 203) (TX8_tells_2.at 6 rfl) rfl (by decide) (fun c4 => absurd c4 (by decide)) (fun c4 => ?_)
    refine z_ald_0 (TX8_tells_2.at 7 rfl) ?_
    refine zm_getIE ef24 (TX8_tells_2.at 8 rfl) fl8_270 hH rfl (by decide) (fun r162 => ?_)
    refine z_if_ne (tgt := 203) (TX8_tells_2.at 9 rfl) rfl (by omega) (fun c5 => ?_) (fun c5 => ?_)
    · skip
      refine z_ald_0 (TX8_tells_2.at 30 rfl) ?_
      refine z_dup rfl (TX8_tells_2.at 31 rfl) ?_
      refine zm_getIE ef22 (TX8_tells_2.at 32 rfl) fl8_260 hH rfl (by decide) (fun r205 => ?_)
      refine z_iconst (TX8_tells_2.at 33 rfl) ?_
      refine z_iadd (TX8_tells_2.at 34 rfl) ?_
      refine zm_putIE (TX8_tells_2.at 35 rfl) fp8_260 hH hA rfl (by decide) (by first | omega | exact b2i_01 _) (fun h f210 e1 e2 hH hA => ?_)
      have ef22 := e2
      have ef23 := (e1 23 (by decide)).trans ef23
      have ef24 := (e1 24 (by decide)).trans ef24
      have ef25 := (e1 25 (by decide)).trans ef25
      have hfE := hfE.put e1 (by decide)
      refine z_goto (tgt := 63) (TX8_tells_2.at 36 rfl) rfl ?_
      first | (have hz : cK K b nt t ≠ head := (by omega); exact kx _ _ _ _ _ _ _ _ _ (tellS_no (fun q => absurd q.1 (by omega))).symm (by omega) (by rw [ef22]) ef23 ef25 eg2 eg26 hfE hgE hH hA) | (have hz : evB 1 0 (k1 φ) ≠ 0 := (by omega); exact kx _ _ _ _ _ _ _ _ _ (tellS_no (fun q => q.2.2 (by rcases ez1 with ⟨h1, -⟩ | ⟨-, h2⟩ <;> first | exact h2 | (exfalso; omega)))).symm (by omega) (by rw [ef22]) ef23 ef25 eg2 eg26 hfE hgE hH hA) | (skip; exact kx _ _ _ _ _ _ _ _ _ (by rcases ez1 with ⟨-, x, hx, hv⟩ | ⟨h1, -⟩ <;> first | (exfalso; omega) | (rw [tellS_yes (x := x) (by omega) rfl hx]; first | (rw [if_pos (by omega)]; done) | (rw [if_neg (by omega), if_pos (by omega)]; done) | (rw [if_neg (by omega), if_neg (by omega)]; done) | (rw [if_neg (by omega), if_neg (by omega)]; exact hv))) (by omega) (by rw [ef22]) ef23 ef25 eg2 eg26 hfE hgE hH hA)
    · skip
      refine z_ild_10 (TX8_tells_2.at 10 rfl) ?_
      refine z_if_ne (tgt := 203) (TX8_tells_2.at 11 rfl) rfl (by rcases ev_1 (z := k1 φ) with h | h <;> omega) (fun c6 => ?_) (fun c6 => ?_)
      · skip
        refine z_ald_0 (TX8_tells_2.at 30 rfl) ?_
        refine z_dup rfl (TX8_tells_2.at 31 rfl) ?_
        refine zm_getIE ef22 (TX8_tells_2.at 32 rfl) fl8_260 hH rfl (by decide) (fun r205 => ?_)
        refine z_iconst (TX8_tells_2.at 33 rfl) ?_
        refine z_iadd (TX8_tells_2.at 34 rfl) ?_
        refine zm_putIE (TX8_tells_2.at 35 rfl) fp8_260 hH hA rfl (by decide) (by first | omega | exact b2i_01 _) (fun h f210 e1 e2 hH hA => ?_)
        have ef22 := e2
        have ef23 := (e1 23 (by decide)).trans ef23
        have ef24 := (e1 24 (by decide)).trans ef24
        have ef25 := (e1 25 (by decide)).trans ef25
        have hfE := hfE.put e1 (by decide)
        refine z_goto (tgt := 63) (TX8_tells_2.at 36 rfl) rfl ?_
        first | (have hz : cK K b nt t ≠ head := (by omega); exact kx _ _ _ _ _ _ _ _ _ (tellS_no (fun q => absurd q.1 (by omega))).symm (by omega) (by rw [ef22]) ef23 ef25 eg2 eg26 hfE hgE hH hA) | (have hz : evB 1 0 (k1 φ) ≠ 0 := (by omega); exact kx _ _ _ _ _ _ _ _ _ (tellS_no (fun q => q.2.2 (by rcases ez1 with ⟨h1, -⟩ | ⟨-, h2⟩ <;> first | exact h2 | (exfalso; omega)))).symm (by omega) (by rw [ef22]) ef23 ef25 eg2 eg26 hfE hgE hH hA) | (skip; exact kx _ _ _ _ _ _ _ _ _ (by rcases ez1 with ⟨-, x, hx, hv⟩ | ⟨h1, -⟩ <;> first | (exfalso; omega) | (rw [tellS_yes (x := x) (by omega) rfl hx]; first | (rw [if_pos (by omega)]; done) | (rw [if_neg (by omega), if_pos (by omega)]; done) | (rw [if_neg (by omega), if_neg (by omega)]; done) | (rw [if_neg (by omega), if_neg (by omega)]; exact hv))) (by omega) (by rw [ef22]) ef23 ef25 eg2 eg26 hfE hgE hH hA)
      · skip
        refine z_lld_8 (TX8_tells_2.at 12 rfl) ?_
        refine z_ild_2 (TX8_tells_2.at 13 rfl) ?_
        refine z_i2l (by omega) (TX8_tells_2.at 14 rfl) ?_
        refine z_lif_ge (tgt := 186) (TX8_tells_2.at 15 rfl) (TX8_tells_2.at 16 rfl) rfl (by omega) (by omega) (fun c7 => ?_) (fun c7 => ?_)
        · skip
          refine z_lld_8 (TX8_tells_2.at 20 rfl) ?_
          refine z_ild_3 (TX8_tells_2.at 21 rfl) ?_
          refine z_i2l (by omega) (TX8_tells_2.at 22 rfl) ?_
          refine z_lif_le (tgt := 199) (TX8_tells_2.at 23 rfl) (TX8_tells_2.at 24 rfl) rfl (by omega) (by omega) (fun c8 => ?_) (fun c8 => ?_)
          · skip
            refine z_lld_8 (TX8_tells_2.at 28 rfl) ?_
            refine z_lst_5 (TX8_tells_2.at 29 rfl) (Nat.le_of_ble_eq_true rfl) rfl ?_
            refine z_ald_0 (TX8_tells_2.at 30 rfl) ?_
            refine z_dup rfl (TX8_tells_2.at 31 rfl) ?_
            refine zm_getIE ef22 (TX8_tells_2.at 32 rfl) fl8_260 hH rfl (by decide) (fun r205 => ?_)
            refine z_iconst (TX8_tells_2.at 33 rfl) ?_
            refine z_iadd (TX8_tells_2.at 34 rfl) ?_
            refine zm_putIE (TX8_tells_2.at 35 rfl) fp8_260 hH hA rfl (by decide) (by first | omega | exact b2i_01 _) (fun h f210 e1 e2 hH hA => ?_)
            have ef22 := e2
            have ef23 := (e1 23 (by decide)).trans ef23
            have ef24 := (e1 24 (by decide)).trans ef24
            have ef25 := (e1 25 (by decide)).trans ef25
            have hfE := hfE.put e1 (by decide)
            refine z_goto (tgt := 63) (TX8_tells_2.at 36 rfl) rfl ?_
            first | (have hz : cK K b nt t ≠ head := (by omega); exact kx _ _ _ _ _ _ _ _ _ (tellS_no (fun q => absurd q.1 (by omega))).symm (by omega) (by rw [ef22]) ef23 ef25 eg2 eg26 hfE hgE hH hA) | (have hz : evB 1 0 (k1 φ) ≠ 0 := (by omega); exact kx _ _ _ _ _ _ _ _ _ (tellS_no (fun q => q.2.2 (by rcases ez1 with ⟨h1, -⟩ | ⟨-, h2⟩ <;> first | exact h2 | (exfalso; omega)))).symm (by omega) (by rw [ef22]) ef23 ef25 eg2 eg26 hfE hgE hH hA) | (skip; exact kx _ _ _ _ _ _ _ _ _ (by rcases ez1 with ⟨-, x, hx, hv⟩ | ⟨h1, -⟩ <;> first | (exfalso; omega) | (rw [tellS_yes (x := x) (by omega) rfl hx]; first | (rw [if_pos (by omega)]; done) | (rw [if_neg (by omega), if_pos (by omega)]; done) | (rw [if_neg (by omega), if_neg (by omega)]; done) | (rw [if_neg (by omega), if_neg (by omega)]; exact hv))) (by omega) (by rw [ef22]) ef23 ef25 eg2 eg26 hfE hgE hH hA)
          · skip
            refine z_ild_3 (TX8_tells_2.at 25 rfl) ?_
            refine z_i2l (by omega) (TX8_tells_2.at 26 rfl) ?_
            refine z_goto (tgt := 201) (TX8_tells_2.at 27 rfl) rfl ?_
            refine z_lst_5 (TX8_tells_2.at 29 rfl) (Nat.le_of_ble_eq_true rfl) rfl ?_
            refine z_ald_0 (TX8_tells_2.at 30 rfl) ?_
            refine z_dup rfl (TX8_tells_2.at 31 rfl) ?_
            refine zm_getIE ef22 (TX8_tells_2.at 32 rfl) fl8_260 hH rfl (by decide) (fun r205 => ?_)
            refine z_iconst (TX8_tells_2.at 33 rfl) ?_
            refine z_iadd (TX8_tells_2.at 34 rfl) ?_
            refine zm_putIE (TX8_tells_2.at 35 rfl) fp8_260 hH hA rfl (by decide) (by first | omega | exact b2i_01 _) (fun h f210 e1 e2 hH hA => ?_)
            have ef22 := e2
            have ef23 := (e1 23 (by decide)).trans ef23
            have ef24 := (e1 24 (by decide)).trans ef24
            have ef25 := (e1 25 (by decide)).trans ef25
            have hfE := hfE.put e1 (by decide)
            refine z_goto (tgt := 63) (TX8_tells_2.at 36 rfl) rfl ?_
            first | (have hz : cK K b nt t ≠ head := (by omega); exact kx _ _ _ _ _ _ _ _ _ (tellS_no (fun q => absurd q.1 (by omega))).symm (by omega) (by rw [ef22]) ef23 ef25 eg2 eg26 hfE hgE hH hA) | (have hz : evB 1 0 (k1 φ) ≠ 0 := (by omega); exact kx _ _ _ _ _ _ _ _ _ (tellS_no (fun q => q.2.2 (by rcases ez1 with ⟨h1, -⟩ | ⟨-, h2⟩ <;> first | exact h2 | (exfalso; omega)))).symm (by omega) (by rw [ef22]) ef23 ef25 eg2 eg26 hfE hgE hH hA) | (skip; exact kx _ _ _ _ _ _ _ _ _ (by rcases ez1 with ⟨-, x, hx, hv⟩ | ⟨h1, -⟩ <;> first | (exfalso; omega) | (rw [tellS_yes (x := x) (by omega) rfl hx]; first | (rw [if_pos (by omega)]; done) | (rw [if_neg (by omega), if_pos (by omega)]; done) | (rw [if_neg (by omega), if_neg (by omega)]; done) | (rw [if_neg (by omega), if_neg (by omega)]; exact hv))) (by omega) (by rw [ef22]) ef23 ef25 eg2 eg26 hfE hgE hH hA)
        · skip
          refine z_ild_2 (TX8_tells_2.at 17 rfl) ?_
          refine z_i2l (by omega) (TX8_tells_2.at 18 rfl) ?_
          refine z_goto (tgt := 201) (TX8_tells_2.at 19 rfl) rfl ?_
          refine z_lst_5 (TX8_tells_2.at 29 rfl) (Nat.le_of_ble_eq_true rfl) rfl ?_
          refine z_ald_0 (TX8_tells_2.at 30 rfl) ?_
          refine z_dup rfl (TX8_tells_2.at 31 rfl) ?_
          refine zm_getIE ef22 (TX8_tells_2.at 32 rfl) fl8_260 hH rfl (by decide) (fun r205 => ?_)
          refine z_iconst (TX8_tells_2.at 33 rfl) ?_
          refine z_iadd (TX8_tells_2.at 34 rfl) ?_
          refine zm_putIE (TX8_tells_2.at 35 rfl) fp8_260 hH hA rfl (by decide) (by first | omega | exact b2i_01 _) (fun h f210 e1 e2 hH hA => ?_)
          have ef22 := e2
          have ef23 := (e1 23 (by decide)).trans ef23
          have ef24 := (e1 24 (by decide)).trans ef24
          have ef25 := (e1 25 (by decide)).trans ef25
          have hfE := hfE.put e1 (by decide)
          refine z_goto (tgt := 63) (TX8_tells_2.at 36 rfl) rfl ?_
          first | (have hz : cK K b nt t ≠ head := (by omega); exact kx _ _ _ _ _ _ _ _ _ (tellS_no (fun q => absurd q.1 (by omega))).symm (by omega) (by rw [ef22]) ef23 ef25 eg2 eg26 hfE hgE hH hA) | (have hz : evB 1 0 (k1 φ) ≠ 0 := (by omega); exact kx _ _ _ _ _ _ _ _ _ (tellS_no (fun q => q.2.2 (by rcases ez1 with ⟨h1, -⟩ | ⟨-, h2⟩ <;> first | exact h2 | (exfalso; omega)))).symm (by omega) (by rw [ef22]) ef23 ef25 eg2 eg26 hfE hgE hH hA) | (skip; exact kx _ _ _ _ _ _ _ _ _ (by rcases ez1 with ⟨-, x, hx, hv⟩ | ⟨h1, -⟩ <;> first | (exfalso; omega) | (rw [tellS_yes (x := x) (by omega) rfl hx]; first | (rw [if_pos (by omega)]; done) | (rw [if_neg (by omega), if_pos (by omega)]; done) | (rw [if_neg (by omega), if_neg (by omega)]; done) | (rw [if_neg (by omega), if_neg (by omega)]; exact hv))) (by omega) (by rw [ef22]) ef23 ef25 eg2 eg26 hfE hgE hH hA)

set_option maxHeartbeats 4000000 in
set_option maxRecDepth 100000 in
theorem tl_BI {l : Launch} {o : Nat} {ar : Nat → Nat} {d : Nat} {Pz : Option Value → zH → Prop} {h0 h : zH} {f0 f : mF} {g0 g j : mA} {K φ X26 : Int → Int} {b nt head lo hi wo w y24 : Int} {t p t1 p1 t2 p2 : Nat} {k1 k2 : Den} {o7 o8 o9 o10 o11 : Option Value} (hd : 45 ≤ d) (b0 : 0 ≤ b) (bn : b + nt ≤ 2800) (n4 : nt ≤ 400) (n0 : 0 ≤ K 76) (n1 : K 76 ≤ 10) (hd0 : ∀ i, 0 ≤ i → i < K 76 → K i = 0 ∨ K i = 1) (hh : zIn head) (hlo : zIn lo) (hhi : zIn hi) (hlh : lo ≤ hi) (hw : zIn w) (tn : (t : Int) < nt) (hφ : ∀ a, 0 ≤ a → a ≤ 8 → X26 a = φ a) (hvb : cK K b nt t = 3) (hif : cK K b nt (((t + 1) : Nat) : Int) = 4) (hq : pTestD true (cK K b nt) (vK K b) 8 ((t + 1) + 1) p = .ok (t2, p2, k2)) (t2n : (t2 : Int) ≤ nt) (kx : ∀ (w2 : Int) (o7 o8 o9 o10 o11 : Option Value) (f : mF) (g : mA) (h : zH), w2 = tellS head lo hi (cK K b nt t) (some 1) (k2 φ == some 1) w → zIn w2 → f 22 = b + ((t2 : Nat) : Int) + 1 → f 23 = b + nt → f 25 = 0 → g 2 = K → g 26 = X26 → eqx [22, 23, 24, 25] f0 f → eqx [] g0 g → HM o ar f g j h → zAg o ar h0 h → Z l MX8_tells d 0 0 Pz 63 [some (.ref o), some (vI head), some (vI lo), some (vI hi), some (vI wo), some (vL w2), none, o7, o8, o9, o10, o11] [] h 0 0) (eg2 : g 2 = K) (eg26 : g 26 = X26) (ef22 : f 22 = b + t) (ef23 : f 23 = b + nt) (ef24 : f 24 = y24) (ef25 : f 25 = 0) (hfE : eqx [22, 23, 24, 25] f0 f) (hgE : eqx [] g0 g) (hH : HM o ar f g j h) (hA : zAg o ar h0 h) : Z l MX8_tells d 0 0 Pz 74 [some (.ref o), some (vI head), some (vI lo), some (vI hi), some (vI wo), some (vL w), none, o7, o8, o9, o10, o11] [] h 0 0 := by
  refine z_ald_0 (TX8_tells_1.at 1 rfl) ?_
  refine z_ald_0 (TX8_tells_1.at 2 rfl) ?_
  refine zm_getIE ef22 (TX8_tells_1.at 3 rfl) fl8_260 hH rfl (by decide) (fun r76 => ?_)
  refine zm_callI1 (m_codeAt eg2 ef23 (by omega) (by omega) (by omega)) (TX8_tells_1.at 4 rfl) c8_263 rfl rfl hH hA (by omega) (Nat.le_of_ble_eq_true rfl) (fun x79 f79 g79 j79 h r79 q79 hH hA => ?_)
  obtain ⟨q79, xf, xg, xj⟩ := q79
  rw [xj] at hH
  have ef22 := (xf 22 (by decide)).trans ef22
  have ef23 := (xf 23 (by decide)).trans ef23
  have ef24 := (xf 24 (by decide)).trans ef24
  have ef25 := (xf 25 (by decide)).trans ef25
  have hfE := hfE.trans xf (by decide)
  have eg2 := (xg 2 (by decide)).trans eg2
  have eg26 := (xg 26 (by decide)).trans eg26
  have hgE := hgE.trans xg (by decide)
  have qL := q79
  obtain rfl := qL
  rw [cK_at] at r79 ⊢
  refine z_ist_7 (TX8_tells_1.at 5 rfl) (Nat.le_of_ble_eq_true rfl) rfl ?_
  refine z_ald_0 (TX8_tells_1.at 6 rfl) ?_
  refine z_iconst (TX8_tells_1.at 7 rfl) ?_
  refine zm_putZE (TX8_tells_1.at 8 rfl) fp8_270 hH hA rfl (by decide) (by first | omega | exact b2i_01 _) (fun h f86 e1 e2 hH hA => ?_)
  have ef22 := (e1 22 (by decide)).trans ef22
  have ef23 := (e1 23 (by decide)).trans ef23
  have ef24 := e2
  have ef25 := (e1 25 (by decide)).trans ef25
  have hfE := hfE.put e1 (by decide)
  refine z_ald_0 (TX8_tells_1.at 9 rfl) ?_
  refine z_dup rfl (TX8_tells_1.at 10 rfl) ?_
  refine zm_getIE ef22 (TX8_tells_1.at 11 rfl) fl8_260 hH rfl (by decide) (fun r91 => ?_)
  refine z_iconst (TX8_tells_1.at 12 rfl) ?_
  refine z_iadd (TX8_tells_1.at 13 rfl) ?_
  refine zm_putIE (TX8_tells_1.at 14 rfl) fp8_260 hH hA rfl (by decide) (by first | omega | exact b2i_01 _) (fun h f96 e1 e2 hH hA => ?_)
  have ef22 := e2
  have ef23 := (e1 23 (by decide)).trans ef23
  have ef24 := (e1 24 (by decide)).trans ef24
  have ef25 := (e1 25 (by decide)).trans ef25
  have hfE := hfE.put e1 (by decide)
  refine z_ild_7 (TX8_tells_1.at 15 rfl) ?_
  refine z_iconst (TX8_tells_1.at 16 rfl) ?_
  refine z_icmp_ne (tgt := 109) (TX8_tells_1.at 17 rfl) rfl (by omega) (by omega) (fun c1 => absurd c1 (by omega)) (fun c1 => ?_)
  refine z_lconst (v := 1) (by decide) (TX8_tells_1.at 18 rfl) ?_
  refine z_goto (tgt := 114) (TX8_tells_1.at 19 rfl) rfl ?_
  refine z_lst_8 (TX8_tells_1.at 23 rfl) (Nat.le_of_ble_eq_true rfl) rfl ?_
  refine z_ald_0 (TX8_tells_1.at 24 rfl) ?_
  refine zm_getIE ef24 (TX8_tells_1.at 25 rfl) fl8_270 hH rfl (by decide) (fun r117 => ?_)
  refine z_ist_10 (TX8_tells_1.at 26 rfl) (Nat.le_of_ble_eq_true rfl) rfl ?_
  refine z_ald_0 (TX8_tells_1.at 27 rfl) ?_
  refine z_iconst (TX8_tells_1.at 28 rfl) ?_
  refine zm_putZE (TX8_tells_1.at 29 rfl) fp8_270 hH hA rfl (by decide) (by first | omega | exact b2i_01 _) (fun h f124 e1 e2 hH hA => ?_)
  have ef22 := (e1 22 (by decide)).trans ef22
  have ef23 := (e1 23 (by decide)).trans ef23
  have ef24 := e2
  have ef25 := (e1 25 (by decide)).trans ef25
  have hfE := hfE.put e1 (by decide)
  refine z_ald_0 (TX8_tells_1.at 30 rfl) ?_
  refine z_iconst (TX8_tells_1.at 31 rfl) ?_
  refine zm_callI1 (m_passes0 (t := (((t + 1) : Nat) : Int)) eg2 ef22 ef23 (by omega) (by push_cast; omega) rfl b0 (by omega) bn (by push_cast; omega)) (TX8_tells_1.at 32 rfl) c8_284 rfl rfl hH hA (by omega) (Nat.le_of_ble_eq_true rfl) (fun x129 f129 g129 j129 h r129 q129 hH hA => ?_)
  obtain ⟨q129, xf, xg, xj⟩ := q129
  rw [xj] at hH
  have ef23 := (xf 23 (by decide)).trans ef23
  have ef24 := (xf 24 (by decide)).trans ef24
  have ef25 := (xf 25 (by decide)).trans ef25
  have hfE := hfE.trans xf (by decide)
  have eg2 := (xg 2 (by decide)).trans eg2
  have eg26 := (xg 26 (by decide)).trans eg26
  have hgE := hgE.trans xg (by decide)
  have qL := q129
  obtain ⟨rfl, ef22⟩ := qL
  rw [b2i_t hif] at ef22
  refine z_if_eqB (tgt := 143) (TX8_tells_1.at 33 rfl) rfl (fun c2 => absurd c2 (by exact fun q => q hif)) (fun c2 => ?_)
  refine z_ald_0 (TX8_tells_1.at 34 rfl) ?_
  refine z_iconst (TX8_tells_1.at 35 rfl) ?_
  refine zm_callI1 (ev_testD b0 bn n4 n0 n1 hd0 8 1 0 ((t + 1) + 1) p t2 p2 k2 _ _ _ (Or.inr rfl) (Or.inl rfl) eg2 (by rw [ef22]; push_cast; omega) ef23 ef24 (show FOK true K _ _ φ from ⟨ef25, by rw [eg26]; exact hφ⟩) (by push_cast; have := cK_nz (K := K) (b := b) (nt := nt) (t + 1) (by omega); push_cast at this; omega) hq) (TX8_tells_1.at 36 rfl) c8_317 rfl rfl hH hA (by omega) (Nat.le_of_ble_eq_true rfl) (fun x137 f137 g137 j137 h r137 q137 hH hA => ?_)
  obtain ⟨q137, xf, xg, xj⟩ := q137
  rw [xj] at hH
  have ef23 := (xf 23 (by decide)).trans ef23
  have ef25 := (xf 25 (by decide)).trans ef25
  have hfE := hfE.trans xf (by decide)
  have eg2 := (xg 2 (by decide)).trans eg2
  have eg26 := (xg 26 (by decide)).trans eg26
  have hgE := hgE.trans xg (by decide)
  have qL := q137
  obtain ⟨rt, ef24, ef22, ht⟩ := qL
  have ez2 := ev_1 (z := k2 φ)
  have ht := ht rfl rfl
  refine z_if_eq (tgt := 147) (TX8_tells_1.at 37 rfl) rfl (by omega) (fun c3 => ?_) (fun c3 => ?_)
  · skip
    refine z_iconst (TX8_tells_2.at 0 rfl) ?_
    refine z_ist_11 (TX8_tells_2.at 1 rfl) (Nat.le_of_ble_eq_true rfl) rfl ?_
    refine z_ild_7 (TX8_tells_2.at 2 rfl) ?_
    refine z_ild_1 (TX8_tells_2.at 3 rfl) ?_
    refine z_icmp_ne (tgt := 203) (TX8_tells_2.at 4 rfl) rfl (by omega) (by omega) (fun c4 => ?_) (fun c4 => ?_)
    · skip
      refine z_ald_0 (TX8_tells_2.at 30 rfl) ?_
      refine z_dup rfl (TX8_tells_2.at 31 rfl) ?_
      refine zm_getIE ef22 (TX8_tells_2.at 32 rfl) fl8_260 hH rfl (by decide) (fun r205 => ?_)
      refine z_iconst (TX8_tells_2.at 33 rfl) ?_
      refine z_iadd (TX8_tells_2.at 34 rfl) ?_
      refine zm_putIE (TX8_tells_2.at 35 rfl) fp8_260 hH hA rfl (by decide) (by first | omega | exact b2i_01 _) (fun h f210 e1 e2 hH hA => ?_)
      have ef22 := e2
      have ef23 := (e1 23 (by decide)).trans ef23
      have ef24 := (e1 24 (by decide)).trans ef24
      have ef25 := (e1 25 (by decide)).trans ef25
      have hfE := hfE.put e1 (by decide)
      refine z_goto (tgt := 63) (TX8_tells_2.at 36 rfl) rfl ?_
      first | (have hz : cK K b nt t ≠ head := (by omega); exact kx _ _ _ _ _ _ _ _ _ (tellS_no (fun q => absurd q.1 (by omega))).symm (by omega) ef22 ef23 ef25 eg2 eg26 hfE hgE hH hA) | (have hz : x137 = 0 ∨ evB 1 0 (k2 φ) ≠ 0 := (by omega); exact kx _ _ _ _ _ _ _ _ _ (tellS_no (fun q => by have q1 := ht 1 (eq_of_beq q.2.1); have q2 := eq_of_beq q.2.1; rcases ez2 with ⟨h1, -⟩ | ⟨-, h2⟩ <;> first | (exfalso; omega) | (rw [h2] at q2; cases q2))).symm (by omega) ef22 ef23 ef25 eg2 eg26 hfE hgE hH hA) | (skip; exact kx _ _ _ _ _ _ _ _ _ (by rw [tellS_yes (x := 1) (by omega) (by rcases ez2 with ⟨-, x, hx, -⟩ | ⟨h1, -⟩ <;> first | (exfalso; omega) | (have q1 := ht x hx; rw [hx, show x = 1 by omega]; rfl)) rfl]; first | (rw [if_pos (by omega)]; done) | (rw [if_neg (by omega), if_pos (by omega)]; done) | (rw [if_neg (by omega), if_neg (by omega)]; done)) (by omega) ef22 ef23 ef25 eg2 eg26 hfE hgE hH hA)
    · skip
      refine z_ild_11 (TX8_tells_2.at 5 rfl) ?_
      refine z_if_eq (tgt := 203) (TX8_tells_2.at 6 rfl) rfl (by decide) (fun c5 => ?_) (fun c5 => absurd c5 (by decide))
      refine z_ald_0 (TX8_tells_2.at 30 rfl) ?_
      refine z_dup rfl (TX8_tells_2.at 31 rfl) ?_
      refine zm_getIE ef22 (TX8_tells_2.at 32 rfl) fl8_260 hH rfl (by decide) (fun r205 => ?_)
      refine z_iconst (TX8_tells_2.at 33 rfl) ?_
      refine z_iadd (TX8_tells_2.at 34 rfl) ?_
      refine zm_putIE (TX8_tells_2.at 35 rfl) fp8_260 hH hA rfl (by decide) (by first | omega | exact b2i_01 _) (fun h f210 e1 e2 hH hA => ?_)
      have ef22 := e2
      have ef23 := (e1 23 (by decide)).trans ef23
      have ef24 := (e1 24 (by decide)).trans ef24
      have ef25 := (e1 25 (by decide)).trans ef25
      have hfE := hfE.put e1 (by decide)
      refine z_goto (tgt := 63) (TX8_tells_2.at 36 rfl) rfl ?_
      first | (have hz : cK K b nt t ≠ head := (by omega); exact kx _ _ _ _ _ _ _ _ _ (tellS_no (fun q => absurd q.1 (by omega))).symm (by omega) ef22 ef23 ef25 eg2 eg26 hfE hgE hH hA) | (have hz : x137 = 0 ∨ evB 1 0 (k2 φ) ≠ 0 := (by omega); exact kx _ _ _ _ _ _ _ _ _ (tellS_no (fun q => by have q1 := ht 1 (eq_of_beq q.2.1); have q2 := eq_of_beq q.2.1; rcases ez2 with ⟨h1, -⟩ | ⟨-, h2⟩ <;> first | (exfalso; omega) | (rw [h2] at q2; cases q2))).symm (by omega) ef22 ef23 ef25 eg2 eg26 hfE hgE hH hA) | (skip; exact kx _ _ _ _ _ _ _ _ _ (by rw [tellS_yes (x := 1) (by omega) (by rcases ez2 with ⟨-, x, hx, -⟩ | ⟨h1, -⟩ <;> first | (exfalso; omega) | (have q1 := ht x hx; rw [hx, show x = 1 by omega]; rfl)) rfl]; first | (rw [if_pos (by omega)]; done) | (rw [if_neg (by omega), if_pos (by omega)]; done) | (rw [if_neg (by omega), if_neg (by omega)]; done)) (by omega) ef22 ef23 ef25 eg2 eg26 hfE hgE hH hA)
  · skip
    refine z_iconst (TX8_tells_1.at 38 rfl) ?_
    refine z_goto (tgt := 148) (TX8_tells_1.at 39 rfl) rfl ?_
    refine z_ist_11 (TX8_tells_2.at 1 rfl) (Nat.le_of_ble_eq_true rfl) rfl ?_
    refine z_ild_7 (TX8_tells_2.at 2 rfl) ?_
    refine z_ild_1 (TX8_tells_2.at 3 rfl) ?_
    refine z_icmp_ne (tgt := 203) (TX8_tells_2.at 4 rfl) rfl (by omega) (by omega) (fun c6 => ?_) (fun c6 => ?_)
    · skip
      refine z_ald_0 (TX8_tells_2.at 30 rfl) ?_
      refine z_dup rfl (TX8_tells_2.at 31 rfl) ?_
      refine zm_getIE ef22 (TX8_tells_2.at 32 rfl) fl8_260 hH rfl (by decide) (fun r205 => ?_)
      refine z_iconst (TX8_tells_2.at 33 rfl) ?_
      refine z_iadd (TX8_tells_2.at 34 rfl) ?_
      refine zm_putIE (TX8_tells_2.at 35 rfl) fp8_260 hH hA rfl (by decide) (by first | omega | exact b2i_01 _) (fun h f210 e1 e2 hH hA => ?_)
      have ef22 := e2
      have ef23 := (e1 23 (by decide)).trans ef23
      have ef24 := (e1 24 (by decide)).trans ef24
      have ef25 := (e1 25 (by decide)).trans ef25
      have hfE := hfE.put e1 (by decide)
      refine z_goto (tgt := 63) (TX8_tells_2.at 36 rfl) rfl ?_
      first | (have hz : cK K b nt t ≠ head := (by omega); exact kx _ _ _ _ _ _ _ _ _ (tellS_no (fun q => absurd q.1 (by omega))).symm (by omega) ef22 ef23 ef25 eg2 eg26 hfE hgE hH hA) | (have hz : x137 = 0 ∨ evB 1 0 (k2 φ) ≠ 0 := (by omega); exact kx _ _ _ _ _ _ _ _ _ (tellS_no (fun q => by have q1 := ht 1 (eq_of_beq q.2.1); have q2 := eq_of_beq q.2.1; rcases ez2 with ⟨h1, -⟩ | ⟨-, h2⟩ <;> first | (exfalso; omega) | (rw [h2] at q2; cases q2))).symm (by omega) ef22 ef23 ef25 eg2 eg26 hfE hgE hH hA) | (skip; exact kx _ _ _ _ _ _ _ _ _ (by rw [tellS_yes (x := 1) (by omega) (by rcases ez2 with ⟨-, x, hx, -⟩ | ⟨h1, -⟩ <;> first | (exfalso; omega) | (have q1 := ht x hx; rw [hx, show x = 1 by omega]; rfl)) rfl]; first | (rw [if_pos (by omega)]; done) | (rw [if_neg (by omega), if_pos (by omega)]; done) | (rw [if_neg (by omega), if_neg (by omega)]; done)) (by omega) ef22 ef23 ef25 eg2 eg26 hfE hgE hH hA)
    · skip
      refine z_ild_11 (TX8_tells_2.at 5 rfl) ?_
      refine z_if_eq (tgt := 203) (TX8_tells_2.at 6 rfl) rfl (by decide) (fun c7 => absurd c7 (by decide)) (fun c7 => ?_)
      refine z_ald_0 (TX8_tells_2.at 7 rfl) ?_
      refine zm_getIE ef24 (TX8_tells_2.at 8 rfl) fl8_270 hH rfl (by decide) (fun r162 => ?_)
      refine z_if_ne (tgt := 203) (TX8_tells_2.at 9 rfl) rfl (by rcases ev_1 (z := k2 φ) with h | h <;> omega) (fun c8 => ?_) (fun c8 => ?_)
      · skip
        refine z_ald_0 (TX8_tells_2.at 30 rfl) ?_
        refine z_dup rfl (TX8_tells_2.at 31 rfl) ?_
        refine zm_getIE ef22 (TX8_tells_2.at 32 rfl) fl8_260 hH rfl (by decide) (fun r205 => ?_)
        refine z_iconst (TX8_tells_2.at 33 rfl) ?_
        refine z_iadd (TX8_tells_2.at 34 rfl) ?_
        refine zm_putIE (TX8_tells_2.at 35 rfl) fp8_260 hH hA rfl (by decide) (by first | omega | exact b2i_01 _) (fun h f210 e1 e2 hH hA => ?_)
        have ef22 := e2
        have ef23 := (e1 23 (by decide)).trans ef23
        have ef24 := (e1 24 (by decide)).trans ef24
        have ef25 := (e1 25 (by decide)).trans ef25
        have hfE := hfE.put e1 (by decide)
        refine z_goto (tgt := 63) (TX8_tells_2.at 36 rfl) rfl ?_
        first | (have hz : cK K b nt t ≠ head := (by omega); exact kx _ _ _ _ _ _ _ _ _ (tellS_no (fun q => absurd q.1 (by omega))).symm (by omega) ef22 ef23 ef25 eg2 eg26 hfE hgE hH hA) | (have hz : x137 = 0 ∨ evB 1 0 (k2 φ) ≠ 0 := (by omega); exact kx _ _ _ _ _ _ _ _ _ (tellS_no (fun q => by have q1 := ht 1 (eq_of_beq q.2.1); have q2 := eq_of_beq q.2.1; rcases ez2 with ⟨h1, -⟩ | ⟨-, h2⟩ <;> first | (exfalso; omega) | (rw [h2] at q2; cases q2))).symm (by omega) ef22 ef23 ef25 eg2 eg26 hfE hgE hH hA) | (skip; exact kx _ _ _ _ _ _ _ _ _ (by rw [tellS_yes (x := 1) (by omega) (by rcases ez2 with ⟨-, x, hx, -⟩ | ⟨h1, -⟩ <;> first | (exfalso; omega) | (have q1 := ht x hx; rw [hx, show x = 1 by omega]; rfl)) rfl]; first | (rw [if_pos (by omega)]; done) | (rw [if_neg (by omega), if_pos (by omega)]; done) | (rw [if_neg (by omega), if_neg (by omega)]; done)) (by omega) ef22 ef23 ef25 eg2 eg26 hfE hgE hH hA)
      · skip
        refine z_ild_10 (TX8_tells_2.at 10 rfl) ?_
        refine z_if_ne (tgt := 203) (TX8_tells_2.at 11 rfl) rfl (by omega) (fun c9 => ?_) (fun c9 => ?_)
        · skip
          refine z_ald_0 (TX8_tells_2.at 30 rfl) ?_
          refine z_dup rfl (TX8_tells_2.at 31 rfl) ?_
          refine zm_getIE ef22 (TX8_tells_2.at 32 rfl) fl8_260 hH rfl (by decide) (fun r205 => ?_)
          refine z_iconst (TX8_tells_2.at 33 rfl) ?_
          refine z_iadd (TX8_tells_2.at 34 rfl) ?_
          refine zm_putIE (TX8_tells_2.at 35 rfl) fp8_260 hH hA rfl (by decide) (by first | omega | exact b2i_01 _) (fun h f210 e1 e2 hH hA => ?_)
          have ef22 := e2
          have ef23 := (e1 23 (by decide)).trans ef23
          have ef24 := (e1 24 (by decide)).trans ef24
          have ef25 := (e1 25 (by decide)).trans ef25
          have hfE := hfE.put e1 (by decide)
          refine z_goto (tgt := 63) (TX8_tells_2.at 36 rfl) rfl ?_
          first | (have hz : cK K b nt t ≠ head := (by omega); exact kx _ _ _ _ _ _ _ _ _ (tellS_no (fun q => absurd q.1 (by omega))).symm (by omega) ef22 ef23 ef25 eg2 eg26 hfE hgE hH hA) | (have hz : x137 = 0 ∨ evB 1 0 (k2 φ) ≠ 0 := (by omega); exact kx _ _ _ _ _ _ _ _ _ (tellS_no (fun q => by have q1 := ht 1 (eq_of_beq q.2.1); have q2 := eq_of_beq q.2.1; rcases ez2 with ⟨h1, -⟩ | ⟨-, h2⟩ <;> first | (exfalso; omega) | (rw [h2] at q2; cases q2))).symm (by omega) ef22 ef23 ef25 eg2 eg26 hfE hgE hH hA) | (skip; exact kx _ _ _ _ _ _ _ _ _ (by rw [tellS_yes (x := 1) (by omega) (by rcases ez2 with ⟨-, x, hx, -⟩ | ⟨h1, -⟩ <;> first | (exfalso; omega) | (have q1 := ht x hx; rw [hx, show x = 1 by omega]; rfl)) rfl]; first | (rw [if_pos (by omega)]; done) | (rw [if_neg (by omega), if_pos (by omega)]; done) | (rw [if_neg (by omega), if_neg (by omega)]; done)) (by omega) ef22 ef23 ef25 eg2 eg26 hfE hgE hH hA)
        · skip
          refine z_lld_8 (TX8_tells_2.at 12 rfl) ?_
          refine z_ild_2 (TX8_tells_2.at 13 rfl) ?_
          refine z_i2l (by omega) (TX8_tells_2.at 14 rfl) ?_
          refine z_lif_ge (tgt := 186) (TX8_tells_2.at 15 rfl) (TX8_tells_2.at 16 rfl) rfl (by omega) (by omega) (fun c10 => ?_) (fun c10 => ?_)
          · skip
            refine z_lld_8 (TX8_tells_2.at 20 rfl) ?_
            refine z_ild_3 (TX8_tells_2.at 21 rfl) ?_
            refine z_i2l (by omega) (TX8_tells_2.at 22 rfl) ?_
            refine z_lif_le (tgt := 199) (TX8_tells_2.at 23 rfl) (TX8_tells_2.at 24 rfl) rfl (by omega) (by omega) (fun c11 => ?_) (fun c11 => ?_)
            · skip
              refine z_lld_8 (TX8_tells_2.at 28 rfl) ?_
              refine z_lst_5 (TX8_tells_2.at 29 rfl) (Nat.le_of_ble_eq_true rfl) rfl ?_
              refine z_ald_0 (TX8_tells_2.at 30 rfl) ?_
              refine z_dup rfl (TX8_tells_2.at 31 rfl) ?_
              refine zm_getIE ef22 (TX8_tells_2.at 32 rfl) fl8_260 hH rfl (by decide) (fun r205 => ?_)
              refine z_iconst (TX8_tells_2.at 33 rfl) ?_
              refine z_iadd (TX8_tells_2.at 34 rfl) ?_
              refine zm_putIE (TX8_tells_2.at 35 rfl) fp8_260 hH hA rfl (by decide) (by first | omega | exact b2i_01 _) (fun h f210 e1 e2 hH hA => ?_)
              have ef22 := e2
              have ef23 := (e1 23 (by decide)).trans ef23
              have ef24 := (e1 24 (by decide)).trans ef24
              have ef25 := (e1 25 (by decide)).trans ef25
              have hfE := hfE.put e1 (by decide)
              refine z_goto (tgt := 63) (TX8_tells_2.at 36 rfl) rfl ?_
              first | (have hz : cK K b nt t ≠ head := (by omega); exact kx _ _ _ _ _ _ _ _ _ (tellS_no (fun q => absurd q.1 (by omega))).symm (by omega) ef22 ef23 ef25 eg2 eg26 hfE hgE hH hA) | (have hz : x137 = 0 ∨ evB 1 0 (k2 φ) ≠ 0 := (by omega); exact kx _ _ _ _ _ _ _ _ _ (tellS_no (fun q => by have q1 := ht 1 (eq_of_beq q.2.1); have q2 := eq_of_beq q.2.1; rcases ez2 with ⟨h1, -⟩ | ⟨-, h2⟩ <;> first | (exfalso; omega) | (rw [h2] at q2; cases q2))).symm (by omega) ef22 ef23 ef25 eg2 eg26 hfE hgE hH hA) | (skip; exact kx _ _ _ _ _ _ _ _ _ (by rw [tellS_yes (x := 1) (by omega) (by rcases ez2 with ⟨-, x, hx, -⟩ | ⟨h1, -⟩ <;> first | (exfalso; omega) | (have q1 := ht x hx; rw [hx, show x = 1 by omega]; rfl)) rfl]; first | (rw [if_pos (by omega)]; done) | (rw [if_neg (by omega), if_pos (by omega)]; done) | (rw [if_neg (by omega), if_neg (by omega)]; done)) (by omega) ef22 ef23 ef25 eg2 eg26 hfE hgE hH hA)
            · skip
              refine z_ild_3 (TX8_tells_2.at 25 rfl) ?_
              refine z_i2l (by omega) (TX8_tells_2.at 26 rfl) ?_
              refine z_goto (tgt := 201) (TX8_tells_2.at 27 rfl) rfl ?_
              refine z_lst_5 (TX8_tells_2.at 29 rfl) (Nat.le_of_ble_eq_true rfl) rfl ?_
              refine z_ald_0 (TX8_tells_2.at 30 rfl) ?_
              refine z_dup rfl (TX8_tells_2.at 31 rfl) ?_
              refine zm_getIE ef22 (TX8_tells_2.at 32 rfl) fl8_260 hH rfl (by decide) (fun r205 => ?_)
              refine z_iconst (TX8_tells_2.at 33 rfl) ?_
              refine z_iadd (TX8_tells_2.at 34 rfl) ?_
              refine zm_putIE (TX8_tells_2.at 35 rfl) fp8_260 hH hA rfl (by decide) (by first | omega | exact b2i_01 _) (fun h f210 e1 e2 hH hA => ?_)
              have ef22 := e2
              have ef23 := (e1 23 (by decide)).trans ef23
              have ef24 := (e1 24 (by decide)).trans ef24
              have ef25 := (e1 25 (by decide)).trans ef25
              have hfE := hfE.put e1 (by decide)
              refine z_goto (tgt := 63) (TX8_tells_2.at 36 rfl) rfl ?_
              first | (have hz : cK K b nt t ≠ head := (by omega); exact kx _ _ _ _ _ _ _ _ _ (tellS_no (fun q => absurd q.1 (by omega))).symm (by omega) ef22 ef23 ef25 eg2 eg26 hfE hgE hH hA) | (have hz : x137 = 0 ∨ evB 1 0 (k2 φ) ≠ 0 := (by omega); exact kx _ _ _ _ _ _ _ _ _ (tellS_no (fun q => by have q1 := ht 1 (eq_of_beq q.2.1); have q2 := eq_of_beq q.2.1; rcases ez2 with ⟨h1, -⟩ | ⟨-, h2⟩ <;> first | (exfalso; omega) | (rw [h2] at q2; cases q2))).symm (by omega) ef22 ef23 ef25 eg2 eg26 hfE hgE hH hA) | (skip; exact kx _ _ _ _ _ _ _ _ _ (by rw [tellS_yes (x := 1) (by omega) (by rcases ez2 with ⟨-, x, hx, -⟩ | ⟨h1, -⟩ <;> first | (exfalso; omega) | (have q1 := ht x hx; rw [hx, show x = 1 by omega]; rfl)) rfl]; first | (rw [if_pos (by omega)]; done) | (rw [if_neg (by omega), if_pos (by omega)]; done) | (rw [if_neg (by omega), if_neg (by omega)]; done)) (by omega) ef22 ef23 ef25 eg2 eg26 hfE hgE hH hA)
          · skip
            refine z_ild_2 (TX8_tells_2.at 17 rfl) ?_
            refine z_i2l (by omega) (TX8_tells_2.at 18 rfl) ?_
            refine z_goto (tgt := 201) (TX8_tells_2.at 19 rfl) rfl ?_
            refine z_lst_5 (TX8_tells_2.at 29 rfl) (Nat.le_of_ble_eq_true rfl) rfl ?_
            refine z_ald_0 (TX8_tells_2.at 30 rfl) ?_
            refine z_dup rfl (TX8_tells_2.at 31 rfl) ?_
            refine zm_getIE ef22 (TX8_tells_2.at 32 rfl) fl8_260 hH rfl (by decide) (fun r205 => ?_)
            refine z_iconst (TX8_tells_2.at 33 rfl) ?_
            refine z_iadd (TX8_tells_2.at 34 rfl) ?_
            refine zm_putIE (TX8_tells_2.at 35 rfl) fp8_260 hH hA rfl (by decide) (by first | omega | exact b2i_01 _) (fun h f210 e1 e2 hH hA => ?_)
            have ef22 := e2
            have ef23 := (e1 23 (by decide)).trans ef23
            have ef24 := (e1 24 (by decide)).trans ef24
            have ef25 := (e1 25 (by decide)).trans ef25
            have hfE := hfE.put e1 (by decide)
            refine z_goto (tgt := 63) (TX8_tells_2.at 36 rfl) rfl ?_
            first | (have hz : cK K b nt t ≠ head := (by omega); exact kx _ _ _ _ _ _ _ _ _ (tellS_no (fun q => absurd q.1 (by omega))).symm (by omega) ef22 ef23 ef25 eg2 eg26 hfE hgE hH hA) | (have hz : x137 = 0 ∨ evB 1 0 (k2 φ) ≠ 0 := (by omega); exact kx _ _ _ _ _ _ _ _ _ (tellS_no (fun q => by have q1 := ht 1 (eq_of_beq q.2.1); have q2 := eq_of_beq q.2.1; rcases ez2 with ⟨h1, -⟩ | ⟨-, h2⟩ <;> first | (exfalso; omega) | (rw [h2] at q2; cases q2))).symm (by omega) ef22 ef23 ef25 eg2 eg26 hfE hgE hH hA) | (skip; exact kx _ _ _ _ _ _ _ _ _ (by rw [tellS_yes (x := 1) (by omega) (by rcases ez2 with ⟨-, x, hx, -⟩ | ⟨h1, -⟩ <;> first | (exfalso; omega) | (have q1 := ht x hx; rw [hx, show x = 1 by omega]; rfl)) rfl]; first | (rw [if_pos (by omega)]; done) | (rw [if_neg (by omega), if_pos (by omega)]; done) | (rw [if_neg (by omega), if_neg (by omega)]; done)) (by omega) ef22 ef23 ef25 eg2 eg26 hfE hgE hH hA)

set_option maxHeartbeats 4000000 in
set_option maxRecDepth 100000 in
theorem tl_BN {l : Launch} {o : Nat} {ar : Nat → Nat} {d : Nat} {Pz : Option Value → zH → Prop} {h0 h : zH} {f0 f : mF} {g0 g j : mA} {K φ X26 : Int → Int} {b nt head lo hi wo w y24 : Int} {t p t1 p1 t2 p2 : Nat} {k1 k2 : Den} {o7 o8 o9 o10 o11 : Option Value} (hd : 45 ≤ d) (b0 : 0 ≤ b) (bn : b + nt ≤ 2800) (n4 : nt ≤ 400) (n0 : 0 ≤ K 76) (n1 : K 76 ≤ 10) (hd0 : ∀ i, 0 ≤ i → i < K 76 → K i = 0 ∨ K i = 1) (hh : zIn head) (hlo : zIn lo) (hhi : zIn hi) (hlh : lo ≤ hi) (hw : zIn w) (tn : (t : Int) < nt) (hφ : ∀ a, 0 ≤ a → a ≤ 8 → X26 a = φ a) (hvb : cK K b nt t = 3) (hif : ¬ cK K b nt (((t + 1) : Nat) : Int) = 4) (kx : ∀ (w2 : Int) (o7 o8 o9 o10 o11 : Option Value) (f : mF) (g : mA) (h : zH), w2 = tellS head lo hi (cK K b nt t) (some 1) true w → zIn w2 → f 22 = b + (((t + 1) : Nat) : Int) + 1 → f 23 = b + nt → f 25 = 0 → g 2 = K → g 26 = X26 → eqx [22, 23, 24, 25] f0 f → eqx [] g0 g → HM o ar f g j h → zAg o ar h0 h → Z l MX8_tells d 0 0 Pz 63 [some (.ref o), some (vI head), some (vI lo), some (vI hi), some (vI wo), some (vL w2), none, o7, o8, o9, o10, o11] [] h 0 0) (eg2 : g 2 = K) (eg26 : g 26 = X26) (ef22 : f 22 = b + t) (ef23 : f 23 = b + nt) (ef24 : f 24 = y24) (ef25 : f 25 = 0) (hfE : eqx [22, 23, 24, 25] f0 f) (hgE : eqx [] g0 g) (hH : HM o ar f g j h) (hA : zAg o ar h0 h) : Z l MX8_tells d 0 0 Pz 74 [some (.ref o), some (vI head), some (vI lo), some (vI hi), some (vI wo), some (vL w), none, o7, o8, o9, o10, o11] [] h 0 0 := by
  refine z_ald_0 (TX8_tells_1.at 1 rfl) ?_
  refine z_ald_0 (TX8_tells_1.at 2 rfl) ?_
  refine zm_getIE ef22 (TX8_tells_1.at 3 rfl) fl8_260 hH rfl (by decide) (fun r76 => ?_)
  refine zm_callI1 (m_codeAt eg2 ef23 (by omega) (by omega) (by omega)) (TX8_tells_1.at 4 rfl) c8_263 rfl rfl hH hA (by omega) (Nat.le_of_ble_eq_true rfl) (fun x79 f79 g79 j79 h r79 q79 hH hA => ?_)
  obtain ⟨q79, xf, xg, xj⟩ := q79
  rw [xj] at hH
  have ef22 := (xf 22 (by decide)).trans ef22
  have ef23 := (xf 23 (by decide)).trans ef23
  have ef24 := (xf 24 (by decide)).trans ef24
  have ef25 := (xf 25 (by decide)).trans ef25
  have hfE := hfE.trans xf (by decide)
  have eg2 := (xg 2 (by decide)).trans eg2
  have eg26 := (xg 26 (by decide)).trans eg26
  have hgE := hgE.trans xg (by decide)
  have qL := q79
  obtain rfl := qL
  rw [cK_at] at r79 ⊢
  refine z_ist_7 (TX8_tells_1.at 5 rfl) (Nat.le_of_ble_eq_true rfl) rfl ?_
  refine z_ald_0 (TX8_tells_1.at 6 rfl) ?_
  refine z_iconst (TX8_tells_1.at 7 rfl) ?_
  refine zm_putZE (TX8_tells_1.at 8 rfl) fp8_270 hH hA rfl (by decide) (by first | omega | exact b2i_01 _) (fun h f86 e1 e2 hH hA => ?_)
  have ef22 := (e1 22 (by decide)).trans ef22
  have ef23 := (e1 23 (by decide)).trans ef23
  have ef24 := e2
  have ef25 := (e1 25 (by decide)).trans ef25
  have hfE := hfE.put e1 (by decide)
  refine z_ald_0 (TX8_tells_1.at 9 rfl) ?_
  refine z_dup rfl (TX8_tells_1.at 10 rfl) ?_
  refine zm_getIE ef22 (TX8_tells_1.at 11 rfl) fl8_260 hH rfl (by decide) (fun r91 => ?_)
  refine z_iconst (TX8_tells_1.at 12 rfl) ?_
  refine z_iadd (TX8_tells_1.at 13 rfl) ?_
  refine zm_putIE (TX8_tells_1.at 14 rfl) fp8_260 hH hA rfl (by decide) (by first | omega | exact b2i_01 _) (fun h f96 e1 e2 hH hA => ?_)
  have ef22 := e2
  have ef23 := (e1 23 (by decide)).trans ef23
  have ef24 := (e1 24 (by decide)).trans ef24
  have ef25 := (e1 25 (by decide)).trans ef25
  have hfE := hfE.put e1 (by decide)
  refine z_ild_7 (TX8_tells_1.at 15 rfl) ?_
  refine z_iconst (TX8_tells_1.at 16 rfl) ?_
  refine z_icmp_ne (tgt := 109) (TX8_tells_1.at 17 rfl) rfl (by omega) (by omega) (fun c1 => absurd c1 (by omega)) (fun c1 => ?_)
  refine z_lconst (v := 1) (by decide) (TX8_tells_1.at 18 rfl) ?_
  refine z_goto (tgt := 114) (TX8_tells_1.at 19 rfl) rfl ?_
  refine z_lst_8 (TX8_tells_1.at 23 rfl) (Nat.le_of_ble_eq_true rfl) rfl ?_
  refine z_ald_0 (TX8_tells_1.at 24 rfl) ?_
  refine zm_getIE ef24 (TX8_tells_1.at 25 rfl) fl8_270 hH rfl (by decide) (fun r117 => ?_)
  refine z_ist_10 (TX8_tells_1.at 26 rfl) (Nat.le_of_ble_eq_true rfl) rfl ?_
  refine z_ald_0 (TX8_tells_1.at 27 rfl) ?_
  refine z_iconst (TX8_tells_1.at 28 rfl) ?_
  refine zm_putZE (TX8_tells_1.at 29 rfl) fp8_270 hH hA rfl (by decide) (by first | omega | exact b2i_01 _) (fun h f124 e1 e2 hH hA => ?_)
  have ef22 := (e1 22 (by decide)).trans ef22
  have ef23 := (e1 23 (by decide)).trans ef23
  have ef24 := e2
  have ef25 := (e1 25 (by decide)).trans ef25
  have hfE := hfE.put e1 (by decide)
  refine z_ald_0 (TX8_tells_1.at 30 rfl) ?_
  refine z_iconst (TX8_tells_1.at 31 rfl) ?_
  refine zm_callI1 (m_passes0 (t := (((t + 1) : Nat) : Int)) eg2 ef22 ef23 (by omega) (by push_cast; omega) rfl b0 (by omega) bn (by push_cast; omega)) (TX8_tells_1.at 32 rfl) c8_284 rfl rfl hH hA (by omega) (Nat.le_of_ble_eq_true rfl) (fun x129 f129 g129 j129 h r129 q129 hH hA => ?_)
  obtain ⟨q129, xf, xg, xj⟩ := q129
  rw [xj] at hH
  have ef23 := (xf 23 (by decide)).trans ef23
  have ef24 := (xf 24 (by decide)).trans ef24
  have ef25 := (xf 25 (by decide)).trans ef25
  have hfE := hfE.trans xf (by decide)
  have eg2 := (xg 2 (by decide)).trans eg2
  have eg26 := (xg 26 (by decide)).trans eg26
  have hgE := hgE.trans xg (by decide)
  have qL := q129
  obtain ⟨rfl, ef22⟩ := qL
  rw [b2i_f hif, Int.add_zero] at ef22
  refine z_if_eqB (tgt := 143) (TX8_tells_1.at 33 rfl) rfl (fun c2 => ?_) (fun c2 => absurd c2 (by exact hif))
  refine z_iconst (TX8_tells_1.at 38 rfl) ?_
  refine z_goto (tgt := 148) (TX8_tells_1.at 39 rfl) rfl ?_
  refine z_ist_11 (TX8_tells_2.at 1 rfl) (Nat.le_of_ble_eq_true rfl) rfl ?_
  refine z_ild_7 (TX8_tells_2.at 2 rfl) ?_
  refine z_ild_1 (TX8_tells_2.at 3 rfl) ?_
  refine z_icmp_ne (tgt := 203) (TX8_tells_2.at 4 rfl) rfl (by omega) (by omega) (fun c3 => ?_) (fun c3 => ?_)
  · skip
    refine z_ald_0 (TX8_tells_2.at 30 rfl) ?_
    refine z_dup rfl (TX8_tells_2.at 31 rfl) ?_
    refine zm_getIE ef22 (TX8_tells_2.at 32 rfl) fl8_260 hH rfl (by decide) (fun r205 => ?_)
    refine z_iconst (TX8_tells_2.at 33 rfl) ?_
    refine z_iadd (TX8_tells_2.at 34 rfl) ?_
    refine zm_putIE (TX8_tells_2.at 35 rfl) fp8_260 hH hA rfl (by decide) (by first | omega | exact b2i_01 _) (fun h f210 e1 e2 hH hA => ?_)
    have ef22 := e2
    have ef23 := (e1 23 (by decide)).trans ef23
    have ef24 := (e1 24 (by decide)).trans ef24
    have ef25 := (e1 25 (by decide)).trans ef25
    have hfE := hfE.put e1 (by decide)
    refine z_goto (tgt := 63) (TX8_tells_2.at 36 rfl) rfl ?_
    first | (have hz : cK K b nt t ≠ head := (by omega); exact kx _ _ _ _ _ _ _ _ _ (tellS_no (fun q => absurd q.1 (by omega))).symm (by omega) (by rw [ef22]) ef23 ef25 eg2 eg26 hfE hgE hH hA) | (skip; exact kx _ _ _ _ _ _ _ _ _ (by rw [tellS_yes (x := 1) (by omega) rfl rfl]; first | (rw [if_pos (by omega)]; done) | (rw [if_neg (by omega), if_pos (by omega)]; done) | (rw [if_neg (by omega), if_neg (by omega)]; done)) (by omega) (by rw [ef22]) ef23 ef25 eg2 eg26 hfE hgE hH hA)
  · skip
    refine z_ild_11 (TX8_tells_2.at 5 rfl) ?_
    refine z_if_eq (tgt := 203) (TX8_tells_2.at 6 rfl) rfl (by decide) (fun c4 => absurd c4 (by decide)) (fun c4 => ?_)
    refine z_ald_0 (TX8_tells_2.at 7 rfl) ?_
    refine zm_getIE ef24 (TX8_tells_2.at 8 rfl) fl8_270 hH rfl (by decide) (fun r162 => ?_)
    refine z_if_ne (tgt := 203) (TX8_tells_2.at 9 rfl) rfl (by omega) (fun c5 => ?_) (fun c5 => ?_)
    · skip
      refine z_ald_0 (TX8_tells_2.at 30 rfl) ?_
      refine z_dup rfl (TX8_tells_2.at 31 rfl) ?_
      refine zm_getIE ef22 (TX8_tells_2.at 32 rfl) fl8_260 hH rfl (by decide) (fun r205 => ?_)
      refine z_iconst (TX8_tells_2.at 33 rfl) ?_
      refine z_iadd (TX8_tells_2.at 34 rfl) ?_
      refine zm_putIE (TX8_tells_2.at 35 rfl) fp8_260 hH hA rfl (by decide) (by first | omega | exact b2i_01 _) (fun h f210 e1 e2 hH hA => ?_)
      have ef22 := e2
      have ef23 := (e1 23 (by decide)).trans ef23
      have ef24 := (e1 24 (by decide)).trans ef24
      have ef25 := (e1 25 (by decide)).trans ef25
      have hfE := hfE.put e1 (by decide)
      refine z_goto (tgt := 63) (TX8_tells_2.at 36 rfl) rfl ?_
      first | (have hz : cK K b nt t ≠ head := (by omega); exact kx _ _ _ _ _ _ _ _ _ (tellS_no (fun q => absurd q.1 (by omega))).symm (by omega) (by rw [ef22]) ef23 ef25 eg2 eg26 hfE hgE hH hA) | (skip; exact kx _ _ _ _ _ _ _ _ _ (by rw [tellS_yes (x := 1) (by omega) rfl rfl]; first | (rw [if_pos (by omega)]; done) | (rw [if_neg (by omega), if_pos (by omega)]; done) | (rw [if_neg (by omega), if_neg (by omega)]; done)) (by omega) (by rw [ef22]) ef23 ef25 eg2 eg26 hfE hgE hH hA)
    · skip
      refine z_ild_10 (TX8_tells_2.at 10 rfl) ?_
      refine z_if_ne (tgt := 203) (TX8_tells_2.at 11 rfl) rfl (by omega) (fun c6 => ?_) (fun c6 => ?_)
      · skip
        refine z_ald_0 (TX8_tells_2.at 30 rfl) ?_
        refine z_dup rfl (TX8_tells_2.at 31 rfl) ?_
        refine zm_getIE ef22 (TX8_tells_2.at 32 rfl) fl8_260 hH rfl (by decide) (fun r205 => ?_)
        refine z_iconst (TX8_tells_2.at 33 rfl) ?_
        refine z_iadd (TX8_tells_2.at 34 rfl) ?_
        refine zm_putIE (TX8_tells_2.at 35 rfl) fp8_260 hH hA rfl (by decide) (by first | omega | exact b2i_01 _) (fun h f210 e1 e2 hH hA => ?_)
        have ef22 := e2
        have ef23 := (e1 23 (by decide)).trans ef23
        have ef24 := (e1 24 (by decide)).trans ef24
        have ef25 := (e1 25 (by decide)).trans ef25
        have hfE := hfE.put e1 (by decide)
        refine z_goto (tgt := 63) (TX8_tells_2.at 36 rfl) rfl ?_
        first | (have hz : cK K b nt t ≠ head := (by omega); exact kx _ _ _ _ _ _ _ _ _ (tellS_no (fun q => absurd q.1 (by omega))).symm (by omega) (by rw [ef22]) ef23 ef25 eg2 eg26 hfE hgE hH hA) | (skip; exact kx _ _ _ _ _ _ _ _ _ (by rw [tellS_yes (x := 1) (by omega) rfl rfl]; first | (rw [if_pos (by omega)]; done) | (rw [if_neg (by omega), if_pos (by omega)]; done) | (rw [if_neg (by omega), if_neg (by omega)]; done)) (by omega) (by rw [ef22]) ef23 ef25 eg2 eg26 hfE hgE hH hA)
      · skip
        refine z_lld_8 (TX8_tells_2.at 12 rfl) ?_
        refine z_ild_2 (TX8_tells_2.at 13 rfl) ?_
        refine z_i2l (by omega) (TX8_tells_2.at 14 rfl) ?_
        refine z_lif_ge (tgt := 186) (TX8_tells_2.at 15 rfl) (TX8_tells_2.at 16 rfl) rfl (by omega) (by omega) (fun c7 => ?_) (fun c7 => ?_)
        · skip
          refine z_lld_8 (TX8_tells_2.at 20 rfl) ?_
          refine z_ild_3 (TX8_tells_2.at 21 rfl) ?_
          refine z_i2l (by omega) (TX8_tells_2.at 22 rfl) ?_
          refine z_lif_le (tgt := 199) (TX8_tells_2.at 23 rfl) (TX8_tells_2.at 24 rfl) rfl (by omega) (by omega) (fun c8 => ?_) (fun c8 => ?_)
          · skip
            refine z_lld_8 (TX8_tells_2.at 28 rfl) ?_
            refine z_lst_5 (TX8_tells_2.at 29 rfl) (Nat.le_of_ble_eq_true rfl) rfl ?_
            refine z_ald_0 (TX8_tells_2.at 30 rfl) ?_
            refine z_dup rfl (TX8_tells_2.at 31 rfl) ?_
            refine zm_getIE ef22 (TX8_tells_2.at 32 rfl) fl8_260 hH rfl (by decide) (fun r205 => ?_)
            refine z_iconst (TX8_tells_2.at 33 rfl) ?_
            refine z_iadd (TX8_tells_2.at 34 rfl) ?_
            refine zm_putIE (TX8_tells_2.at 35 rfl) fp8_260 hH hA rfl (by decide) (by first | omega | exact b2i_01 _) (fun h f210 e1 e2 hH hA => ?_)
            have ef22 := e2
            have ef23 := (e1 23 (by decide)).trans ef23
            have ef24 := (e1 24 (by decide)).trans ef24
            have ef25 := (e1 25 (by decide)).trans ef25
            have hfE := hfE.put e1 (by decide)
            refine z_goto (tgt := 63) (TX8_tells_2.at 36 rfl) rfl ?_
            first | (have hz : cK K b nt t ≠ head := (by omega); exact kx _ _ _ _ _ _ _ _ _ (tellS_no (fun q => absurd q.1 (by omega))).symm (by omega) (by rw [ef22]) ef23 ef25 eg2 eg26 hfE hgE hH hA) | (skip; exact kx _ _ _ _ _ _ _ _ _ (by rw [tellS_yes (x := 1) (by omega) rfl rfl]; first | (rw [if_pos (by omega)]; done) | (rw [if_neg (by omega), if_pos (by omega)]; done) | (rw [if_neg (by omega), if_neg (by omega)]; done)) (by omega) (by rw [ef22]) ef23 ef25 eg2 eg26 hfE hgE hH hA)
          · skip
            refine z_ild_3 (TX8_tells_2.at 25 rfl) ?_
            refine z_i2l (by omega) (TX8_tells_2.at 26 rfl) ?_
            refine z_goto (tgt := 201) (TX8_tells_2.at 27 rfl) rfl ?_
            refine z_lst_5 (TX8_tells_2.at 29 rfl) (Nat.le_of_ble_eq_true rfl) rfl ?_
            refine z_ald_0 (TX8_tells_2.at 30 rfl) ?_
            refine z_dup rfl (TX8_tells_2.at 31 rfl) ?_
            refine zm_getIE ef22 (TX8_tells_2.at 32 rfl) fl8_260 hH rfl (by decide) (fun r205 => ?_)
            refine z_iconst (TX8_tells_2.at 33 rfl) ?_
            refine z_iadd (TX8_tells_2.at 34 rfl) ?_
            refine zm_putIE (TX8_tells_2.at 35 rfl) fp8_260 hH hA rfl (by decide) (by first | omega | exact b2i_01 _) (fun h f210 e1 e2 hH hA => ?_)
            have ef22 := e2
            have ef23 := (e1 23 (by decide)).trans ef23
            have ef24 := (e1 24 (by decide)).trans ef24
            have ef25 := (e1 25 (by decide)).trans ef25
            have hfE := hfE.put e1 (by decide)
            refine z_goto (tgt := 63) (TX8_tells_2.at 36 rfl) rfl ?_
            first | (have hz : cK K b nt t ≠ head := (by omega); exact kx _ _ _ _ _ _ _ _ _ (tellS_no (fun q => absurd q.1 (by omega))).symm (by omega) (by rw [ef22]) ef23 ef25 eg2 eg26 hfE hgE hH hA) | (skip; exact kx _ _ _ _ _ _ _ _ _ (by rw [tellS_yes (x := 1) (by omega) rfl rfl]; first | (rw [if_pos (by omega)]; done) | (rw [if_neg (by omega), if_pos (by omega)]; done) | (rw [if_neg (by omega), if_neg (by omega)]; done)) (by omega) (by rw [ef22]) ef23 ef25 eg2 eg26 hfE hgE hH hA)
        · skip
          refine z_ild_2 (TX8_tells_2.at 17 rfl) ?_
          refine z_i2l (by omega) (TX8_tells_2.at 18 rfl) ?_
          refine z_goto (tgt := 201) (TX8_tells_2.at 19 rfl) rfl ?_
          refine z_lst_5 (TX8_tells_2.at 29 rfl) (Nat.le_of_ble_eq_true rfl) rfl ?_
          refine z_ald_0 (TX8_tells_2.at 30 rfl) ?_
          refine z_dup rfl (TX8_tells_2.at 31 rfl) ?_
          refine zm_getIE ef22 (TX8_tells_2.at 32 rfl) fl8_260 hH rfl (by decide) (fun r205 => ?_)
          refine z_iconst (TX8_tells_2.at 33 rfl) ?_
          refine z_iadd (TX8_tells_2.at 34 rfl) ?_
          refine zm_putIE (TX8_tells_2.at 35 rfl) fp8_260 hH hA rfl (by decide) (by first | omega | exact b2i_01 _) (fun h f210 e1 e2 hH hA => ?_)
          have ef22 := e2
          have ef23 := (e1 23 (by decide)).trans ef23
          have ef24 := (e1 24 (by decide)).trans ef24
          have ef25 := (e1 25 (by decide)).trans ef25
          have hfE := hfE.put e1 (by decide)
          refine z_goto (tgt := 63) (TX8_tells_2.at 36 rfl) rfl ?_
          first | (have hz : cK K b nt t ≠ head := (by omega); exact kx _ _ _ _ _ _ _ _ _ (tellS_no (fun q => absurd q.1 (by omega))).symm (by omega) (by rw [ef22]) ef23 ef25 eg2 eg26 hfE hgE hH hA) | (skip; exact kx _ _ _ _ _ _ _ _ _ (by rw [tellS_yes (x := 1) (by omega) rfl rfl]; first | (rw [if_pos (by omega)]; done) | (rw [if_neg (by omega), if_pos (by omega)]; done) | (rw [if_neg (by omega), if_neg (by omega)]; done)) (by omega) (by rw [ef22]) ef23 ef25 eg2 eg26 hfE hgE hH hA)

