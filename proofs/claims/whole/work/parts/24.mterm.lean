/-! ===== the reference: terms and sums ===== -/
theorem ploop_step {op : Int → Option Int} {c : Int → Int} {item : Nat → Nat → PR} {n t p : Nat} {k : Den} {R : Nat × Nat × Den} {o : Int} (h : pLoop op c item (n + 1) t p k = .ok R) (ho : op (c t) = some o) : ∃ t2 p2 k2, item (t + 1) p = .ok (t2, p2, k2) ∧ pLoop op c item n t2 p2 (dBin o k k2) = .ok R := by
  simp only [pLoop, ho] at h
  cases hg : item (t + 1) p with
  | error e => rw [hg] at h; cases h
  | ok r => obtain ⟨t2, p2, k2⟩ := r; rw [hg] at h; exact ⟨t2, p2, k2, rfl, h⟩
theorem ploop_end {op : Int → Option Int} {c : Int → Int} {item : Nat → Nat → PR} {n t p t1 p1 : Nat} {k k1 : Den} (h : pLoop op c item (n + 1) t p k = .ok (t1, p1, k1)) (ho : op (c t) = none) : t1 = t ∧ k1 = k := by
  simp only [pLoop, ho] at h
  cases h
  exact ⟨rfl, rfl⟩
theorem adv_le {c : Int → Int} {nt : Int} {t t' : Nat} (hz : ∀ m : Nat, c m ≠ 0 → (m : Int) < nt) (h : t < t') (h2 : nz c t t') : (t' : Int) ≤ nt := by
  have := hz (t' - 1) (h2 (t' - 1) (by omega) (by omega))
  omega
theorem cK_nz {K : Int → Int} {b nt : Int} (m : Nat) (hm : cK K b nt m ≠ 0) : (m : Int) < nt := by
  rcases Int.lt_or_le (m : Int) nt with h | h
  · exact h
  · exact absurd (if_neg (by omega)) hm
theorem opV_in {o x y z : Int} (h : opV o x y = some z) : zIn z := by
  unfold opV bnd at h
  have b := b2i_in (x < y)
  have b2 := b2i_in (y < x)
  have b3 := b2i_in (x = y)
  repeat' split at h
  all_goals first | (cases h; done) | (cases h; omega)
theorem dBin_in {o : Int} {k k2 : Den} {φ : Int → Int} : ∀ z, dBin o k k2 φ = some z → zIn z := by
  intro z h
  unfold dBin at h
  split at h
  · cases h
  · split at h
    · cases h
    · exact opV_in h
theorem mul_in {x y : Int} (hx : zIn x) (hy : zIn y) : zInL (x * y) := by
  have h : (x * y).natAbs ≤ 2147483648 * 2147483648 := by
    rw [Int.natAbs_mul]
    exact Nat.mul_le_mul (by omega) (by omega)
  omega
theorem zldiv_eq {x y : Int} (hx : zIn x) (hy : zIn y) : zldiv x y = x.tdiv y := by
  unfold zldiv
  rw [Int64.toInt_div, zL_toInt (by omega), zL_toInt (by omega)]
  have h : (x.tdiv y).natAbs ≤ 2147483648 := by
    rw [Int.natAbs_tdiv]
    exact Nat.le_trans (Nat.div_le_self _ _) (by omega)
  exact Int.bmod_eq_of_le (by omega) (by omega)
theorem zlrem_eq {x y : Int} (hx : zIn x) (hy : zIn y) : zlrem x y = x.tmod y := by
  have e : Int64.ofInt x / Int64.ofInt y = Int64.ofInt (x.tdiv y) := by
    have := zldiv_eq hx hy
    unfold zldiv at this
    rw [← this, Int64.ofInt_toInt]
  unfold zlrem
  rw [e, ← Int64.ofInt_mul, ← Int64.ofInt_sub]
  have e2 : x - x.tdiv y * y = x.tmod y := by have := Int.tmod_add_tdiv_mul x y; omega
  rw [e2]
  have h : (x.tmod y).natAbs ≤ 2147483648 := by
    rw [Int.natAbs_tmod]
    exact Nat.le_trans (Nat.mod_le _ _) (by omega)
  exact zL_toInt (by omega)
theorem tdiv_in {x y : Int} (hx : zIn x) : zInL (x.tdiv y) := by
  have h : (x.tdiv y).natAbs ≤ 2147483648 := by
    rw [Int.natAbs_tdiv]
    exact Nat.le_trans (Nat.div_le_self _ _) (by omega)
  omega
theorem tmod_in {x y : Int} (hx : zIn x) : zInL (x.tmod y) := by
  have h : (x.tmod y).natAbs ≤ 2147483648 := by
    rw [Int.natAbs_tmod]
    exact Nat.le_trans (Nat.mod_le _ _) (by omega)
  omega
set_option maxHeartbeats 4000000 in
set_option maxRecDepth 100000 in
theorem lp_sumOf {l : Launch} {o : Nat} {ar : Nat → Nat} {d : Nat} {Pz : Option Value → zH → Prop} {h0 : zH} {f0 : mF} {g0 : mA} {j : mA} {N : Nat} (hd : N + 1 ≤ d) (hN : 2 ≤ N) {K φ : Int → Int} {b nt live br : Int} {lw : Bool} {item : Nat → Nat → PR} {t1 p1 : Nat} {k1 : Den} (hl : live = 0 ∨ live = 1) (hb : br = 0 ∨ br = 1) (b0 : 0 ≤ b) (bn : b + nt ≤ 2800) (n4 : nt ≤ 400) (hAdv : Adv (cK K b nt) item) (hitem : EvC l o ar MX8_termOf N lw K b nt φ item) (hFo0 : FOK lw K f0 g0 φ) (kx : ∀ (o4 o5 o6 : Option Value) (f : mF) (g : mA) (h : zH), f 22 = b + t1 → f 24 = evB live br (k1 φ) → zIn (evV live br (k1 φ)) → eqx [22, 24] f0 f → eqx [] g0 g → HM o ar f g j h → zAg o ar h0 h → Z l MX8_sumOf d 0 0 Pz 103 [some (.ref o), some (vI live), some (vL (evV live br (k1 φ))), none, o4, o5, o6] [] h 0 0)  : ∀ (n : Nat) (t : Nat) (p : Nat) (k0 : Den) (o4 : Option Value) (o5 : Option Value) (o6 : Option Value) (f : mF) (g : mA) (h : zH) (tm : 401 ≤ t + n) (tn : (t : Int) ≤ nt) (hp : pLoop addOp (cK K b nt) item n t p k0 = .ok (t1, p1, k1)) (vz : zIn (evV live br (k0 φ))) (eg2 : g 2 = K) (ef22 : f 22 = b + t) (ef23 : f 23 = b + nt) (ef24 : f 24 = evB live br (k0 φ)) (hfE : eqx [22, 24] f0 f) (hgE : eqx [] g0 g) (hH : HM o ar f g j h) (hA : zAg o ar h0 h), Z l MX8_sumOf d 0 0 Pz 6 [some (.ref o), some (vI live), some (vL (evV live br (k0 φ))), none, o4, o5, o6] [] h 0 0 := by
  intro n
  induction n with
  | zero => intro t p k0 o4 o5 o6 f g h tm tn hp vz eg2 ef22 ef23 ef24 hfE hgE hH hA; exfalso; omega
  | succ n ih =>
    intro t p k0 o4 o5 o6 f g h tm tn hp vz eg2 ef22 ef23 ef24 hfE hgE hH hA
    refine z_ald_0 (TX8_sumOf.at 4 rfl) ?_
    refine z_ald_0 (TX8_sumOf.at 5 rfl) ?_
    refine zm_getIE ef22 (TX8_sumOf.at 6 rfl) fl8_260 hH rfl (by decide) (fun r8 => ?_)
    refine zm_callI1 (m_codeAt eg2 ef23 (by omega) (by omega) (by omega)) (TX8_sumOf.at 7 rfl) c8_263 rfl rfl hH hA (by omega) (Nat.le_of_ble_eq_true rfl) (fun x11 f11 g11 j11 h r11 q11 hH hA => ?_)
    obtain ⟨q11, xf, xg, xj⟩ := q11
    rw [xj] at hH
    have ef22 := (xf 22 (by decide)).trans ef22
    have ef23 := (xf 23 (by decide)).trans ef23
    have ef24 := (xf 24 (by decide)).trans ef24
    have hfE := hfE.trans xf (by decide)
    have eg2 := (xg 2 (by decide)).trans eg2
    have hgE := hgE.trans xg (by decide)
    have qL := q11
    obtain rfl := qL
    rw [cK_at] at r11 ⊢
    refine z_bipush (by decide) (TX8_sumOf.at 8 rfl) ?_
    refine zs_call1 (s_sign (by omega)) (TX8_sumOf.at 9 rfl) c8_219 rfl (by omega) (Nat.le_of_ble_eq_true rfl) (fun r16 => ?_)
    refine z_icmp_eq (tgt := 38) (TX8_sumOf.at 10 rfl) rfl (by omega) (by omega) (fun c1 => ?_) (fun c1 => ?_)
    · skip
      have hc : cK K b nt t = 143 := by omega
      obtain ⟨t2, p2, k2, hpi, hp2⟩ := ploop_step hp (show addOp (cK K b nt t) = some 3 by rw [hc]; rfl)
      have tn1 := cK_nz (K := K) (b := b) (nt := nt) t (by omega)
      have ha : advR (cK K b nt) (t + 1) (.ok (t2, p2, k2)) := hpi ▸ hAdv (t + 1) p
      have ha1 : t + 1 < t2 := ha.1
      have ha2 := adv_le (nt := nt) cK_nz ha.1 ha.2
      refine z_ald_0 (TX8_sumOf.at 18 rfl) ?_
      refine z_ald_0 (TX8_sumOf.at 19 rfl) ?_
      refine zm_getIE ef22 (TX8_sumOf.at 20 rfl) fl8_260 hH rfl (by decide) (fun r40 => ?_)
      refine zm_callI1 (m_codeAt eg2 ef23 (by omega) (by omega) (by omega)) (TX8_sumOf.at 21 rfl) c8_263 rfl rfl hH hA (by omega) (Nat.le_of_ble_eq_true rfl) (fun x43 f43 g43 j43 h r43 q43 hH hA => ?_)
      obtain ⟨q43, xf, xg, xj⟩ := q43
      rw [xj] at hH
      have ef22 := (xf 22 (by decide)).trans ef22
      have ef23 := (xf 23 (by decide)).trans ef23
      have ef24 := (xf 24 (by decide)).trans ef24
      have hfE := hfE.trans xf (by decide)
      have eg2 := (xg 2 (by decide)).trans eg2
      have hgE := hgE.trans xg (by decide)
      have qL := q43
      obtain rfl := qL
      rw [cK_at] at r43 ⊢
      refine z_bipush (by decide) (TX8_sumOf.at 22 rfl) ?_
      refine zs_call1 (s_sign (by omega)) (TX8_sumOf.at 23 rfl) c8_219 rfl (by omega) (Nat.le_of_ble_eq_true rfl) (fun r48 => ?_)
      refine z_icmp_ne (tgt := 58) (TX8_sumOf.at 24 rfl) rfl (by omega) (by omega) (fun c2 => ?_) (fun c2 => ?_)
      · skip
        refine z_iconst (TX8_sumOf.at 27 rfl) ?_
        refine z_ist_4 (TX8_sumOf.at 28 rfl) (Nat.le_of_ble_eq_true rfl) rfl ?_
        refine z_ald_0 (TX8_sumOf.at 29 rfl) ?_
        refine z_dup rfl (TX8_sumOf.at 30 rfl) ?_
        refine zm_getIE ef22 (TX8_sumOf.at 31 rfl) fl8_260 hH rfl (by decide) (fun r63 => ?_)
        refine z_iconst (TX8_sumOf.at 32 rfl) ?_
        refine z_iadd (TX8_sumOf.at 33 rfl) ?_
        refine zm_putIE (TX8_sumOf.at 34 rfl) fp8_260 hH hA rfl (by decide) (by first | omega | exact b2i_01 _) (fun h f68 e1 e2 hH hA => ?_)
        have ef22 := e2
        have ef23 := (e1 23 (by decide)).trans ef23
        have ef24 := (e1 24 (by decide)).trans ef24
        have hfE := hfE.put e1 (by decide)
        refine z_ald_0 (TX8_sumOf.at 35 rfl) ?_
        refine z_ild_1 (TX8_sumOf.at 36 rfl) ?_
        refine zm_callL1 (hitem live _ (t + 1) p t2 p2 k2 _ _ _ hl (evB_01 hb) eg2 (by rw [ef22]; push_cast; omega) ef23 ef24 (hFo0.keep hfE hgE) (by push_cast; omega) hpi) (TX8_sumOf.at 37 rfl) c8_273 rfl rfl hH hA (by omega) (Nat.le_of_ble_eq_true rfl) (fun x73 f73 g73 j73 h r73 q73 hH hA => ?_)
        obtain ⟨q73, xf, xg, xj⟩ := q73
        rw [xj] at hH
        have ef23 := (xf 23 (by decide)).trans ef23
        have hfE := hfE.trans xf (by decide)
        have eg2 := (xg 2 (by decide)).trans eg2
        have hgE := hgE.trans xg (by decide)
        have qL := q73
        obtain ⟨rfl, ef24, ef22, rz⟩ := qL
        refine z_lst_5 (TX8_sumOf.at 38 rfl) (Nat.le_of_ble_eq_true rfl) rfl ?_
        refine z_ald_0 (TX8_sumOf.at 39 rfl) ?_
        refine z_ild_4 (TX8_sumOf.at 40 rfl) ?_
        refine z_if_eq (tgt := 91) (TX8_sumOf.at 41 rfl) rfl (by decide) (fun c3 => ?_) (fun c3 => absurd c3 (by decide))
        refine z_lld_2 (TX8_sumOf.at 46 rfl) ?_
        refine z_lld_5 (TX8_sumOf.at 47 rfl) ?_
        refine z_lsub (TX8_sumOf.at 48 rfl) ?_
        refine z_ild_1 (TX8_sumOf.at 49 rfl) ?_
        refine zm_callL2 (m_bounded ef24 (by omega) hl (evB_01 (evB_01 hb))) (TX8_sumOf.at 50 rfl) c8_277 rfl rfl hH hA (by omega) (Nat.le_of_ble_eq_true rfl) (fun x96 f96 g96 j96 h r96 q96 hH hA => ?_)
        obtain ⟨q96, xf, xg, xj⟩ := q96
        rw [xj] at hH
        have ef22 := (xf 22 (by decide)).trans ef22
        have ef23 := (xf 23 (by decide)).trans ef23
        have hfE := hfE.trans xf (by decide)
        have eg2 := (xg 2 (by decide)).trans eg2
        have hgE := hgE.trans xg (by decide)
        have qL := q96
        obtain ⟨rfl, ef24⟩ := qL
        rw [bd_eq] at r96 ⊢
        rw [bd_eqB] at ef24
        refine z_lst_2 (TX8_sumOf.at 51 rfl) (Nat.le_of_ble_eq_true rfl) rfl ?_
        refine z_goto (tgt := 6) (TX8_sumOf.at 52 rfl) rfl ?_
        first | (exfalso; omega) | (have e := ev_bin (live := live) (br := br) (o := 3) (op := fun x y => x + y) (k0 := k0) (k2 := k2) (φ := φ) hl hb rfl (fun _ _ => rfl); rw [e.2] at ef24; rw [e.1]; exact ih t2 p2 (dBin 3 k0 k2) _ _ _ _ _ _ (by omega) ha2 hp2 (evV_in dBin_in) eg2 ef22 ef23 ef24 hfE hgE hH hA) | (have e := ev_bin (live := live) (br := br) (o := 4) (op := fun x y => x - y) (k0 := k0) (k2 := k2) (φ := φ) hl hb rfl (fun _ _ => rfl); rw [e.2] at ef24; rw [e.1]; exact ih t2 p2 (dBin 4 k0 k2) _ _ _ _ _ _ (by omega) ha2 hp2 (evV_in dBin_in) eg2 ef22 ef23 ef24 hfE hgE hH hA)
      · skip
        refine z_iconst (TX8_sumOf.at 25 rfl) ?_
        refine z_goto (tgt := 59) (TX8_sumOf.at 26 rfl) rfl ?_
        refine z_ist_4 (TX8_sumOf.at 28 rfl) (Nat.le_of_ble_eq_true rfl) rfl ?_
        refine z_ald_0 (TX8_sumOf.at 29 rfl) ?_
        refine z_dup rfl (TX8_sumOf.at 30 rfl) ?_
        refine zm_getIE ef22 (TX8_sumOf.at 31 rfl) fl8_260 hH rfl (by decide) (fun r63 => ?_)
        refine z_iconst (TX8_sumOf.at 32 rfl) ?_
        refine z_iadd (TX8_sumOf.at 33 rfl) ?_
        refine zm_putIE (TX8_sumOf.at 34 rfl) fp8_260 hH hA rfl (by decide) (by first | omega | exact b2i_01 _) (fun h f68 e1 e2 hH hA => ?_)
        have ef22 := e2
        have ef23 := (e1 23 (by decide)).trans ef23
        have ef24 := (e1 24 (by decide)).trans ef24
        have hfE := hfE.put e1 (by decide)
        refine z_ald_0 (TX8_sumOf.at 35 rfl) ?_
        refine z_ild_1 (TX8_sumOf.at 36 rfl) ?_
        refine zm_callL1 (hitem live _ (t + 1) p t2 p2 k2 _ _ _ hl (evB_01 hb) eg2 (by rw [ef22]; push_cast; omega) ef23 ef24 (hFo0.keep hfE hgE) (by push_cast; omega) hpi) (TX8_sumOf.at 37 rfl) c8_273 rfl rfl hH hA (by omega) (Nat.le_of_ble_eq_true rfl) (fun x73 f73 g73 j73 h r73 q73 hH hA => ?_)
        obtain ⟨q73, xf, xg, xj⟩ := q73
        rw [xj] at hH
        have ef23 := (xf 23 (by decide)).trans ef23
        have hfE := hfE.trans xf (by decide)
        have eg2 := (xg 2 (by decide)).trans eg2
        have hgE := hgE.trans xg (by decide)
        have qL := q73
        obtain ⟨rfl, ef24, ef22, rz⟩ := qL
        refine z_lst_5 (TX8_sumOf.at 38 rfl) (Nat.le_of_ble_eq_true rfl) rfl ?_
        refine z_ald_0 (TX8_sumOf.at 39 rfl) ?_
        refine z_ild_4 (TX8_sumOf.at 40 rfl) ?_
        refine z_if_eq (tgt := 91) (TX8_sumOf.at 41 rfl) rfl (by decide) (fun c4 => absurd c4 (by decide)) (fun c4 => ?_)
        refine z_lld_2 (TX8_sumOf.at 42 rfl) ?_
        refine z_lld_5 (TX8_sumOf.at 43 rfl) ?_
        refine z_ladd (TX8_sumOf.at 44 rfl) ?_
        refine z_goto (tgt := 95) (TX8_sumOf.at 45 rfl) rfl ?_
        refine z_ild_1 (TX8_sumOf.at 49 rfl) ?_
        refine zm_callL2 (m_bounded ef24 (by omega) hl (evB_01 (evB_01 hb))) (TX8_sumOf.at 50 rfl) c8_277 rfl rfl hH hA (by omega) (Nat.le_of_ble_eq_true rfl) (fun x96 f96 g96 j96 h r96 q96 hH hA => ?_)
        obtain ⟨q96, xf, xg, xj⟩ := q96
        rw [xj] at hH
        have ef22 := (xf 22 (by decide)).trans ef22
        have ef23 := (xf 23 (by decide)).trans ef23
        have hfE := hfE.trans xf (by decide)
        have eg2 := (xg 2 (by decide)).trans eg2
        have hgE := hgE.trans xg (by decide)
        have qL := q96
        obtain ⟨rfl, ef24⟩ := qL
        rw [bd_eq] at r96 ⊢
        rw [bd_eqB] at ef24
        refine z_lst_2 (TX8_sumOf.at 51 rfl) (Nat.le_of_ble_eq_true rfl) rfl ?_
        refine z_goto (tgt := 6) (TX8_sumOf.at 52 rfl) rfl ?_
        first | (exfalso; omega) | (have e := ev_bin (live := live) (br := br) (o := 3) (op := fun x y => x + y) (k0 := k0) (k2 := k2) (φ := φ) hl hb rfl (fun _ _ => rfl); rw [e.2] at ef24; rw [e.1]; exact ih t2 p2 (dBin 3 k0 k2) _ _ _ _ _ _ (by omega) ha2 hp2 (evV_in dBin_in) eg2 ef22 ef23 ef24 hfE hgE hH hA) | (have e := ev_bin (live := live) (br := br) (o := 4) (op := fun x y => x - y) (k0 := k0) (k2 := k2) (φ := φ) hl hb rfl (fun _ _ => rfl); rw [e.2] at ef24; rw [e.1]; exact ih t2 p2 (dBin 4 k0 k2) _ _ _ _ _ _ (by omega) ha2 hp2 (evV_in dBin_in) eg2 ef22 ef23 ef24 hfE hgE hH hA)
    · skip
      refine z_ald_0 (TX8_sumOf.at 11 rfl) ?_
      refine z_ald_0 (TX8_sumOf.at 12 rfl) ?_
      refine zm_getIE ef22 (TX8_sumOf.at 13 rfl) fl8_260 hH rfl (by decide) (fun r24 => ?_)
      refine zm_callI1 (m_codeAt eg2 ef23 (by omega) (by omega) (by omega)) (TX8_sumOf.at 14 rfl) c8_263 rfl rfl hH hA (by omega) (Nat.le_of_ble_eq_true rfl) (fun x27 f27 g27 j27 h r27 q27 hH hA => ?_)
      obtain ⟨q27, xf, xg, xj⟩ := q27
      rw [xj] at hH
      have ef22 := (xf 22 (by decide)).trans ef22
      have ef23 := (xf 23 (by decide)).trans ef23
      have ef24 := (xf 24 (by decide)).trans ef24
      have hfE := hfE.trans xf (by decide)
      have eg2 := (xg 2 (by decide)).trans eg2
      have hgE := hgE.trans xg (by decide)
      have qL := q27
      obtain rfl := qL
      rw [cK_at] at r27 ⊢
      refine z_bipush (by decide) (TX8_sumOf.at 15 rfl) ?_
      refine zs_call1 (s_sign (by omega)) (TX8_sumOf.at 16 rfl) c8_219 rfl (by omega) (Nat.le_of_ble_eq_true rfl) (fun r32 => ?_)
      refine z_icmp_ne (tgt := 103) (TX8_sumOf.at 17 rfl) rfl (by omega) (by omega) (fun c5 => ?_) (fun c5 => ?_)
      · skip
        obtain ⟨rfl, rfl⟩ := ploop_end hp (show addOp (cK K b nt t) = none by unfold addOp; rw [if_neg (by omega), if_neg (by omega)])
        exact kx _ _ _ _ _ _ ef22 ef24 vz hfE hgE hH hA
      · skip
        have hc : cK K b nt t = 145 := by omega
        obtain ⟨t2, p2, k2, hpi, hp2⟩ := ploop_step hp (show addOp (cK K b nt t) = some 4 by rw [hc]; rfl)
        have tn1 := cK_nz (K := K) (b := b) (nt := nt) t (by omega)
        have ha : advR (cK K b nt) (t + 1) (.ok (t2, p2, k2)) := hpi ▸ hAdv (t + 1) p
        have ha1 : t + 1 < t2 := ha.1
        have ha2 := adv_le (nt := nt) cK_nz ha.1 ha.2
        refine z_ald_0 (TX8_sumOf.at 18 rfl) ?_
        refine z_ald_0 (TX8_sumOf.at 19 rfl) ?_
        refine zm_getIE ef22 (TX8_sumOf.at 20 rfl) fl8_260 hH rfl (by decide) (fun r40 => ?_)
        refine zm_callI1 (m_codeAt eg2 ef23 (by omega) (by omega) (by omega)) (TX8_sumOf.at 21 rfl) c8_263 rfl rfl hH hA (by omega) (Nat.le_of_ble_eq_true rfl) (fun x43 f43 g43 j43 h r43 q43 hH hA => ?_)
        obtain ⟨q43, xf, xg, xj⟩ := q43
        rw [xj] at hH
        have ef22 := (xf 22 (by decide)).trans ef22
        have ef23 := (xf 23 (by decide)).trans ef23
        have ef24 := (xf 24 (by decide)).trans ef24
        have hfE := hfE.trans xf (by decide)
        have eg2 := (xg 2 (by decide)).trans eg2
        have hgE := hgE.trans xg (by decide)
        have qL := q43
        obtain rfl := qL
        rw [cK_at] at r43 ⊢
        refine z_bipush (by decide) (TX8_sumOf.at 22 rfl) ?_
        refine zs_call1 (s_sign (by omega)) (TX8_sumOf.at 23 rfl) c8_219 rfl (by omega) (Nat.le_of_ble_eq_true rfl) (fun r48 => ?_)
        refine z_icmp_ne (tgt := 58) (TX8_sumOf.at 24 rfl) rfl (by omega) (by omega) (fun c6 => ?_) (fun c6 => ?_)
        · skip
          refine z_iconst (TX8_sumOf.at 27 rfl) ?_
          refine z_ist_4 (TX8_sumOf.at 28 rfl) (Nat.le_of_ble_eq_true rfl) rfl ?_
          refine z_ald_0 (TX8_sumOf.at 29 rfl) ?_
          refine z_dup rfl (TX8_sumOf.at 30 rfl) ?_
          refine zm_getIE ef22 (TX8_sumOf.at 31 rfl) fl8_260 hH rfl (by decide) (fun r63 => ?_)
          refine z_iconst (TX8_sumOf.at 32 rfl) ?_
          refine z_iadd (TX8_sumOf.at 33 rfl) ?_
          refine zm_putIE (TX8_sumOf.at 34 rfl) fp8_260 hH hA rfl (by decide) (by first | omega | exact b2i_01 _) (fun h f68 e1 e2 hH hA => ?_)
          have ef22 := e2
          have ef23 := (e1 23 (by decide)).trans ef23
          have ef24 := (e1 24 (by decide)).trans ef24
          have hfE := hfE.put e1 (by decide)
          refine z_ald_0 (TX8_sumOf.at 35 rfl) ?_
          refine z_ild_1 (TX8_sumOf.at 36 rfl) ?_
          refine zm_callL1 (hitem live _ (t + 1) p t2 p2 k2 _ _ _ hl (evB_01 hb) eg2 (by rw [ef22]; push_cast; omega) ef23 ef24 (hFo0.keep hfE hgE) (by push_cast; omega) hpi) (TX8_sumOf.at 37 rfl) c8_273 rfl rfl hH hA (by omega) (Nat.le_of_ble_eq_true rfl) (fun x73 f73 g73 j73 h r73 q73 hH hA => ?_)
          obtain ⟨q73, xf, xg, xj⟩ := q73
          rw [xj] at hH
          have ef23 := (xf 23 (by decide)).trans ef23
          have hfE := hfE.trans xf (by decide)
          have eg2 := (xg 2 (by decide)).trans eg2
          have hgE := hgE.trans xg (by decide)
          have qL := q73
          obtain ⟨rfl, ef24, ef22, rz⟩ := qL
          refine z_lst_5 (TX8_sumOf.at 38 rfl) (Nat.le_of_ble_eq_true rfl) rfl ?_
          refine z_ald_0 (TX8_sumOf.at 39 rfl) ?_
          refine z_ild_4 (TX8_sumOf.at 40 rfl) ?_
          refine z_if_eq (tgt := 91) (TX8_sumOf.at 41 rfl) rfl (by decide) (fun c7 => ?_) (fun c7 => absurd c7 (by decide))
          refine z_lld_2 (TX8_sumOf.at 46 rfl) ?_
          refine z_lld_5 (TX8_sumOf.at 47 rfl) ?_
          refine z_lsub (TX8_sumOf.at 48 rfl) ?_
          refine z_ild_1 (TX8_sumOf.at 49 rfl) ?_
          refine zm_callL2 (m_bounded ef24 (by omega) hl (evB_01 (evB_01 hb))) (TX8_sumOf.at 50 rfl) c8_277 rfl rfl hH hA (by omega) (Nat.le_of_ble_eq_true rfl) (fun x96 f96 g96 j96 h r96 q96 hH hA => ?_)
          obtain ⟨q96, xf, xg, xj⟩ := q96
          rw [xj] at hH
          have ef22 := (xf 22 (by decide)).trans ef22
          have ef23 := (xf 23 (by decide)).trans ef23
          have hfE := hfE.trans xf (by decide)
          have eg2 := (xg 2 (by decide)).trans eg2
          have hgE := hgE.trans xg (by decide)
          have qL := q96
          obtain ⟨rfl, ef24⟩ := qL
          rw [bd_eq] at r96 ⊢
          rw [bd_eqB] at ef24
          refine z_lst_2 (TX8_sumOf.at 51 rfl) (Nat.le_of_ble_eq_true rfl) rfl ?_
          refine z_goto (tgt := 6) (TX8_sumOf.at 52 rfl) rfl ?_
          first | (exfalso; omega) | (have e := ev_bin (live := live) (br := br) (o := 3) (op := fun x y => x + y) (k0 := k0) (k2 := k2) (φ := φ) hl hb rfl (fun _ _ => rfl); rw [e.2] at ef24; rw [e.1]; exact ih t2 p2 (dBin 3 k0 k2) _ _ _ _ _ _ (by omega) ha2 hp2 (evV_in dBin_in) eg2 ef22 ef23 ef24 hfE hgE hH hA) | (have e := ev_bin (live := live) (br := br) (o := 4) (op := fun x y => x - y) (k0 := k0) (k2 := k2) (φ := φ) hl hb rfl (fun _ _ => rfl); rw [e.2] at ef24; rw [e.1]; exact ih t2 p2 (dBin 4 k0 k2) _ _ _ _ _ _ (by omega) ha2 hp2 (evV_in dBin_in) eg2 ef22 ef23 ef24 hfE hgE hH hA)
        · skip
          refine z_iconst (TX8_sumOf.at 25 rfl) ?_
          refine z_goto (tgt := 59) (TX8_sumOf.at 26 rfl) rfl ?_
          refine z_ist_4 (TX8_sumOf.at 28 rfl) (Nat.le_of_ble_eq_true rfl) rfl ?_
          refine z_ald_0 (TX8_sumOf.at 29 rfl) ?_
          refine z_dup rfl (TX8_sumOf.at 30 rfl) ?_
          refine zm_getIE ef22 (TX8_sumOf.at 31 rfl) fl8_260 hH rfl (by decide) (fun r63 => ?_)
          refine z_iconst (TX8_sumOf.at 32 rfl) ?_
          refine z_iadd (TX8_sumOf.at 33 rfl) ?_
          refine zm_putIE (TX8_sumOf.at 34 rfl) fp8_260 hH hA rfl (by decide) (by first | omega | exact b2i_01 _) (fun h f68 e1 e2 hH hA => ?_)
          have ef22 := e2
          have ef23 := (e1 23 (by decide)).trans ef23
          have ef24 := (e1 24 (by decide)).trans ef24
          have hfE := hfE.put e1 (by decide)
          refine z_ald_0 (TX8_sumOf.at 35 rfl) ?_
          refine z_ild_1 (TX8_sumOf.at 36 rfl) ?_
          refine zm_callL1 (hitem live _ (t + 1) p t2 p2 k2 _ _ _ hl (evB_01 hb) eg2 (by rw [ef22]; push_cast; omega) ef23 ef24 (hFo0.keep hfE hgE) (by push_cast; omega) hpi) (TX8_sumOf.at 37 rfl) c8_273 rfl rfl hH hA (by omega) (Nat.le_of_ble_eq_true rfl) (fun x73 f73 g73 j73 h r73 q73 hH hA => ?_)
          obtain ⟨q73, xf, xg, xj⟩ := q73
          rw [xj] at hH
          have ef23 := (xf 23 (by decide)).trans ef23
          have hfE := hfE.trans xf (by decide)
          have eg2 := (xg 2 (by decide)).trans eg2
          have hgE := hgE.trans xg (by decide)
          have qL := q73
          obtain ⟨rfl, ef24, ef22, rz⟩ := qL
          refine z_lst_5 (TX8_sumOf.at 38 rfl) (Nat.le_of_ble_eq_true rfl) rfl ?_
          refine z_ald_0 (TX8_sumOf.at 39 rfl) ?_
          refine z_ild_4 (TX8_sumOf.at 40 rfl) ?_
          refine z_if_eq (tgt := 91) (TX8_sumOf.at 41 rfl) rfl (by decide) (fun c8 => absurd c8 (by decide)) (fun c8 => ?_)
          refine z_lld_2 (TX8_sumOf.at 42 rfl) ?_
          refine z_lld_5 (TX8_sumOf.at 43 rfl) ?_
          refine z_ladd (TX8_sumOf.at 44 rfl) ?_
          refine z_goto (tgt := 95) (TX8_sumOf.at 45 rfl) rfl ?_
          refine z_ild_1 (TX8_sumOf.at 49 rfl) ?_
          refine zm_callL2 (m_bounded ef24 (by omega) hl (evB_01 (evB_01 hb))) (TX8_sumOf.at 50 rfl) c8_277 rfl rfl hH hA (by omega) (Nat.le_of_ble_eq_true rfl) (fun x96 f96 g96 j96 h r96 q96 hH hA => ?_)
          obtain ⟨q96, xf, xg, xj⟩ := q96
          rw [xj] at hH
          have ef22 := (xf 22 (by decide)).trans ef22
          have ef23 := (xf 23 (by decide)).trans ef23
          have hfE := hfE.trans xf (by decide)
          have eg2 := (xg 2 (by decide)).trans eg2
          have hgE := hgE.trans xg (by decide)
          have qL := q96
          obtain ⟨rfl, ef24⟩ := qL
          rw [bd_eq] at r96 ⊢
          rw [bd_eqB] at ef24
          refine z_lst_2 (TX8_sumOf.at 51 rfl) (Nat.le_of_ble_eq_true rfl) rfl ?_
          refine z_goto (tgt := 6) (TX8_sumOf.at 52 rfl) rfl ?_
          first | (exfalso; omega) | (have e := ev_bin (live := live) (br := br) (o := 3) (op := fun x y => x + y) (k0 := k0) (k2 := k2) (φ := φ) hl hb rfl (fun _ _ => rfl); rw [e.2] at ef24; rw [e.1]; exact ih t2 p2 (dBin 3 k0 k2) _ _ _ _ _ _ (by omega) ha2 hp2 (evV_in dBin_in) eg2 ef22 ef23 ef24 hfE hgE hH hA) | (have e := ev_bin (live := live) (br := br) (o := 4) (op := fun x y => x - y) (k0 := k0) (k2 := k2) (φ := φ) hl hb rfl (fun _ _ => rfl); rw [e.2] at ef24; rw [e.1]; exact ih t2 p2 (dBin 4 k0 k2) _ _ _ _ _ _ (by omega) ha2 hp2 (evV_in dBin_in) eg2 ef22 ef23 ef24 hfE hgE hH hA)

theorem prow_step {op : Int → Option Int} {c : Int → Int} {item : Nat → Nat → PR} {t p : Nat} {R : Nat × Nat × Den} (h : pRow op c item t p = .ok R) : ∃ t2 p2 k2, item t p = .ok (t2, p2, k2) ∧ pLoop op c item 401 t2 p2 k2 = .ok R := by
  unfold pRow at h
  cases hg : item t p with
  | error e => rw [hg] at h; cases h
  | ok r => obtain ⟨t2, p2, k2⟩ := r; rw [hg] at h; exact ⟨t2, p2, k2, rfl, h⟩
set_option maxHeartbeats 4000000 in
set_option maxRecDepth 100000 in
theorem m_sumOf {l : Launch} {o : Nat} {ar : Nat → Nat} {f : mF} {g j : mA} {K : Int → Int} {y22 : Int} {y23 : Int} {br : Int} {live : Int} {b nt : Int} {N t p t1 p1 : Nat} {k1 : Den} {lw : Bool} {φ : Int → Int} {item : Nat → Nat → PR} (eg2 : g 2 = K) (ef22 : f 22 = y22) (ef23 : f 23 = y23) (ef24 : f 24 = br) (hl : live = 0 ∨ live = 1) (hb : br = 0 ∨ br = 1) (ey : y22 = b + t) (ez : y23 = b + nt) (b0 : 0 ≤ b) (bn : b + nt ≤ 2800) (n4 : nt ≤ 400) (tn : (t : Int) ≤ nt) (hN : 2 ≤ N) (hFo : FOK lw K f g φ) (hAdv : Adv (cK K b nt) item) (hitem : EvC l o ar MX8_termOf N lw K b nt φ item) (hp0 : pRow addOp (cK K b nt) item t p = .ok (t1, p1, k1)) : MM l o ar MX8_sumOf (N + 1) [.ref o, vI live] f g j (PL (fun r f' g' j' => (r = evV live br (k1 φ) ∧ f' 24 = evB live br (k1 φ) ∧ f' 22 = b + t1 ∧ zIn r) ∧ eqx [22, 24] f f' ∧ eqx [] g g' ∧ j' = j)) := by
  refine MM.intro [some (.ref o), some (vI live), none, none, none, none, none] (by decide) (Nat.le_of_ble_eq_true rfl) rfl (fun d hd h0 h hH hA => ?_)
  have hfE : eqx [22, 24] f f := eqx.rf
  have hgE : eqx [] g g := eqx.rf
  subst ey; subst ez
  obtain ⟨t2, p2, k2, hpi, hp⟩ := prow_step hp0
  have ha : advR (cK K b nt) t (.ok (t2, p2, k2)) := hpi ▸ hAdv t p
  have ha1 : t < t2 := ha.1
  have ha2 := adv_le (nt := nt) cK_nz ha.1 ha.2
  refine z_ald_0 (TX8_sumOf.at 0 rfl) ?_
  refine z_ild_1 (TX8_sumOf.at 1 rfl) ?_
  refine zm_callL1 (hitem live _ t p t2 p2 k2 _ _ _ hl hb eg2 ef22 ef23 ef24 (hFo.keep hfE hgE) tn hpi) (TX8_sumOf.at 2 rfl) c8_273 rfl rfl hH hA (by omega) (Nat.le_of_ble_eq_true rfl) (fun x2 f2 g2 j2 h r2 q2 hH hA => ?_)
  obtain ⟨q2, xf, xg, xj⟩ := q2
  rw [xj] at hH
  have ef23 := (xf 23 (by decide)).trans ef23
  have hfE := hfE.trans xf (by decide)
  have eg2 := (xg 2 (by decide)).trans eg2
  have hgE := hgE.trans xg (by decide)
  have qL := q2
  obtain ⟨rfl, ef24, ef22, rz⟩ := qL
  refine z_lst_2 (TX8_sumOf.at 3 rfl) (Nat.le_of_ble_eq_true rfl) rfl ?_
  refine lp_sumOf (t1 := t1) (p1 := p1) (k1 := k1) (lw := lw) hd hN hl hb b0 bn n4 hAdv hitem hFo (fun o4 o5 o6 f3 g3 h3 ef22 ef24 vz hfE hgE hH hA => ?_) 401 t2 p2 k2 _ _ _ _ _ _ (by omega) ha2 hp rz eg2 ef22 ef23 ef24 hfE hgE hH hA
  refine z_lld_2 (TX8_sumOf.at 53 rfl) ?_
  refine zm_lret (TX8_sumOf.at 54 rfl) rfl hH hA (by omega) ?_
  exact ⟨⟨rfl, ef24, ef22, vz⟩, hfE, hgE, rfl⟩

theorem ev_sumOf {l : Launch} {o : Nat} {ar : Nat → Nat} {N : Nat} {lw : Bool} {K : Int → Int} {b nt : Int} {φ : Int → Int} {item : Nat → Nat → PR} (b0 : 0 ≤ b) (bn : b + nt ≤ 2800) (n4 : nt ≤ 400) (hN : 2 ≤ N) (hAdv : Adv (cK K b nt) item) (hitem : EvC l o ar MX8_termOf N lw K b nt φ item) : EvC l o ar MX8_sumOf (N + 1) lw K b nt φ (pRow addOp (cK K b nt) item) := fun live br t p t' p' k f g j hl hb eg2 ef22 ef23 ef24 hFo tn hp => m_sumOf eg2 ef22 ef23 ef24 hl hb rfl rfl b0 bn n4 tn hN hFo hAdv hitem hp
set_option maxHeartbeats 4000000 in
set_option maxRecDepth 100000 in
theorem lp_termOf {l : Launch} {o : Nat} {ar : Nat → Nat} {d : Nat} {Pz : Option Value → zH → Prop} {h0 : zH} {f0 : mF} {g0 : mA} {j : mA} {N : Nat} (hd : N + 1 ≤ d) (hN : 2 ≤ N) {K φ : Int → Int} {b nt live br : Int} {lw : Bool} {item : Nat → Nat → PR} {t1 p1 : Nat} {k1 : Den} (hl : live = 0 ∨ live = 1) (hb : br = 0 ∨ br = 1) (b0 : 0 ≤ b) (bn : b + nt ≤ 2800) (n4 : nt ≤ 400) (hAdv : Adv (cK K b nt) item) (hitem : EvC l o ar MX8_partOf N lw K b nt φ item) (hFo0 : FOK lw K f0 g0 φ) (kx : ∀ (o4 o5 o6 : Option Value) (f : mF) (g : mA) (h : zH), f 22 = b + t1 → f 24 = evB live br (k1 φ) → zIn (evV live br (k1 φ)) → eqx [22, 24] f0 f → eqx [] g0 g → HM o ar f g j h → zAg o ar h0 h → Z l MX8_termOf d 0 0 Pz 168 [some (.ref o), some (vI live), some (vL (evV live br (k1 φ))), none, o4, o5, o6] [] h 0 0)  : ∀ (n : Nat) (t : Nat) (p : Nat) (k0 : Den) (o4 : Option Value) (o5 : Option Value) (o6 : Option Value) (f : mF) (g : mA) (h : zH) (tm : 401 ≤ t + n) (tn : (t : Int) ≤ nt) (hp : pLoop mulOp (cK K b nt) item n t p k0 = .ok (t1, p1, k1)) (vz : zIn (evV live br (k0 φ))) (eg2 : g 2 = K) (ef22 : f 22 = b + t) (ef23 : f 23 = b + nt) (ef24 : f 24 = evB live br (k0 φ)) (hfE : eqx [22, 24] f0 f) (hgE : eqx [] g0 g) (hH : HM o ar f g j h) (hA : zAg o ar h0 h), Z l MX8_termOf d 0 0 Pz 6 [some (.ref o), some (vI live), some (vL (evV live br (k0 φ))), none, o4, o5, o6] [] h 0 0 := by
  intro n
  induction n with
  | zero => intro t p k0 o4 o5 o6 f g h tm tn hp vz eg2 ef22 ef23 ef24 hfE hgE hH hA; exfalso; omega
  | succ n ih =>
    intro t p k0 o4 o5 o6 f g h tm tn hp vz eg2 ef22 ef23 ef24 hfE hgE hH hA
    refine z_ald_0 (TX8_termOf_0.at 4 rfl) ?_
    refine z_ald_0 (TX8_termOf_0.at 5 rfl) ?_
    refine zm_getIE ef22 (TX8_termOf_0.at 6 rfl) fl8_260 hH rfl (by decide) (fun r8 => ?_)
    refine zm_callI1 (m_codeAt eg2 ef23 (by omega) (by omega) (by omega)) (TX8_termOf_0.at 7 rfl) c8_263 rfl rfl hH hA (by omega) (Nat.le_of_ble_eq_true rfl) (fun x11 f11 g11 j11 h r11 q11 hH hA => ?_)
    obtain ⟨q11, xf, xg, xj⟩ := q11
    rw [xj] at hH
    have ef22 := (xf 22 (by decide)).trans ef22
    have ef23 := (xf 23 (by decide)).trans ef23
    have ef24 := (xf 24 (by decide)).trans ef24
    have hfE := hfE.trans xf (by decide)
    have eg2 := (xg 2 (by decide)).trans eg2
    have hgE := hgE.trans xg (by decide)
    have qL := q11
    obtain rfl := qL
    rw [cK_at] at r11 ⊢
    refine z_bipush (by decide) (TX8_termOf_0.at 8 rfl) ?_
    refine zs_call1 (s_sign (by omega)) (TX8_termOf_0.at 9 rfl) c8_219 rfl (by omega) (Nat.le_of_ble_eq_true rfl) (fun r16 => ?_)
    refine z_icmp_eq (tgt := 54) (TX8_termOf_0.at 10 rfl) rfl (by omega) (by omega) (fun c1 => ?_) (fun c1 => ?_)
    · skip
      have hc : cK K b nt t = 142 := by omega
      obtain ⟨t2, p2, k2, hpi, hp2⟩ := ploop_step hp (show mulOp (cK K b nt t) = some 5 by rw [hc]; rfl)
      have tn1 := cK_nz (K := K) (b := b) (nt := nt) t (by omega)
      have ha : advR (cK K b nt) (t + 1) (.ok (t2, p2, k2)) := hpi ▸ hAdv (t + 1) p
      have ha1 : t + 1 < t2 := ha.1
      have ha2 := adv_le (nt := nt) cK_nz ha.1 ha.2
      refine z_ald_0 (TX8_termOf_0.at 25 rfl) ?_
      refine z_ald_0 (TX8_termOf_0.at 26 rfl) ?_
      refine zm_getIE ef22 (TX8_termOf_0.at 27 rfl) fl8_260 hH rfl (by decide) (fun r56 => ?_)
      refine zm_callI1 (m_codeAt eg2 ef23 (by omega) (by omega) (by omega)) (TX8_termOf_0.at 28 rfl) c8_263 rfl rfl hH hA (by omega) (Nat.le_of_ble_eq_true rfl) (fun x59 f59 g59 j59 h r59 q59 hH hA => ?_)
      obtain ⟨q59, xf, xg, xj⟩ := q59
      rw [xj] at hH
      have ef22 := (xf 22 (by decide)).trans ef22
      have ef23 := (xf 23 (by decide)).trans ef23
      have ef24 := (xf 24 (by decide)).trans ef24
      have hfE := hfE.trans xf (by decide)
      have eg2 := (xg 2 (by decide)).trans eg2
      have hgE := hgE.trans xg (by decide)
      have qL := q59
      obtain rfl := qL
      rw [cK_at, hc] at r59 ⊢
      refine z_ist_4 (TX8_termOf_0.at 29 rfl) (Nat.le_of_ble_eq_true rfl) rfl ?_
      refine z_ald_0 (TX8_termOf_0.at 30 rfl) ?_
      refine z_dup rfl (TX8_termOf_0.at 31 rfl) ?_
      refine zm_getIE ef22 (TX8_termOf_0.at 32 rfl) fl8_260 hH rfl (by decide) (fun r66 => ?_)
      refine z_iconst (TX8_termOf_0.at 33 rfl) ?_
      refine z_iadd (TX8_termOf_0.at 34 rfl) ?_
      refine zm_putIE (TX8_termOf_0.at 35 rfl) fp8_260 hH hA rfl (by decide) (by first | omega | exact b2i_01 _) (fun h f71 e1 e2 hH hA => ?_)
      have ef22 := e2
      have ef23 := (e1 23 (by decide)).trans ef23
      have ef24 := (e1 24 (by decide)).trans ef24
      have hfE := hfE.put e1 (by decide)
      refine z_ald_0 (TX8_termOf_0.at 36 rfl) ?_
      refine z_ild_1 (TX8_termOf_0.at 37 rfl) ?_
      refine zm_callL1 (hitem live _ (t + 1) p t2 p2 k2 _ _ _ hl (evB_01 hb) eg2 (by rw [ef22]; push_cast; omega) ef23 ef24 (hFo0.keep hfE hgE) (by push_cast; omega) hpi) (TX8_termOf_0.at 38 rfl) c8_281 rfl rfl hH hA (by omega) (Nat.le_of_ble_eq_true rfl) (fun x76 f76 g76 j76 h r76 q76 hH hA => ?_)
      obtain ⟨q76, xf, xg, xj⟩ := q76
      rw [xj] at hH
      have ef23 := (xf 23 (by decide)).trans ef23
      have hfE := hfE.trans xf (by decide)
      have eg2 := (xg 2 (by decide)).trans eg2
      have hgE := hgE.trans xg (by decide)
      have qL := q76
      obtain ⟨rfl, ef24, ef22, rz⟩ := qL
      refine z_lst_5 (TX8_termOf_0.at 39 rfl) (Nat.le_of_ble_eq_true rfl) rfl ?_
      refine z_ild_4 (TX8_termOf_1.at 0 rfl) ?_
      refine z_bipush (by decide) (TX8_termOf_1.at 1 rfl) ?_
      refine zs_call1 (s_sign (by omega)) (TX8_termOf_1.at 2 rfl) c8_219 rfl (by omega) (Nat.le_of_ble_eq_true rfl) (fun r85 => ?_)
      refine z_icmp_eq (tgt := 121) (TX8_termOf_1.at 3 rfl) rfl (by omega) (by omega) (fun c2 => ?_) (fun c2 => ?_)
      · skip
        refine z_ald_0 (TX8_termOf_1.at 20 rfl) ?_
        refine z_ild_4 (TX8_termOf_1.at 21 rfl) ?_
        refine z_bipush (by decide) (TX8_termOf_1.at 22 rfl) ?_
        refine zs_call1 (s_sign (by omega)) (TX8_termOf_1.at 23 rfl) c8_219 rfl (by omega) (Nat.le_of_ble_eq_true rfl) (fun r126 => ?_)
        refine z_icmp_ne (tgt := 139) (TX8_termOf_1.at 24 rfl) rfl (by omega) (by omega) (fun c3 => ?_) (fun c3 => ?_)
        · skip
          refine z_ild_4 (TX8_termOf_1.at 29 rfl) ?_
          refine z_bipush (by decide) (TX8_termOf_1.at 30 rfl) ?_
          refine zs_call1 (s_sign (by omega)) (TX8_termOf_1.at 31 rfl) c8_219 rfl (by omega) (Nat.le_of_ble_eq_true rfl) (fun r143 => ?_)
          refine z_icmp_ne (tgt := 156) (TX8_termOf_1.at 32 rfl) rfl (by omega) (by omega) (fun c4 => ?_) (fun c4 => ?_)
          · skip
            refine z_lld_2 (TX8_termOf_1.at 37 rfl) ?_
            refine z_lld_5 (TX8_termOf_1.at 38 rfl) ?_
            refine z_lrem (by omega) (by omega) (TX8_termOf_1.at 39 rfl) ?_
            first | rw [zlrem_eq vz (by omega)] | skip
            refine z_ild_1 (TX8_termOf_2.at 0 rfl) ?_
            refine zm_callL2 (m_bounded ef24 (by first | exact mul_in vz rz | exact tdiv_in vz | exact tmod_in vz | (exfalso; omega)) hl (by first | exact evB_01 (evB_01 hb) | exact Or.inr rfl | exact Or.inl rfl)) (TX8_termOf_2.at 1 rfl) c8_277 rfl rfl hH hA (by omega) (Nat.le_of_ble_eq_true rfl) (fun x161 f161 g161 j161 h r161 q161 hH hA => ?_)
            obtain ⟨q161, xf, xg, xj⟩ := q161
            rw [xj] at hH
            have ef22 := (xf 22 (by decide)).trans ef22
            have ef23 := (xf 23 (by decide)).trans ef23
            have hfE := hfE.trans xf (by decide)
            have eg2 := (xg 2 (by decide)).trans eg2
            have hgE := hgE.trans xg (by decide)
            have qL := q161
            obtain ⟨rfl, ef24⟩ := qL
            rw [bd_eq] at r161 ⊢
            rw [bd_eqB] at ef24
            refine z_lst_2 (TX8_termOf_2.at 2 rfl) (Nat.le_of_ble_eq_true rfl) rfl ?_
            refine z_goto (tgt := 6) (TX8_termOf_2.at 3 rfl) rfl ?_
            first | (exfalso; omega) | (have e := ev_bin (live := live) (br := br) (o := 5) (op := fun x y => x * y) (k0 := k0) (k2 := k2) (φ := φ) hl hb rfl (fun _ _ => rfl); rw [e.2] at ef24; rw [e.1]; exact ih t2 p2 (dBin 5 k0 k2) _ _ _ _ _ _ (by omega) ha2 hp2 (evV_in dBin_in) eg2 ef22 ef23 ef24 hfE hgE hH hA) | (have e := (ev_div (live := live) (br := br) (o := 6) (op := fun x y => Int.tdiv x y) (k0 := k0) (k2 := k2) (φ := φ) hl hb rfl (fun _ _ => rfl) _ _ rfl rfl).2 (by assumption); rw [e.2] at ef24; rw [e.1]; exact ih t2 p2 (dBin 6 k0 k2) _ _ _ _ _ _ (by omega) ha2 hp2 (evV_in dBin_in) eg2 ef22 ef23 ef24 hfE hgE hH hA) | (have e := (ev_div (live := live) (br := br) (o := 6) (op := fun x y => Int.tdiv x y) (k0 := k0) (k2 := k2) (φ := φ) hl hb rfl (fun _ _ => rfl) _ _ rfl rfl).1 (by assumption); rw [if_pos (by omega)] at e; rw [e.2] at ef24; rw [e.1]; exact ih t2 p2 (dBin 6 k0 k2) _ _ _ _ _ _ (by omega) ha2 hp2 (evV_in dBin_in) eg2 ef22 ef23 ef24 hfE hgE hH hA) | (have e := (ev_div (live := live) (br := br) (o := 6) (op := fun x y => Int.tdiv x y) (k0 := k0) (k2 := k2) (φ := φ) hl hb rfl (fun _ _ => rfl) _ _ rfl rfl).1 (by assumption); rw [if_neg (by omega)] at e; rw [e.2] at ef24; rw [e.1]; exact ih t2 p2 (dBin 6 k0 k2) _ _ _ _ _ _ (by omega) ha2 hp2 (evV_in dBin_in) eg2 ef22 ef23 ef24 hfE hgE hH hA) | (have e := (ev_div (live := live) (br := br) (o := 7) (op := fun x y => Int.tmod x y) (k0 := k0) (k2 := k2) (φ := φ) hl hb rfl (fun _ _ => rfl) _ _ rfl rfl).2 (by assumption); rw [e.2] at ef24; rw [e.1]; exact ih t2 p2 (dBin 7 k0 k2) _ _ _ _ _ _ (by omega) ha2 hp2 (evV_in dBin_in) eg2 ef22 ef23 ef24 hfE hgE hH hA) | (have e := (ev_div (live := live) (br := br) (o := 7) (op := fun x y => Int.tmod x y) (k0 := k0) (k2 := k2) (φ := φ) hl hb rfl (fun _ _ => rfl) _ _ rfl rfl).1 (by assumption); rw [if_pos (by omega)] at e; rw [e.2] at ef24; rw [e.1]; exact ih t2 p2 (dBin 7 k0 k2) _ _ _ _ _ _ (by omega) ha2 hp2 (evV_in dBin_in) eg2 ef22 ef23 ef24 hfE hgE hH hA) | (have e := (ev_div (live := live) (br := br) (o := 7) (op := fun x y => Int.tmod x y) (k0 := k0) (k2 := k2) (φ := φ) hl hb rfl (fun _ _ => rfl) _ _ rfl rfl).1 (by assumption); rw [if_neg (by omega)] at e; rw [e.2] at ef24; rw [e.1]; exact ih t2 p2 (dBin 7 k0 k2) _ _ _ _ _ _ (by omega) ha2 hp2 (evV_in dBin_in) eg2 ef22 ef23 ef24 hfE hgE hH hA)
          · skip
            refine z_lld_2 (TX8_termOf_1.at 33 rfl) ?_
            refine z_lld_5 (TX8_termOf_1.at 34 rfl) ?_
            refine z_ldiv (by omega) (by omega) (TX8_termOf_1.at 35 rfl) ?_
            rw [zldiv_eq vz (by omega)]
            refine z_goto (tgt := 160) (TX8_termOf_1.at 36 rfl) rfl ?_
            first | rw [zlrem_eq vz (by omega)] | skip
            refine z_ild_1 (TX8_termOf_2.at 0 rfl) ?_
            refine zm_callL2 (m_bounded ef24 (by first | exact mul_in vz rz | exact tdiv_in vz | exact tmod_in vz | (exfalso; omega)) hl (by first | exact evB_01 (evB_01 hb) | exact Or.inr rfl | exact Or.inl rfl)) (TX8_termOf_2.at 1 rfl) c8_277 rfl rfl hH hA (by omega) (Nat.le_of_ble_eq_true rfl) (fun x161 f161 g161 j161 h r161 q161 hH hA => ?_)
            obtain ⟨q161, xf, xg, xj⟩ := q161
            rw [xj] at hH
            have ef22 := (xf 22 (by decide)).trans ef22
            have ef23 := (xf 23 (by decide)).trans ef23
            have hfE := hfE.trans xf (by decide)
            have eg2 := (xg 2 (by decide)).trans eg2
            have hgE := hgE.trans xg (by decide)
            have qL := q161
            obtain ⟨rfl, ef24⟩ := qL
            rw [bd_eq] at r161 ⊢
            rw [bd_eqB] at ef24
            refine z_lst_2 (TX8_termOf_2.at 2 rfl) (Nat.le_of_ble_eq_true rfl) rfl ?_
            refine z_goto (tgt := 6) (TX8_termOf_2.at 3 rfl) rfl ?_
            first | (exfalso; omega) | (have e := ev_bin (live := live) (br := br) (o := 5) (op := fun x y => x * y) (k0 := k0) (k2 := k2) (φ := φ) hl hb rfl (fun _ _ => rfl); rw [e.2] at ef24; rw [e.1]; exact ih t2 p2 (dBin 5 k0 k2) _ _ _ _ _ _ (by omega) ha2 hp2 (evV_in dBin_in) eg2 ef22 ef23 ef24 hfE hgE hH hA) | (have e := (ev_div (live := live) (br := br) (o := 6) (op := fun x y => Int.tdiv x y) (k0 := k0) (k2 := k2) (φ := φ) hl hb rfl (fun _ _ => rfl) _ _ rfl rfl).2 (by assumption); rw [e.2] at ef24; rw [e.1]; exact ih t2 p2 (dBin 6 k0 k2) _ _ _ _ _ _ (by omega) ha2 hp2 (evV_in dBin_in) eg2 ef22 ef23 ef24 hfE hgE hH hA) | (have e := (ev_div (live := live) (br := br) (o := 6) (op := fun x y => Int.tdiv x y) (k0 := k0) (k2 := k2) (φ := φ) hl hb rfl (fun _ _ => rfl) _ _ rfl rfl).1 (by assumption); rw [if_pos (by omega)] at e; rw [e.2] at ef24; rw [e.1]; exact ih t2 p2 (dBin 6 k0 k2) _ _ _ _ _ _ (by omega) ha2 hp2 (evV_in dBin_in) eg2 ef22 ef23 ef24 hfE hgE hH hA) | (have e := (ev_div (live := live) (br := br) (o := 6) (op := fun x y => Int.tdiv x y) (k0 := k0) (k2 := k2) (φ := φ) hl hb rfl (fun _ _ => rfl) _ _ rfl rfl).1 (by assumption); rw [if_neg (by omega)] at e; rw [e.2] at ef24; rw [e.1]; exact ih t2 p2 (dBin 6 k0 k2) _ _ _ _ _ _ (by omega) ha2 hp2 (evV_in dBin_in) eg2 ef22 ef23 ef24 hfE hgE hH hA) | (have e := (ev_div (live := live) (br := br) (o := 7) (op := fun x y => Int.tmod x y) (k0 := k0) (k2 := k2) (φ := φ) hl hb rfl (fun _ _ => rfl) _ _ rfl rfl).2 (by assumption); rw [e.2] at ef24; rw [e.1]; exact ih t2 p2 (dBin 7 k0 k2) _ _ _ _ _ _ (by omega) ha2 hp2 (evV_in dBin_in) eg2 ef22 ef23 ef24 hfE hgE hH hA) | (have e := (ev_div (live := live) (br := br) (o := 7) (op := fun x y => Int.tmod x y) (k0 := k0) (k2 := k2) (φ := φ) hl hb rfl (fun _ _ => rfl) _ _ rfl rfl).1 (by assumption); rw [if_pos (by omega)] at e; rw [e.2] at ef24; rw [e.1]; exact ih t2 p2 (dBin 7 k0 k2) _ _ _ _ _ _ (by omega) ha2 hp2 (evV_in dBin_in) eg2 ef22 ef23 ef24 hfE hgE hH hA) | (have e := (ev_div (live := live) (br := br) (o := 7) (op := fun x y => Int.tmod x y) (k0 := k0) (k2 := k2) (φ := φ) hl hb rfl (fun _ _ => rfl) _ _ rfl rfl).1 (by assumption); rw [if_neg (by omega)] at e; rw [e.2] at ef24; rw [e.1]; exact ih t2 p2 (dBin 7 k0 k2) _ _ _ _ _ _ (by omega) ha2 hp2 (evV_in dBin_in) eg2 ef22 ef23 ef24 hfE hgE hH hA)
        · skip
          refine z_lld_2 (TX8_termOf_1.at 25 rfl) ?_
          refine z_lld_5 (TX8_termOf_1.at 26 rfl) ?_
          refine z_lmul (TX8_termOf_1.at 27 rfl) ?_
          refine z_goto (tgt := 160) (TX8_termOf_1.at 28 rfl) rfl ?_
          first | rw [zlrem_eq vz (by omega)] | skip
          refine z_ild_1 (TX8_termOf_2.at 0 rfl) ?_
          refine zm_callL2 (m_bounded ef24 (by first | exact mul_in vz rz | exact tdiv_in vz | exact tmod_in vz | (exfalso; omega)) hl (by first | exact evB_01 (evB_01 hb) | exact Or.inr rfl | exact Or.inl rfl)) (TX8_termOf_2.at 1 rfl) c8_277 rfl rfl hH hA (by omega) (Nat.le_of_ble_eq_true rfl) (fun x161 f161 g161 j161 h r161 q161 hH hA => ?_)
          obtain ⟨q161, xf, xg, xj⟩ := q161
          rw [xj] at hH
          have ef22 := (xf 22 (by decide)).trans ef22
          have ef23 := (xf 23 (by decide)).trans ef23
          have hfE := hfE.trans xf (by decide)
          have eg2 := (xg 2 (by decide)).trans eg2
          have hgE := hgE.trans xg (by decide)
          have qL := q161
          obtain ⟨rfl, ef24⟩ := qL
          rw [bd_eq] at r161 ⊢
          rw [bd_eqB] at ef24
          refine z_lst_2 (TX8_termOf_2.at 2 rfl) (Nat.le_of_ble_eq_true rfl) rfl ?_
          refine z_goto (tgt := 6) (TX8_termOf_2.at 3 rfl) rfl ?_
          first | (exfalso; omega) | (have e := ev_bin (live := live) (br := br) (o := 5) (op := fun x y => x * y) (k0 := k0) (k2 := k2) (φ := φ) hl hb rfl (fun _ _ => rfl); rw [e.2] at ef24; rw [e.1]; exact ih t2 p2 (dBin 5 k0 k2) _ _ _ _ _ _ (by omega) ha2 hp2 (evV_in dBin_in) eg2 ef22 ef23 ef24 hfE hgE hH hA) | (have e := (ev_div (live := live) (br := br) (o := 6) (op := fun x y => Int.tdiv x y) (k0 := k0) (k2 := k2) (φ := φ) hl hb rfl (fun _ _ => rfl) _ _ rfl rfl).2 (by assumption); rw [e.2] at ef24; rw [e.1]; exact ih t2 p2 (dBin 6 k0 k2) _ _ _ _ _ _ (by omega) ha2 hp2 (evV_in dBin_in) eg2 ef22 ef23 ef24 hfE hgE hH hA) | (have e := (ev_div (live := live) (br := br) (o := 6) (op := fun x y => Int.tdiv x y) (k0 := k0) (k2 := k2) (φ := φ) hl hb rfl (fun _ _ => rfl) _ _ rfl rfl).1 (by assumption); rw [if_pos (by omega)] at e; rw [e.2] at ef24; rw [e.1]; exact ih t2 p2 (dBin 6 k0 k2) _ _ _ _ _ _ (by omega) ha2 hp2 (evV_in dBin_in) eg2 ef22 ef23 ef24 hfE hgE hH hA) | (have e := (ev_div (live := live) (br := br) (o := 6) (op := fun x y => Int.tdiv x y) (k0 := k0) (k2 := k2) (φ := φ) hl hb rfl (fun _ _ => rfl) _ _ rfl rfl).1 (by assumption); rw [if_neg (by omega)] at e; rw [e.2] at ef24; rw [e.1]; exact ih t2 p2 (dBin 6 k0 k2) _ _ _ _ _ _ (by omega) ha2 hp2 (evV_in dBin_in) eg2 ef22 ef23 ef24 hfE hgE hH hA) | (have e := (ev_div (live := live) (br := br) (o := 7) (op := fun x y => Int.tmod x y) (k0 := k0) (k2 := k2) (φ := φ) hl hb rfl (fun _ _ => rfl) _ _ rfl rfl).2 (by assumption); rw [e.2] at ef24; rw [e.1]; exact ih t2 p2 (dBin 7 k0 k2) _ _ _ _ _ _ (by omega) ha2 hp2 (evV_in dBin_in) eg2 ef22 ef23 ef24 hfE hgE hH hA) | (have e := (ev_div (live := live) (br := br) (o := 7) (op := fun x y => Int.tmod x y) (k0 := k0) (k2 := k2) (φ := φ) hl hb rfl (fun _ _ => rfl) _ _ rfl rfl).1 (by assumption); rw [if_pos (by omega)] at e; rw [e.2] at ef24; rw [e.1]; exact ih t2 p2 (dBin 7 k0 k2) _ _ _ _ _ _ (by omega) ha2 hp2 (evV_in dBin_in) eg2 ef22 ef23 ef24 hfE hgE hH hA) | (have e := (ev_div (live := live) (br := br) (o := 7) (op := fun x y => Int.tmod x y) (k0 := k0) (k2 := k2) (φ := φ) hl hb rfl (fun _ _ => rfl) _ _ rfl rfl).1 (by assumption); rw [if_neg (by omega)] at e; rw [e.2] at ef24; rw [e.1]; exact ih t2 p2 (dBin 7 k0 k2) _ _ _ _ _ _ (by omega) ha2 hp2 (evV_in dBin_in) eg2 ef22 ef23 ef24 hfE hgE hH hA)
      · skip
        refine z_lld_5 (TX8_termOf_1.at 4 rfl) ?_
        refine z_lconst (v := 0) (by decide) (TX8_termOf_1.at 5 rfl) ?_
        refine z_lif_ne (tgt := 121) (TX8_termOf_1.at 6 rfl) (TX8_termOf_1.at 7 rfl) rfl (by omega) (by omega) (fun c5 => ?_) (fun c5 => ?_)
        · skip
          refine z_ald_0 (TX8_termOf_1.at 20 rfl) ?_
          refine z_ild_4 (TX8_termOf_1.at 21 rfl) ?_
          refine z_bipush (by decide) (TX8_termOf_1.at 22 rfl) ?_
          refine zs_call1 (s_sign (by omega)) (TX8_termOf_1.at 23 rfl) c8_219 rfl (by omega) (Nat.le_of_ble_eq_true rfl) (fun r126 => ?_)
          refine z_icmp_ne (tgt := 139) (TX8_termOf_1.at 24 rfl) rfl (by omega) (by omega) (fun c6 => ?_) (fun c6 => ?_)
          · skip
            refine z_ild_4 (TX8_termOf_1.at 29 rfl) ?_
            refine z_bipush (by decide) (TX8_termOf_1.at 30 rfl) ?_
            refine zs_call1 (s_sign (by omega)) (TX8_termOf_1.at 31 rfl) c8_219 rfl (by omega) (Nat.le_of_ble_eq_true rfl) (fun r143 => ?_)
            refine z_icmp_ne (tgt := 156) (TX8_termOf_1.at 32 rfl) rfl (by omega) (by omega) (fun c7 => ?_) (fun c7 => ?_)
            · skip
              refine z_lld_2 (TX8_termOf_1.at 37 rfl) ?_
              refine z_lld_5 (TX8_termOf_1.at 38 rfl) ?_
              refine z_lrem (by omega) (by omega) (TX8_termOf_1.at 39 rfl) ?_
              first | rw [zlrem_eq vz (by omega)] | skip
              refine z_ild_1 (TX8_termOf_2.at 0 rfl) ?_
              refine zm_callL2 (m_bounded ef24 (by first | exact mul_in vz rz | exact tdiv_in vz | exact tmod_in vz | (exfalso; omega)) hl (by first | exact evB_01 (evB_01 hb) | exact Or.inr rfl | exact Or.inl rfl)) (TX8_termOf_2.at 1 rfl) c8_277 rfl rfl hH hA (by omega) (Nat.le_of_ble_eq_true rfl) (fun x161 f161 g161 j161 h r161 q161 hH hA => ?_)
              obtain ⟨q161, xf, xg, xj⟩ := q161
              rw [xj] at hH
              have ef22 := (xf 22 (by decide)).trans ef22
              have ef23 := (xf 23 (by decide)).trans ef23
              have hfE := hfE.trans xf (by decide)
              have eg2 := (xg 2 (by decide)).trans eg2
              have hgE := hgE.trans xg (by decide)
              have qL := q161
              obtain ⟨rfl, ef24⟩ := qL
              rw [bd_eq] at r161 ⊢
              rw [bd_eqB] at ef24
              refine z_lst_2 (TX8_termOf_2.at 2 rfl) (Nat.le_of_ble_eq_true rfl) rfl ?_
              refine z_goto (tgt := 6) (TX8_termOf_2.at 3 rfl) rfl ?_
              first | (exfalso; omega) | (have e := ev_bin (live := live) (br := br) (o := 5) (op := fun x y => x * y) (k0 := k0) (k2 := k2) (φ := φ) hl hb rfl (fun _ _ => rfl); rw [e.2] at ef24; rw [e.1]; exact ih t2 p2 (dBin 5 k0 k2) _ _ _ _ _ _ (by omega) ha2 hp2 (evV_in dBin_in) eg2 ef22 ef23 ef24 hfE hgE hH hA) | (have e := (ev_div (live := live) (br := br) (o := 6) (op := fun x y => Int.tdiv x y) (k0 := k0) (k2 := k2) (φ := φ) hl hb rfl (fun _ _ => rfl) _ _ rfl rfl).2 (by assumption); rw [e.2] at ef24; rw [e.1]; exact ih t2 p2 (dBin 6 k0 k2) _ _ _ _ _ _ (by omega) ha2 hp2 (evV_in dBin_in) eg2 ef22 ef23 ef24 hfE hgE hH hA) | (have e := (ev_div (live := live) (br := br) (o := 6) (op := fun x y => Int.tdiv x y) (k0 := k0) (k2 := k2) (φ := φ) hl hb rfl (fun _ _ => rfl) _ _ rfl rfl).1 (by assumption); rw [if_pos (by omega)] at e; rw [e.2] at ef24; rw [e.1]; exact ih t2 p2 (dBin 6 k0 k2) _ _ _ _ _ _ (by omega) ha2 hp2 (evV_in dBin_in) eg2 ef22 ef23 ef24 hfE hgE hH hA) | (have e := (ev_div (live := live) (br := br) (o := 6) (op := fun x y => Int.tdiv x y) (k0 := k0) (k2 := k2) (φ := φ) hl hb rfl (fun _ _ => rfl) _ _ rfl rfl).1 (by assumption); rw [if_neg (by omega)] at e; rw [e.2] at ef24; rw [e.1]; exact ih t2 p2 (dBin 6 k0 k2) _ _ _ _ _ _ (by omega) ha2 hp2 (evV_in dBin_in) eg2 ef22 ef23 ef24 hfE hgE hH hA) | (have e := (ev_div (live := live) (br := br) (o := 7) (op := fun x y => Int.tmod x y) (k0 := k0) (k2 := k2) (φ := φ) hl hb rfl (fun _ _ => rfl) _ _ rfl rfl).2 (by assumption); rw [e.2] at ef24; rw [e.1]; exact ih t2 p2 (dBin 7 k0 k2) _ _ _ _ _ _ (by omega) ha2 hp2 (evV_in dBin_in) eg2 ef22 ef23 ef24 hfE hgE hH hA) | (have e := (ev_div (live := live) (br := br) (o := 7) (op := fun x y => Int.tmod x y) (k0 := k0) (k2 := k2) (φ := φ) hl hb rfl (fun _ _ => rfl) _ _ rfl rfl).1 (by assumption); rw [if_pos (by omega)] at e; rw [e.2] at ef24; rw [e.1]; exact ih t2 p2 (dBin 7 k0 k2) _ _ _ _ _ _ (by omega) ha2 hp2 (evV_in dBin_in) eg2 ef22 ef23 ef24 hfE hgE hH hA) | (have e := (ev_div (live := live) (br := br) (o := 7) (op := fun x y => Int.tmod x y) (k0 := k0) (k2 := k2) (φ := φ) hl hb rfl (fun _ _ => rfl) _ _ rfl rfl).1 (by assumption); rw [if_neg (by omega)] at e; rw [e.2] at ef24; rw [e.1]; exact ih t2 p2 (dBin 7 k0 k2) _ _ _ _ _ _ (by omega) ha2 hp2 (evV_in dBin_in) eg2 ef22 ef23 ef24 hfE hgE hH hA)
            · skip
              refine z_lld_2 (TX8_termOf_1.at 33 rfl) ?_
              refine z_lld_5 (TX8_termOf_1.at 34 rfl) ?_
              refine z_ldiv (by omega) (by omega) (TX8_termOf_1.at 35 rfl) ?_
              rw [zldiv_eq vz (by omega)]
              refine z_goto (tgt := 160) (TX8_termOf_1.at 36 rfl) rfl ?_
              first | rw [zlrem_eq vz (by omega)] | skip
              refine z_ild_1 (TX8_termOf_2.at 0 rfl) ?_
              refine zm_callL2 (m_bounded ef24 (by first | exact mul_in vz rz | exact tdiv_in vz | exact tmod_in vz | (exfalso; omega)) hl (by first | exact evB_01 (evB_01 hb) | exact Or.inr rfl | exact Or.inl rfl)) (TX8_termOf_2.at 1 rfl) c8_277 rfl rfl hH hA (by omega) (Nat.le_of_ble_eq_true rfl) (fun x161 f161 g161 j161 h r161 q161 hH hA => ?_)
              obtain ⟨q161, xf, xg, xj⟩ := q161
              rw [xj] at hH
              have ef22 := (xf 22 (by decide)).trans ef22
              have ef23 := (xf 23 (by decide)).trans ef23
              have hfE := hfE.trans xf (by decide)
              have eg2 := (xg 2 (by decide)).trans eg2
              have hgE := hgE.trans xg (by decide)
              have qL := q161
              obtain ⟨rfl, ef24⟩ := qL
              rw [bd_eq] at r161 ⊢
              rw [bd_eqB] at ef24
              refine z_lst_2 (TX8_termOf_2.at 2 rfl) (Nat.le_of_ble_eq_true rfl) rfl ?_
              refine z_goto (tgt := 6) (TX8_termOf_2.at 3 rfl) rfl ?_
              first | (exfalso; omega) | (have e := ev_bin (live := live) (br := br) (o := 5) (op := fun x y => x * y) (k0 := k0) (k2 := k2) (φ := φ) hl hb rfl (fun _ _ => rfl); rw [e.2] at ef24; rw [e.1]; exact ih t2 p2 (dBin 5 k0 k2) _ _ _ _ _ _ (by omega) ha2 hp2 (evV_in dBin_in) eg2 ef22 ef23 ef24 hfE hgE hH hA) | (have e := (ev_div (live := live) (br := br) (o := 6) (op := fun x y => Int.tdiv x y) (k0 := k0) (k2 := k2) (φ := φ) hl hb rfl (fun _ _ => rfl) _ _ rfl rfl).2 (by assumption); rw [e.2] at ef24; rw [e.1]; exact ih t2 p2 (dBin 6 k0 k2) _ _ _ _ _ _ (by omega) ha2 hp2 (evV_in dBin_in) eg2 ef22 ef23 ef24 hfE hgE hH hA) | (have e := (ev_div (live := live) (br := br) (o := 6) (op := fun x y => Int.tdiv x y) (k0 := k0) (k2 := k2) (φ := φ) hl hb rfl (fun _ _ => rfl) _ _ rfl rfl).1 (by assumption); rw [if_pos (by omega)] at e; rw [e.2] at ef24; rw [e.1]; exact ih t2 p2 (dBin 6 k0 k2) _ _ _ _ _ _ (by omega) ha2 hp2 (evV_in dBin_in) eg2 ef22 ef23 ef24 hfE hgE hH hA) | (have e := (ev_div (live := live) (br := br) (o := 6) (op := fun x y => Int.tdiv x y) (k0 := k0) (k2 := k2) (φ := φ) hl hb rfl (fun _ _ => rfl) _ _ rfl rfl).1 (by assumption); rw [if_neg (by omega)] at e; rw [e.2] at ef24; rw [e.1]; exact ih t2 p2 (dBin 6 k0 k2) _ _ _ _ _ _ (by omega) ha2 hp2 (evV_in dBin_in) eg2 ef22 ef23 ef24 hfE hgE hH hA) | (have e := (ev_div (live := live) (br := br) (o := 7) (op := fun x y => Int.tmod x y) (k0 := k0) (k2 := k2) (φ := φ) hl hb rfl (fun _ _ => rfl) _ _ rfl rfl).2 (by assumption); rw [e.2] at ef24; rw [e.1]; exact ih t2 p2 (dBin 7 k0 k2) _ _ _ _ _ _ (by omega) ha2 hp2 (evV_in dBin_in) eg2 ef22 ef23 ef24 hfE hgE hH hA) | (have e := (ev_div (live := live) (br := br) (o := 7) (op := fun x y => Int.tmod x y) (k0 := k0) (k2 := k2) (φ := φ) hl hb rfl (fun _ _ => rfl) _ _ rfl rfl).1 (by assumption); rw [if_pos (by omega)] at e; rw [e.2] at ef24; rw [e.1]; exact ih t2 p2 (dBin 7 k0 k2) _ _ _ _ _ _ (by omega) ha2 hp2 (evV_in dBin_in) eg2 ef22 ef23 ef24 hfE hgE hH hA) | (have e := (ev_div (live := live) (br := br) (o := 7) (op := fun x y => Int.tmod x y) (k0 := k0) (k2 := k2) (φ := φ) hl hb rfl (fun _ _ => rfl) _ _ rfl rfl).1 (by assumption); rw [if_neg (by omega)] at e; rw [e.2] at ef24; rw [e.1]; exact ih t2 p2 (dBin 7 k0 k2) _ _ _ _ _ _ (by omega) ha2 hp2 (evV_in dBin_in) eg2 ef22 ef23 ef24 hfE hgE hH hA)
          · skip
            refine z_lld_2 (TX8_termOf_1.at 25 rfl) ?_
            refine z_lld_5 (TX8_termOf_1.at 26 rfl) ?_
            refine z_lmul (TX8_termOf_1.at 27 rfl) ?_
            refine z_goto (tgt := 160) (TX8_termOf_1.at 28 rfl) rfl ?_
            first | rw [zlrem_eq vz (by omega)] | skip
            refine z_ild_1 (TX8_termOf_2.at 0 rfl) ?_
            refine zm_callL2 (m_bounded ef24 (by first | exact mul_in vz rz | exact tdiv_in vz | exact tmod_in vz | (exfalso; omega)) hl (by first | exact evB_01 (evB_01 hb) | exact Or.inr rfl | exact Or.inl rfl)) (TX8_termOf_2.at 1 rfl) c8_277 rfl rfl hH hA (by omega) (Nat.le_of_ble_eq_true rfl) (fun x161 f161 g161 j161 h r161 q161 hH hA => ?_)
            obtain ⟨q161, xf, xg, xj⟩ := q161
            rw [xj] at hH
            have ef22 := (xf 22 (by decide)).trans ef22
            have ef23 := (xf 23 (by decide)).trans ef23
            have hfE := hfE.trans xf (by decide)
            have eg2 := (xg 2 (by decide)).trans eg2
            have hgE := hgE.trans xg (by decide)
            have qL := q161
            obtain ⟨rfl, ef24⟩ := qL
            rw [bd_eq] at r161 ⊢
            rw [bd_eqB] at ef24
            refine z_lst_2 (TX8_termOf_2.at 2 rfl) (Nat.le_of_ble_eq_true rfl) rfl ?_
            refine z_goto (tgt := 6) (TX8_termOf_2.at 3 rfl) rfl ?_
            first | (exfalso; omega) | (have e := ev_bin (live := live) (br := br) (o := 5) (op := fun x y => x * y) (k0 := k0) (k2 := k2) (φ := φ) hl hb rfl (fun _ _ => rfl); rw [e.2] at ef24; rw [e.1]; exact ih t2 p2 (dBin 5 k0 k2) _ _ _ _ _ _ (by omega) ha2 hp2 (evV_in dBin_in) eg2 ef22 ef23 ef24 hfE hgE hH hA) | (have e := (ev_div (live := live) (br := br) (o := 6) (op := fun x y => Int.tdiv x y) (k0 := k0) (k2 := k2) (φ := φ) hl hb rfl (fun _ _ => rfl) _ _ rfl rfl).2 (by assumption); rw [e.2] at ef24; rw [e.1]; exact ih t2 p2 (dBin 6 k0 k2) _ _ _ _ _ _ (by omega) ha2 hp2 (evV_in dBin_in) eg2 ef22 ef23 ef24 hfE hgE hH hA) | (have e := (ev_div (live := live) (br := br) (o := 6) (op := fun x y => Int.tdiv x y) (k0 := k0) (k2 := k2) (φ := φ) hl hb rfl (fun _ _ => rfl) _ _ rfl rfl).1 (by assumption); rw [if_pos (by omega)] at e; rw [e.2] at ef24; rw [e.1]; exact ih t2 p2 (dBin 6 k0 k2) _ _ _ _ _ _ (by omega) ha2 hp2 (evV_in dBin_in) eg2 ef22 ef23 ef24 hfE hgE hH hA) | (have e := (ev_div (live := live) (br := br) (o := 6) (op := fun x y => Int.tdiv x y) (k0 := k0) (k2 := k2) (φ := φ) hl hb rfl (fun _ _ => rfl) _ _ rfl rfl).1 (by assumption); rw [if_neg (by omega)] at e; rw [e.2] at ef24; rw [e.1]; exact ih t2 p2 (dBin 6 k0 k2) _ _ _ _ _ _ (by omega) ha2 hp2 (evV_in dBin_in) eg2 ef22 ef23 ef24 hfE hgE hH hA) | (have e := (ev_div (live := live) (br := br) (o := 7) (op := fun x y => Int.tmod x y) (k0 := k0) (k2 := k2) (φ := φ) hl hb rfl (fun _ _ => rfl) _ _ rfl rfl).2 (by assumption); rw [e.2] at ef24; rw [e.1]; exact ih t2 p2 (dBin 7 k0 k2) _ _ _ _ _ _ (by omega) ha2 hp2 (evV_in dBin_in) eg2 ef22 ef23 ef24 hfE hgE hH hA) | (have e := (ev_div (live := live) (br := br) (o := 7) (op := fun x y => Int.tmod x y) (k0 := k0) (k2 := k2) (φ := φ) hl hb rfl (fun _ _ => rfl) _ _ rfl rfl).1 (by assumption); rw [if_pos (by omega)] at e; rw [e.2] at ef24; rw [e.1]; exact ih t2 p2 (dBin 7 k0 k2) _ _ _ _ _ _ (by omega) ha2 hp2 (evV_in dBin_in) eg2 ef22 ef23 ef24 hfE hgE hH hA) | (have e := (ev_div (live := live) (br := br) (o := 7) (op := fun x y => Int.tmod x y) (k0 := k0) (k2 := k2) (φ := φ) hl hb rfl (fun _ _ => rfl) _ _ rfl rfl).1 (by assumption); rw [if_neg (by omega)] at e; rw [e.2] at ef24; rw [e.1]; exact ih t2 p2 (dBin 7 k0 k2) _ _ _ _ _ _ (by omega) ha2 hp2 (evV_in dBin_in) eg2 ef22 ef23 ef24 hfE hgE hH hA)
        · skip
          refine z_ald_0 (TX8_termOf_1.at 8 rfl) ?_
          refine z_ald_0 (TX8_termOf_1.at 9 rfl) ?_
          refine zm_getIE ef24 (TX8_termOf_1.at 10 rfl) fl8_270 hH rfl (by decide) (fun r100 => ?_)
          refine z_if_ne (tgt := 110) (TX8_termOf_1.at 11 rfl) rfl (by have := evB_01 (live := live) (br := evB live br (k0 φ)) (z := k2 φ) (evB_01 hb); omega) (fun c8 => ?_) (fun c8 => ?_)
          · skip
            refine z_iconst (TX8_termOf_1.at 14 rfl) ?_
            refine z_goto (tgt := 115) (TX8_termOf_1.at 15 rfl) rfl ?_
            refine zm_putZE (TX8_termOf_1.at 17 rfl) fp8_270 hH hA rfl (by decide) (by first | omega | exact b2i_01 _) (fun h f115 e1 e2 hH hA => ?_)
            have ef22 := (e1 22 (by decide)).trans ef22
            have ef23 := (e1 23 (by decide)).trans ef23
            have ef24 := e2
            have hfE := hfE.put e1 (by decide)
            refine z_lconst (v := 1) (by decide) (TX8_termOf_1.at 18 rfl) ?_
            refine z_lst_5 (TX8_termOf_1.at 19 rfl) (Nat.le_of_ble_eq_true rfl) rfl ?_
            refine z_ald_0 (TX8_termOf_1.at 20 rfl) ?_
            refine z_ild_4 (TX8_termOf_1.at 21 rfl) ?_
            refine z_bipush (by decide) (TX8_termOf_1.at 22 rfl) ?_
            refine zs_call1 (s_sign (by omega)) (TX8_termOf_1.at 23 rfl) c8_219 rfl (by omega) (Nat.le_of_ble_eq_true rfl) (fun r126 => ?_)
            refine z_icmp_ne (tgt := 139) (TX8_termOf_1.at 24 rfl) rfl (by omega) (by omega) (fun c9 => ?_) (fun c9 => ?_)
            · skip
              refine z_ild_4 (TX8_termOf_1.at 29 rfl) ?_
              refine z_bipush (by decide) (TX8_termOf_1.at 30 rfl) ?_
              refine zs_call1 (s_sign (by omega)) (TX8_termOf_1.at 31 rfl) c8_219 rfl (by omega) (Nat.le_of_ble_eq_true rfl) (fun r143 => ?_)
              refine z_icmp_ne (tgt := 156) (TX8_termOf_1.at 32 rfl) rfl (by omega) (by omega) (fun c10 => ?_) (fun c10 => ?_)
              · skip
                refine z_lld_2 (TX8_termOf_1.at 37 rfl) ?_
                refine z_lld_5 (TX8_termOf_1.at 38 rfl) ?_
                refine z_lrem (by omega) (by omega) (TX8_termOf_1.at 39 rfl) ?_
                first | rw [zlrem_eq vz (by omega)] | skip
                refine z_ild_1 (TX8_termOf_2.at 0 rfl) ?_
                refine zm_callL2 (m_bounded ef24 (by first | exact mul_in vz rz | exact tdiv_in vz | exact tmod_in vz | (exfalso; omega)) hl (by first | exact evB_01 (evB_01 hb) | exact Or.inr rfl | exact Or.inl rfl)) (TX8_termOf_2.at 1 rfl) c8_277 rfl rfl hH hA (by omega) (Nat.le_of_ble_eq_true rfl) (fun x161 f161 g161 j161 h r161 q161 hH hA => ?_)
                obtain ⟨q161, xf, xg, xj⟩ := q161
                rw [xj] at hH
                have ef22 := (xf 22 (by decide)).trans ef22
                have ef23 := (xf 23 (by decide)).trans ef23
                have hfE := hfE.trans xf (by decide)
                have eg2 := (xg 2 (by decide)).trans eg2
                have hgE := hgE.trans xg (by decide)
                have qL := q161
                obtain ⟨rfl, ef24⟩ := qL
                rw [bd_eq] at r161 ⊢
                rw [bd_eqB] at ef24
                refine z_lst_2 (TX8_termOf_2.at 2 rfl) (Nat.le_of_ble_eq_true rfl) rfl ?_
                refine z_goto (tgt := 6) (TX8_termOf_2.at 3 rfl) rfl ?_
                first | (exfalso; omega) | (have e := ev_bin (live := live) (br := br) (o := 5) (op := fun x y => x * y) (k0 := k0) (k2 := k2) (φ := φ) hl hb rfl (fun _ _ => rfl); rw [e.2] at ef24; rw [e.1]; exact ih t2 p2 (dBin 5 k0 k2) _ _ _ _ _ _ (by omega) ha2 hp2 (evV_in dBin_in) eg2 ef22 ef23 ef24 hfE hgE hH hA) | (have e := (ev_div (live := live) (br := br) (o := 6) (op := fun x y => Int.tdiv x y) (k0 := k0) (k2 := k2) (φ := φ) hl hb rfl (fun _ _ => rfl) _ _ rfl rfl).2 (by assumption); rw [e.2] at ef24; rw [e.1]; exact ih t2 p2 (dBin 6 k0 k2) _ _ _ _ _ _ (by omega) ha2 hp2 (evV_in dBin_in) eg2 ef22 ef23 ef24 hfE hgE hH hA) | (have e := (ev_div (live := live) (br := br) (o := 6) (op := fun x y => Int.tdiv x y) (k0 := k0) (k2 := k2) (φ := φ) hl hb rfl (fun _ _ => rfl) _ _ rfl rfl).1 (by assumption); rw [if_pos (by omega)] at e; rw [e.2] at ef24; rw [e.1]; exact ih t2 p2 (dBin 6 k0 k2) _ _ _ _ _ _ (by omega) ha2 hp2 (evV_in dBin_in) eg2 ef22 ef23 ef24 hfE hgE hH hA) | (have e := (ev_div (live := live) (br := br) (o := 6) (op := fun x y => Int.tdiv x y) (k0 := k0) (k2 := k2) (φ := φ) hl hb rfl (fun _ _ => rfl) _ _ rfl rfl).1 (by assumption); rw [if_neg (by omega)] at e; rw [e.2] at ef24; rw [e.1]; exact ih t2 p2 (dBin 6 k0 k2) _ _ _ _ _ _ (by omega) ha2 hp2 (evV_in dBin_in) eg2 ef22 ef23 ef24 hfE hgE hH hA) | (have e := (ev_div (live := live) (br := br) (o := 7) (op := fun x y => Int.tmod x y) (k0 := k0) (k2 := k2) (φ := φ) hl hb rfl (fun _ _ => rfl) _ _ rfl rfl).2 (by assumption); rw [e.2] at ef24; rw [e.1]; exact ih t2 p2 (dBin 7 k0 k2) _ _ _ _ _ _ (by omega) ha2 hp2 (evV_in dBin_in) eg2 ef22 ef23 ef24 hfE hgE hH hA) | (have e := (ev_div (live := live) (br := br) (o := 7) (op := fun x y => Int.tmod x y) (k0 := k0) (k2 := k2) (φ := φ) hl hb rfl (fun _ _ => rfl) _ _ rfl rfl).1 (by assumption); rw [if_pos (by omega)] at e; rw [e.2] at ef24; rw [e.1]; exact ih t2 p2 (dBin 7 k0 k2) _ _ _ _ _ _ (by omega) ha2 hp2 (evV_in dBin_in) eg2 ef22 ef23 ef24 hfE hgE hH hA) | (have e := (ev_div (live := live) (br := br) (o := 7) (op := fun x y => Int.tmod x y) (k0 := k0) (k2 := k2) (φ := φ) hl hb rfl (fun _ _ => rfl) _ _ rfl rfl).1 (by assumption); rw [if_neg (by omega)] at e; rw [e.2] at ef24; rw [e.1]; exact ih t2 p2 (dBin 7 k0 k2) _ _ _ _ _ _ (by omega) ha2 hp2 (evV_in dBin_in) eg2 ef22 ef23 ef24 hfE hgE hH hA)
              · skip
                refine z_lld_2 (TX8_termOf_1.at 33 rfl) ?_
                refine z_lld_5 (TX8_termOf_1.at 34 rfl) ?_
                refine z_ldiv (by omega) (by omega) (TX8_termOf_1.at 35 rfl) ?_
                rw [zldiv_eq vz (by omega)]
                refine z_goto (tgt := 160) (TX8_termOf_1.at 36 rfl) rfl ?_
                first | rw [zlrem_eq vz (by omega)] | skip
                refine z_ild_1 (TX8_termOf_2.at 0 rfl) ?_
                refine zm_callL2 (m_bounded ef24 (by first | exact mul_in vz rz | exact tdiv_in vz | exact tmod_in vz | (exfalso; omega)) hl (by first | exact evB_01 (evB_01 hb) | exact Or.inr rfl | exact Or.inl rfl)) (TX8_termOf_2.at 1 rfl) c8_277 rfl rfl hH hA (by omega) (Nat.le_of_ble_eq_true rfl) (fun x161 f161 g161 j161 h r161 q161 hH hA => ?_)
                obtain ⟨q161, xf, xg, xj⟩ := q161
                rw [xj] at hH
                have ef22 := (xf 22 (by decide)).trans ef22
                have ef23 := (xf 23 (by decide)).trans ef23
                have hfE := hfE.trans xf (by decide)
                have eg2 := (xg 2 (by decide)).trans eg2
                have hgE := hgE.trans xg (by decide)
                have qL := q161
                obtain ⟨rfl, ef24⟩ := qL
                rw [bd_eq] at r161 ⊢
                rw [bd_eqB] at ef24
                refine z_lst_2 (TX8_termOf_2.at 2 rfl) (Nat.le_of_ble_eq_true rfl) rfl ?_
                refine z_goto (tgt := 6) (TX8_termOf_2.at 3 rfl) rfl ?_
                first | (exfalso; omega) | (have e := ev_bin (live := live) (br := br) (o := 5) (op := fun x y => x * y) (k0 := k0) (k2 := k2) (φ := φ) hl hb rfl (fun _ _ => rfl); rw [e.2] at ef24; rw [e.1]; exact ih t2 p2 (dBin 5 k0 k2) _ _ _ _ _ _ (by omega) ha2 hp2 (evV_in dBin_in) eg2 ef22 ef23 ef24 hfE hgE hH hA) | (have e := (ev_div (live := live) (br := br) (o := 6) (op := fun x y => Int.tdiv x y) (k0 := k0) (k2 := k2) (φ := φ) hl hb rfl (fun _ _ => rfl) _ _ rfl rfl).2 (by assumption); rw [e.2] at ef24; rw [e.1]; exact ih t2 p2 (dBin 6 k0 k2) _ _ _ _ _ _ (by omega) ha2 hp2 (evV_in dBin_in) eg2 ef22 ef23 ef24 hfE hgE hH hA) | (have e := (ev_div (live := live) (br := br) (o := 6) (op := fun x y => Int.tdiv x y) (k0 := k0) (k2 := k2) (φ := φ) hl hb rfl (fun _ _ => rfl) _ _ rfl rfl).1 (by assumption); rw [if_pos (by omega)] at e; rw [e.2] at ef24; rw [e.1]; exact ih t2 p2 (dBin 6 k0 k2) _ _ _ _ _ _ (by omega) ha2 hp2 (evV_in dBin_in) eg2 ef22 ef23 ef24 hfE hgE hH hA) | (have e := (ev_div (live := live) (br := br) (o := 6) (op := fun x y => Int.tdiv x y) (k0 := k0) (k2 := k2) (φ := φ) hl hb rfl (fun _ _ => rfl) _ _ rfl rfl).1 (by assumption); rw [if_neg (by omega)] at e; rw [e.2] at ef24; rw [e.1]; exact ih t2 p2 (dBin 6 k0 k2) _ _ _ _ _ _ (by omega) ha2 hp2 (evV_in dBin_in) eg2 ef22 ef23 ef24 hfE hgE hH hA) | (have e := (ev_div (live := live) (br := br) (o := 7) (op := fun x y => Int.tmod x y) (k0 := k0) (k2 := k2) (φ := φ) hl hb rfl (fun _ _ => rfl) _ _ rfl rfl).2 (by assumption); rw [e.2] at ef24; rw [e.1]; exact ih t2 p2 (dBin 7 k0 k2) _ _ _ _ _ _ (by omega) ha2 hp2 (evV_in dBin_in) eg2 ef22 ef23 ef24 hfE hgE hH hA) | (have e := (ev_div (live := live) (br := br) (o := 7) (op := fun x y => Int.tmod x y) (k0 := k0) (k2 := k2) (φ := φ) hl hb rfl (fun _ _ => rfl) _ _ rfl rfl).1 (by assumption); rw [if_pos (by omega)] at e; rw [e.2] at ef24; rw [e.1]; exact ih t2 p2 (dBin 7 k0 k2) _ _ _ _ _ _ (by omega) ha2 hp2 (evV_in dBin_in) eg2 ef22 ef23 ef24 hfE hgE hH hA) | (have e := (ev_div (live := live) (br := br) (o := 7) (op := fun x y => Int.tmod x y) (k0 := k0) (k2 := k2) (φ := φ) hl hb rfl (fun _ _ => rfl) _ _ rfl rfl).1 (by assumption); rw [if_neg (by omega)] at e; rw [e.2] at ef24; rw [e.1]; exact ih t2 p2 (dBin 7 k0 k2) _ _ _ _ _ _ (by omega) ha2 hp2 (evV_in dBin_in) eg2 ef22 ef23 ef24 hfE hgE hH hA)
            · skip
              refine z_lld_2 (TX8_termOf_1.at 25 rfl) ?_
              refine z_lld_5 (TX8_termOf_1.at 26 rfl) ?_
              refine z_lmul (TX8_termOf_1.at 27 rfl) ?_
              refine z_goto (tgt := 160) (TX8_termOf_1.at 28 rfl) rfl ?_
              first | rw [zlrem_eq vz (by omega)] | skip
              refine z_ild_1 (TX8_termOf_2.at 0 rfl) ?_
              refine zm_callL2 (m_bounded ef24 (by first | exact mul_in vz rz | exact tdiv_in vz | exact tmod_in vz | (exfalso; omega)) hl (by first | exact evB_01 (evB_01 hb) | exact Or.inr rfl | exact Or.inl rfl)) (TX8_termOf_2.at 1 rfl) c8_277 rfl rfl hH hA (by omega) (Nat.le_of_ble_eq_true rfl) (fun x161 f161 g161 j161 h r161 q161 hH hA => ?_)
              obtain ⟨q161, xf, xg, xj⟩ := q161
              rw [xj] at hH
              have ef22 := (xf 22 (by decide)).trans ef22
              have ef23 := (xf 23 (by decide)).trans ef23
              have hfE := hfE.trans xf (by decide)
              have eg2 := (xg 2 (by decide)).trans eg2
              have hgE := hgE.trans xg (by decide)
              have qL := q161
              obtain ⟨rfl, ef24⟩ := qL
              rw [bd_eq] at r161 ⊢
              rw [bd_eqB] at ef24
              refine z_lst_2 (TX8_termOf_2.at 2 rfl) (Nat.le_of_ble_eq_true rfl) rfl ?_
              refine z_goto (tgt := 6) (TX8_termOf_2.at 3 rfl) rfl ?_
              first | (exfalso; omega) | (have e := ev_bin (live := live) (br := br) (o := 5) (op := fun x y => x * y) (k0 := k0) (k2 := k2) (φ := φ) hl hb rfl (fun _ _ => rfl); rw [e.2] at ef24; rw [e.1]; exact ih t2 p2 (dBin 5 k0 k2) _ _ _ _ _ _ (by omega) ha2 hp2 (evV_in dBin_in) eg2 ef22 ef23 ef24 hfE hgE hH hA) | (have e := (ev_div (live := live) (br := br) (o := 6) (op := fun x y => Int.tdiv x y) (k0 := k0) (k2 := k2) (φ := φ) hl hb rfl (fun _ _ => rfl) _ _ rfl rfl).2 (by assumption); rw [e.2] at ef24; rw [e.1]; exact ih t2 p2 (dBin 6 k0 k2) _ _ _ _ _ _ (by omega) ha2 hp2 (evV_in dBin_in) eg2 ef22 ef23 ef24 hfE hgE hH hA) | (have e := (ev_div (live := live) (br := br) (o := 6) (op := fun x y => Int.tdiv x y) (k0 := k0) (k2 := k2) (φ := φ) hl hb rfl (fun _ _ => rfl) _ _ rfl rfl).1 (by assumption); rw [if_pos (by omega)] at e; rw [e.2] at ef24; rw [e.1]; exact ih t2 p2 (dBin 6 k0 k2) _ _ _ _ _ _ (by omega) ha2 hp2 (evV_in dBin_in) eg2 ef22 ef23 ef24 hfE hgE hH hA) | (have e := (ev_div (live := live) (br := br) (o := 6) (op := fun x y => Int.tdiv x y) (k0 := k0) (k2 := k2) (φ := φ) hl hb rfl (fun _ _ => rfl) _ _ rfl rfl).1 (by assumption); rw [if_neg (by omega)] at e; rw [e.2] at ef24; rw [e.1]; exact ih t2 p2 (dBin 6 k0 k2) _ _ _ _ _ _ (by omega) ha2 hp2 (evV_in dBin_in) eg2 ef22 ef23 ef24 hfE hgE hH hA) | (have e := (ev_div (live := live) (br := br) (o := 7) (op := fun x y => Int.tmod x y) (k0 := k0) (k2 := k2) (φ := φ) hl hb rfl (fun _ _ => rfl) _ _ rfl rfl).2 (by assumption); rw [e.2] at ef24; rw [e.1]; exact ih t2 p2 (dBin 7 k0 k2) _ _ _ _ _ _ (by omega) ha2 hp2 (evV_in dBin_in) eg2 ef22 ef23 ef24 hfE hgE hH hA) | (have e := (ev_div (live := live) (br := br) (o := 7) (op := fun x y => Int.tmod x y) (k0 := k0) (k2 := k2) (φ := φ) hl hb rfl (fun _ _ => rfl) _ _ rfl rfl).1 (by assumption); rw [if_pos (by omega)] at e; rw [e.2] at ef24; rw [e.1]; exact ih t2 p2 (dBin 7 k0 k2) _ _ _ _ _ _ (by omega) ha2 hp2 (evV_in dBin_in) eg2 ef22 ef23 ef24 hfE hgE hH hA) | (have e := (ev_div (live := live) (br := br) (o := 7) (op := fun x y => Int.tmod x y) (k0 := k0) (k2 := k2) (φ := φ) hl hb rfl (fun _ _ => rfl) _ _ rfl rfl).1 (by assumption); rw [if_neg (by omega)] at e; rw [e.2] at ef24; rw [e.1]; exact ih t2 p2 (dBin 7 k0 k2) _ _ _ _ _ _ (by omega) ha2 hp2 (evV_in dBin_in) eg2 ef22 ef23 ef24 hfE hgE hH hA)
          · skip
            refine z_ild_1 (TX8_termOf_1.at 12 rfl) ?_
            refine z_if_eq (tgt := 114) (TX8_termOf_1.at 13 rfl) rfl (by omega) (fun c11 => ?_) (fun c11 => ?_)
            · skip
              refine z_iconst (TX8_termOf_1.at 16 rfl) ?_
              refine zm_putZE (TX8_termOf_1.at 17 rfl) fp8_270 hH hA rfl (by decide) (by first | omega | exact b2i_01 _) (fun h f115 e1 e2 hH hA => ?_)
              have ef22 := (e1 22 (by decide)).trans ef22
              have ef23 := (e1 23 (by decide)).trans ef23
              have ef24 := e2
              have hfE := hfE.put e1 (by decide)
              refine z_lconst (v := 1) (by decide) (TX8_termOf_1.at 18 rfl) ?_
              refine z_lst_5 (TX8_termOf_1.at 19 rfl) (Nat.le_of_ble_eq_true rfl) rfl ?_
              refine z_ald_0 (TX8_termOf_1.at 20 rfl) ?_
              refine z_ild_4 (TX8_termOf_1.at 21 rfl) ?_
              refine z_bipush (by decide) (TX8_termOf_1.at 22 rfl) ?_
              refine zs_call1 (s_sign (by omega)) (TX8_termOf_1.at 23 rfl) c8_219 rfl (by omega) (Nat.le_of_ble_eq_true rfl) (fun r126 => ?_)
              refine z_icmp_ne (tgt := 139) (TX8_termOf_1.at 24 rfl) rfl (by omega) (by omega) (fun c12 => ?_) (fun c12 => ?_)
              · skip
                refine z_ild_4 (TX8_termOf_1.at 29 rfl) ?_
                refine z_bipush (by decide) (TX8_termOf_1.at 30 rfl) ?_
                refine zs_call1 (s_sign (by omega)) (TX8_termOf_1.at 31 rfl) c8_219 rfl (by omega) (Nat.le_of_ble_eq_true rfl) (fun r143 => ?_)
                refine z_icmp_ne (tgt := 156) (TX8_termOf_1.at 32 rfl) rfl (by omega) (by omega) (fun c13 => ?_) (fun c13 => ?_)
                · skip
                  refine z_lld_2 (TX8_termOf_1.at 37 rfl) ?_
                  refine z_lld_5 (TX8_termOf_1.at 38 rfl) ?_
                  refine z_lrem (by omega) (by omega) (TX8_termOf_1.at 39 rfl) ?_
                  first | rw [zlrem_eq vz (by omega)] | skip
                  refine z_ild_1 (TX8_termOf_2.at 0 rfl) ?_
                  refine zm_callL2 (m_bounded ef24 (by first | exact mul_in vz rz | exact tdiv_in vz | exact tmod_in vz | (exfalso; omega)) hl (by first | exact evB_01 (evB_01 hb) | exact Or.inr rfl | exact Or.inl rfl)) (TX8_termOf_2.at 1 rfl) c8_277 rfl rfl hH hA (by omega) (Nat.le_of_ble_eq_true rfl) (fun x161 f161 g161 j161 h r161 q161 hH hA => ?_)
                  obtain ⟨q161, xf, xg, xj⟩ := q161
                  rw [xj] at hH
                  have ef22 := (xf 22 (by decide)).trans ef22
                  have ef23 := (xf 23 (by decide)).trans ef23
                  have hfE := hfE.trans xf (by decide)
                  have eg2 := (xg 2 (by decide)).trans eg2
                  have hgE := hgE.trans xg (by decide)
                  have qL := q161
                  obtain ⟨rfl, ef24⟩ := qL
                  rw [bd_eq] at r161 ⊢
                  rw [bd_eqB] at ef24
                  refine z_lst_2 (TX8_termOf_2.at 2 rfl) (Nat.le_of_ble_eq_true rfl) rfl ?_
                  refine z_goto (tgt := 6) (TX8_termOf_2.at 3 rfl) rfl ?_
                  first | (exfalso; omega) | (have e := ev_bin (live := live) (br := br) (o := 5) (op := fun x y => x * y) (k0 := k0) (k2 := k2) (φ := φ) hl hb rfl (fun _ _ => rfl); rw [e.2] at ef24; rw [e.1]; exact ih t2 p2 (dBin 5 k0 k2) _ _ _ _ _ _ (by omega) ha2 hp2 (evV_in dBin_in) eg2 ef22 ef23 ef24 hfE hgE hH hA) | (have e := (ev_div (live := live) (br := br) (o := 6) (op := fun x y => Int.tdiv x y) (k0 := k0) (k2 := k2) (φ := φ) hl hb rfl (fun _ _ => rfl) _ _ rfl rfl).2 (by assumption); rw [e.2] at ef24; rw [e.1]; exact ih t2 p2 (dBin 6 k0 k2) _ _ _ _ _ _ (by omega) ha2 hp2 (evV_in dBin_in) eg2 ef22 ef23 ef24 hfE hgE hH hA) | (have e := (ev_div (live := live) (br := br) (o := 6) (op := fun x y => Int.tdiv x y) (k0 := k0) (k2 := k2) (φ := φ) hl hb rfl (fun _ _ => rfl) _ _ rfl rfl).1 (by assumption); rw [if_pos (by omega)] at e; rw [e.2] at ef24; rw [e.1]; exact ih t2 p2 (dBin 6 k0 k2) _ _ _ _ _ _ (by omega) ha2 hp2 (evV_in dBin_in) eg2 ef22 ef23 ef24 hfE hgE hH hA) | (have e := (ev_div (live := live) (br := br) (o := 6) (op := fun x y => Int.tdiv x y) (k0 := k0) (k2 := k2) (φ := φ) hl hb rfl (fun _ _ => rfl) _ _ rfl rfl).1 (by assumption); rw [if_neg (by omega)] at e; rw [e.2] at ef24; rw [e.1]; exact ih t2 p2 (dBin 6 k0 k2) _ _ _ _ _ _ (by omega) ha2 hp2 (evV_in dBin_in) eg2 ef22 ef23 ef24 hfE hgE hH hA) | (have e := (ev_div (live := live) (br := br) (o := 7) (op := fun x y => Int.tmod x y) (k0 := k0) (k2 := k2) (φ := φ) hl hb rfl (fun _ _ => rfl) _ _ rfl rfl).2 (by assumption); rw [e.2] at ef24; rw [e.1]; exact ih t2 p2 (dBin 7 k0 k2) _ _ _ _ _ _ (by omega) ha2 hp2 (evV_in dBin_in) eg2 ef22 ef23 ef24 hfE hgE hH hA) | (have e := (ev_div (live := live) (br := br) (o := 7) (op := fun x y => Int.tmod x y) (k0 := k0) (k2 := k2) (φ := φ) hl hb rfl (fun _ _ => rfl) _ _ rfl rfl).1 (by assumption); rw [if_pos (by omega)] at e; rw [e.2] at ef24; rw [e.1]; exact ih t2 p2 (dBin 7 k0 k2) _ _ _ _ _ _ (by omega) ha2 hp2 (evV_in dBin_in) eg2 ef22 ef23 ef24 hfE hgE hH hA) | (have e := (ev_div (live := live) (br := br) (o := 7) (op := fun x y => Int.tmod x y) (k0 := k0) (k2 := k2) (φ := φ) hl hb rfl (fun _ _ => rfl) _ _ rfl rfl).1 (by assumption); rw [if_neg (by omega)] at e; rw [e.2] at ef24; rw [e.1]; exact ih t2 p2 (dBin 7 k0 k2) _ _ _ _ _ _ (by omega) ha2 hp2 (evV_in dBin_in) eg2 ef22 ef23 ef24 hfE hgE hH hA)
                · skip
                  refine z_lld_2 (TX8_termOf_1.at 33 rfl) ?_
                  refine z_lld_5 (TX8_termOf_1.at 34 rfl) ?_
                  refine z_ldiv (by omega) (by omega) (TX8_termOf_1.at 35 rfl) ?_
                  rw [zldiv_eq vz (by omega)]
                  refine z_goto (tgt := 160) (TX8_termOf_1.at 36 rfl) rfl ?_
                  first | rw [zlrem_eq vz (by omega)] | skip
                  refine z_ild_1 (TX8_termOf_2.at 0 rfl) ?_
                  refine zm_callL2 (m_bounded ef24 (by first | exact mul_in vz rz | exact tdiv_in vz | exact tmod_in vz | (exfalso; omega)) hl (by first | exact evB_01 (evB_01 hb) | exact Or.inr rfl | exact Or.inl rfl)) (TX8_termOf_2.at 1 rfl) c8_277 rfl rfl hH hA (by omega) (Nat.le_of_ble_eq_true rfl) (fun x161 f161 g161 j161 h r161 q161 hH hA => ?_)
                  obtain ⟨q161, xf, xg, xj⟩ := q161
                  rw [xj] at hH
                  have ef22 := (xf 22 (by decide)).trans ef22
                  have ef23 := (xf 23 (by decide)).trans ef23
                  have hfE := hfE.trans xf (by decide)
                  have eg2 := (xg 2 (by decide)).trans eg2
                  have hgE := hgE.trans xg (by decide)
                  have qL := q161
                  obtain ⟨rfl, ef24⟩ := qL
                  rw [bd_eq] at r161 ⊢
                  rw [bd_eqB] at ef24
                  refine z_lst_2 (TX8_termOf_2.at 2 rfl) (Nat.le_of_ble_eq_true rfl) rfl ?_
                  refine z_goto (tgt := 6) (TX8_termOf_2.at 3 rfl) rfl ?_
                  first | (exfalso; omega) | (have e := ev_bin (live := live) (br := br) (o := 5) (op := fun x y => x * y) (k0 := k0) (k2 := k2) (φ := φ) hl hb rfl (fun _ _ => rfl); rw [e.2] at ef24; rw [e.1]; exact ih t2 p2 (dBin 5 k0 k2) _ _ _ _ _ _ (by omega) ha2 hp2 (evV_in dBin_in) eg2 ef22 ef23 ef24 hfE hgE hH hA) | (have e := (ev_div (live := live) (br := br) (o := 6) (op := fun x y => Int.tdiv x y) (k0 := k0) (k2 := k2) (φ := φ) hl hb rfl (fun _ _ => rfl) _ _ rfl rfl).2 (by assumption); rw [e.2] at ef24; rw [e.1]; exact ih t2 p2 (dBin 6 k0 k2) _ _ _ _ _ _ (by omega) ha2 hp2 (evV_in dBin_in) eg2 ef22 ef23 ef24 hfE hgE hH hA) | (have e := (ev_div (live := live) (br := br) (o := 6) (op := fun x y => Int.tdiv x y) (k0 := k0) (k2 := k2) (φ := φ) hl hb rfl (fun _ _ => rfl) _ _ rfl rfl).1 (by assumption); rw [if_pos (by omega)] at e; rw [e.2] at ef24; rw [e.1]; exact ih t2 p2 (dBin 6 k0 k2) _ _ _ _ _ _ (by omega) ha2 hp2 (evV_in dBin_in) eg2 ef22 ef23 ef24 hfE hgE hH hA) | (have e := (ev_div (live := live) (br := br) (o := 6) (op := fun x y => Int.tdiv x y) (k0 := k0) (k2 := k2) (φ := φ) hl hb rfl (fun _ _ => rfl) _ _ rfl rfl).1 (by assumption); rw [if_neg (by omega)] at e; rw [e.2] at ef24; rw [e.1]; exact ih t2 p2 (dBin 6 k0 k2) _ _ _ _ _ _ (by omega) ha2 hp2 (evV_in dBin_in) eg2 ef22 ef23 ef24 hfE hgE hH hA) | (have e := (ev_div (live := live) (br := br) (o := 7) (op := fun x y => Int.tmod x y) (k0 := k0) (k2 := k2) (φ := φ) hl hb rfl (fun _ _ => rfl) _ _ rfl rfl).2 (by assumption); rw [e.2] at ef24; rw [e.1]; exact ih t2 p2 (dBin 7 k0 k2) _ _ _ _ _ _ (by omega) ha2 hp2 (evV_in dBin_in) eg2 ef22 ef23 ef24 hfE hgE hH hA) | (have e := (ev_div (live := live) (br := br) (o := 7) (op := fun x y => Int.tmod x y) (k0 := k0) (k2 := k2) (φ := φ) hl hb rfl (fun _ _ => rfl) _ _ rfl rfl).1 (by assumption); rw [if_pos (by omega)] at e; rw [e.2] at ef24; rw [e.1]; exact ih t2 p2 (dBin 7 k0 k2) _ _ _ _ _ _ (by omega) ha2 hp2 (evV_in dBin_in) eg2 ef22 ef23 ef24 hfE hgE hH hA) | (have e := (ev_div (live := live) (br := br) (o := 7) (op := fun x y => Int.tmod x y) (k0 := k0) (k2 := k2) (φ := φ) hl hb rfl (fun _ _ => rfl) _ _ rfl rfl).1 (by assumption); rw [if_neg (by omega)] at e; rw [e.2] at ef24; rw [e.1]; exact ih t2 p2 (dBin 7 k0 k2) _ _ _ _ _ _ (by omega) ha2 hp2 (evV_in dBin_in) eg2 ef22 ef23 ef24 hfE hgE hH hA)
              · skip
                refine z_lld_2 (TX8_termOf_1.at 25 rfl) ?_
                refine z_lld_5 (TX8_termOf_1.at 26 rfl) ?_
                refine z_lmul (TX8_termOf_1.at 27 rfl) ?_
                refine z_goto (tgt := 160) (TX8_termOf_1.at 28 rfl) rfl ?_
                first | rw [zlrem_eq vz (by omega)] | skip
                refine z_ild_1 (TX8_termOf_2.at 0 rfl) ?_
                refine zm_callL2 (m_bounded ef24 (by first | exact mul_in vz rz | exact tdiv_in vz | exact tmod_in vz | (exfalso; omega)) hl (by first | exact evB_01 (evB_01 hb) | exact Or.inr rfl | exact Or.inl rfl)) (TX8_termOf_2.at 1 rfl) c8_277 rfl rfl hH hA (by omega) (Nat.le_of_ble_eq_true rfl) (fun x161 f161 g161 j161 h r161 q161 hH hA => ?_)
                obtain ⟨q161, xf, xg, xj⟩ := q161
                rw [xj] at hH
                have ef22 := (xf 22 (by decide)).trans ef22
                have ef23 := (xf 23 (by decide)).trans ef23
                have hfE := hfE.trans xf (by decide)
                have eg2 := (xg 2 (by decide)).trans eg2
                have hgE := hgE.trans xg (by decide)
                have qL := q161
                obtain ⟨rfl, ef24⟩ := qL
                rw [bd_eq] at r161 ⊢
                rw [bd_eqB] at ef24
                refine z_lst_2 (TX8_termOf_2.at 2 rfl) (Nat.le_of_ble_eq_true rfl) rfl ?_
                refine z_goto (tgt := 6) (TX8_termOf_2.at 3 rfl) rfl ?_
                first | (exfalso; omega) | (have e := ev_bin (live := live) (br := br) (o := 5) (op := fun x y => x * y) (k0 := k0) (k2 := k2) (φ := φ) hl hb rfl (fun _ _ => rfl); rw [e.2] at ef24; rw [e.1]; exact ih t2 p2 (dBin 5 k0 k2) _ _ _ _ _ _ (by omega) ha2 hp2 (evV_in dBin_in) eg2 ef22 ef23 ef24 hfE hgE hH hA) | (have e := (ev_div (live := live) (br := br) (o := 6) (op := fun x y => Int.tdiv x y) (k0 := k0) (k2 := k2) (φ := φ) hl hb rfl (fun _ _ => rfl) _ _ rfl rfl).2 (by assumption); rw [e.2] at ef24; rw [e.1]; exact ih t2 p2 (dBin 6 k0 k2) _ _ _ _ _ _ (by omega) ha2 hp2 (evV_in dBin_in) eg2 ef22 ef23 ef24 hfE hgE hH hA) | (have e := (ev_div (live := live) (br := br) (o := 6) (op := fun x y => Int.tdiv x y) (k0 := k0) (k2 := k2) (φ := φ) hl hb rfl (fun _ _ => rfl) _ _ rfl rfl).1 (by assumption); rw [if_pos (by omega)] at e; rw [e.2] at ef24; rw [e.1]; exact ih t2 p2 (dBin 6 k0 k2) _ _ _ _ _ _ (by omega) ha2 hp2 (evV_in dBin_in) eg2 ef22 ef23 ef24 hfE hgE hH hA) | (have e := (ev_div (live := live) (br := br) (o := 6) (op := fun x y => Int.tdiv x y) (k0 := k0) (k2 := k2) (φ := φ) hl hb rfl (fun _ _ => rfl) _ _ rfl rfl).1 (by assumption); rw [if_neg (by omega)] at e; rw [e.2] at ef24; rw [e.1]; exact ih t2 p2 (dBin 6 k0 k2) _ _ _ _ _ _ (by omega) ha2 hp2 (evV_in dBin_in) eg2 ef22 ef23 ef24 hfE hgE hH hA) | (have e := (ev_div (live := live) (br := br) (o := 7) (op := fun x y => Int.tmod x y) (k0 := k0) (k2 := k2) (φ := φ) hl hb rfl (fun _ _ => rfl) _ _ rfl rfl).2 (by assumption); rw [e.2] at ef24; rw [e.1]; exact ih t2 p2 (dBin 7 k0 k2) _ _ _ _ _ _ (by omega) ha2 hp2 (evV_in dBin_in) eg2 ef22 ef23 ef24 hfE hgE hH hA) | (have e := (ev_div (live := live) (br := br) (o := 7) (op := fun x y => Int.tmod x y) (k0 := k0) (k2 := k2) (φ := φ) hl hb rfl (fun _ _ => rfl) _ _ rfl rfl).1 (by assumption); rw [if_pos (by omega)] at e; rw [e.2] at ef24; rw [e.1]; exact ih t2 p2 (dBin 7 k0 k2) _ _ _ _ _ _ (by omega) ha2 hp2 (evV_in dBin_in) eg2 ef22 ef23 ef24 hfE hgE hH hA) | (have e := (ev_div (live := live) (br := br) (o := 7) (op := fun x y => Int.tmod x y) (k0 := k0) (k2 := k2) (φ := φ) hl hb rfl (fun _ _ => rfl) _ _ rfl rfl).1 (by assumption); rw [if_neg (by omega)] at e; rw [e.2] at ef24; rw [e.1]; exact ih t2 p2 (dBin 7 k0 k2) _ _ _ _ _ _ (by omega) ha2 hp2 (evV_in dBin_in) eg2 ef22 ef23 ef24 hfE hgE hH hA)
            · skip
              refine z_iconst (TX8_termOf_1.at 14 rfl) ?_
              refine z_goto (tgt := 115) (TX8_termOf_1.at 15 rfl) rfl ?_
              refine zm_putZE (TX8_termOf_1.at 17 rfl) fp8_270 hH hA rfl (by decide) (by first | omega | exact b2i_01 _) (fun h f115 e1 e2 hH hA => ?_)
              have ef22 := (e1 22 (by decide)).trans ef22
              have ef23 := (e1 23 (by decide)).trans ef23
              have ef24 := e2
              have hfE := hfE.put e1 (by decide)
              refine z_lconst (v := 1) (by decide) (TX8_termOf_1.at 18 rfl) ?_
              refine z_lst_5 (TX8_termOf_1.at 19 rfl) (Nat.le_of_ble_eq_true rfl) rfl ?_
              refine z_ald_0 (TX8_termOf_1.at 20 rfl) ?_
              refine z_ild_4 (TX8_termOf_1.at 21 rfl) ?_
              refine z_bipush (by decide) (TX8_termOf_1.at 22 rfl) ?_
              refine zs_call1 (s_sign (by omega)) (TX8_termOf_1.at 23 rfl) c8_219 rfl (by omega) (Nat.le_of_ble_eq_true rfl) (fun r126 => ?_)
              refine z_icmp_ne (tgt := 139) (TX8_termOf_1.at 24 rfl) rfl (by omega) (by omega) (fun c14 => ?_) (fun c14 => ?_)
              · skip
                refine z_ild_4 (TX8_termOf_1.at 29 rfl) ?_
                refine z_bipush (by decide) (TX8_termOf_1.at 30 rfl) ?_
                refine zs_call1 (s_sign (by omega)) (TX8_termOf_1.at 31 rfl) c8_219 rfl (by omega) (Nat.le_of_ble_eq_true rfl) (fun r143 => ?_)
                refine z_icmp_ne (tgt := 156) (TX8_termOf_1.at 32 rfl) rfl (by omega) (by omega) (fun c15 => ?_) (fun c15 => ?_)
                · skip
                  refine z_lld_2 (TX8_termOf_1.at 37 rfl) ?_
                  refine z_lld_5 (TX8_termOf_1.at 38 rfl) ?_
                  refine z_lrem (by omega) (by omega) (TX8_termOf_1.at 39 rfl) ?_
                  first | rw [zlrem_eq vz (by omega)] | skip
                  refine z_ild_1 (TX8_termOf_2.at 0 rfl) ?_
                  refine zm_callL2 (m_bounded ef24 (by first | exact mul_in vz rz | exact tdiv_in vz | exact tmod_in vz | (exfalso; omega)) hl (by first | exact evB_01 (evB_01 hb) | exact Or.inr rfl | exact Or.inl rfl)) (TX8_termOf_2.at 1 rfl) c8_277 rfl rfl hH hA (by omega) (Nat.le_of_ble_eq_true rfl) (fun x161 f161 g161 j161 h r161 q161 hH hA => ?_)
                  obtain ⟨q161, xf, xg, xj⟩ := q161
                  rw [xj] at hH
                  have ef22 := (xf 22 (by decide)).trans ef22
                  have ef23 := (xf 23 (by decide)).trans ef23
                  have hfE := hfE.trans xf (by decide)
                  have eg2 := (xg 2 (by decide)).trans eg2
                  have hgE := hgE.trans xg (by decide)
                  have qL := q161
                  obtain ⟨rfl, ef24⟩ := qL
                  rw [bd_eq] at r161 ⊢
                  rw [bd_eqB] at ef24
                  refine z_lst_2 (TX8_termOf_2.at 2 rfl) (Nat.le_of_ble_eq_true rfl) rfl ?_
                  refine z_goto (tgt := 6) (TX8_termOf_2.at 3 rfl) rfl ?_
                  first | (exfalso; omega) | (have e := ev_bin (live := live) (br := br) (o := 5) (op := fun x y => x * y) (k0 := k0) (k2 := k2) (φ := φ) hl hb rfl (fun _ _ => rfl); rw [e.2] at ef24; rw [e.1]; exact ih t2 p2 (dBin 5 k0 k2) _ _ _ _ _ _ (by omega) ha2 hp2 (evV_in dBin_in) eg2 ef22 ef23 ef24 hfE hgE hH hA) | (have e := (ev_div (live := live) (br := br) (o := 6) (op := fun x y => Int.tdiv x y) (k0 := k0) (k2 := k2) (φ := φ) hl hb rfl (fun _ _ => rfl) _ _ rfl rfl).2 (by assumption); rw [e.2] at ef24; rw [e.1]; exact ih t2 p2 (dBin 6 k0 k2) _ _ _ _ _ _ (by omega) ha2 hp2 (evV_in dBin_in) eg2 ef22 ef23 ef24 hfE hgE hH hA) | (have e := (ev_div (live := live) (br := br) (o := 6) (op := fun x y => Int.tdiv x y) (k0 := k0) (k2 := k2) (φ := φ) hl hb rfl (fun _ _ => rfl) _ _ rfl rfl).1 (by assumption); rw [if_pos (by omega)] at e; rw [e.2] at ef24; rw [e.1]; exact ih t2 p2 (dBin 6 k0 k2) _ _ _ _ _ _ (by omega) ha2 hp2 (evV_in dBin_in) eg2 ef22 ef23 ef24 hfE hgE hH hA) | (have e := (ev_div (live := live) (br := br) (o := 6) (op := fun x y => Int.tdiv x y) (k0 := k0) (k2 := k2) (φ := φ) hl hb rfl (fun _ _ => rfl) _ _ rfl rfl).1 (by assumption); rw [if_neg (by omega)] at e; rw [e.2] at ef24; rw [e.1]; exact ih t2 p2 (dBin 6 k0 k2) _ _ _ _ _ _ (by omega) ha2 hp2 (evV_in dBin_in) eg2 ef22 ef23 ef24 hfE hgE hH hA) | (have e := (ev_div (live := live) (br := br) (o := 7) (op := fun x y => Int.tmod x y) (k0 := k0) (k2 := k2) (φ := φ) hl hb rfl (fun _ _ => rfl) _ _ rfl rfl).2 (by assumption); rw [e.2] at ef24; rw [e.1]; exact ih t2 p2 (dBin 7 k0 k2) _ _ _ _ _ _ (by omega) ha2 hp2 (evV_in dBin_in) eg2 ef22 ef23 ef24 hfE hgE hH hA) | (have e := (ev_div (live := live) (br := br) (o := 7) (op := fun x y => Int.tmod x y) (k0 := k0) (k2 := k2) (φ := φ) hl hb rfl (fun _ _ => rfl) _ _ rfl rfl).1 (by assumption); rw [if_pos (by omega)] at e; rw [e.2] at ef24; rw [e.1]; exact ih t2 p2 (dBin 7 k0 k2) _ _ _ _ _ _ (by omega) ha2 hp2 (evV_in dBin_in) eg2 ef22 ef23 ef24 hfE hgE hH hA) | (have e := (ev_div (live := live) (br := br) (o := 7) (op := fun x y => Int.tmod x y) (k0 := k0) (k2 := k2) (φ := φ) hl hb rfl (fun _ _ => rfl) _ _ rfl rfl).1 (by assumption); rw [if_neg (by omega)] at e; rw [e.2] at ef24; rw [e.1]; exact ih t2 p2 (dBin 7 k0 k2) _ _ _ _ _ _ (by omega) ha2 hp2 (evV_in dBin_in) eg2 ef22 ef23 ef24 hfE hgE hH hA)
                · skip
                  refine z_lld_2 (TX8_termOf_1.at 33 rfl) ?_
                  refine z_lld_5 (TX8_termOf_1.at 34 rfl) ?_
                  refine z_ldiv (by omega) (by omega) (TX8_termOf_1.at 35 rfl) ?_
                  rw [zldiv_eq vz (by omega)]
                  refine z_goto (tgt := 160) (TX8_termOf_1.at 36 rfl) rfl ?_
                  first | rw [zlrem_eq vz (by omega)] | skip
                  refine z_ild_1 (TX8_termOf_2.at 0 rfl) ?_
                  refine zm_callL2 (m_bounded ef24 (by first | exact mul_in vz rz | exact tdiv_in vz | exact tmod_in vz | (exfalso; omega)) hl (by first | exact evB_01 (evB_01 hb) | exact Or.inr rfl | exact Or.inl rfl)) (TX8_termOf_2.at 1 rfl) c8_277 rfl rfl hH hA (by omega) (Nat.le_of_ble_eq_true rfl) (fun x161 f161 g161 j161 h r161 q161 hH hA => ?_)
                  obtain ⟨q161, xf, xg, xj⟩ := q161
                  rw [xj] at hH
                  have ef22 := (xf 22 (by decide)).trans ef22
                  have ef23 := (xf 23 (by decide)).trans ef23
                  have hfE := hfE.trans xf (by decide)
                  have eg2 := (xg 2 (by decide)).trans eg2
                  have hgE := hgE.trans xg (by decide)
                  have qL := q161
                  obtain ⟨rfl, ef24⟩ := qL
                  rw [bd_eq] at r161 ⊢
                  rw [bd_eqB] at ef24
                  refine z_lst_2 (TX8_termOf_2.at 2 rfl) (Nat.le_of_ble_eq_true rfl) rfl ?_
                  refine z_goto (tgt := 6) (TX8_termOf_2.at 3 rfl) rfl ?_
                  first | (exfalso; omega) | (have e := ev_bin (live := live) (br := br) (o := 5) (op := fun x y => x * y) (k0 := k0) (k2 := k2) (φ := φ) hl hb rfl (fun _ _ => rfl); rw [e.2] at ef24; rw [e.1]; exact ih t2 p2 (dBin 5 k0 k2) _ _ _ _ _ _ (by omega) ha2 hp2 (evV_in dBin_in) eg2 ef22 ef23 ef24 hfE hgE hH hA) | (have e := (ev_div (live := live) (br := br) (o := 6) (op := fun x y => Int.tdiv x y) (k0 := k0) (k2 := k2) (φ := φ) hl hb rfl (fun _ _ => rfl) _ _ rfl rfl).2 (by assumption); rw [e.2] at ef24; rw [e.1]; exact ih t2 p2 (dBin 6 k0 k2) _ _ _ _ _ _ (by omega) ha2 hp2 (evV_in dBin_in) eg2 ef22 ef23 ef24 hfE hgE hH hA) | (have e := (ev_div (live := live) (br := br) (o := 6) (op := fun x y => Int.tdiv x y) (k0 := k0) (k2 := k2) (φ := φ) hl hb rfl (fun _ _ => rfl) _ _ rfl rfl).1 (by assumption); rw [if_pos (by omega)] at e; rw [e.2] at ef24; rw [e.1]; exact ih t2 p2 (dBin 6 k0 k2) _ _ _ _ _ _ (by omega) ha2 hp2 (evV_in dBin_in) eg2 ef22 ef23 ef24 hfE hgE hH hA) | (have e := (ev_div (live := live) (br := br) (o := 6) (op := fun x y => Int.tdiv x y) (k0 := k0) (k2 := k2) (φ := φ) hl hb rfl (fun _ _ => rfl) _ _ rfl rfl).1 (by assumption); rw [if_neg (by omega)] at e; rw [e.2] at ef24; rw [e.1]; exact ih t2 p2 (dBin 6 k0 k2) _ _ _ _ _ _ (by omega) ha2 hp2 (evV_in dBin_in) eg2 ef22 ef23 ef24 hfE hgE hH hA) | (have e := (ev_div (live := live) (br := br) (o := 7) (op := fun x y => Int.tmod x y) (k0 := k0) (k2 := k2) (φ := φ) hl hb rfl (fun _ _ => rfl) _ _ rfl rfl).2 (by assumption); rw [e.2] at ef24; rw [e.1]; exact ih t2 p2 (dBin 7 k0 k2) _ _ _ _ _ _ (by omega) ha2 hp2 (evV_in dBin_in) eg2 ef22 ef23 ef24 hfE hgE hH hA) | (have e := (ev_div (live := live) (br := br) (o := 7) (op := fun x y => Int.tmod x y) (k0 := k0) (k2 := k2) (φ := φ) hl hb rfl (fun _ _ => rfl) _ _ rfl rfl).1 (by assumption); rw [if_pos (by omega)] at e; rw [e.2] at ef24; rw [e.1]; exact ih t2 p2 (dBin 7 k0 k2) _ _ _ _ _ _ (by omega) ha2 hp2 (evV_in dBin_in) eg2 ef22 ef23 ef24 hfE hgE hH hA) | (have e := (ev_div (live := live) (br := br) (o := 7) (op := fun x y => Int.tmod x y) (k0 := k0) (k2 := k2) (φ := φ) hl hb rfl (fun _ _ => rfl) _ _ rfl rfl).1 (by assumption); rw [if_neg (by omega)] at e; rw [e.2] at ef24; rw [e.1]; exact ih t2 p2 (dBin 7 k0 k2) _ _ _ _ _ _ (by omega) ha2 hp2 (evV_in dBin_in) eg2 ef22 ef23 ef24 hfE hgE hH hA)
              · skip
                refine z_lld_2 (TX8_termOf_1.at 25 rfl) ?_
                refine z_lld_5 (TX8_termOf_1.at 26 rfl) ?_
                refine z_lmul (TX8_termOf_1.at 27 rfl) ?_
                refine z_goto (tgt := 160) (TX8_termOf_1.at 28 rfl) rfl ?_
                first | rw [zlrem_eq vz (by omega)] | skip
                refine z_ild_1 (TX8_termOf_2.at 0 rfl) ?_
                refine zm_callL2 (m_bounded ef24 (by first | exact mul_in vz rz | exact tdiv_in vz | exact tmod_in vz | (exfalso; omega)) hl (by first | exact evB_01 (evB_01 hb) | exact Or.inr rfl | exact Or.inl rfl)) (TX8_termOf_2.at 1 rfl) c8_277 rfl rfl hH hA (by omega) (Nat.le_of_ble_eq_true rfl) (fun x161 f161 g161 j161 h r161 q161 hH hA => ?_)
                obtain ⟨q161, xf, xg, xj⟩ := q161
                rw [xj] at hH
                have ef22 := (xf 22 (by decide)).trans ef22
                have ef23 := (xf 23 (by decide)).trans ef23
                have hfE := hfE.trans xf (by decide)
                have eg2 := (xg 2 (by decide)).trans eg2
                have hgE := hgE.trans xg (by decide)
                have qL := q161
                obtain ⟨rfl, ef24⟩ := qL
                rw [bd_eq] at r161 ⊢
                rw [bd_eqB] at ef24
                refine z_lst_2 (TX8_termOf_2.at 2 rfl) (Nat.le_of_ble_eq_true rfl) rfl ?_
                refine z_goto (tgt := 6) (TX8_termOf_2.at 3 rfl) rfl ?_
                first | (exfalso; omega) | (have e := ev_bin (live := live) (br := br) (o := 5) (op := fun x y => x * y) (k0 := k0) (k2 := k2) (φ := φ) hl hb rfl (fun _ _ => rfl); rw [e.2] at ef24; rw [e.1]; exact ih t2 p2 (dBin 5 k0 k2) _ _ _ _ _ _ (by omega) ha2 hp2 (evV_in dBin_in) eg2 ef22 ef23 ef24 hfE hgE hH hA) | (have e := (ev_div (live := live) (br := br) (o := 6) (op := fun x y => Int.tdiv x y) (k0 := k0) (k2 := k2) (φ := φ) hl hb rfl (fun _ _ => rfl) _ _ rfl rfl).2 (by assumption); rw [e.2] at ef24; rw [e.1]; exact ih t2 p2 (dBin 6 k0 k2) _ _ _ _ _ _ (by omega) ha2 hp2 (evV_in dBin_in) eg2 ef22 ef23 ef24 hfE hgE hH hA) | (have e := (ev_div (live := live) (br := br) (o := 6) (op := fun x y => Int.tdiv x y) (k0 := k0) (k2 := k2) (φ := φ) hl hb rfl (fun _ _ => rfl) _ _ rfl rfl).1 (by assumption); rw [if_pos (by omega)] at e; rw [e.2] at ef24; rw [e.1]; exact ih t2 p2 (dBin 6 k0 k2) _ _ _ _ _ _ (by omega) ha2 hp2 (evV_in dBin_in) eg2 ef22 ef23 ef24 hfE hgE hH hA) | (have e := (ev_div (live := live) (br := br) (o := 6) (op := fun x y => Int.tdiv x y) (k0 := k0) (k2 := k2) (φ := φ) hl hb rfl (fun _ _ => rfl) _ _ rfl rfl).1 (by assumption); rw [if_neg (by omega)] at e; rw [e.2] at ef24; rw [e.1]; exact ih t2 p2 (dBin 6 k0 k2) _ _ _ _ _ _ (by omega) ha2 hp2 (evV_in dBin_in) eg2 ef22 ef23 ef24 hfE hgE hH hA) | (have e := (ev_div (live := live) (br := br) (o := 7) (op := fun x y => Int.tmod x y) (k0 := k0) (k2 := k2) (φ := φ) hl hb rfl (fun _ _ => rfl) _ _ rfl rfl).2 (by assumption); rw [e.2] at ef24; rw [e.1]; exact ih t2 p2 (dBin 7 k0 k2) _ _ _ _ _ _ (by omega) ha2 hp2 (evV_in dBin_in) eg2 ef22 ef23 ef24 hfE hgE hH hA) | (have e := (ev_div (live := live) (br := br) (o := 7) (op := fun x y => Int.tmod x y) (k0 := k0) (k2 := k2) (φ := φ) hl hb rfl (fun _ _ => rfl) _ _ rfl rfl).1 (by assumption); rw [if_pos (by omega)] at e; rw [e.2] at ef24; rw [e.1]; exact ih t2 p2 (dBin 7 k0 k2) _ _ _ _ _ _ (by omega) ha2 hp2 (evV_in dBin_in) eg2 ef22 ef23 ef24 hfE hgE hH hA) | (have e := (ev_div (live := live) (br := br) (o := 7) (op := fun x y => Int.tmod x y) (k0 := k0) (k2 := k2) (φ := φ) hl hb rfl (fun _ _ => rfl) _ _ rfl rfl).1 (by assumption); rw [if_neg (by omega)] at e; rw [e.2] at ef24; rw [e.1]; exact ih t2 p2 (dBin 7 k0 k2) _ _ _ _ _ _ (by omega) ha2 hp2 (evV_in dBin_in) eg2 ef22 ef23 ef24 hfE hgE hH hA)
    · skip
      refine z_ald_0 (TX8_termOf_0.at 11 rfl) ?_
      refine z_ald_0 (TX8_termOf_0.at 12 rfl) ?_
      refine zm_getIE ef22 (TX8_termOf_0.at 13 rfl) fl8_260 hH rfl (by decide) (fun r24 => ?_)
      refine zm_callI1 (m_codeAt eg2 ef23 (by omega) (by omega) (by omega)) (TX8_termOf_0.at 14 rfl) c8_263 rfl rfl hH hA (by omega) (Nat.le_of_ble_eq_true rfl) (fun x27 f27 g27 j27 h r27 q27 hH hA => ?_)
      obtain ⟨q27, xf, xg, xj⟩ := q27
      rw [xj] at hH
      have ef22 := (xf 22 (by decide)).trans ef22
      have ef23 := (xf 23 (by decide)).trans ef23
      have ef24 := (xf 24 (by decide)).trans ef24
      have hfE := hfE.trans xf (by decide)
      have eg2 := (xg 2 (by decide)).trans eg2
      have hgE := hgE.trans xg (by decide)
      have qL := q27
      obtain rfl := qL
      rw [cK_at] at r27 ⊢
      refine z_bipush (by decide) (TX8_termOf_0.at 15 rfl) ?_
      refine zs_call1 (s_sign (by omega)) (TX8_termOf_0.at 16 rfl) c8_219 rfl (by omega) (Nat.le_of_ble_eq_true rfl) (fun r32 => ?_)
      refine z_icmp_eq (tgt := 54) (TX8_termOf_0.at 17 rfl) rfl (by omega) (by omega) (fun c16 => ?_) (fun c16 => ?_)
      · skip
        have hc : cK K b nt t = 147 := by omega
        obtain ⟨t2, p2, k2, hpi, hp2⟩ := ploop_step hp (show mulOp (cK K b nt t) = some 6 by rw [hc]; rfl)
        have tn1 := cK_nz (K := K) (b := b) (nt := nt) t (by omega)
        have ha : advR (cK K b nt) (t + 1) (.ok (t2, p2, k2)) := hpi ▸ hAdv (t + 1) p
        have ha1 : t + 1 < t2 := ha.1
        have ha2 := adv_le (nt := nt) cK_nz ha.1 ha.2
        refine z_ald_0 (TX8_termOf_0.at 25 rfl) ?_
        refine z_ald_0 (TX8_termOf_0.at 26 rfl) ?_
        refine zm_getIE ef22 (TX8_termOf_0.at 27 rfl) fl8_260 hH rfl (by decide) (fun r56 => ?_)
        refine zm_callI1 (m_codeAt eg2 ef23 (by omega) (by omega) (by omega)) (TX8_termOf_0.at 28 rfl) c8_263 rfl rfl hH hA (by omega) (Nat.le_of_ble_eq_true rfl) (fun x59 f59 g59 j59 h r59 q59 hH hA => ?_)
        obtain ⟨q59, xf, xg, xj⟩ := q59
        rw [xj] at hH
        have ef22 := (xf 22 (by decide)).trans ef22
        have ef23 := (xf 23 (by decide)).trans ef23
        have ef24 := (xf 24 (by decide)).trans ef24
        have hfE := hfE.trans xf (by decide)
        have eg2 := (xg 2 (by decide)).trans eg2
        have hgE := hgE.trans xg (by decide)
        have qL := q59
        obtain rfl := qL
        rw [cK_at, hc] at r59 ⊢
        refine z_ist_4 (TX8_termOf_0.at 29 rfl) (Nat.le_of_ble_eq_true rfl) rfl ?_
        refine z_ald_0 (TX8_termOf_0.at 30 rfl) ?_
        refine z_dup rfl (TX8_termOf_0.at 31 rfl) ?_
        refine zm_getIE ef22 (TX8_termOf_0.at 32 rfl) fl8_260 hH rfl (by decide) (fun r66 => ?_)
        refine z_iconst (TX8_termOf_0.at 33 rfl) ?_
        refine z_iadd (TX8_termOf_0.at 34 rfl) ?_
        refine zm_putIE (TX8_termOf_0.at 35 rfl) fp8_260 hH hA rfl (by decide) (by first | omega | exact b2i_01 _) (fun h f71 e1 e2 hH hA => ?_)
        have ef22 := e2
        have ef23 := (e1 23 (by decide)).trans ef23
        have ef24 := (e1 24 (by decide)).trans ef24
        have hfE := hfE.put e1 (by decide)
        refine z_ald_0 (TX8_termOf_0.at 36 rfl) ?_
        refine z_ild_1 (TX8_termOf_0.at 37 rfl) ?_
        refine zm_callL1 (hitem live _ (t + 1) p t2 p2 k2 _ _ _ hl (evB_01 hb) eg2 (by rw [ef22]; push_cast; omega) ef23 ef24 (hFo0.keep hfE hgE) (by push_cast; omega) hpi) (TX8_termOf_0.at 38 rfl) c8_281 rfl rfl hH hA (by omega) (Nat.le_of_ble_eq_true rfl) (fun x76 f76 g76 j76 h r76 q76 hH hA => ?_)
        obtain ⟨q76, xf, xg, xj⟩ := q76
        rw [xj] at hH
        have ef23 := (xf 23 (by decide)).trans ef23
        have hfE := hfE.trans xf (by decide)
        have eg2 := (xg 2 (by decide)).trans eg2
        have hgE := hgE.trans xg (by decide)
        have qL := q76
        obtain ⟨rfl, ef24, ef22, rz⟩ := qL
        refine z_lst_5 (TX8_termOf_0.at 39 rfl) (Nat.le_of_ble_eq_true rfl) rfl ?_
        refine z_ild_4 (TX8_termOf_1.at 0 rfl) ?_
        refine z_bipush (by decide) (TX8_termOf_1.at 1 rfl) ?_
        refine zs_call1 (s_sign (by omega)) (TX8_termOf_1.at 2 rfl) c8_219 rfl (by omega) (Nat.le_of_ble_eq_true rfl) (fun r85 => ?_)
        refine z_icmp_eq (tgt := 121) (TX8_termOf_1.at 3 rfl) rfl (by omega) (by omega) (fun c17 => ?_) (fun c17 => ?_)
        · skip
          refine z_ald_0 (TX8_termOf_1.at 20 rfl) ?_
          refine z_ild_4 (TX8_termOf_1.at 21 rfl) ?_
          refine z_bipush (by decide) (TX8_termOf_1.at 22 rfl) ?_
          refine zs_call1 (s_sign (by omega)) (TX8_termOf_1.at 23 rfl) c8_219 rfl (by omega) (Nat.le_of_ble_eq_true rfl) (fun r126 => ?_)
          refine z_icmp_ne (tgt := 139) (TX8_termOf_1.at 24 rfl) rfl (by omega) (by omega) (fun c18 => ?_) (fun c18 => ?_)
          · skip
            refine z_ild_4 (TX8_termOf_1.at 29 rfl) ?_
            refine z_bipush (by decide) (TX8_termOf_1.at 30 rfl) ?_
            refine zs_call1 (s_sign (by omega)) (TX8_termOf_1.at 31 rfl) c8_219 rfl (by omega) (Nat.le_of_ble_eq_true rfl) (fun r143 => ?_)
            refine z_icmp_ne (tgt := 156) (TX8_termOf_1.at 32 rfl) rfl (by omega) (by omega) (fun c19 => ?_) (fun c19 => ?_)
            · skip
              refine z_lld_2 (TX8_termOf_1.at 37 rfl) ?_
              refine z_lld_5 (TX8_termOf_1.at 38 rfl) ?_
              refine z_lrem (by omega) (by omega) (TX8_termOf_1.at 39 rfl) ?_
              first | rw [zlrem_eq vz (by omega)] | skip
              refine z_ild_1 (TX8_termOf_2.at 0 rfl) ?_
              refine zm_callL2 (m_bounded ef24 (by first | exact mul_in vz rz | exact tdiv_in vz | exact tmod_in vz | (exfalso; omega)) hl (by first | exact evB_01 (evB_01 hb) | exact Or.inr rfl | exact Or.inl rfl)) (TX8_termOf_2.at 1 rfl) c8_277 rfl rfl hH hA (by omega) (Nat.le_of_ble_eq_true rfl) (fun x161 f161 g161 j161 h r161 q161 hH hA => ?_)
              obtain ⟨q161, xf, xg, xj⟩ := q161
              rw [xj] at hH
              have ef22 := (xf 22 (by decide)).trans ef22
              have ef23 := (xf 23 (by decide)).trans ef23
              have hfE := hfE.trans xf (by decide)
              have eg2 := (xg 2 (by decide)).trans eg2
              have hgE := hgE.trans xg (by decide)
              have qL := q161
              obtain ⟨rfl, ef24⟩ := qL
              rw [bd_eq] at r161 ⊢
              rw [bd_eqB] at ef24
              refine z_lst_2 (TX8_termOf_2.at 2 rfl) (Nat.le_of_ble_eq_true rfl) rfl ?_
              refine z_goto (tgt := 6) (TX8_termOf_2.at 3 rfl) rfl ?_
              first | (exfalso; omega) | (have e := ev_bin (live := live) (br := br) (o := 5) (op := fun x y => x * y) (k0 := k0) (k2 := k2) (φ := φ) hl hb rfl (fun _ _ => rfl); rw [e.2] at ef24; rw [e.1]; exact ih t2 p2 (dBin 5 k0 k2) _ _ _ _ _ _ (by omega) ha2 hp2 (evV_in dBin_in) eg2 ef22 ef23 ef24 hfE hgE hH hA) | (have e := (ev_div (live := live) (br := br) (o := 6) (op := fun x y => Int.tdiv x y) (k0 := k0) (k2 := k2) (φ := φ) hl hb rfl (fun _ _ => rfl) _ _ rfl rfl).2 (by assumption); rw [e.2] at ef24; rw [e.1]; exact ih t2 p2 (dBin 6 k0 k2) _ _ _ _ _ _ (by omega) ha2 hp2 (evV_in dBin_in) eg2 ef22 ef23 ef24 hfE hgE hH hA) | (have e := (ev_div (live := live) (br := br) (o := 6) (op := fun x y => Int.tdiv x y) (k0 := k0) (k2 := k2) (φ := φ) hl hb rfl (fun _ _ => rfl) _ _ rfl rfl).1 (by assumption); rw [if_pos (by omega)] at e; rw [e.2] at ef24; rw [e.1]; exact ih t2 p2 (dBin 6 k0 k2) _ _ _ _ _ _ (by omega) ha2 hp2 (evV_in dBin_in) eg2 ef22 ef23 ef24 hfE hgE hH hA) | (have e := (ev_div (live := live) (br := br) (o := 6) (op := fun x y => Int.tdiv x y) (k0 := k0) (k2 := k2) (φ := φ) hl hb rfl (fun _ _ => rfl) _ _ rfl rfl).1 (by assumption); rw [if_neg (by omega)] at e; rw [e.2] at ef24; rw [e.1]; exact ih t2 p2 (dBin 6 k0 k2) _ _ _ _ _ _ (by omega) ha2 hp2 (evV_in dBin_in) eg2 ef22 ef23 ef24 hfE hgE hH hA) | (have e := (ev_div (live := live) (br := br) (o := 7) (op := fun x y => Int.tmod x y) (k0 := k0) (k2 := k2) (φ := φ) hl hb rfl (fun _ _ => rfl) _ _ rfl rfl).2 (by assumption); rw [e.2] at ef24; rw [e.1]; exact ih t2 p2 (dBin 7 k0 k2) _ _ _ _ _ _ (by omega) ha2 hp2 (evV_in dBin_in) eg2 ef22 ef23 ef24 hfE hgE hH hA) | (have e := (ev_div (live := live) (br := br) (o := 7) (op := fun x y => Int.tmod x y) (k0 := k0) (k2 := k2) (φ := φ) hl hb rfl (fun _ _ => rfl) _ _ rfl rfl).1 (by assumption); rw [if_pos (by omega)] at e; rw [e.2] at ef24; rw [e.1]; exact ih t2 p2 (dBin 7 k0 k2) _ _ _ _ _ _ (by omega) ha2 hp2 (evV_in dBin_in) eg2 ef22 ef23 ef24 hfE hgE hH hA) | (have e := (ev_div (live := live) (br := br) (o := 7) (op := fun x y => Int.tmod x y) (k0 := k0) (k2 := k2) (φ := φ) hl hb rfl (fun _ _ => rfl) _ _ rfl rfl).1 (by assumption); rw [if_neg (by omega)] at e; rw [e.2] at ef24; rw [e.1]; exact ih t2 p2 (dBin 7 k0 k2) _ _ _ _ _ _ (by omega) ha2 hp2 (evV_in dBin_in) eg2 ef22 ef23 ef24 hfE hgE hH hA)
            · skip
              refine z_lld_2 (TX8_termOf_1.at 33 rfl) ?_
              refine z_lld_5 (TX8_termOf_1.at 34 rfl) ?_
              refine z_ldiv (by omega) (by omega) (TX8_termOf_1.at 35 rfl) ?_
              rw [zldiv_eq vz (by omega)]
              refine z_goto (tgt := 160) (TX8_termOf_1.at 36 rfl) rfl ?_
              first | rw [zlrem_eq vz (by omega)] | skip
              refine z_ild_1 (TX8_termOf_2.at 0 rfl) ?_
              refine zm_callL2 (m_bounded ef24 (by first | exact mul_in vz rz | exact tdiv_in vz | exact tmod_in vz | (exfalso; omega)) hl (by first | exact evB_01 (evB_01 hb) | exact Or.inr rfl | exact Or.inl rfl)) (TX8_termOf_2.at 1 rfl) c8_277 rfl rfl hH hA (by omega) (Nat.le_of_ble_eq_true rfl) (fun x161 f161 g161 j161 h r161 q161 hH hA => ?_)
              obtain ⟨q161, xf, xg, xj⟩ := q161
              rw [xj] at hH
              have ef22 := (xf 22 (by decide)).trans ef22
              have ef23 := (xf 23 (by decide)).trans ef23
              have hfE := hfE.trans xf (by decide)
              have eg2 := (xg 2 (by decide)).trans eg2
              have hgE := hgE.trans xg (by decide)
              have qL := q161
              obtain ⟨rfl, ef24⟩ := qL
              rw [bd_eq] at r161 ⊢
              rw [bd_eqB] at ef24
              refine z_lst_2 (TX8_termOf_2.at 2 rfl) (Nat.le_of_ble_eq_true rfl) rfl ?_
              refine z_goto (tgt := 6) (TX8_termOf_2.at 3 rfl) rfl ?_
              first | (exfalso; omega) | (have e := ev_bin (live := live) (br := br) (o := 5) (op := fun x y => x * y) (k0 := k0) (k2 := k2) (φ := φ) hl hb rfl (fun _ _ => rfl); rw [e.2] at ef24; rw [e.1]; exact ih t2 p2 (dBin 5 k0 k2) _ _ _ _ _ _ (by omega) ha2 hp2 (evV_in dBin_in) eg2 ef22 ef23 ef24 hfE hgE hH hA) | (have e := (ev_div (live := live) (br := br) (o := 6) (op := fun x y => Int.tdiv x y) (k0 := k0) (k2 := k2) (φ := φ) hl hb rfl (fun _ _ => rfl) _ _ rfl rfl).2 (by assumption); rw [e.2] at ef24; rw [e.1]; exact ih t2 p2 (dBin 6 k0 k2) _ _ _ _ _ _ (by omega) ha2 hp2 (evV_in dBin_in) eg2 ef22 ef23 ef24 hfE hgE hH hA) | (have e := (ev_div (live := live) (br := br) (o := 6) (op := fun x y => Int.tdiv x y) (k0 := k0) (k2 := k2) (φ := φ) hl hb rfl (fun _ _ => rfl) _ _ rfl rfl).1 (by assumption); rw [if_pos (by omega)] at e; rw [e.2] at ef24; rw [e.1]; exact ih t2 p2 (dBin 6 k0 k2) _ _ _ _ _ _ (by omega) ha2 hp2 (evV_in dBin_in) eg2 ef22 ef23 ef24 hfE hgE hH hA) | (have e := (ev_div (live := live) (br := br) (o := 6) (op := fun x y => Int.tdiv x y) (k0 := k0) (k2 := k2) (φ := φ) hl hb rfl (fun _ _ => rfl) _ _ rfl rfl).1 (by assumption); rw [if_neg (by omega)] at e; rw [e.2] at ef24; rw [e.1]; exact ih t2 p2 (dBin 6 k0 k2) _ _ _ _ _ _ (by omega) ha2 hp2 (evV_in dBin_in) eg2 ef22 ef23 ef24 hfE hgE hH hA) | (have e := (ev_div (live := live) (br := br) (o := 7) (op := fun x y => Int.tmod x y) (k0 := k0) (k2 := k2) (φ := φ) hl hb rfl (fun _ _ => rfl) _ _ rfl rfl).2 (by assumption); rw [e.2] at ef24; rw [e.1]; exact ih t2 p2 (dBin 7 k0 k2) _ _ _ _ _ _ (by omega) ha2 hp2 (evV_in dBin_in) eg2 ef22 ef23 ef24 hfE hgE hH hA) | (have e := (ev_div (live := live) (br := br) (o := 7) (op := fun x y => Int.tmod x y) (k0 := k0) (k2 := k2) (φ := φ) hl hb rfl (fun _ _ => rfl) _ _ rfl rfl).1 (by assumption); rw [if_pos (by omega)] at e; rw [e.2] at ef24; rw [e.1]; exact ih t2 p2 (dBin 7 k0 k2) _ _ _ _ _ _ (by omega) ha2 hp2 (evV_in dBin_in) eg2 ef22 ef23 ef24 hfE hgE hH hA) | (have e := (ev_div (live := live) (br := br) (o := 7) (op := fun x y => Int.tmod x y) (k0 := k0) (k2 := k2) (φ := φ) hl hb rfl (fun _ _ => rfl) _ _ rfl rfl).1 (by assumption); rw [if_neg (by omega)] at e; rw [e.2] at ef24; rw [e.1]; exact ih t2 p2 (dBin 7 k0 k2) _ _ _ _ _ _ (by omega) ha2 hp2 (evV_in dBin_in) eg2 ef22 ef23 ef24 hfE hgE hH hA)
          · skip
            refine z_lld_2 (TX8_termOf_1.at 25 rfl) ?_
            refine z_lld_5 (TX8_termOf_1.at 26 rfl) ?_
            refine z_lmul (TX8_termOf_1.at 27 rfl) ?_
            refine z_goto (tgt := 160) (TX8_termOf_1.at 28 rfl) rfl ?_
            first | rw [zlrem_eq vz (by omega)] | skip
            refine z_ild_1 (TX8_termOf_2.at 0 rfl) ?_
            refine zm_callL2 (m_bounded ef24 (by first | exact mul_in vz rz | exact tdiv_in vz | exact tmod_in vz | (exfalso; omega)) hl (by first | exact evB_01 (evB_01 hb) | exact Or.inr rfl | exact Or.inl rfl)) (TX8_termOf_2.at 1 rfl) c8_277 rfl rfl hH hA (by omega) (Nat.le_of_ble_eq_true rfl) (fun x161 f161 g161 j161 h r161 q161 hH hA => ?_)
            obtain ⟨q161, xf, xg, xj⟩ := q161
            rw [xj] at hH
            have ef22 := (xf 22 (by decide)).trans ef22
            have ef23 := (xf 23 (by decide)).trans ef23
            have hfE := hfE.trans xf (by decide)
            have eg2 := (xg 2 (by decide)).trans eg2
            have hgE := hgE.trans xg (by decide)
            have qL := q161
            obtain ⟨rfl, ef24⟩ := qL
            rw [bd_eq] at r161 ⊢
            rw [bd_eqB] at ef24
            refine z_lst_2 (TX8_termOf_2.at 2 rfl) (Nat.le_of_ble_eq_true rfl) rfl ?_
            refine z_goto (tgt := 6) (TX8_termOf_2.at 3 rfl) rfl ?_
            first | (exfalso; omega) | (have e := ev_bin (live := live) (br := br) (o := 5) (op := fun x y => x * y) (k0 := k0) (k2 := k2) (φ := φ) hl hb rfl (fun _ _ => rfl); rw [e.2] at ef24; rw [e.1]; exact ih t2 p2 (dBin 5 k0 k2) _ _ _ _ _ _ (by omega) ha2 hp2 (evV_in dBin_in) eg2 ef22 ef23 ef24 hfE hgE hH hA) | (have e := (ev_div (live := live) (br := br) (o := 6) (op := fun x y => Int.tdiv x y) (k0 := k0) (k2 := k2) (φ := φ) hl hb rfl (fun _ _ => rfl) _ _ rfl rfl).2 (by assumption); rw [e.2] at ef24; rw [e.1]; exact ih t2 p2 (dBin 6 k0 k2) _ _ _ _ _ _ (by omega) ha2 hp2 (evV_in dBin_in) eg2 ef22 ef23 ef24 hfE hgE hH hA) | (have e := (ev_div (live := live) (br := br) (o := 6) (op := fun x y => Int.tdiv x y) (k0 := k0) (k2 := k2) (φ := φ) hl hb rfl (fun _ _ => rfl) _ _ rfl rfl).1 (by assumption); rw [if_pos (by omega)] at e; rw [e.2] at ef24; rw [e.1]; exact ih t2 p2 (dBin 6 k0 k2) _ _ _ _ _ _ (by omega) ha2 hp2 (evV_in dBin_in) eg2 ef22 ef23 ef24 hfE hgE hH hA) | (have e := (ev_div (live := live) (br := br) (o := 6) (op := fun x y => Int.tdiv x y) (k0 := k0) (k2 := k2) (φ := φ) hl hb rfl (fun _ _ => rfl) _ _ rfl rfl).1 (by assumption); rw [if_neg (by omega)] at e; rw [e.2] at ef24; rw [e.1]; exact ih t2 p2 (dBin 6 k0 k2) _ _ _ _ _ _ (by omega) ha2 hp2 (evV_in dBin_in) eg2 ef22 ef23 ef24 hfE hgE hH hA) | (have e := (ev_div (live := live) (br := br) (o := 7) (op := fun x y => Int.tmod x y) (k0 := k0) (k2 := k2) (φ := φ) hl hb rfl (fun _ _ => rfl) _ _ rfl rfl).2 (by assumption); rw [e.2] at ef24; rw [e.1]; exact ih t2 p2 (dBin 7 k0 k2) _ _ _ _ _ _ (by omega) ha2 hp2 (evV_in dBin_in) eg2 ef22 ef23 ef24 hfE hgE hH hA) | (have e := (ev_div (live := live) (br := br) (o := 7) (op := fun x y => Int.tmod x y) (k0 := k0) (k2 := k2) (φ := φ) hl hb rfl (fun _ _ => rfl) _ _ rfl rfl).1 (by assumption); rw [if_pos (by omega)] at e; rw [e.2] at ef24; rw [e.1]; exact ih t2 p2 (dBin 7 k0 k2) _ _ _ _ _ _ (by omega) ha2 hp2 (evV_in dBin_in) eg2 ef22 ef23 ef24 hfE hgE hH hA) | (have e := (ev_div (live := live) (br := br) (o := 7) (op := fun x y => Int.tmod x y) (k0 := k0) (k2 := k2) (φ := φ) hl hb rfl (fun _ _ => rfl) _ _ rfl rfl).1 (by assumption); rw [if_neg (by omega)] at e; rw [e.2] at ef24; rw [e.1]; exact ih t2 p2 (dBin 7 k0 k2) _ _ _ _ _ _ (by omega) ha2 hp2 (evV_in dBin_in) eg2 ef22 ef23 ef24 hfE hgE hH hA)
        · skip
          refine z_lld_5 (TX8_termOf_1.at 4 rfl) ?_
          refine z_lconst (v := 0) (by decide) (TX8_termOf_1.at 5 rfl) ?_
          refine z_lif_ne (tgt := 121) (TX8_termOf_1.at 6 rfl) (TX8_termOf_1.at 7 rfl) rfl (by omega) (by omega) (fun c20 => ?_) (fun c20 => ?_)
          · skip
            refine z_ald_0 (TX8_termOf_1.at 20 rfl) ?_
            refine z_ild_4 (TX8_termOf_1.at 21 rfl) ?_
            refine z_bipush (by decide) (TX8_termOf_1.at 22 rfl) ?_
            refine zs_call1 (s_sign (by omega)) (TX8_termOf_1.at 23 rfl) c8_219 rfl (by omega) (Nat.le_of_ble_eq_true rfl) (fun r126 => ?_)
            refine z_icmp_ne (tgt := 139) (TX8_termOf_1.at 24 rfl) rfl (by omega) (by omega) (fun c21 => ?_) (fun c21 => ?_)
            · skip
              refine z_ild_4 (TX8_termOf_1.at 29 rfl) ?_
              refine z_bipush (by decide) (TX8_termOf_1.at 30 rfl) ?_
              refine zs_call1 (s_sign (by omega)) (TX8_termOf_1.at 31 rfl) c8_219 rfl (by omega) (Nat.le_of_ble_eq_true rfl) (fun r143 => ?_)
              refine z_icmp_ne (tgt := 156) (TX8_termOf_1.at 32 rfl) rfl (by omega) (by omega) (fun c22 => ?_) (fun c22 => ?_)
              · skip
                refine z_lld_2 (TX8_termOf_1.at 37 rfl) ?_
                refine z_lld_5 (TX8_termOf_1.at 38 rfl) ?_
                refine z_lrem (by omega) (by omega) (TX8_termOf_1.at 39 rfl) ?_
                first | rw [zlrem_eq vz (by omega)] | skip
                refine z_ild_1 (TX8_termOf_2.at 0 rfl) ?_
                refine zm_callL2 (m_bounded ef24 (by first | exact mul_in vz rz | exact tdiv_in vz | exact tmod_in vz | (exfalso; omega)) hl (by first | exact evB_01 (evB_01 hb) | exact Or.inr rfl | exact Or.inl rfl)) (TX8_termOf_2.at 1 rfl) c8_277 rfl rfl hH hA (by omega) (Nat.le_of_ble_eq_true rfl) (fun x161 f161 g161 j161 h r161 q161 hH hA => ?_)
                obtain ⟨q161, xf, xg, xj⟩ := q161
                rw [xj] at hH
                have ef22 := (xf 22 (by decide)).trans ef22
                have ef23 := (xf 23 (by decide)).trans ef23
                have hfE := hfE.trans xf (by decide)
                have eg2 := (xg 2 (by decide)).trans eg2
                have hgE := hgE.trans xg (by decide)
                have qL := q161
                obtain ⟨rfl, ef24⟩ := qL
                rw [bd_eq] at r161 ⊢
                rw [bd_eqB] at ef24
                refine z_lst_2 (TX8_termOf_2.at 2 rfl) (Nat.le_of_ble_eq_true rfl) rfl ?_
                refine z_goto (tgt := 6) (TX8_termOf_2.at 3 rfl) rfl ?_
                first | (exfalso; omega) | (have e := ev_bin (live := live) (br := br) (o := 5) (op := fun x y => x * y) (k0 := k0) (k2 := k2) (φ := φ) hl hb rfl (fun _ _ => rfl); rw [e.2] at ef24; rw [e.1]; exact ih t2 p2 (dBin 5 k0 k2) _ _ _ _ _ _ (by omega) ha2 hp2 (evV_in dBin_in) eg2 ef22 ef23 ef24 hfE hgE hH hA) | (have e := (ev_div (live := live) (br := br) (o := 6) (op := fun x y => Int.tdiv x y) (k0 := k0) (k2 := k2) (φ := φ) hl hb rfl (fun _ _ => rfl) _ _ rfl rfl).2 (by assumption); rw [e.2] at ef24; rw [e.1]; exact ih t2 p2 (dBin 6 k0 k2) _ _ _ _ _ _ (by omega) ha2 hp2 (evV_in dBin_in) eg2 ef22 ef23 ef24 hfE hgE hH hA) | (have e := (ev_div (live := live) (br := br) (o := 6) (op := fun x y => Int.tdiv x y) (k0 := k0) (k2 := k2) (φ := φ) hl hb rfl (fun _ _ => rfl) _ _ rfl rfl).1 (by assumption); rw [if_pos (by omega)] at e; rw [e.2] at ef24; rw [e.1]; exact ih t2 p2 (dBin 6 k0 k2) _ _ _ _ _ _ (by omega) ha2 hp2 (evV_in dBin_in) eg2 ef22 ef23 ef24 hfE hgE hH hA) | (have e := (ev_div (live := live) (br := br) (o := 6) (op := fun x y => Int.tdiv x y) (k0 := k0) (k2 := k2) (φ := φ) hl hb rfl (fun _ _ => rfl) _ _ rfl rfl).1 (by assumption); rw [if_neg (by omega)] at e; rw [e.2] at ef24; rw [e.1]; exact ih t2 p2 (dBin 6 k0 k2) _ _ _ _ _ _ (by omega) ha2 hp2 (evV_in dBin_in) eg2 ef22 ef23 ef24 hfE hgE hH hA) | (have e := (ev_div (live := live) (br := br) (o := 7) (op := fun x y => Int.tmod x y) (k0 := k0) (k2 := k2) (φ := φ) hl hb rfl (fun _ _ => rfl) _ _ rfl rfl).2 (by assumption); rw [e.2] at ef24; rw [e.1]; exact ih t2 p2 (dBin 7 k0 k2) _ _ _ _ _ _ (by omega) ha2 hp2 (evV_in dBin_in) eg2 ef22 ef23 ef24 hfE hgE hH hA) | (have e := (ev_div (live := live) (br := br) (o := 7) (op := fun x y => Int.tmod x y) (k0 := k0) (k2 := k2) (φ := φ) hl hb rfl (fun _ _ => rfl) _ _ rfl rfl).1 (by assumption); rw [if_pos (by omega)] at e; rw [e.2] at ef24; rw [e.1]; exact ih t2 p2 (dBin 7 k0 k2) _ _ _ _ _ _ (by omega) ha2 hp2 (evV_in dBin_in) eg2 ef22 ef23 ef24 hfE hgE hH hA) | (have e := (ev_div (live := live) (br := br) (o := 7) (op := fun x y => Int.tmod x y) (k0 := k0) (k2 := k2) (φ := φ) hl hb rfl (fun _ _ => rfl) _ _ rfl rfl).1 (by assumption); rw [if_neg (by omega)] at e; rw [e.2] at ef24; rw [e.1]; exact ih t2 p2 (dBin 7 k0 k2) _ _ _ _ _ _ (by omega) ha2 hp2 (evV_in dBin_in) eg2 ef22 ef23 ef24 hfE hgE hH hA)
              · skip
                refine z_lld_2 (TX8_termOf_1.at 33 rfl) ?_
                refine z_lld_5 (TX8_termOf_1.at 34 rfl) ?_
                refine z_ldiv (by omega) (by omega) (TX8_termOf_1.at 35 rfl) ?_
                rw [zldiv_eq vz (by omega)]
                refine z_goto (tgt := 160) (TX8_termOf_1.at 36 rfl) rfl ?_
                first | rw [zlrem_eq vz (by omega)] | skip
                refine z_ild_1 (TX8_termOf_2.at 0 rfl) ?_
                refine zm_callL2 (m_bounded ef24 (by first | exact mul_in vz rz | exact tdiv_in vz | exact tmod_in vz | (exfalso; omega)) hl (by first | exact evB_01 (evB_01 hb) | exact Or.inr rfl | exact Or.inl rfl)) (TX8_termOf_2.at 1 rfl) c8_277 rfl rfl hH hA (by omega) (Nat.le_of_ble_eq_true rfl) (fun x161 f161 g161 j161 h r161 q161 hH hA => ?_)
                obtain ⟨q161, xf, xg, xj⟩ := q161
                rw [xj] at hH
                have ef22 := (xf 22 (by decide)).trans ef22
                have ef23 := (xf 23 (by decide)).trans ef23
                have hfE := hfE.trans xf (by decide)
                have eg2 := (xg 2 (by decide)).trans eg2
                have hgE := hgE.trans xg (by decide)
                have qL := q161
                obtain ⟨rfl, ef24⟩ := qL
                rw [bd_eq] at r161 ⊢
                rw [bd_eqB] at ef24
                refine z_lst_2 (TX8_termOf_2.at 2 rfl) (Nat.le_of_ble_eq_true rfl) rfl ?_
                refine z_goto (tgt := 6) (TX8_termOf_2.at 3 rfl) rfl ?_
                first | (exfalso; omega) | (have e := ev_bin (live := live) (br := br) (o := 5) (op := fun x y => x * y) (k0 := k0) (k2 := k2) (φ := φ) hl hb rfl (fun _ _ => rfl); rw [e.2] at ef24; rw [e.1]; exact ih t2 p2 (dBin 5 k0 k2) _ _ _ _ _ _ (by omega) ha2 hp2 (evV_in dBin_in) eg2 ef22 ef23 ef24 hfE hgE hH hA) | (have e := (ev_div (live := live) (br := br) (o := 6) (op := fun x y => Int.tdiv x y) (k0 := k0) (k2 := k2) (φ := φ) hl hb rfl (fun _ _ => rfl) _ _ rfl rfl).2 (by assumption); rw [e.2] at ef24; rw [e.1]; exact ih t2 p2 (dBin 6 k0 k2) _ _ _ _ _ _ (by omega) ha2 hp2 (evV_in dBin_in) eg2 ef22 ef23 ef24 hfE hgE hH hA) | (have e := (ev_div (live := live) (br := br) (o := 6) (op := fun x y => Int.tdiv x y) (k0 := k0) (k2 := k2) (φ := φ) hl hb rfl (fun _ _ => rfl) _ _ rfl rfl).1 (by assumption); rw [if_pos (by omega)] at e; rw [e.2] at ef24; rw [e.1]; exact ih t2 p2 (dBin 6 k0 k2) _ _ _ _ _ _ (by omega) ha2 hp2 (evV_in dBin_in) eg2 ef22 ef23 ef24 hfE hgE hH hA) | (have e := (ev_div (live := live) (br := br) (o := 6) (op := fun x y => Int.tdiv x y) (k0 := k0) (k2 := k2) (φ := φ) hl hb rfl (fun _ _ => rfl) _ _ rfl rfl).1 (by assumption); rw [if_neg (by omega)] at e; rw [e.2] at ef24; rw [e.1]; exact ih t2 p2 (dBin 6 k0 k2) _ _ _ _ _ _ (by omega) ha2 hp2 (evV_in dBin_in) eg2 ef22 ef23 ef24 hfE hgE hH hA) | (have e := (ev_div (live := live) (br := br) (o := 7) (op := fun x y => Int.tmod x y) (k0 := k0) (k2 := k2) (φ := φ) hl hb rfl (fun _ _ => rfl) _ _ rfl rfl).2 (by assumption); rw [e.2] at ef24; rw [e.1]; exact ih t2 p2 (dBin 7 k0 k2) _ _ _ _ _ _ (by omega) ha2 hp2 (evV_in dBin_in) eg2 ef22 ef23 ef24 hfE hgE hH hA) | (have e := (ev_div (live := live) (br := br) (o := 7) (op := fun x y => Int.tmod x y) (k0 := k0) (k2 := k2) (φ := φ) hl hb rfl (fun _ _ => rfl) _ _ rfl rfl).1 (by assumption); rw [if_pos (by omega)] at e; rw [e.2] at ef24; rw [e.1]; exact ih t2 p2 (dBin 7 k0 k2) _ _ _ _ _ _ (by omega) ha2 hp2 (evV_in dBin_in) eg2 ef22 ef23 ef24 hfE hgE hH hA) | (have e := (ev_div (live := live) (br := br) (o := 7) (op := fun x y => Int.tmod x y) (k0 := k0) (k2 := k2) (φ := φ) hl hb rfl (fun _ _ => rfl) _ _ rfl rfl).1 (by assumption); rw [if_neg (by omega)] at e; rw [e.2] at ef24; rw [e.1]; exact ih t2 p2 (dBin 7 k0 k2) _ _ _ _ _ _ (by omega) ha2 hp2 (evV_in dBin_in) eg2 ef22 ef23 ef24 hfE hgE hH hA)
            · skip
              refine z_lld_2 (TX8_termOf_1.at 25 rfl) ?_
              refine z_lld_5 (TX8_termOf_1.at 26 rfl) ?_
              refine z_lmul (TX8_termOf_1.at 27 rfl) ?_
              refine z_goto (tgt := 160) (TX8_termOf_1.at 28 rfl) rfl ?_
              first | rw [zlrem_eq vz (by omega)] | skip
              refine z_ild_1 (TX8_termOf_2.at 0 rfl) ?_
              refine zm_callL2 (m_bounded ef24 (by first | exact mul_in vz rz | exact tdiv_in vz | exact tmod_in vz | (exfalso; omega)) hl (by first | exact evB_01 (evB_01 hb) | exact Or.inr rfl | exact Or.inl rfl)) (TX8_termOf_2.at 1 rfl) c8_277 rfl rfl hH hA (by omega) (Nat.le_of_ble_eq_true rfl) (fun x161 f161 g161 j161 h r161 q161 hH hA => ?_)
              obtain ⟨q161, xf, xg, xj⟩ := q161
              rw [xj] at hH
              have ef22 := (xf 22 (by decide)).trans ef22
              have ef23 := (xf 23 (by decide)).trans ef23
              have hfE := hfE.trans xf (by decide)
              have eg2 := (xg 2 (by decide)).trans eg2
              have hgE := hgE.trans xg (by decide)
              have qL := q161
              obtain ⟨rfl, ef24⟩ := qL
              rw [bd_eq] at r161 ⊢
              rw [bd_eqB] at ef24
              refine z_lst_2 (TX8_termOf_2.at 2 rfl) (Nat.le_of_ble_eq_true rfl) rfl ?_
              refine z_goto (tgt := 6) (TX8_termOf_2.at 3 rfl) rfl ?_
              first | (exfalso; omega) | (have e := ev_bin (live := live) (br := br) (o := 5) (op := fun x y => x * y) (k0 := k0) (k2 := k2) (φ := φ) hl hb rfl (fun _ _ => rfl); rw [e.2] at ef24; rw [e.1]; exact ih t2 p2 (dBin 5 k0 k2) _ _ _ _ _ _ (by omega) ha2 hp2 (evV_in dBin_in) eg2 ef22 ef23 ef24 hfE hgE hH hA) | (have e := (ev_div (live := live) (br := br) (o := 6) (op := fun x y => Int.tdiv x y) (k0 := k0) (k2 := k2) (φ := φ) hl hb rfl (fun _ _ => rfl) _ _ rfl rfl).2 (by assumption); rw [e.2] at ef24; rw [e.1]; exact ih t2 p2 (dBin 6 k0 k2) _ _ _ _ _ _ (by omega) ha2 hp2 (evV_in dBin_in) eg2 ef22 ef23 ef24 hfE hgE hH hA) | (have e := (ev_div (live := live) (br := br) (o := 6) (op := fun x y => Int.tdiv x y) (k0 := k0) (k2 := k2) (φ := φ) hl hb rfl (fun _ _ => rfl) _ _ rfl rfl).1 (by assumption); rw [if_pos (by omega)] at e; rw [e.2] at ef24; rw [e.1]; exact ih t2 p2 (dBin 6 k0 k2) _ _ _ _ _ _ (by omega) ha2 hp2 (evV_in dBin_in) eg2 ef22 ef23 ef24 hfE hgE hH hA) | (have e := (ev_div (live := live) (br := br) (o := 6) (op := fun x y => Int.tdiv x y) (k0 := k0) (k2 := k2) (φ := φ) hl hb rfl (fun _ _ => rfl) _ _ rfl rfl).1 (by assumption); rw [if_neg (by omega)] at e; rw [e.2] at ef24; rw [e.1]; exact ih t2 p2 (dBin 6 k0 k2) _ _ _ _ _ _ (by omega) ha2 hp2 (evV_in dBin_in) eg2 ef22 ef23 ef24 hfE hgE hH hA) | (have e := (ev_div (live := live) (br := br) (o := 7) (op := fun x y => Int.tmod x y) (k0 := k0) (k2 := k2) (φ := φ) hl hb rfl (fun _ _ => rfl) _ _ rfl rfl).2 (by assumption); rw [e.2] at ef24; rw [e.1]; exact ih t2 p2 (dBin 7 k0 k2) _ _ _ _ _ _ (by omega) ha2 hp2 (evV_in dBin_in) eg2 ef22 ef23 ef24 hfE hgE hH hA) | (have e := (ev_div (live := live) (br := br) (o := 7) (op := fun x y => Int.tmod x y) (k0 := k0) (k2 := k2) (φ := φ) hl hb rfl (fun _ _ => rfl) _ _ rfl rfl).1 (by assumption); rw [if_pos (by omega)] at e; rw [e.2] at ef24; rw [e.1]; exact ih t2 p2 (dBin 7 k0 k2) _ _ _ _ _ _ (by omega) ha2 hp2 (evV_in dBin_in) eg2 ef22 ef23 ef24 hfE hgE hH hA) | (have e := (ev_div (live := live) (br := br) (o := 7) (op := fun x y => Int.tmod x y) (k0 := k0) (k2 := k2) (φ := φ) hl hb rfl (fun _ _ => rfl) _ _ rfl rfl).1 (by assumption); rw [if_neg (by omega)] at e; rw [e.2] at ef24; rw [e.1]; exact ih t2 p2 (dBin 7 k0 k2) _ _ _ _ _ _ (by omega) ha2 hp2 (evV_in dBin_in) eg2 ef22 ef23 ef24 hfE hgE hH hA)
          · skip
            refine z_ald_0 (TX8_termOf_1.at 8 rfl) ?_
            refine z_ald_0 (TX8_termOf_1.at 9 rfl) ?_
            refine zm_getIE ef24 (TX8_termOf_1.at 10 rfl) fl8_270 hH rfl (by decide) (fun r100 => ?_)
            refine z_if_ne (tgt := 110) (TX8_termOf_1.at 11 rfl) rfl (by have := evB_01 (live := live) (br := evB live br (k0 φ)) (z := k2 φ) (evB_01 hb); omega) (fun c23 => ?_) (fun c23 => ?_)
            · skip
              refine z_iconst (TX8_termOf_1.at 14 rfl) ?_
              refine z_goto (tgt := 115) (TX8_termOf_1.at 15 rfl) rfl ?_
              refine zm_putZE (TX8_termOf_1.at 17 rfl) fp8_270 hH hA rfl (by decide) (by first | omega | exact b2i_01 _) (fun h f115 e1 e2 hH hA => ?_)
              have ef22 := (e1 22 (by decide)).trans ef22
              have ef23 := (e1 23 (by decide)).trans ef23
              have ef24 := e2
              have hfE := hfE.put e1 (by decide)
              refine z_lconst (v := 1) (by decide) (TX8_termOf_1.at 18 rfl) ?_
              refine z_lst_5 (TX8_termOf_1.at 19 rfl) (Nat.le_of_ble_eq_true rfl) rfl ?_
              refine z_ald_0 (TX8_termOf_1.at 20 rfl) ?_
              refine z_ild_4 (TX8_termOf_1.at 21 rfl) ?_
              refine z_bipush (by decide) (TX8_termOf_1.at 22 rfl) ?_
              refine zs_call1 (s_sign (by omega)) (TX8_termOf_1.at 23 rfl) c8_219 rfl (by omega) (Nat.le_of_ble_eq_true rfl) (fun r126 => ?_)
              refine z_icmp_ne (tgt := 139) (TX8_termOf_1.at 24 rfl) rfl (by omega) (by omega) (fun c24 => ?_) (fun c24 => ?_)
              · skip
                refine z_ild_4 (TX8_termOf_1.at 29 rfl) ?_
                refine z_bipush (by decide) (TX8_termOf_1.at 30 rfl) ?_
                refine zs_call1 (s_sign (by omega)) (TX8_termOf_1.at 31 rfl) c8_219 rfl (by omega) (Nat.le_of_ble_eq_true rfl) (fun r143 => ?_)
                refine z_icmp_ne (tgt := 156) (TX8_termOf_1.at 32 rfl) rfl (by omega) (by omega) (fun c25 => ?_) (fun c25 => ?_)
                · skip
                  refine z_lld_2 (TX8_termOf_1.at 37 rfl) ?_
                  refine z_lld_5 (TX8_termOf_1.at 38 rfl) ?_
                  refine z_lrem (by omega) (by omega) (TX8_termOf_1.at 39 rfl) ?_
                  first | rw [zlrem_eq vz (by omega)] | skip
                  refine z_ild_1 (TX8_termOf_2.at 0 rfl) ?_
                  refine zm_callL2 (m_bounded ef24 (by first | exact mul_in vz rz | exact tdiv_in vz | exact tmod_in vz | (exfalso; omega)) hl (by first | exact evB_01 (evB_01 hb) | exact Or.inr rfl | exact Or.inl rfl)) (TX8_termOf_2.at 1 rfl) c8_277 rfl rfl hH hA (by omega) (Nat.le_of_ble_eq_true rfl) (fun x161 f161 g161 j161 h r161 q161 hH hA => ?_)
                  obtain ⟨q161, xf, xg, xj⟩ := q161
                  rw [xj] at hH
                  have ef22 := (xf 22 (by decide)).trans ef22
                  have ef23 := (xf 23 (by decide)).trans ef23
                  have hfE := hfE.trans xf (by decide)
                  have eg2 := (xg 2 (by decide)).trans eg2
                  have hgE := hgE.trans xg (by decide)
                  have qL := q161
                  obtain ⟨rfl, ef24⟩ := qL
                  rw [bd_eq] at r161 ⊢
                  rw [bd_eqB] at ef24
                  refine z_lst_2 (TX8_termOf_2.at 2 rfl) (Nat.le_of_ble_eq_true rfl) rfl ?_
                  refine z_goto (tgt := 6) (TX8_termOf_2.at 3 rfl) rfl ?_
                  first | (exfalso; omega) | (have e := ev_bin (live := live) (br := br) (o := 5) (op := fun x y => x * y) (k0 := k0) (k2 := k2) (φ := φ) hl hb rfl (fun _ _ => rfl); rw [e.2] at ef24; rw [e.1]; exact ih t2 p2 (dBin 5 k0 k2) _ _ _ _ _ _ (by omega) ha2 hp2 (evV_in dBin_in) eg2 ef22 ef23 ef24 hfE hgE hH hA) | (have e := (ev_div (live := live) (br := br) (o := 6) (op := fun x y => Int.tdiv x y) (k0 := k0) (k2 := k2) (φ := φ) hl hb rfl (fun _ _ => rfl) _ _ rfl rfl).2 (by assumption); rw [e.2] at ef24; rw [e.1]; exact ih t2 p2 (dBin 6 k0 k2) _ _ _ _ _ _ (by omega) ha2 hp2 (evV_in dBin_in) eg2 ef22 ef23 ef24 hfE hgE hH hA) | (have e := (ev_div (live := live) (br := br) (o := 6) (op := fun x y => Int.tdiv x y) (k0 := k0) (k2 := k2) (φ := φ) hl hb rfl (fun _ _ => rfl) _ _ rfl rfl).1 (by assumption); rw [if_pos (by omega)] at e; rw [e.2] at ef24; rw [e.1]; exact ih t2 p2 (dBin 6 k0 k2) _ _ _ _ _ _ (by omega) ha2 hp2 (evV_in dBin_in) eg2 ef22 ef23 ef24 hfE hgE hH hA) | (have e := (ev_div (live := live) (br := br) (o := 6) (op := fun x y => Int.tdiv x y) (k0 := k0) (k2 := k2) (φ := φ) hl hb rfl (fun _ _ => rfl) _ _ rfl rfl).1 (by assumption); rw [if_neg (by omega)] at e; rw [e.2] at ef24; rw [e.1]; exact ih t2 p2 (dBin 6 k0 k2) _ _ _ _ _ _ (by omega) ha2 hp2 (evV_in dBin_in) eg2 ef22 ef23 ef24 hfE hgE hH hA) | (have e := (ev_div (live := live) (br := br) (o := 7) (op := fun x y => Int.tmod x y) (k0 := k0) (k2 := k2) (φ := φ) hl hb rfl (fun _ _ => rfl) _ _ rfl rfl).2 (by assumption); rw [e.2] at ef24; rw [e.1]; exact ih t2 p2 (dBin 7 k0 k2) _ _ _ _ _ _ (by omega) ha2 hp2 (evV_in dBin_in) eg2 ef22 ef23 ef24 hfE hgE hH hA) | (have e := (ev_div (live := live) (br := br) (o := 7) (op := fun x y => Int.tmod x y) (k0 := k0) (k2 := k2) (φ := φ) hl hb rfl (fun _ _ => rfl) _ _ rfl rfl).1 (by assumption); rw [if_pos (by omega)] at e; rw [e.2] at ef24; rw [e.1]; exact ih t2 p2 (dBin 7 k0 k2) _ _ _ _ _ _ (by omega) ha2 hp2 (evV_in dBin_in) eg2 ef22 ef23 ef24 hfE hgE hH hA) | (have e := (ev_div (live := live) (br := br) (o := 7) (op := fun x y => Int.tmod x y) (k0 := k0) (k2 := k2) (φ := φ) hl hb rfl (fun _ _ => rfl) _ _ rfl rfl).1 (by assumption); rw [if_neg (by omega)] at e; rw [e.2] at ef24; rw [e.1]; exact ih t2 p2 (dBin 7 k0 k2) _ _ _ _ _ _ (by omega) ha2 hp2 (evV_in dBin_in) eg2 ef22 ef23 ef24 hfE hgE hH hA)
                · skip
                  refine z_lld_2 (TX8_termOf_1.at 33 rfl) ?_
                  refine z_lld_5 (TX8_termOf_1.at 34 rfl) ?_
                  refine z_ldiv (by omega) (by omega) (TX8_termOf_1.at 35 rfl) ?_
                  rw [zldiv_eq vz (by omega)]
                  refine z_goto (tgt := 160) (TX8_termOf_1.at 36 rfl) rfl ?_
                  first | rw [zlrem_eq vz (by omega)] | skip
                  refine z_ild_1 (TX8_termOf_2.at 0 rfl) ?_
                  refine zm_callL2 (m_bounded ef24 (by first | exact mul_in vz rz | exact tdiv_in vz | exact tmod_in vz | (exfalso; omega)) hl (by first | exact evB_01 (evB_01 hb) | exact Or.inr rfl | exact Or.inl rfl)) (TX8_termOf_2.at 1 rfl) c8_277 rfl rfl hH hA (by omega) (Nat.le_of_ble_eq_true rfl) (fun x161 f161 g161 j161 h r161 q161 hH hA => ?_)
                  obtain ⟨q161, xf, xg, xj⟩ := q161
                  rw [xj] at hH
                  have ef22 := (xf 22 (by decide)).trans ef22
                  have ef23 := (xf 23 (by decide)).trans ef23
                  have hfE := hfE.trans xf (by decide)
                  have eg2 := (xg 2 (by decide)).trans eg2
                  have hgE := hgE.trans xg (by decide)
                  have qL := q161
                  obtain ⟨rfl, ef24⟩ := qL
                  rw [bd_eq] at r161 ⊢
                  rw [bd_eqB] at ef24
                  refine z_lst_2 (TX8_termOf_2.at 2 rfl) (Nat.le_of_ble_eq_true rfl) rfl ?_
                  refine z_goto (tgt := 6) (TX8_termOf_2.at 3 rfl) rfl ?_
                  first | (exfalso; omega) | (have e := ev_bin (live := live) (br := br) (o := 5) (op := fun x y => x * y) (k0 := k0) (k2 := k2) (φ := φ) hl hb rfl (fun _ _ => rfl); rw [e.2] at ef24; rw [e.1]; exact ih t2 p2 (dBin 5 k0 k2) _ _ _ _ _ _ (by omega) ha2 hp2 (evV_in dBin_in) eg2 ef22 ef23 ef24 hfE hgE hH hA) | (have e := (ev_div (live := live) (br := br) (o := 6) (op := fun x y => Int.tdiv x y) (k0 := k0) (k2 := k2) (φ := φ) hl hb rfl (fun _ _ => rfl) _ _ rfl rfl).2 (by assumption); rw [e.2] at ef24; rw [e.1]; exact ih t2 p2 (dBin 6 k0 k2) _ _ _ _ _ _ (by omega) ha2 hp2 (evV_in dBin_in) eg2 ef22 ef23 ef24 hfE hgE hH hA) | (have e := (ev_div (live := live) (br := br) (o := 6) (op := fun x y => Int.tdiv x y) (k0 := k0) (k2 := k2) (φ := φ) hl hb rfl (fun _ _ => rfl) _ _ rfl rfl).1 (by assumption); rw [if_pos (by omega)] at e; rw [e.2] at ef24; rw [e.1]; exact ih t2 p2 (dBin 6 k0 k2) _ _ _ _ _ _ (by omega) ha2 hp2 (evV_in dBin_in) eg2 ef22 ef23 ef24 hfE hgE hH hA) | (have e := (ev_div (live := live) (br := br) (o := 6) (op := fun x y => Int.tdiv x y) (k0 := k0) (k2 := k2) (φ := φ) hl hb rfl (fun _ _ => rfl) _ _ rfl rfl).1 (by assumption); rw [if_neg (by omega)] at e; rw [e.2] at ef24; rw [e.1]; exact ih t2 p2 (dBin 6 k0 k2) _ _ _ _ _ _ (by omega) ha2 hp2 (evV_in dBin_in) eg2 ef22 ef23 ef24 hfE hgE hH hA) | (have e := (ev_div (live := live) (br := br) (o := 7) (op := fun x y => Int.tmod x y) (k0 := k0) (k2 := k2) (φ := φ) hl hb rfl (fun _ _ => rfl) _ _ rfl rfl).2 (by assumption); rw [e.2] at ef24; rw [e.1]; exact ih t2 p2 (dBin 7 k0 k2) _ _ _ _ _ _ (by omega) ha2 hp2 (evV_in dBin_in) eg2 ef22 ef23 ef24 hfE hgE hH hA) | (have e := (ev_div (live := live) (br := br) (o := 7) (op := fun x y => Int.tmod x y) (k0 := k0) (k2 := k2) (φ := φ) hl hb rfl (fun _ _ => rfl) _ _ rfl rfl).1 (by assumption); rw [if_pos (by omega)] at e; rw [e.2] at ef24; rw [e.1]; exact ih t2 p2 (dBin 7 k0 k2) _ _ _ _ _ _ (by omega) ha2 hp2 (evV_in dBin_in) eg2 ef22 ef23 ef24 hfE hgE hH hA) | (have e := (ev_div (live := live) (br := br) (o := 7) (op := fun x y => Int.tmod x y) (k0 := k0) (k2 := k2) (φ := φ) hl hb rfl (fun _ _ => rfl) _ _ rfl rfl).1 (by assumption); rw [if_neg (by omega)] at e; rw [e.2] at ef24; rw [e.1]; exact ih t2 p2 (dBin 7 k0 k2) _ _ _ _ _ _ (by omega) ha2 hp2 (evV_in dBin_in) eg2 ef22 ef23 ef24 hfE hgE hH hA)
              · skip
                refine z_lld_2 (TX8_termOf_1.at 25 rfl) ?_
                refine z_lld_5 (TX8_termOf_1.at 26 rfl) ?_
                refine z_lmul (TX8_termOf_1.at 27 rfl) ?_
                refine z_goto (tgt := 160) (TX8_termOf_1.at 28 rfl) rfl ?_
                first | rw [zlrem_eq vz (by omega)] | skip
                refine z_ild_1 (TX8_termOf_2.at 0 rfl) ?_
                refine zm_callL2 (m_bounded ef24 (by first | exact mul_in vz rz | exact tdiv_in vz | exact tmod_in vz | (exfalso; omega)) hl (by first | exact evB_01 (evB_01 hb) | exact Or.inr rfl | exact Or.inl rfl)) (TX8_termOf_2.at 1 rfl) c8_277 rfl rfl hH hA (by omega) (Nat.le_of_ble_eq_true rfl) (fun x161 f161 g161 j161 h r161 q161 hH hA => ?_)
                obtain ⟨q161, xf, xg, xj⟩ := q161
                rw [xj] at hH
                have ef22 := (xf 22 (by decide)).trans ef22
                have ef23 := (xf 23 (by decide)).trans ef23
                have hfE := hfE.trans xf (by decide)
                have eg2 := (xg 2 (by decide)).trans eg2
                have hgE := hgE.trans xg (by decide)
                have qL := q161
                obtain ⟨rfl, ef24⟩ := qL
                rw [bd_eq] at r161 ⊢
                rw [bd_eqB] at ef24
                refine z_lst_2 (TX8_termOf_2.at 2 rfl) (Nat.le_of_ble_eq_true rfl) rfl ?_
                refine z_goto (tgt := 6) (TX8_termOf_2.at 3 rfl) rfl ?_
                first | (exfalso; omega) | (have e := ev_bin (live := live) (br := br) (o := 5) (op := fun x y => x * y) (k0 := k0) (k2 := k2) (φ := φ) hl hb rfl (fun _ _ => rfl); rw [e.2] at ef24; rw [e.1]; exact ih t2 p2 (dBin 5 k0 k2) _ _ _ _ _ _ (by omega) ha2 hp2 (evV_in dBin_in) eg2 ef22 ef23 ef24 hfE hgE hH hA) | (have e := (ev_div (live := live) (br := br) (o := 6) (op := fun x y => Int.tdiv x y) (k0 := k0) (k2 := k2) (φ := φ) hl hb rfl (fun _ _ => rfl) _ _ rfl rfl).2 (by assumption); rw [e.2] at ef24; rw [e.1]; exact ih t2 p2 (dBin 6 k0 k2) _ _ _ _ _ _ (by omega) ha2 hp2 (evV_in dBin_in) eg2 ef22 ef23 ef24 hfE hgE hH hA) | (have e := (ev_div (live := live) (br := br) (o := 6) (op := fun x y => Int.tdiv x y) (k0 := k0) (k2 := k2) (φ := φ) hl hb rfl (fun _ _ => rfl) _ _ rfl rfl).1 (by assumption); rw [if_pos (by omega)] at e; rw [e.2] at ef24; rw [e.1]; exact ih t2 p2 (dBin 6 k0 k2) _ _ _ _ _ _ (by omega) ha2 hp2 (evV_in dBin_in) eg2 ef22 ef23 ef24 hfE hgE hH hA) | (have e := (ev_div (live := live) (br := br) (o := 6) (op := fun x y => Int.tdiv x y) (k0 := k0) (k2 := k2) (φ := φ) hl hb rfl (fun _ _ => rfl) _ _ rfl rfl).1 (by assumption); rw [if_neg (by omega)] at e; rw [e.2] at ef24; rw [e.1]; exact ih t2 p2 (dBin 6 k0 k2) _ _ _ _ _ _ (by omega) ha2 hp2 (evV_in dBin_in) eg2 ef22 ef23 ef24 hfE hgE hH hA) | (have e := (ev_div (live := live) (br := br) (o := 7) (op := fun x y => Int.tmod x y) (k0 := k0) (k2 := k2) (φ := φ) hl hb rfl (fun _ _ => rfl) _ _ rfl rfl).2 (by assumption); rw [e.2] at ef24; rw [e.1]; exact ih t2 p2 (dBin 7 k0 k2) _ _ _ _ _ _ (by omega) ha2 hp2 (evV_in dBin_in) eg2 ef22 ef23 ef24 hfE hgE hH hA) | (have e := (ev_div (live := live) (br := br) (o := 7) (op := fun x y => Int.tmod x y) (k0 := k0) (k2 := k2) (φ := φ) hl hb rfl (fun _ _ => rfl) _ _ rfl rfl).1 (by assumption); rw [if_pos (by omega)] at e; rw [e.2] at ef24; rw [e.1]; exact ih t2 p2 (dBin 7 k0 k2) _ _ _ _ _ _ (by omega) ha2 hp2 (evV_in dBin_in) eg2 ef22 ef23 ef24 hfE hgE hH hA) | (have e := (ev_div (live := live) (br := br) (o := 7) (op := fun x y => Int.tmod x y) (k0 := k0) (k2 := k2) (φ := φ) hl hb rfl (fun _ _ => rfl) _ _ rfl rfl).1 (by assumption); rw [if_neg (by omega)] at e; rw [e.2] at ef24; rw [e.1]; exact ih t2 p2 (dBin 7 k0 k2) _ _ _ _ _ _ (by omega) ha2 hp2 (evV_in dBin_in) eg2 ef22 ef23 ef24 hfE hgE hH hA)
            · skip
              refine z_ild_1 (TX8_termOf_1.at 12 rfl) ?_
              refine z_if_eq (tgt := 114) (TX8_termOf_1.at 13 rfl) rfl (by omega) (fun c26 => ?_) (fun c26 => ?_)
              · skip
                refine z_iconst (TX8_termOf_1.at 16 rfl) ?_
                refine zm_putZE (TX8_termOf_1.at 17 rfl) fp8_270 hH hA rfl (by decide) (by first | omega | exact b2i_01 _) (fun h f115 e1 e2 hH hA => ?_)
                have ef22 := (e1 22 (by decide)).trans ef22
                have ef23 := (e1 23 (by decide)).trans ef23
                have ef24 := e2
                have hfE := hfE.put e1 (by decide)
                refine z_lconst (v := 1) (by decide) (TX8_termOf_1.at 18 rfl) ?_
                refine z_lst_5 (TX8_termOf_1.at 19 rfl) (Nat.le_of_ble_eq_true rfl) rfl ?_
                refine z_ald_0 (TX8_termOf_1.at 20 rfl) ?_
                refine z_ild_4 (TX8_termOf_1.at 21 rfl) ?_
                refine z_bipush (by decide) (TX8_termOf_1.at 22 rfl) ?_
                refine zs_call1 (s_sign (by omega)) (TX8_termOf_1.at 23 rfl) c8_219 rfl (by omega) (Nat.le_of_ble_eq_true rfl) (fun r126 => ?_)
                refine z_icmp_ne (tgt := 139) (TX8_termOf_1.at 24 rfl) rfl (by omega) (by omega) (fun c27 => ?_) (fun c27 => ?_)
                · skip
                  refine z_ild_4 (TX8_termOf_1.at 29 rfl) ?_
                  refine z_bipush (by decide) (TX8_termOf_1.at 30 rfl) ?_
                  refine zs_call1 (s_sign (by omega)) (TX8_termOf_1.at 31 rfl) c8_219 rfl (by omega) (Nat.le_of_ble_eq_true rfl) (fun r143 => ?_)
                  refine z_icmp_ne (tgt := 156) (TX8_termOf_1.at 32 rfl) rfl (by omega) (by omega) (fun c28 => ?_) (fun c28 => ?_)
                  · skip
                    refine z_lld_2 (TX8_termOf_1.at 37 rfl) ?_
                    refine z_lld_5 (TX8_termOf_1.at 38 rfl) ?_
                    refine z_lrem (by omega) (by omega) (TX8_termOf_1.at 39 rfl) ?_
                    first | rw [zlrem_eq vz (by omega)] | skip
                    refine z_ild_1 (TX8_termOf_2.at 0 rfl) ?_
                    refine zm_callL2 (m_bounded ef24 (by first | exact mul_in vz rz | exact tdiv_in vz | exact tmod_in vz | (exfalso; omega)) hl (by first | exact evB_01 (evB_01 hb) | exact Or.inr rfl | exact Or.inl rfl)) (TX8_termOf_2.at 1 rfl) c8_277 rfl rfl hH hA (by omega) (Nat.le_of_ble_eq_true rfl) (fun x161 f161 g161 j161 h r161 q161 hH hA => ?_)
                    obtain ⟨q161, xf, xg, xj⟩ := q161
                    rw [xj] at hH
                    have ef22 := (xf 22 (by decide)).trans ef22
                    have ef23 := (xf 23 (by decide)).trans ef23
                    have hfE := hfE.trans xf (by decide)
                    have eg2 := (xg 2 (by decide)).trans eg2
                    have hgE := hgE.trans xg (by decide)
                    have qL := q161
                    obtain ⟨rfl, ef24⟩ := qL
                    rw [bd_eq] at r161 ⊢
                    rw [bd_eqB] at ef24
                    refine z_lst_2 (TX8_termOf_2.at 2 rfl) (Nat.le_of_ble_eq_true rfl) rfl ?_
                    refine z_goto (tgt := 6) (TX8_termOf_2.at 3 rfl) rfl ?_
                    first | (exfalso; omega) | (have e := ev_bin (live := live) (br := br) (o := 5) (op := fun x y => x * y) (k0 := k0) (k2 := k2) (φ := φ) hl hb rfl (fun _ _ => rfl); rw [e.2] at ef24; rw [e.1]; exact ih t2 p2 (dBin 5 k0 k2) _ _ _ _ _ _ (by omega) ha2 hp2 (evV_in dBin_in) eg2 ef22 ef23 ef24 hfE hgE hH hA) | (have e := (ev_div (live := live) (br := br) (o := 6) (op := fun x y => Int.tdiv x y) (k0 := k0) (k2 := k2) (φ := φ) hl hb rfl (fun _ _ => rfl) _ _ rfl rfl).2 (by assumption); rw [e.2] at ef24; rw [e.1]; exact ih t2 p2 (dBin 6 k0 k2) _ _ _ _ _ _ (by omega) ha2 hp2 (evV_in dBin_in) eg2 ef22 ef23 ef24 hfE hgE hH hA) | (have e := (ev_div (live := live) (br := br) (o := 6) (op := fun x y => Int.tdiv x y) (k0 := k0) (k2 := k2) (φ := φ) hl hb rfl (fun _ _ => rfl) _ _ rfl rfl).1 (by assumption); rw [if_pos (by omega)] at e; rw [e.2] at ef24; rw [e.1]; exact ih t2 p2 (dBin 6 k0 k2) _ _ _ _ _ _ (by omega) ha2 hp2 (evV_in dBin_in) eg2 ef22 ef23 ef24 hfE hgE hH hA) | (have e := (ev_div (live := live) (br := br) (o := 6) (op := fun x y => Int.tdiv x y) (k0 := k0) (k2 := k2) (φ := φ) hl hb rfl (fun _ _ => rfl) _ _ rfl rfl).1 (by assumption); rw [if_neg (by omega)] at e; rw [e.2] at ef24; rw [e.1]; exact ih t2 p2 (dBin 6 k0 k2) _ _ _ _ _ _ (by omega) ha2 hp2 (evV_in dBin_in) eg2 ef22 ef23 ef24 hfE hgE hH hA) | (have e := (ev_div (live := live) (br := br) (o := 7) (op := fun x y => Int.tmod x y) (k0 := k0) (k2 := k2) (φ := φ) hl hb rfl (fun _ _ => rfl) _ _ rfl rfl).2 (by assumption); rw [e.2] at ef24; rw [e.1]; exact ih t2 p2 (dBin 7 k0 k2) _ _ _ _ _ _ (by omega) ha2 hp2 (evV_in dBin_in) eg2 ef22 ef23 ef24 hfE hgE hH hA) | (have e := (ev_div (live := live) (br := br) (o := 7) (op := fun x y => Int.tmod x y) (k0 := k0) (k2 := k2) (φ := φ) hl hb rfl (fun _ _ => rfl) _ _ rfl rfl).1 (by assumption); rw [if_pos (by omega)] at e; rw [e.2] at ef24; rw [e.1]; exact ih t2 p2 (dBin 7 k0 k2) _ _ _ _ _ _ (by omega) ha2 hp2 (evV_in dBin_in) eg2 ef22 ef23 ef24 hfE hgE hH hA) | (have e := (ev_div (live := live) (br := br) (o := 7) (op := fun x y => Int.tmod x y) (k0 := k0) (k2 := k2) (φ := φ) hl hb rfl (fun _ _ => rfl) _ _ rfl rfl).1 (by assumption); rw [if_neg (by omega)] at e; rw [e.2] at ef24; rw [e.1]; exact ih t2 p2 (dBin 7 k0 k2) _ _ _ _ _ _ (by omega) ha2 hp2 (evV_in dBin_in) eg2 ef22 ef23 ef24 hfE hgE hH hA)
                  · skip
                    refine z_lld_2 (TX8_termOf_1.at 33 rfl) ?_
                    refine z_lld_5 (TX8_termOf_1.at 34 rfl) ?_
                    refine z_ldiv (by omega) (by omega) (TX8_termOf_1.at 35 rfl) ?_
                    rw [zldiv_eq vz (by omega)]
                    refine z_goto (tgt := 160) (TX8_termOf_1.at 36 rfl) rfl ?_
                    first | rw [zlrem_eq vz (by omega)] | skip
                    refine z_ild_1 (TX8_termOf_2.at 0 rfl) ?_
                    refine zm_callL2 (m_bounded ef24 (by first | exact mul_in vz rz | exact tdiv_in vz | exact tmod_in vz | (exfalso; omega)) hl (by first | exact evB_01 (evB_01 hb) | exact Or.inr rfl | exact Or.inl rfl)) (TX8_termOf_2.at 1 rfl) c8_277 rfl rfl hH hA (by omega) (Nat.le_of_ble_eq_true rfl) (fun x161 f161 g161 j161 h r161 q161 hH hA => ?_)
                    obtain ⟨q161, xf, xg, xj⟩ := q161
                    rw [xj] at hH
                    have ef22 := (xf 22 (by decide)).trans ef22
                    have ef23 := (xf 23 (by decide)).trans ef23
                    have hfE := hfE.trans xf (by decide)
                    have eg2 := (xg 2 (by decide)).trans eg2
                    have hgE := hgE.trans xg (by decide)
                    have qL := q161
                    obtain ⟨rfl, ef24⟩ := qL
                    rw [bd_eq] at r161 ⊢
                    rw [bd_eqB] at ef24
                    refine z_lst_2 (TX8_termOf_2.at 2 rfl) (Nat.le_of_ble_eq_true rfl) rfl ?_
                    refine z_goto (tgt := 6) (TX8_termOf_2.at 3 rfl) rfl ?_
                    first | (exfalso; omega) | (have e := ev_bin (live := live) (br := br) (o := 5) (op := fun x y => x * y) (k0 := k0) (k2 := k2) (φ := φ) hl hb rfl (fun _ _ => rfl); rw [e.2] at ef24; rw [e.1]; exact ih t2 p2 (dBin 5 k0 k2) _ _ _ _ _ _ (by omega) ha2 hp2 (evV_in dBin_in) eg2 ef22 ef23 ef24 hfE hgE hH hA) | (have e := (ev_div (live := live) (br := br) (o := 6) (op := fun x y => Int.tdiv x y) (k0 := k0) (k2 := k2) (φ := φ) hl hb rfl (fun _ _ => rfl) _ _ rfl rfl).2 (by assumption); rw [e.2] at ef24; rw [e.1]; exact ih t2 p2 (dBin 6 k0 k2) _ _ _ _ _ _ (by omega) ha2 hp2 (evV_in dBin_in) eg2 ef22 ef23 ef24 hfE hgE hH hA) | (have e := (ev_div (live := live) (br := br) (o := 6) (op := fun x y => Int.tdiv x y) (k0 := k0) (k2 := k2) (φ := φ) hl hb rfl (fun _ _ => rfl) _ _ rfl rfl).1 (by assumption); rw [if_pos (by omega)] at e; rw [e.2] at ef24; rw [e.1]; exact ih t2 p2 (dBin 6 k0 k2) _ _ _ _ _ _ (by omega) ha2 hp2 (evV_in dBin_in) eg2 ef22 ef23 ef24 hfE hgE hH hA) | (have e := (ev_div (live := live) (br := br) (o := 6) (op := fun x y => Int.tdiv x y) (k0 := k0) (k2 := k2) (φ := φ) hl hb rfl (fun _ _ => rfl) _ _ rfl rfl).1 (by assumption); rw [if_neg (by omega)] at e; rw [e.2] at ef24; rw [e.1]; exact ih t2 p2 (dBin 6 k0 k2) _ _ _ _ _ _ (by omega) ha2 hp2 (evV_in dBin_in) eg2 ef22 ef23 ef24 hfE hgE hH hA) | (have e := (ev_div (live := live) (br := br) (o := 7) (op := fun x y => Int.tmod x y) (k0 := k0) (k2 := k2) (φ := φ) hl hb rfl (fun _ _ => rfl) _ _ rfl rfl).2 (by assumption); rw [e.2] at ef24; rw [e.1]; exact ih t2 p2 (dBin 7 k0 k2) _ _ _ _ _ _ (by omega) ha2 hp2 (evV_in dBin_in) eg2 ef22 ef23 ef24 hfE hgE hH hA) | (have e := (ev_div (live := live) (br := br) (o := 7) (op := fun x y => Int.tmod x y) (k0 := k0) (k2 := k2) (φ := φ) hl hb rfl (fun _ _ => rfl) _ _ rfl rfl).1 (by assumption); rw [if_pos (by omega)] at e; rw [e.2] at ef24; rw [e.1]; exact ih t2 p2 (dBin 7 k0 k2) _ _ _ _ _ _ (by omega) ha2 hp2 (evV_in dBin_in) eg2 ef22 ef23 ef24 hfE hgE hH hA) | (have e := (ev_div (live := live) (br := br) (o := 7) (op := fun x y => Int.tmod x y) (k0 := k0) (k2 := k2) (φ := φ) hl hb rfl (fun _ _ => rfl) _ _ rfl rfl).1 (by assumption); rw [if_neg (by omega)] at e; rw [e.2] at ef24; rw [e.1]; exact ih t2 p2 (dBin 7 k0 k2) _ _ _ _ _ _ (by omega) ha2 hp2 (evV_in dBin_in) eg2 ef22 ef23 ef24 hfE hgE hH hA)
                · skip
                  refine z_lld_2 (TX8_termOf_1.at 25 rfl) ?_
                  refine z_lld_5 (TX8_termOf_1.at 26 rfl) ?_
                  refine z_lmul (TX8_termOf_1.at 27 rfl) ?_
                  refine z_goto (tgt := 160) (TX8_termOf_1.at 28 rfl) rfl ?_
                  first | rw [zlrem_eq vz (by omega)] | skip
                  refine z_ild_1 (TX8_termOf_2.at 0 rfl) ?_
                  refine zm_callL2 (m_bounded ef24 (by first | exact mul_in vz rz | exact tdiv_in vz | exact tmod_in vz | (exfalso; omega)) hl (by first | exact evB_01 (evB_01 hb) | exact Or.inr rfl | exact Or.inl rfl)) (TX8_termOf_2.at 1 rfl) c8_277 rfl rfl hH hA (by omega) (Nat.le_of_ble_eq_true rfl) (fun x161 f161 g161 j161 h r161 q161 hH hA => ?_)
                  obtain ⟨q161, xf, xg, xj⟩ := q161
                  rw [xj] at hH
                  have ef22 := (xf 22 (by decide)).trans ef22
                  have ef23 := (xf 23 (by decide)).trans ef23
                  have hfE := hfE.trans xf (by decide)
                  have eg2 := (xg 2 (by decide)).trans eg2
                  have hgE := hgE.trans xg (by decide)
                  have qL := q161
                  obtain ⟨rfl, ef24⟩ := qL
                  rw [bd_eq] at r161 ⊢
                  rw [bd_eqB] at ef24
                  refine z_lst_2 (TX8_termOf_2.at 2 rfl) (Nat.le_of_ble_eq_true rfl) rfl ?_
                  refine z_goto (tgt := 6) (TX8_termOf_2.at 3 rfl) rfl ?_
                  first | (exfalso; omega) | (have e := ev_bin (live := live) (br := br) (o := 5) (op := fun x y => x * y) (k0 := k0) (k2 := k2) (φ := φ) hl hb rfl (fun _ _ => rfl); rw [e.2] at ef24; rw [e.1]; exact ih t2 p2 (dBin 5 k0 k2) _ _ _ _ _ _ (by omega) ha2 hp2 (evV_in dBin_in) eg2 ef22 ef23 ef24 hfE hgE hH hA) | (have e := (ev_div (live := live) (br := br) (o := 6) (op := fun x y => Int.tdiv x y) (k0 := k0) (k2 := k2) (φ := φ) hl hb rfl (fun _ _ => rfl) _ _ rfl rfl).2 (by assumption); rw [e.2] at ef24; rw [e.1]; exact ih t2 p2 (dBin 6 k0 k2) _ _ _ _ _ _ (by omega) ha2 hp2 (evV_in dBin_in) eg2 ef22 ef23 ef24 hfE hgE hH hA) | (have e := (ev_div (live := live) (br := br) (o := 6) (op := fun x y => Int.tdiv x y) (k0 := k0) (k2 := k2) (φ := φ) hl hb rfl (fun _ _ => rfl) _ _ rfl rfl).1 (by assumption); rw [if_pos (by omega)] at e; rw [e.2] at ef24; rw [e.1]; exact ih t2 p2 (dBin 6 k0 k2) _ _ _ _ _ _ (by omega) ha2 hp2 (evV_in dBin_in) eg2 ef22 ef23 ef24 hfE hgE hH hA) | (have e := (ev_div (live := live) (br := br) (o := 6) (op := fun x y => Int.tdiv x y) (k0 := k0) (k2 := k2) (φ := φ) hl hb rfl (fun _ _ => rfl) _ _ rfl rfl).1 (by assumption); rw [if_neg (by omega)] at e; rw [e.2] at ef24; rw [e.1]; exact ih t2 p2 (dBin 6 k0 k2) _ _ _ _ _ _ (by omega) ha2 hp2 (evV_in dBin_in) eg2 ef22 ef23 ef24 hfE hgE hH hA) | (have e := (ev_div (live := live) (br := br) (o := 7) (op := fun x y => Int.tmod x y) (k0 := k0) (k2 := k2) (φ := φ) hl hb rfl (fun _ _ => rfl) _ _ rfl rfl).2 (by assumption); rw [e.2] at ef24; rw [e.1]; exact ih t2 p2 (dBin 7 k0 k2) _ _ _ _ _ _ (by omega) ha2 hp2 (evV_in dBin_in) eg2 ef22 ef23 ef24 hfE hgE hH hA) | (have e := (ev_div (live := live) (br := br) (o := 7) (op := fun x y => Int.tmod x y) (k0 := k0) (k2 := k2) (φ := φ) hl hb rfl (fun _ _ => rfl) _ _ rfl rfl).1 (by assumption); rw [if_pos (by omega)] at e; rw [e.2] at ef24; rw [e.1]; exact ih t2 p2 (dBin 7 k0 k2) _ _ _ _ _ _ (by omega) ha2 hp2 (evV_in dBin_in) eg2 ef22 ef23 ef24 hfE hgE hH hA) | (have e := (ev_div (live := live) (br := br) (o := 7) (op := fun x y => Int.tmod x y) (k0 := k0) (k2 := k2) (φ := φ) hl hb rfl (fun _ _ => rfl) _ _ rfl rfl).1 (by assumption); rw [if_neg (by omega)] at e; rw [e.2] at ef24; rw [e.1]; exact ih t2 p2 (dBin 7 k0 k2) _ _ _ _ _ _ (by omega) ha2 hp2 (evV_in dBin_in) eg2 ef22 ef23 ef24 hfE hgE hH hA)
              · skip
                refine z_iconst (TX8_termOf_1.at 14 rfl) ?_
                refine z_goto (tgt := 115) (TX8_termOf_1.at 15 rfl) rfl ?_
                refine zm_putZE (TX8_termOf_1.at 17 rfl) fp8_270 hH hA rfl (by decide) (by first | omega | exact b2i_01 _) (fun h f115 e1 e2 hH hA => ?_)
                have ef22 := (e1 22 (by decide)).trans ef22
                have ef23 := (e1 23 (by decide)).trans ef23
                have ef24 := e2
                have hfE := hfE.put e1 (by decide)
                refine z_lconst (v := 1) (by decide) (TX8_termOf_1.at 18 rfl) ?_
                refine z_lst_5 (TX8_termOf_1.at 19 rfl) (Nat.le_of_ble_eq_true rfl) rfl ?_
                refine z_ald_0 (TX8_termOf_1.at 20 rfl) ?_
                refine z_ild_4 (TX8_termOf_1.at 21 rfl) ?_
                refine z_bipush (by decide) (TX8_termOf_1.at 22 rfl) ?_
                refine zs_call1 (s_sign (by omega)) (TX8_termOf_1.at 23 rfl) c8_219 rfl (by omega) (Nat.le_of_ble_eq_true rfl) (fun r126 => ?_)
                refine z_icmp_ne (tgt := 139) (TX8_termOf_1.at 24 rfl) rfl (by omega) (by omega) (fun c29 => ?_) (fun c29 => ?_)
                · skip
                  refine z_ild_4 (TX8_termOf_1.at 29 rfl) ?_
                  refine z_bipush (by decide) (TX8_termOf_1.at 30 rfl) ?_
                  refine zs_call1 (s_sign (by omega)) (TX8_termOf_1.at 31 rfl) c8_219 rfl (by omega) (Nat.le_of_ble_eq_true rfl) (fun r143 => ?_)
                  refine z_icmp_ne (tgt := 156) (TX8_termOf_1.at 32 rfl) rfl (by omega) (by omega) (fun c30 => ?_) (fun c30 => ?_)
                  · skip
                    refine z_lld_2 (TX8_termOf_1.at 37 rfl) ?_
                    refine z_lld_5 (TX8_termOf_1.at 38 rfl) ?_
                    refine z_lrem (by omega) (by omega) (TX8_termOf_1.at 39 rfl) ?_
                    first | rw [zlrem_eq vz (by omega)] | skip
                    refine z_ild_1 (TX8_termOf_2.at 0 rfl) ?_
                    refine zm_callL2 (m_bounded ef24 (by first | exact mul_in vz rz | exact tdiv_in vz | exact tmod_in vz | (exfalso; omega)) hl (by first | exact evB_01 (evB_01 hb) | exact Or.inr rfl | exact Or.inl rfl)) (TX8_termOf_2.at 1 rfl) c8_277 rfl rfl hH hA (by omega) (Nat.le_of_ble_eq_true rfl) (fun x161 f161 g161 j161 h r161 q161 hH hA => ?_)
                    obtain ⟨q161, xf, xg, xj⟩ := q161
                    rw [xj] at hH
                    have ef22 := (xf 22 (by decide)).trans ef22
                    have ef23 := (xf 23 (by decide)).trans ef23
                    have hfE := hfE.trans xf (by decide)
                    have eg2 := (xg 2 (by decide)).trans eg2
                    have hgE := hgE.trans xg (by decide)
                    have qL := q161
                    obtain ⟨rfl, ef24⟩ := qL
                    rw [bd_eq] at r161 ⊢
                    rw [bd_eqB] at ef24
                    refine z_lst_2 (TX8_termOf_2.at 2 rfl) (Nat.le_of_ble_eq_true rfl) rfl ?_
                    refine z_goto (tgt := 6) (TX8_termOf_2.at 3 rfl) rfl ?_
                    first | (exfalso; omega) | (have e := ev_bin (live := live) (br := br) (o := 5) (op := fun x y => x * y) (k0 := k0) (k2 := k2) (φ := φ) hl hb rfl (fun _ _ => rfl); rw [e.2] at ef24; rw [e.1]; exact ih t2 p2 (dBin 5 k0 k2) _ _ _ _ _ _ (by omega) ha2 hp2 (evV_in dBin_in) eg2 ef22 ef23 ef24 hfE hgE hH hA) | (have e := (ev_div (live := live) (br := br) (o := 6) (op := fun x y => Int.tdiv x y) (k0 := k0) (k2 := k2) (φ := φ) hl hb rfl (fun _ _ => rfl) _ _ rfl rfl).2 (by assumption); rw [e.2] at ef24; rw [e.1]; exact ih t2 p2 (dBin 6 k0 k2) _ _ _ _ _ _ (by omega) ha2 hp2 (evV_in dBin_in) eg2 ef22 ef23 ef24 hfE hgE hH hA) | (have e := (ev_div (live := live) (br := br) (o := 6) (op := fun x y => Int.tdiv x y) (k0 := k0) (k2 := k2) (φ := φ) hl hb rfl (fun _ _ => rfl) _ _ rfl rfl).1 (by assumption); rw [if_pos (by omega)] at e; rw [e.2] at ef24; rw [e.1]; exact ih t2 p2 (dBin 6 k0 k2) _ _ _ _ _ _ (by omega) ha2 hp2 (evV_in dBin_in) eg2 ef22 ef23 ef24 hfE hgE hH hA) | (have e := (ev_div (live := live) (br := br) (o := 6) (op := fun x y => Int.tdiv x y) (k0 := k0) (k2 := k2) (φ := φ) hl hb rfl (fun _ _ => rfl) _ _ rfl rfl).1 (by assumption); rw [if_neg (by omega)] at e; rw [e.2] at ef24; rw [e.1]; exact ih t2 p2 (dBin 6 k0 k2) _ _ _ _ _ _ (by omega) ha2 hp2 (evV_in dBin_in) eg2 ef22 ef23 ef24 hfE hgE hH hA) | (have e := (ev_div (live := live) (br := br) (o := 7) (op := fun x y => Int.tmod x y) (k0 := k0) (k2 := k2) (φ := φ) hl hb rfl (fun _ _ => rfl) _ _ rfl rfl).2 (by assumption); rw [e.2] at ef24; rw [e.1]; exact ih t2 p2 (dBin 7 k0 k2) _ _ _ _ _ _ (by omega) ha2 hp2 (evV_in dBin_in) eg2 ef22 ef23 ef24 hfE hgE hH hA) | (have e := (ev_div (live := live) (br := br) (o := 7) (op := fun x y => Int.tmod x y) (k0 := k0) (k2 := k2) (φ := φ) hl hb rfl (fun _ _ => rfl) _ _ rfl rfl).1 (by assumption); rw [if_pos (by omega)] at e; rw [e.2] at ef24; rw [e.1]; exact ih t2 p2 (dBin 7 k0 k2) _ _ _ _ _ _ (by omega) ha2 hp2 (evV_in dBin_in) eg2 ef22 ef23 ef24 hfE hgE hH hA) | (have e := (ev_div (live := live) (br := br) (o := 7) (op := fun x y => Int.tmod x y) (k0 := k0) (k2 := k2) (φ := φ) hl hb rfl (fun _ _ => rfl) _ _ rfl rfl).1 (by assumption); rw [if_neg (by omega)] at e; rw [e.2] at ef24; rw [e.1]; exact ih t2 p2 (dBin 7 k0 k2) _ _ _ _ _ _ (by omega) ha2 hp2 (evV_in dBin_in) eg2 ef22 ef23 ef24 hfE hgE hH hA)
                  · skip
                    refine z_lld_2 (TX8_termOf_1.at 33 rfl) ?_
                    refine z_lld_5 (TX8_termOf_1.at 34 rfl) ?_
                    refine z_ldiv (by omega) (by omega) (TX8_termOf_1.at 35 rfl) ?_
                    rw [zldiv_eq vz (by omega)]
                    refine z_goto (tgt := 160) (TX8_termOf_1.at 36 rfl) rfl ?_
                    first | rw [zlrem_eq vz (by omega)] | skip
                    refine z_ild_1 (TX8_termOf_2.at 0 rfl) ?_
                    refine zm_callL2 (m_bounded ef24 (by first | exact mul_in vz rz | exact tdiv_in vz | exact tmod_in vz | (exfalso; omega)) hl (by first | exact evB_01 (evB_01 hb) | exact Or.inr rfl | exact Or.inl rfl)) (TX8_termOf_2.at 1 rfl) c8_277 rfl rfl hH hA (by omega) (Nat.le_of_ble_eq_true rfl) (fun x161 f161 g161 j161 h r161 q161 hH hA => ?_)
                    obtain ⟨q161, xf, xg, xj⟩ := q161
                    rw [xj] at hH
                    have ef22 := (xf 22 (by decide)).trans ef22
                    have ef23 := (xf 23 (by decide)).trans ef23
                    have hfE := hfE.trans xf (by decide)
                    have eg2 := (xg 2 (by decide)).trans eg2
                    have hgE := hgE.trans xg (by decide)
                    have qL := q161
                    obtain ⟨rfl, ef24⟩ := qL
                    rw [bd_eq] at r161 ⊢
                    rw [bd_eqB] at ef24
                    refine z_lst_2 (TX8_termOf_2.at 2 rfl) (Nat.le_of_ble_eq_true rfl) rfl ?_
                    refine z_goto (tgt := 6) (TX8_termOf_2.at 3 rfl) rfl ?_
                    first | (exfalso; omega) | (have e := ev_bin (live := live) (br := br) (o := 5) (op := fun x y => x * y) (k0 := k0) (k2 := k2) (φ := φ) hl hb rfl (fun _ _ => rfl); rw [e.2] at ef24; rw [e.1]; exact ih t2 p2 (dBin 5 k0 k2) _ _ _ _ _ _ (by omega) ha2 hp2 (evV_in dBin_in) eg2 ef22 ef23 ef24 hfE hgE hH hA) | (have e := (ev_div (live := live) (br := br) (o := 6) (op := fun x y => Int.tdiv x y) (k0 := k0) (k2 := k2) (φ := φ) hl hb rfl (fun _ _ => rfl) _ _ rfl rfl).2 (by assumption); rw [e.2] at ef24; rw [e.1]; exact ih t2 p2 (dBin 6 k0 k2) _ _ _ _ _ _ (by omega) ha2 hp2 (evV_in dBin_in) eg2 ef22 ef23 ef24 hfE hgE hH hA) | (have e := (ev_div (live := live) (br := br) (o := 6) (op := fun x y => Int.tdiv x y) (k0 := k0) (k2 := k2) (φ := φ) hl hb rfl (fun _ _ => rfl) _ _ rfl rfl).1 (by assumption); rw [if_pos (by omega)] at e; rw [e.2] at ef24; rw [e.1]; exact ih t2 p2 (dBin 6 k0 k2) _ _ _ _ _ _ (by omega) ha2 hp2 (evV_in dBin_in) eg2 ef22 ef23 ef24 hfE hgE hH hA) | (have e := (ev_div (live := live) (br := br) (o := 6) (op := fun x y => Int.tdiv x y) (k0 := k0) (k2 := k2) (φ := φ) hl hb rfl (fun _ _ => rfl) _ _ rfl rfl).1 (by assumption); rw [if_neg (by omega)] at e; rw [e.2] at ef24; rw [e.1]; exact ih t2 p2 (dBin 6 k0 k2) _ _ _ _ _ _ (by omega) ha2 hp2 (evV_in dBin_in) eg2 ef22 ef23 ef24 hfE hgE hH hA) | (have e := (ev_div (live := live) (br := br) (o := 7) (op := fun x y => Int.tmod x y) (k0 := k0) (k2 := k2) (φ := φ) hl hb rfl (fun _ _ => rfl) _ _ rfl rfl).2 (by assumption); rw [e.2] at ef24; rw [e.1]; exact ih t2 p2 (dBin 7 k0 k2) _ _ _ _ _ _ (by omega) ha2 hp2 (evV_in dBin_in) eg2 ef22 ef23 ef24 hfE hgE hH hA) | (have e := (ev_div (live := live) (br := br) (o := 7) (op := fun x y => Int.tmod x y) (k0 := k0) (k2 := k2) (φ := φ) hl hb rfl (fun _ _ => rfl) _ _ rfl rfl).1 (by assumption); rw [if_pos (by omega)] at e; rw [e.2] at ef24; rw [e.1]; exact ih t2 p2 (dBin 7 k0 k2) _ _ _ _ _ _ (by omega) ha2 hp2 (evV_in dBin_in) eg2 ef22 ef23 ef24 hfE hgE hH hA) | (have e := (ev_div (live := live) (br := br) (o := 7) (op := fun x y => Int.tmod x y) (k0 := k0) (k2 := k2) (φ := φ) hl hb rfl (fun _ _ => rfl) _ _ rfl rfl).1 (by assumption); rw [if_neg (by omega)] at e; rw [e.2] at ef24; rw [e.1]; exact ih t2 p2 (dBin 7 k0 k2) _ _ _ _ _ _ (by omega) ha2 hp2 (evV_in dBin_in) eg2 ef22 ef23 ef24 hfE hgE hH hA)
                · skip
                  refine z_lld_2 (TX8_termOf_1.at 25 rfl) ?_
                  refine z_lld_5 (TX8_termOf_1.at 26 rfl) ?_
                  refine z_lmul (TX8_termOf_1.at 27 rfl) ?_
                  refine z_goto (tgt := 160) (TX8_termOf_1.at 28 rfl) rfl ?_
                  first | rw [zlrem_eq vz (by omega)] | skip
                  refine z_ild_1 (TX8_termOf_2.at 0 rfl) ?_
                  refine zm_callL2 (m_bounded ef24 (by first | exact mul_in vz rz | exact tdiv_in vz | exact tmod_in vz | (exfalso; omega)) hl (by first | exact evB_01 (evB_01 hb) | exact Or.inr rfl | exact Or.inl rfl)) (TX8_termOf_2.at 1 rfl) c8_277 rfl rfl hH hA (by omega) (Nat.le_of_ble_eq_true rfl) (fun x161 f161 g161 j161 h r161 q161 hH hA => ?_)
                  obtain ⟨q161, xf, xg, xj⟩ := q161
                  rw [xj] at hH
                  have ef22 := (xf 22 (by decide)).trans ef22
                  have ef23 := (xf 23 (by decide)).trans ef23
                  have hfE := hfE.trans xf (by decide)
                  have eg2 := (xg 2 (by decide)).trans eg2
                  have hgE := hgE.trans xg (by decide)
                  have qL := q161
                  obtain ⟨rfl, ef24⟩ := qL
                  rw [bd_eq] at r161 ⊢
                  rw [bd_eqB] at ef24
                  refine z_lst_2 (TX8_termOf_2.at 2 rfl) (Nat.le_of_ble_eq_true rfl) rfl ?_
                  refine z_goto (tgt := 6) (TX8_termOf_2.at 3 rfl) rfl ?_
                  first | (exfalso; omega) | (have e := ev_bin (live := live) (br := br) (o := 5) (op := fun x y => x * y) (k0 := k0) (k2 := k2) (φ := φ) hl hb rfl (fun _ _ => rfl); rw [e.2] at ef24; rw [e.1]; exact ih t2 p2 (dBin 5 k0 k2) _ _ _ _ _ _ (by omega) ha2 hp2 (evV_in dBin_in) eg2 ef22 ef23 ef24 hfE hgE hH hA) | (have e := (ev_div (live := live) (br := br) (o := 6) (op := fun x y => Int.tdiv x y) (k0 := k0) (k2 := k2) (φ := φ) hl hb rfl (fun _ _ => rfl) _ _ rfl rfl).2 (by assumption); rw [e.2] at ef24; rw [e.1]; exact ih t2 p2 (dBin 6 k0 k2) _ _ _ _ _ _ (by omega) ha2 hp2 (evV_in dBin_in) eg2 ef22 ef23 ef24 hfE hgE hH hA) | (have e := (ev_div (live := live) (br := br) (o := 6) (op := fun x y => Int.tdiv x y) (k0 := k0) (k2 := k2) (φ := φ) hl hb rfl (fun _ _ => rfl) _ _ rfl rfl).1 (by assumption); rw [if_pos (by omega)] at e; rw [e.2] at ef24; rw [e.1]; exact ih t2 p2 (dBin 6 k0 k2) _ _ _ _ _ _ (by omega) ha2 hp2 (evV_in dBin_in) eg2 ef22 ef23 ef24 hfE hgE hH hA) | (have e := (ev_div (live := live) (br := br) (o := 6) (op := fun x y => Int.tdiv x y) (k0 := k0) (k2 := k2) (φ := φ) hl hb rfl (fun _ _ => rfl) _ _ rfl rfl).1 (by assumption); rw [if_neg (by omega)] at e; rw [e.2] at ef24; rw [e.1]; exact ih t2 p2 (dBin 6 k0 k2) _ _ _ _ _ _ (by omega) ha2 hp2 (evV_in dBin_in) eg2 ef22 ef23 ef24 hfE hgE hH hA) | (have e := (ev_div (live := live) (br := br) (o := 7) (op := fun x y => Int.tmod x y) (k0 := k0) (k2 := k2) (φ := φ) hl hb rfl (fun _ _ => rfl) _ _ rfl rfl).2 (by assumption); rw [e.2] at ef24; rw [e.1]; exact ih t2 p2 (dBin 7 k0 k2) _ _ _ _ _ _ (by omega) ha2 hp2 (evV_in dBin_in) eg2 ef22 ef23 ef24 hfE hgE hH hA) | (have e := (ev_div (live := live) (br := br) (o := 7) (op := fun x y => Int.tmod x y) (k0 := k0) (k2 := k2) (φ := φ) hl hb rfl (fun _ _ => rfl) _ _ rfl rfl).1 (by assumption); rw [if_pos (by omega)] at e; rw [e.2] at ef24; rw [e.1]; exact ih t2 p2 (dBin 7 k0 k2) _ _ _ _ _ _ (by omega) ha2 hp2 (evV_in dBin_in) eg2 ef22 ef23 ef24 hfE hgE hH hA) | (have e := (ev_div (live := live) (br := br) (o := 7) (op := fun x y => Int.tmod x y) (k0 := k0) (k2 := k2) (φ := φ) hl hb rfl (fun _ _ => rfl) _ _ rfl rfl).1 (by assumption); rw [if_neg (by omega)] at e; rw [e.2] at ef24; rw [e.1]; exact ih t2 p2 (dBin 7 k0 k2) _ _ _ _ _ _ (by omega) ha2 hp2 (evV_in dBin_in) eg2 ef22 ef23 ef24 hfE hgE hH hA)
      · skip
        refine z_ald_0 (TX8_termOf_0.at 18 rfl) ?_
        refine z_ald_0 (TX8_termOf_0.at 19 rfl) ?_
        refine zm_getIE ef22 (TX8_termOf_0.at 20 rfl) fl8_260 hH rfl (by decide) (fun r40 => ?_)
        refine zm_callI1 (m_codeAt eg2 ef23 (by omega) (by omega) (by omega)) (TX8_termOf_0.at 21 rfl) c8_263 rfl rfl hH hA (by omega) (Nat.le_of_ble_eq_true rfl) (fun x43 f43 g43 j43 h r43 q43 hH hA => ?_)
        obtain ⟨q43, xf, xg, xj⟩ := q43
        rw [xj] at hH
        have ef22 := (xf 22 (by decide)).trans ef22
        have ef23 := (xf 23 (by decide)).trans ef23
        have ef24 := (xf 24 (by decide)).trans ef24
        have hfE := hfE.trans xf (by decide)
        have eg2 := (xg 2 (by decide)).trans eg2
        have hgE := hgE.trans xg (by decide)
        have qL := q43
        obtain rfl := qL
        rw [cK_at] at r43 ⊢
        refine z_bipush (by decide) (TX8_termOf_0.at 22 rfl) ?_
        refine zs_call1 (s_sign (by omega)) (TX8_termOf_0.at 23 rfl) c8_219 rfl (by omega) (Nat.le_of_ble_eq_true rfl) (fun r48 => ?_)
        refine z_icmp_ne (tgt := 168) (TX8_termOf_0.at 24 rfl) rfl (by omega) (by omega) (fun c31 => ?_) (fun c31 => ?_)
        · skip
          obtain ⟨rfl, rfl⟩ := ploop_end hp (show mulOp (cK K b nt t) = none by unfold mulOp; rw [if_neg (by omega), if_neg (by omega), if_neg (by omega)])
          exact kx _ _ _ _ _ _ ef22 ef24 vz hfE hgE hH hA
        · skip
          have hc : cK K b nt t = 137 := by omega
          obtain ⟨t2, p2, k2, hpi, hp2⟩ := ploop_step hp (show mulOp (cK K b nt t) = some 7 by rw [hc]; rfl)
          have tn1 := cK_nz (K := K) (b := b) (nt := nt) t (by omega)
          have ha : advR (cK K b nt) (t + 1) (.ok (t2, p2, k2)) := hpi ▸ hAdv (t + 1) p
          have ha1 : t + 1 < t2 := ha.1
          have ha2 := adv_le (nt := nt) cK_nz ha.1 ha.2
          refine z_ald_0 (TX8_termOf_0.at 25 rfl) ?_
          refine z_ald_0 (TX8_termOf_0.at 26 rfl) ?_
          refine zm_getIE ef22 (TX8_termOf_0.at 27 rfl) fl8_260 hH rfl (by decide) (fun r56 => ?_)
          refine zm_callI1 (m_codeAt eg2 ef23 (by omega) (by omega) (by omega)) (TX8_termOf_0.at 28 rfl) c8_263 rfl rfl hH hA (by omega) (Nat.le_of_ble_eq_true rfl) (fun x59 f59 g59 j59 h r59 q59 hH hA => ?_)
          obtain ⟨q59, xf, xg, xj⟩ := q59
          rw [xj] at hH
          have ef22 := (xf 22 (by decide)).trans ef22
          have ef23 := (xf 23 (by decide)).trans ef23
          have ef24 := (xf 24 (by decide)).trans ef24
          have hfE := hfE.trans xf (by decide)
          have eg2 := (xg 2 (by decide)).trans eg2
          have hgE := hgE.trans xg (by decide)
          have qL := q59
          obtain rfl := qL
          rw [cK_at, hc] at r59 ⊢
          refine z_ist_4 (TX8_termOf_0.at 29 rfl) (Nat.le_of_ble_eq_true rfl) rfl ?_
          refine z_ald_0 (TX8_termOf_0.at 30 rfl) ?_
          refine z_dup rfl (TX8_termOf_0.at 31 rfl) ?_
          refine zm_getIE ef22 (TX8_termOf_0.at 32 rfl) fl8_260 hH rfl (by decide) (fun r66 => ?_)
          refine z_iconst (TX8_termOf_0.at 33 rfl) ?_
          refine z_iadd (TX8_termOf_0.at 34 rfl) ?_
          refine zm_putIE (TX8_termOf_0.at 35 rfl) fp8_260 hH hA rfl (by decide) (by first | omega | exact b2i_01 _) (fun h f71 e1 e2 hH hA => ?_)
          have ef22 := e2
          have ef23 := (e1 23 (by decide)).trans ef23
          have ef24 := (e1 24 (by decide)).trans ef24
          have hfE := hfE.put e1 (by decide)
          refine z_ald_0 (TX8_termOf_0.at 36 rfl) ?_
          refine z_ild_1 (TX8_termOf_0.at 37 rfl) ?_
          refine zm_callL1 (hitem live _ (t + 1) p t2 p2 k2 _ _ _ hl (evB_01 hb) eg2 (by rw [ef22]; push_cast; omega) ef23 ef24 (hFo0.keep hfE hgE) (by push_cast; omega) hpi) (TX8_termOf_0.at 38 rfl) c8_281 rfl rfl hH hA (by omega) (Nat.le_of_ble_eq_true rfl) (fun x76 f76 g76 j76 h r76 q76 hH hA => ?_)
          obtain ⟨q76, xf, xg, xj⟩ := q76
          rw [xj] at hH
          have ef23 := (xf 23 (by decide)).trans ef23
          have hfE := hfE.trans xf (by decide)
          have eg2 := (xg 2 (by decide)).trans eg2
          have hgE := hgE.trans xg (by decide)
          have qL := q76
          obtain ⟨rfl, ef24, ef22, rz⟩ := qL
          refine z_lst_5 (TX8_termOf_0.at 39 rfl) (Nat.le_of_ble_eq_true rfl) rfl ?_
          refine z_ild_4 (TX8_termOf_1.at 0 rfl) ?_
          refine z_bipush (by decide) (TX8_termOf_1.at 1 rfl) ?_
          refine zs_call1 (s_sign (by omega)) (TX8_termOf_1.at 2 rfl) c8_219 rfl (by omega) (Nat.le_of_ble_eq_true rfl) (fun r85 => ?_)
          refine z_icmp_eq (tgt := 121) (TX8_termOf_1.at 3 rfl) rfl (by omega) (by omega) (fun c32 => ?_) (fun c32 => ?_)
          · skip
            refine z_ald_0 (TX8_termOf_1.at 20 rfl) ?_
            refine z_ild_4 (TX8_termOf_1.at 21 rfl) ?_
            refine z_bipush (by decide) (TX8_termOf_1.at 22 rfl) ?_
            refine zs_call1 (s_sign (by omega)) (TX8_termOf_1.at 23 rfl) c8_219 rfl (by omega) (Nat.le_of_ble_eq_true rfl) (fun r126 => ?_)
            refine z_icmp_ne (tgt := 139) (TX8_termOf_1.at 24 rfl) rfl (by omega) (by omega) (fun c33 => ?_) (fun c33 => ?_)
            · skip
              refine z_ild_4 (TX8_termOf_1.at 29 rfl) ?_
              refine z_bipush (by decide) (TX8_termOf_1.at 30 rfl) ?_
              refine zs_call1 (s_sign (by omega)) (TX8_termOf_1.at 31 rfl) c8_219 rfl (by omega) (Nat.le_of_ble_eq_true rfl) (fun r143 => ?_)
              refine z_icmp_ne (tgt := 156) (TX8_termOf_1.at 32 rfl) rfl (by omega) (by omega) (fun c34 => ?_) (fun c34 => ?_)
              · skip
                refine z_lld_2 (TX8_termOf_1.at 37 rfl) ?_
                refine z_lld_5 (TX8_termOf_1.at 38 rfl) ?_
                refine z_lrem (by omega) (by omega) (TX8_termOf_1.at 39 rfl) ?_
                first | rw [zlrem_eq vz (by omega)] | skip
                refine z_ild_1 (TX8_termOf_2.at 0 rfl) ?_
                refine zm_callL2 (m_bounded ef24 (by first | exact mul_in vz rz | exact tdiv_in vz | exact tmod_in vz | (exfalso; omega)) hl (by first | exact evB_01 (evB_01 hb) | exact Or.inr rfl | exact Or.inl rfl)) (TX8_termOf_2.at 1 rfl) c8_277 rfl rfl hH hA (by omega) (Nat.le_of_ble_eq_true rfl) (fun x161 f161 g161 j161 h r161 q161 hH hA => ?_)
                obtain ⟨q161, xf, xg, xj⟩ := q161
                rw [xj] at hH
                have ef22 := (xf 22 (by decide)).trans ef22
                have ef23 := (xf 23 (by decide)).trans ef23
                have hfE := hfE.trans xf (by decide)
                have eg2 := (xg 2 (by decide)).trans eg2
                have hgE := hgE.trans xg (by decide)
                have qL := q161
                obtain ⟨rfl, ef24⟩ := qL
                rw [bd_eq] at r161 ⊢
                rw [bd_eqB] at ef24
                refine z_lst_2 (TX8_termOf_2.at 2 rfl) (Nat.le_of_ble_eq_true rfl) rfl ?_
                refine z_goto (tgt := 6) (TX8_termOf_2.at 3 rfl) rfl ?_
                first | (exfalso; omega) | (have e := ev_bin (live := live) (br := br) (o := 5) (op := fun x y => x * y) (k0 := k0) (k2 := k2) (φ := φ) hl hb rfl (fun _ _ => rfl); rw [e.2] at ef24; rw [e.1]; exact ih t2 p2 (dBin 5 k0 k2) _ _ _ _ _ _ (by omega) ha2 hp2 (evV_in dBin_in) eg2 ef22 ef23 ef24 hfE hgE hH hA) | (have e := (ev_div (live := live) (br := br) (o := 6) (op := fun x y => Int.tdiv x y) (k0 := k0) (k2 := k2) (φ := φ) hl hb rfl (fun _ _ => rfl) _ _ rfl rfl).2 (by assumption); rw [e.2] at ef24; rw [e.1]; exact ih t2 p2 (dBin 6 k0 k2) _ _ _ _ _ _ (by omega) ha2 hp2 (evV_in dBin_in) eg2 ef22 ef23 ef24 hfE hgE hH hA) | (have e := (ev_div (live := live) (br := br) (o := 6) (op := fun x y => Int.tdiv x y) (k0 := k0) (k2 := k2) (φ := φ) hl hb rfl (fun _ _ => rfl) _ _ rfl rfl).1 (by assumption); rw [if_pos (by omega)] at e; rw [e.2] at ef24; rw [e.1]; exact ih t2 p2 (dBin 6 k0 k2) _ _ _ _ _ _ (by omega) ha2 hp2 (evV_in dBin_in) eg2 ef22 ef23 ef24 hfE hgE hH hA) | (have e := (ev_div (live := live) (br := br) (o := 6) (op := fun x y => Int.tdiv x y) (k0 := k0) (k2 := k2) (φ := φ) hl hb rfl (fun _ _ => rfl) _ _ rfl rfl).1 (by assumption); rw [if_neg (by omega)] at e; rw [e.2] at ef24; rw [e.1]; exact ih t2 p2 (dBin 6 k0 k2) _ _ _ _ _ _ (by omega) ha2 hp2 (evV_in dBin_in) eg2 ef22 ef23 ef24 hfE hgE hH hA) | (have e := (ev_div (live := live) (br := br) (o := 7) (op := fun x y => Int.tmod x y) (k0 := k0) (k2 := k2) (φ := φ) hl hb rfl (fun _ _ => rfl) _ _ rfl rfl).2 (by assumption); rw [e.2] at ef24; rw [e.1]; exact ih t2 p2 (dBin 7 k0 k2) _ _ _ _ _ _ (by omega) ha2 hp2 (evV_in dBin_in) eg2 ef22 ef23 ef24 hfE hgE hH hA) | (have e := (ev_div (live := live) (br := br) (o := 7) (op := fun x y => Int.tmod x y) (k0 := k0) (k2 := k2) (φ := φ) hl hb rfl (fun _ _ => rfl) _ _ rfl rfl).1 (by assumption); rw [if_pos (by omega)] at e; rw [e.2] at ef24; rw [e.1]; exact ih t2 p2 (dBin 7 k0 k2) _ _ _ _ _ _ (by omega) ha2 hp2 (evV_in dBin_in) eg2 ef22 ef23 ef24 hfE hgE hH hA) | (have e := (ev_div (live := live) (br := br) (o := 7) (op := fun x y => Int.tmod x y) (k0 := k0) (k2 := k2) (φ := φ) hl hb rfl (fun _ _ => rfl) _ _ rfl rfl).1 (by assumption); rw [if_neg (by omega)] at e; rw [e.2] at ef24; rw [e.1]; exact ih t2 p2 (dBin 7 k0 k2) _ _ _ _ _ _ (by omega) ha2 hp2 (evV_in dBin_in) eg2 ef22 ef23 ef24 hfE hgE hH hA)
              · skip
                refine z_lld_2 (TX8_termOf_1.at 33 rfl) ?_
                refine z_lld_5 (TX8_termOf_1.at 34 rfl) ?_
                refine z_ldiv (by omega) (by omega) (TX8_termOf_1.at 35 rfl) ?_
                rw [zldiv_eq vz (by omega)]
                refine z_goto (tgt := 160) (TX8_termOf_1.at 36 rfl) rfl ?_
                first | rw [zlrem_eq vz (by omega)] | skip
                refine z_ild_1 (TX8_termOf_2.at 0 rfl) ?_
                refine zm_callL2 (m_bounded ef24 (by first | exact mul_in vz rz | exact tdiv_in vz | exact tmod_in vz | (exfalso; omega)) hl (by first | exact evB_01 (evB_01 hb) | exact Or.inr rfl | exact Or.inl rfl)) (TX8_termOf_2.at 1 rfl) c8_277 rfl rfl hH hA (by omega) (Nat.le_of_ble_eq_true rfl) (fun x161 f161 g161 j161 h r161 q161 hH hA => ?_)
                obtain ⟨q161, xf, xg, xj⟩ := q161
                rw [xj] at hH
                have ef22 := (xf 22 (by decide)).trans ef22
                have ef23 := (xf 23 (by decide)).trans ef23
                have hfE := hfE.trans xf (by decide)
                have eg2 := (xg 2 (by decide)).trans eg2
                have hgE := hgE.trans xg (by decide)
                have qL := q161
                obtain ⟨rfl, ef24⟩ := qL
                rw [bd_eq] at r161 ⊢
                rw [bd_eqB] at ef24
                refine z_lst_2 (TX8_termOf_2.at 2 rfl) (Nat.le_of_ble_eq_true rfl) rfl ?_
                refine z_goto (tgt := 6) (TX8_termOf_2.at 3 rfl) rfl ?_
                first | (exfalso; omega) | (have e := ev_bin (live := live) (br := br) (o := 5) (op := fun x y => x * y) (k0 := k0) (k2 := k2) (φ := φ) hl hb rfl (fun _ _ => rfl); rw [e.2] at ef24; rw [e.1]; exact ih t2 p2 (dBin 5 k0 k2) _ _ _ _ _ _ (by omega) ha2 hp2 (evV_in dBin_in) eg2 ef22 ef23 ef24 hfE hgE hH hA) | (have e := (ev_div (live := live) (br := br) (o := 6) (op := fun x y => Int.tdiv x y) (k0 := k0) (k2 := k2) (φ := φ) hl hb rfl (fun _ _ => rfl) _ _ rfl rfl).2 (by assumption); rw [e.2] at ef24; rw [e.1]; exact ih t2 p2 (dBin 6 k0 k2) _ _ _ _ _ _ (by omega) ha2 hp2 (evV_in dBin_in) eg2 ef22 ef23 ef24 hfE hgE hH hA) | (have e := (ev_div (live := live) (br := br) (o := 6) (op := fun x y => Int.tdiv x y) (k0 := k0) (k2 := k2) (φ := φ) hl hb rfl (fun _ _ => rfl) _ _ rfl rfl).1 (by assumption); rw [if_pos (by omega)] at e; rw [e.2] at ef24; rw [e.1]; exact ih t2 p2 (dBin 6 k0 k2) _ _ _ _ _ _ (by omega) ha2 hp2 (evV_in dBin_in) eg2 ef22 ef23 ef24 hfE hgE hH hA) | (have e := (ev_div (live := live) (br := br) (o := 6) (op := fun x y => Int.tdiv x y) (k0 := k0) (k2 := k2) (φ := φ) hl hb rfl (fun _ _ => rfl) _ _ rfl rfl).1 (by assumption); rw [if_neg (by omega)] at e; rw [e.2] at ef24; rw [e.1]; exact ih t2 p2 (dBin 6 k0 k2) _ _ _ _ _ _ (by omega) ha2 hp2 (evV_in dBin_in) eg2 ef22 ef23 ef24 hfE hgE hH hA) | (have e := (ev_div (live := live) (br := br) (o := 7) (op := fun x y => Int.tmod x y) (k0 := k0) (k2 := k2) (φ := φ) hl hb rfl (fun _ _ => rfl) _ _ rfl rfl).2 (by assumption); rw [e.2] at ef24; rw [e.1]; exact ih t2 p2 (dBin 7 k0 k2) _ _ _ _ _ _ (by omega) ha2 hp2 (evV_in dBin_in) eg2 ef22 ef23 ef24 hfE hgE hH hA) | (have e := (ev_div (live := live) (br := br) (o := 7) (op := fun x y => Int.tmod x y) (k0 := k0) (k2 := k2) (φ := φ) hl hb rfl (fun _ _ => rfl) _ _ rfl rfl).1 (by assumption); rw [if_pos (by omega)] at e; rw [e.2] at ef24; rw [e.1]; exact ih t2 p2 (dBin 7 k0 k2) _ _ _ _ _ _ (by omega) ha2 hp2 (evV_in dBin_in) eg2 ef22 ef23 ef24 hfE hgE hH hA) | (have e := (ev_div (live := live) (br := br) (o := 7) (op := fun x y => Int.tmod x y) (k0 := k0) (k2 := k2) (φ := φ) hl hb rfl (fun _ _ => rfl) _ _ rfl rfl).1 (by assumption); rw [if_neg (by omega)] at e; rw [e.2] at ef24; rw [e.1]; exact ih t2 p2 (dBin 7 k0 k2) _ _ _ _ _ _ (by omega) ha2 hp2 (evV_in dBin_in) eg2 ef22 ef23 ef24 hfE hgE hH hA)
            · skip
              refine z_lld_2 (TX8_termOf_1.at 25 rfl) ?_
              refine z_lld_5 (TX8_termOf_1.at 26 rfl) ?_
              refine z_lmul (TX8_termOf_1.at 27 rfl) ?_
              refine z_goto (tgt := 160) (TX8_termOf_1.at 28 rfl) rfl ?_
              first | rw [zlrem_eq vz (by omega)] | skip
              refine z_ild_1 (TX8_termOf_2.at 0 rfl) ?_
              refine zm_callL2 (m_bounded ef24 (by first | exact mul_in vz rz | exact tdiv_in vz | exact tmod_in vz | (exfalso; omega)) hl (by first | exact evB_01 (evB_01 hb) | exact Or.inr rfl | exact Or.inl rfl)) (TX8_termOf_2.at 1 rfl) c8_277 rfl rfl hH hA (by omega) (Nat.le_of_ble_eq_true rfl) (fun x161 f161 g161 j161 h r161 q161 hH hA => ?_)
              obtain ⟨q161, xf, xg, xj⟩ := q161
              rw [xj] at hH
              have ef22 := (xf 22 (by decide)).trans ef22
              have ef23 := (xf 23 (by decide)).trans ef23
              have hfE := hfE.trans xf (by decide)
              have eg2 := (xg 2 (by decide)).trans eg2
              have hgE := hgE.trans xg (by decide)
              have qL := q161
              obtain ⟨rfl, ef24⟩ := qL
              rw [bd_eq] at r161 ⊢
              rw [bd_eqB] at ef24
              refine z_lst_2 (TX8_termOf_2.at 2 rfl) (Nat.le_of_ble_eq_true rfl) rfl ?_
              refine z_goto (tgt := 6) (TX8_termOf_2.at 3 rfl) rfl ?_
              first | (exfalso; omega) | (have e := ev_bin (live := live) (br := br) (o := 5) (op := fun x y => x * y) (k0 := k0) (k2 := k2) (φ := φ) hl hb rfl (fun _ _ => rfl); rw [e.2] at ef24; rw [e.1]; exact ih t2 p2 (dBin 5 k0 k2) _ _ _ _ _ _ (by omega) ha2 hp2 (evV_in dBin_in) eg2 ef22 ef23 ef24 hfE hgE hH hA) | (have e := (ev_div (live := live) (br := br) (o := 6) (op := fun x y => Int.tdiv x y) (k0 := k0) (k2 := k2) (φ := φ) hl hb rfl (fun _ _ => rfl) _ _ rfl rfl).2 (by assumption); rw [e.2] at ef24; rw [e.1]; exact ih t2 p2 (dBin 6 k0 k2) _ _ _ _ _ _ (by omega) ha2 hp2 (evV_in dBin_in) eg2 ef22 ef23 ef24 hfE hgE hH hA) | (have e := (ev_div (live := live) (br := br) (o := 6) (op := fun x y => Int.tdiv x y) (k0 := k0) (k2 := k2) (φ := φ) hl hb rfl (fun _ _ => rfl) _ _ rfl rfl).1 (by assumption); rw [if_pos (by omega)] at e; rw [e.2] at ef24; rw [e.1]; exact ih t2 p2 (dBin 6 k0 k2) _ _ _ _ _ _ (by omega) ha2 hp2 (evV_in dBin_in) eg2 ef22 ef23 ef24 hfE hgE hH hA) | (have e := (ev_div (live := live) (br := br) (o := 6) (op := fun x y => Int.tdiv x y) (k0 := k0) (k2 := k2) (φ := φ) hl hb rfl (fun _ _ => rfl) _ _ rfl rfl).1 (by assumption); rw [if_neg (by omega)] at e; rw [e.2] at ef24; rw [e.1]; exact ih t2 p2 (dBin 6 k0 k2) _ _ _ _ _ _ (by omega) ha2 hp2 (evV_in dBin_in) eg2 ef22 ef23 ef24 hfE hgE hH hA) | (have e := (ev_div (live := live) (br := br) (o := 7) (op := fun x y => Int.tmod x y) (k0 := k0) (k2 := k2) (φ := φ) hl hb rfl (fun _ _ => rfl) _ _ rfl rfl).2 (by assumption); rw [e.2] at ef24; rw [e.1]; exact ih t2 p2 (dBin 7 k0 k2) _ _ _ _ _ _ (by omega) ha2 hp2 (evV_in dBin_in) eg2 ef22 ef23 ef24 hfE hgE hH hA) | (have e := (ev_div (live := live) (br := br) (o := 7) (op := fun x y => Int.tmod x y) (k0 := k0) (k2 := k2) (φ := φ) hl hb rfl (fun _ _ => rfl) _ _ rfl rfl).1 (by assumption); rw [if_pos (by omega)] at e; rw [e.2] at ef24; rw [e.1]; exact ih t2 p2 (dBin 7 k0 k2) _ _ _ _ _ _ (by omega) ha2 hp2 (evV_in dBin_in) eg2 ef22 ef23 ef24 hfE hgE hH hA) | (have e := (ev_div (live := live) (br := br) (o := 7) (op := fun x y => Int.tmod x y) (k0 := k0) (k2 := k2) (φ := φ) hl hb rfl (fun _ _ => rfl) _ _ rfl rfl).1 (by assumption); rw [if_neg (by omega)] at e; rw [e.2] at ef24; rw [e.1]; exact ih t2 p2 (dBin 7 k0 k2) _ _ _ _ _ _ (by omega) ha2 hp2 (evV_in dBin_in) eg2 ef22 ef23 ef24 hfE hgE hH hA)
          · skip
            refine z_lld_5 (TX8_termOf_1.at 4 rfl) ?_
            refine z_lconst (v := 0) (by decide) (TX8_termOf_1.at 5 rfl) ?_
            refine z_lif_ne (tgt := 121) (TX8_termOf_1.at 6 rfl) (TX8_termOf_1.at 7 rfl) rfl (by omega) (by omega) (fun c35 => ?_) (fun c35 => ?_)
            · skip
              refine z_ald_0 (TX8_termOf_1.at 20 rfl) ?_
              refine z_ild_4 (TX8_termOf_1.at 21 rfl) ?_
              refine z_bipush (by decide) (TX8_termOf_1.at 22 rfl) ?_
              refine zs_call1 (s_sign (by omega)) (TX8_termOf_1.at 23 rfl) c8_219 rfl (by omega) (Nat.le_of_ble_eq_true rfl) (fun r126 => ?_)
              refine z_icmp_ne (tgt := 139) (TX8_termOf_1.at 24 rfl) rfl (by omega) (by omega) (fun c36 => ?_) (fun c36 => ?_)
              · skip
                refine z_ild_4 (TX8_termOf_1.at 29 rfl) ?_
                refine z_bipush (by decide) (TX8_termOf_1.at 30 rfl) ?_
                refine zs_call1 (s_sign (by omega)) (TX8_termOf_1.at 31 rfl) c8_219 rfl (by omega) (Nat.le_of_ble_eq_true rfl) (fun r143 => ?_)
                refine z_icmp_ne (tgt := 156) (TX8_termOf_1.at 32 rfl) rfl (by omega) (by omega) (fun c37 => ?_) (fun c37 => ?_)
                · skip
                  refine z_lld_2 (TX8_termOf_1.at 37 rfl) ?_
                  refine z_lld_5 (TX8_termOf_1.at 38 rfl) ?_
                  refine z_lrem (by omega) (by omega) (TX8_termOf_1.at 39 rfl) ?_
                  first | rw [zlrem_eq vz (by omega)] | skip
                  refine z_ild_1 (TX8_termOf_2.at 0 rfl) ?_
                  refine zm_callL2 (m_bounded ef24 (by first | exact mul_in vz rz | exact tdiv_in vz | exact tmod_in vz | (exfalso; omega)) hl (by first | exact evB_01 (evB_01 hb) | exact Or.inr rfl | exact Or.inl rfl)) (TX8_termOf_2.at 1 rfl) c8_277 rfl rfl hH hA (by omega) (Nat.le_of_ble_eq_true rfl) (fun x161 f161 g161 j161 h r161 q161 hH hA => ?_)
                  obtain ⟨q161, xf, xg, xj⟩ := q161
                  rw [xj] at hH
                  have ef22 := (xf 22 (by decide)).trans ef22
                  have ef23 := (xf 23 (by decide)).trans ef23
                  have hfE := hfE.trans xf (by decide)
                  have eg2 := (xg 2 (by decide)).trans eg2
                  have hgE := hgE.trans xg (by decide)
                  have qL := q161
                  obtain ⟨rfl, ef24⟩ := qL
                  rw [bd_eq] at r161 ⊢
                  rw [bd_eqB] at ef24
                  refine z_lst_2 (TX8_termOf_2.at 2 rfl) (Nat.le_of_ble_eq_true rfl) rfl ?_
                  refine z_goto (tgt := 6) (TX8_termOf_2.at 3 rfl) rfl ?_
                  first | (exfalso; omega) | (have e := ev_bin (live := live) (br := br) (o := 5) (op := fun x y => x * y) (k0 := k0) (k2 := k2) (φ := φ) hl hb rfl (fun _ _ => rfl); rw [e.2] at ef24; rw [e.1]; exact ih t2 p2 (dBin 5 k0 k2) _ _ _ _ _ _ (by omega) ha2 hp2 (evV_in dBin_in) eg2 ef22 ef23 ef24 hfE hgE hH hA) | (have e := (ev_div (live := live) (br := br) (o := 6) (op := fun x y => Int.tdiv x y) (k0 := k0) (k2 := k2) (φ := φ) hl hb rfl (fun _ _ => rfl) _ _ rfl rfl).2 (by assumption); rw [e.2] at ef24; rw [e.1]; exact ih t2 p2 (dBin 6 k0 k2) _ _ _ _ _ _ (by omega) ha2 hp2 (evV_in dBin_in) eg2 ef22 ef23 ef24 hfE hgE hH hA) | (have e := (ev_div (live := live) (br := br) (o := 6) (op := fun x y => Int.tdiv x y) (k0 := k0) (k2 := k2) (φ := φ) hl hb rfl (fun _ _ => rfl) _ _ rfl rfl).1 (by assumption); rw [if_pos (by omega)] at e; rw [e.2] at ef24; rw [e.1]; exact ih t2 p2 (dBin 6 k0 k2) _ _ _ _ _ _ (by omega) ha2 hp2 (evV_in dBin_in) eg2 ef22 ef23 ef24 hfE hgE hH hA) | (have e := (ev_div (live := live) (br := br) (o := 6) (op := fun x y => Int.tdiv x y) (k0 := k0) (k2 := k2) (φ := φ) hl hb rfl (fun _ _ => rfl) _ _ rfl rfl).1 (by assumption); rw [if_neg (by omega)] at e; rw [e.2] at ef24; rw [e.1]; exact ih t2 p2 (dBin 6 k0 k2) _ _ _ _ _ _ (by omega) ha2 hp2 (evV_in dBin_in) eg2 ef22 ef23 ef24 hfE hgE hH hA) | (have e := (ev_div (live := live) (br := br) (o := 7) (op := fun x y => Int.tmod x y) (k0 := k0) (k2 := k2) (φ := φ) hl hb rfl (fun _ _ => rfl) _ _ rfl rfl).2 (by assumption); rw [e.2] at ef24; rw [e.1]; exact ih t2 p2 (dBin 7 k0 k2) _ _ _ _ _ _ (by omega) ha2 hp2 (evV_in dBin_in) eg2 ef22 ef23 ef24 hfE hgE hH hA) | (have e := (ev_div (live := live) (br := br) (o := 7) (op := fun x y => Int.tmod x y) (k0 := k0) (k2 := k2) (φ := φ) hl hb rfl (fun _ _ => rfl) _ _ rfl rfl).1 (by assumption); rw [if_pos (by omega)] at e; rw [e.2] at ef24; rw [e.1]; exact ih t2 p2 (dBin 7 k0 k2) _ _ _ _ _ _ (by omega) ha2 hp2 (evV_in dBin_in) eg2 ef22 ef23 ef24 hfE hgE hH hA) | (have e := (ev_div (live := live) (br := br) (o := 7) (op := fun x y => Int.tmod x y) (k0 := k0) (k2 := k2) (φ := φ) hl hb rfl (fun _ _ => rfl) _ _ rfl rfl).1 (by assumption); rw [if_neg (by omega)] at e; rw [e.2] at ef24; rw [e.1]; exact ih t2 p2 (dBin 7 k0 k2) _ _ _ _ _ _ (by omega) ha2 hp2 (evV_in dBin_in) eg2 ef22 ef23 ef24 hfE hgE hH hA)
                · skip
                  refine z_lld_2 (TX8_termOf_1.at 33 rfl) ?_
                  refine z_lld_5 (TX8_termOf_1.at 34 rfl) ?_
                  refine z_ldiv (by omega) (by omega) (TX8_termOf_1.at 35 rfl) ?_
                  rw [zldiv_eq vz (by omega)]
                  refine z_goto (tgt := 160) (TX8_termOf_1.at 36 rfl) rfl ?_
                  first | rw [zlrem_eq vz (by omega)] | skip
                  refine z_ild_1 (TX8_termOf_2.at 0 rfl) ?_
                  refine zm_callL2 (m_bounded ef24 (by first | exact mul_in vz rz | exact tdiv_in vz | exact tmod_in vz | (exfalso; omega)) hl (by first | exact evB_01 (evB_01 hb) | exact Or.inr rfl | exact Or.inl rfl)) (TX8_termOf_2.at 1 rfl) c8_277 rfl rfl hH hA (by omega) (Nat.le_of_ble_eq_true rfl) (fun x161 f161 g161 j161 h r161 q161 hH hA => ?_)
                  obtain ⟨q161, xf, xg, xj⟩ := q161
                  rw [xj] at hH
                  have ef22 := (xf 22 (by decide)).trans ef22
                  have ef23 := (xf 23 (by decide)).trans ef23
                  have hfE := hfE.trans xf (by decide)
                  have eg2 := (xg 2 (by decide)).trans eg2
                  have hgE := hgE.trans xg (by decide)
                  have qL := q161
                  obtain ⟨rfl, ef24⟩ := qL
                  rw [bd_eq] at r161 ⊢
                  rw [bd_eqB] at ef24
                  refine z_lst_2 (TX8_termOf_2.at 2 rfl) (Nat.le_of_ble_eq_true rfl) rfl ?_
                  refine z_goto (tgt := 6) (TX8_termOf_2.at 3 rfl) rfl ?_
                  first | (exfalso; omega) | (have e := ev_bin (live := live) (br := br) (o := 5) (op := fun x y => x * y) (k0 := k0) (k2 := k2) (φ := φ) hl hb rfl (fun _ _ => rfl); rw [e.2] at ef24; rw [e.1]; exact ih t2 p2 (dBin 5 k0 k2) _ _ _ _ _ _ (by omega) ha2 hp2 (evV_in dBin_in) eg2 ef22 ef23 ef24 hfE hgE hH hA) | (have e := (ev_div (live := live) (br := br) (o := 6) (op := fun x y => Int.tdiv x y) (k0 := k0) (k2 := k2) (φ := φ) hl hb rfl (fun _ _ => rfl) _ _ rfl rfl).2 (by assumption); rw [e.2] at ef24; rw [e.1]; exact ih t2 p2 (dBin 6 k0 k2) _ _ _ _ _ _ (by omega) ha2 hp2 (evV_in dBin_in) eg2 ef22 ef23 ef24 hfE hgE hH hA) | (have e := (ev_div (live := live) (br := br) (o := 6) (op := fun x y => Int.tdiv x y) (k0 := k0) (k2 := k2) (φ := φ) hl hb rfl (fun _ _ => rfl) _ _ rfl rfl).1 (by assumption); rw [if_pos (by omega)] at e; rw [e.2] at ef24; rw [e.1]; exact ih t2 p2 (dBin 6 k0 k2) _ _ _ _ _ _ (by omega) ha2 hp2 (evV_in dBin_in) eg2 ef22 ef23 ef24 hfE hgE hH hA) | (have e := (ev_div (live := live) (br := br) (o := 6) (op := fun x y => Int.tdiv x y) (k0 := k0) (k2 := k2) (φ := φ) hl hb rfl (fun _ _ => rfl) _ _ rfl rfl).1 (by assumption); rw [if_neg (by omega)] at e; rw [e.2] at ef24; rw [e.1]; exact ih t2 p2 (dBin 6 k0 k2) _ _ _ _ _ _ (by omega) ha2 hp2 (evV_in dBin_in) eg2 ef22 ef23 ef24 hfE hgE hH hA) | (have e := (ev_div (live := live) (br := br) (o := 7) (op := fun x y => Int.tmod x y) (k0 := k0) (k2 := k2) (φ := φ) hl hb rfl (fun _ _ => rfl) _ _ rfl rfl).2 (by assumption); rw [e.2] at ef24; rw [e.1]; exact ih t2 p2 (dBin 7 k0 k2) _ _ _ _ _ _ (by omega) ha2 hp2 (evV_in dBin_in) eg2 ef22 ef23 ef24 hfE hgE hH hA) | (have e := (ev_div (live := live) (br := br) (o := 7) (op := fun x y => Int.tmod x y) (k0 := k0) (k2 := k2) (φ := φ) hl hb rfl (fun _ _ => rfl) _ _ rfl rfl).1 (by assumption); rw [if_pos (by omega)] at e; rw [e.2] at ef24; rw [e.1]; exact ih t2 p2 (dBin 7 k0 k2) _ _ _ _ _ _ (by omega) ha2 hp2 (evV_in dBin_in) eg2 ef22 ef23 ef24 hfE hgE hH hA) | (have e := (ev_div (live := live) (br := br) (o := 7) (op := fun x y => Int.tmod x y) (k0 := k0) (k2 := k2) (φ := φ) hl hb rfl (fun _ _ => rfl) _ _ rfl rfl).1 (by assumption); rw [if_neg (by omega)] at e; rw [e.2] at ef24; rw [e.1]; exact ih t2 p2 (dBin 7 k0 k2) _ _ _ _ _ _ (by omega) ha2 hp2 (evV_in dBin_in) eg2 ef22 ef23 ef24 hfE hgE hH hA)
              · skip
                refine z_lld_2 (TX8_termOf_1.at 25 rfl) ?_
                refine z_lld_5 (TX8_termOf_1.at 26 rfl) ?_
                refine z_lmul (TX8_termOf_1.at 27 rfl) ?_
                refine z_goto (tgt := 160) (TX8_termOf_1.at 28 rfl) rfl ?_
                first | rw [zlrem_eq vz (by omega)] | skip
                refine z_ild_1 (TX8_termOf_2.at 0 rfl) ?_
                refine zm_callL2 (m_bounded ef24 (by first | exact mul_in vz rz | exact tdiv_in vz | exact tmod_in vz | (exfalso; omega)) hl (by first | exact evB_01 (evB_01 hb) | exact Or.inr rfl | exact Or.inl rfl)) (TX8_termOf_2.at 1 rfl) c8_277 rfl rfl hH hA (by omega) (Nat.le_of_ble_eq_true rfl) (fun x161 f161 g161 j161 h r161 q161 hH hA => ?_)
                obtain ⟨q161, xf, xg, xj⟩ := q161
                rw [xj] at hH
                have ef22 := (xf 22 (by decide)).trans ef22
                have ef23 := (xf 23 (by decide)).trans ef23
                have hfE := hfE.trans xf (by decide)
                have eg2 := (xg 2 (by decide)).trans eg2
                have hgE := hgE.trans xg (by decide)
                have qL := q161
                obtain ⟨rfl, ef24⟩ := qL
                rw [bd_eq] at r161 ⊢
                rw [bd_eqB] at ef24
                refine z_lst_2 (TX8_termOf_2.at 2 rfl) (Nat.le_of_ble_eq_true rfl) rfl ?_
                refine z_goto (tgt := 6) (TX8_termOf_2.at 3 rfl) rfl ?_
                first | (exfalso; omega) | (have e := ev_bin (live := live) (br := br) (o := 5) (op := fun x y => x * y) (k0 := k0) (k2 := k2) (φ := φ) hl hb rfl (fun _ _ => rfl); rw [e.2] at ef24; rw [e.1]; exact ih t2 p2 (dBin 5 k0 k2) _ _ _ _ _ _ (by omega) ha2 hp2 (evV_in dBin_in) eg2 ef22 ef23 ef24 hfE hgE hH hA) | (have e := (ev_div (live := live) (br := br) (o := 6) (op := fun x y => Int.tdiv x y) (k0 := k0) (k2 := k2) (φ := φ) hl hb rfl (fun _ _ => rfl) _ _ rfl rfl).2 (by assumption); rw [e.2] at ef24; rw [e.1]; exact ih t2 p2 (dBin 6 k0 k2) _ _ _ _ _ _ (by omega) ha2 hp2 (evV_in dBin_in) eg2 ef22 ef23 ef24 hfE hgE hH hA) | (have e := (ev_div (live := live) (br := br) (o := 6) (op := fun x y => Int.tdiv x y) (k0 := k0) (k2 := k2) (φ := φ) hl hb rfl (fun _ _ => rfl) _ _ rfl rfl).1 (by assumption); rw [if_pos (by omega)] at e; rw [e.2] at ef24; rw [e.1]; exact ih t2 p2 (dBin 6 k0 k2) _ _ _ _ _ _ (by omega) ha2 hp2 (evV_in dBin_in) eg2 ef22 ef23 ef24 hfE hgE hH hA) | (have e := (ev_div (live := live) (br := br) (o := 6) (op := fun x y => Int.tdiv x y) (k0 := k0) (k2 := k2) (φ := φ) hl hb rfl (fun _ _ => rfl) _ _ rfl rfl).1 (by assumption); rw [if_neg (by omega)] at e; rw [e.2] at ef24; rw [e.1]; exact ih t2 p2 (dBin 6 k0 k2) _ _ _ _ _ _ (by omega) ha2 hp2 (evV_in dBin_in) eg2 ef22 ef23 ef24 hfE hgE hH hA) | (have e := (ev_div (live := live) (br := br) (o := 7) (op := fun x y => Int.tmod x y) (k0 := k0) (k2 := k2) (φ := φ) hl hb rfl (fun _ _ => rfl) _ _ rfl rfl).2 (by assumption); rw [e.2] at ef24; rw [e.1]; exact ih t2 p2 (dBin 7 k0 k2) _ _ _ _ _ _ (by omega) ha2 hp2 (evV_in dBin_in) eg2 ef22 ef23 ef24 hfE hgE hH hA) | (have e := (ev_div (live := live) (br := br) (o := 7) (op := fun x y => Int.tmod x y) (k0 := k0) (k2 := k2) (φ := φ) hl hb rfl (fun _ _ => rfl) _ _ rfl rfl).1 (by assumption); rw [if_pos (by omega)] at e; rw [e.2] at ef24; rw [e.1]; exact ih t2 p2 (dBin 7 k0 k2) _ _ _ _ _ _ (by omega) ha2 hp2 (evV_in dBin_in) eg2 ef22 ef23 ef24 hfE hgE hH hA) | (have e := (ev_div (live := live) (br := br) (o := 7) (op := fun x y => Int.tmod x y) (k0 := k0) (k2 := k2) (φ := φ) hl hb rfl (fun _ _ => rfl) _ _ rfl rfl).1 (by assumption); rw [if_neg (by omega)] at e; rw [e.2] at ef24; rw [e.1]; exact ih t2 p2 (dBin 7 k0 k2) _ _ _ _ _ _ (by omega) ha2 hp2 (evV_in dBin_in) eg2 ef22 ef23 ef24 hfE hgE hH hA)
            · skip
              refine z_ald_0 (TX8_termOf_1.at 8 rfl) ?_
              refine z_ald_0 (TX8_termOf_1.at 9 rfl) ?_
              refine zm_getIE ef24 (TX8_termOf_1.at 10 rfl) fl8_270 hH rfl (by decide) (fun r100 => ?_)
              refine z_if_ne (tgt := 110) (TX8_termOf_1.at 11 rfl) rfl (by have := evB_01 (live := live) (br := evB live br (k0 φ)) (z := k2 φ) (evB_01 hb); omega) (fun c38 => ?_) (fun c38 => ?_)
              · skip
                refine z_iconst (TX8_termOf_1.at 14 rfl) ?_
                refine z_goto (tgt := 115) (TX8_termOf_1.at 15 rfl) rfl ?_
                refine zm_putZE (TX8_termOf_1.at 17 rfl) fp8_270 hH hA rfl (by decide) (by first | omega | exact b2i_01 _) (fun h f115 e1 e2 hH hA => ?_)
                have ef22 := (e1 22 (by decide)).trans ef22
                have ef23 := (e1 23 (by decide)).trans ef23
                have ef24 := e2
                have hfE := hfE.put e1 (by decide)
                refine z_lconst (v := 1) (by decide) (TX8_termOf_1.at 18 rfl) ?_
                refine z_lst_5 (TX8_termOf_1.at 19 rfl) (Nat.le_of_ble_eq_true rfl) rfl ?_
                refine z_ald_0 (TX8_termOf_1.at 20 rfl) ?_
                refine z_ild_4 (TX8_termOf_1.at 21 rfl) ?_
                refine z_bipush (by decide) (TX8_termOf_1.at 22 rfl) ?_
                refine zs_call1 (s_sign (by omega)) (TX8_termOf_1.at 23 rfl) c8_219 rfl (by omega) (Nat.le_of_ble_eq_true rfl) (fun r126 => ?_)
                refine z_icmp_ne (tgt := 139) (TX8_termOf_1.at 24 rfl) rfl (by omega) (by omega) (fun c39 => ?_) (fun c39 => ?_)
                · skip
                  refine z_ild_4 (TX8_termOf_1.at 29 rfl) ?_
                  refine z_bipush (by decide) (TX8_termOf_1.at 30 rfl) ?_
                  refine zs_call1 (s_sign (by omega)) (TX8_termOf_1.at 31 rfl) c8_219 rfl (by omega) (Nat.le_of_ble_eq_true rfl) (fun r143 => ?_)
                  refine z_icmp_ne (tgt := 156) (TX8_termOf_1.at 32 rfl) rfl (by omega) (by omega) (fun c40 => ?_) (fun c40 => ?_)
                  · skip
                    refine z_lld_2 (TX8_termOf_1.at 37 rfl) ?_
                    refine z_lld_5 (TX8_termOf_1.at 38 rfl) ?_
                    refine z_lrem (by omega) (by omega) (TX8_termOf_1.at 39 rfl) ?_
                    first | rw [zlrem_eq vz (by omega)] | skip
                    refine z_ild_1 (TX8_termOf_2.at 0 rfl) ?_
                    refine zm_callL2 (m_bounded ef24 (by first | exact mul_in vz rz | exact tdiv_in vz | exact tmod_in vz | (exfalso; omega)) hl (by first | exact evB_01 (evB_01 hb) | exact Or.inr rfl | exact Or.inl rfl)) (TX8_termOf_2.at 1 rfl) c8_277 rfl rfl hH hA (by omega) (Nat.le_of_ble_eq_true rfl) (fun x161 f161 g161 j161 h r161 q161 hH hA => ?_)
                    obtain ⟨q161, xf, xg, xj⟩ := q161
                    rw [xj] at hH
                    have ef22 := (xf 22 (by decide)).trans ef22
                    have ef23 := (xf 23 (by decide)).trans ef23
                    have hfE := hfE.trans xf (by decide)
                    have eg2 := (xg 2 (by decide)).trans eg2
                    have hgE := hgE.trans xg (by decide)
                    have qL := q161
                    obtain ⟨rfl, ef24⟩ := qL
                    rw [bd_eq] at r161 ⊢
                    rw [bd_eqB] at ef24
                    refine z_lst_2 (TX8_termOf_2.at 2 rfl) (Nat.le_of_ble_eq_true rfl) rfl ?_
                    refine z_goto (tgt := 6) (TX8_termOf_2.at 3 rfl) rfl ?_
                    first | (exfalso; omega) | (have e := ev_bin (live := live) (br := br) (o := 5) (op := fun x y => x * y) (k0 := k0) (k2 := k2) (φ := φ) hl hb rfl (fun _ _ => rfl); rw [e.2] at ef24; rw [e.1]; exact ih t2 p2 (dBin 5 k0 k2) _ _ _ _ _ _ (by omega) ha2 hp2 (evV_in dBin_in) eg2 ef22 ef23 ef24 hfE hgE hH hA) | (have e := (ev_div (live := live) (br := br) (o := 6) (op := fun x y => Int.tdiv x y) (k0 := k0) (k2 := k2) (φ := φ) hl hb rfl (fun _ _ => rfl) _ _ rfl rfl).2 (by assumption); rw [e.2] at ef24; rw [e.1]; exact ih t2 p2 (dBin 6 k0 k2) _ _ _ _ _ _ (by omega) ha2 hp2 (evV_in dBin_in) eg2 ef22 ef23 ef24 hfE hgE hH hA) | (have e := (ev_div (live := live) (br := br) (o := 6) (op := fun x y => Int.tdiv x y) (k0 := k0) (k2 := k2) (φ := φ) hl hb rfl (fun _ _ => rfl) _ _ rfl rfl).1 (by assumption); rw [if_pos (by omega)] at e; rw [e.2] at ef24; rw [e.1]; exact ih t2 p2 (dBin 6 k0 k2) _ _ _ _ _ _ (by omega) ha2 hp2 (evV_in dBin_in) eg2 ef22 ef23 ef24 hfE hgE hH hA) | (have e := (ev_div (live := live) (br := br) (o := 6) (op := fun x y => Int.tdiv x y) (k0 := k0) (k2 := k2) (φ := φ) hl hb rfl (fun _ _ => rfl) _ _ rfl rfl).1 (by assumption); rw [if_neg (by omega)] at e; rw [e.2] at ef24; rw [e.1]; exact ih t2 p2 (dBin 6 k0 k2) _ _ _ _ _ _ (by omega) ha2 hp2 (evV_in dBin_in) eg2 ef22 ef23 ef24 hfE hgE hH hA) | (have e := (ev_div (live := live) (br := br) (o := 7) (op := fun x y => Int.tmod x y) (k0 := k0) (k2 := k2) (φ := φ) hl hb rfl (fun _ _ => rfl) _ _ rfl rfl).2 (by assumption); rw [e.2] at ef24; rw [e.1]; exact ih t2 p2 (dBin 7 k0 k2) _ _ _ _ _ _ (by omega) ha2 hp2 (evV_in dBin_in) eg2 ef22 ef23 ef24 hfE hgE hH hA) | (have e := (ev_div (live := live) (br := br) (o := 7) (op := fun x y => Int.tmod x y) (k0 := k0) (k2 := k2) (φ := φ) hl hb rfl (fun _ _ => rfl) _ _ rfl rfl).1 (by assumption); rw [if_pos (by omega)] at e; rw [e.2] at ef24; rw [e.1]; exact ih t2 p2 (dBin 7 k0 k2) _ _ _ _ _ _ (by omega) ha2 hp2 (evV_in dBin_in) eg2 ef22 ef23 ef24 hfE hgE hH hA) | (have e := (ev_div (live := live) (br := br) (o := 7) (op := fun x y => Int.tmod x y) (k0 := k0) (k2 := k2) (φ := φ) hl hb rfl (fun _ _ => rfl) _ _ rfl rfl).1 (by assumption); rw [if_neg (by omega)] at e; rw [e.2] at ef24; rw [e.1]; exact ih t2 p2 (dBin 7 k0 k2) _ _ _ _ _ _ (by omega) ha2 hp2 (evV_in dBin_in) eg2 ef22 ef23 ef24 hfE hgE hH hA)
                  · skip
                    refine z_lld_2 (TX8_termOf_1.at 33 rfl) ?_
                    refine z_lld_5 (TX8_termOf_1.at 34 rfl) ?_
                    refine z_ldiv (by omega) (by omega) (TX8_termOf_1.at 35 rfl) ?_
                    rw [zldiv_eq vz (by omega)]
                    refine z_goto (tgt := 160) (TX8_termOf_1.at 36 rfl) rfl ?_
                    first | rw [zlrem_eq vz (by omega)] | skip
                    refine z_ild_1 (TX8_termOf_2.at 0 rfl) ?_
                    refine zm_callL2 (m_bounded ef24 (by first | exact mul_in vz rz | exact tdiv_in vz | exact tmod_in vz | (exfalso; omega)) hl (by first | exact evB_01 (evB_01 hb) | exact Or.inr rfl | exact Or.inl rfl)) (TX8_termOf_2.at 1 rfl) c8_277 rfl rfl hH hA (by omega) (Nat.le_of_ble_eq_true rfl) (fun x161 f161 g161 j161 h r161 q161 hH hA => ?_)
                    obtain ⟨q161, xf, xg, xj⟩ := q161
                    rw [xj] at hH
                    have ef22 := (xf 22 (by decide)).trans ef22
                    have ef23 := (xf 23 (by decide)).trans ef23
                    have hfE := hfE.trans xf (by decide)
                    have eg2 := (xg 2 (by decide)).trans eg2
                    have hgE := hgE.trans xg (by decide)
                    have qL := q161
                    obtain ⟨rfl, ef24⟩ := qL
                    rw [bd_eq] at r161 ⊢
                    rw [bd_eqB] at ef24
                    refine z_lst_2 (TX8_termOf_2.at 2 rfl) (Nat.le_of_ble_eq_true rfl) rfl ?_
                    refine z_goto (tgt := 6) (TX8_termOf_2.at 3 rfl) rfl ?_
                    first | (exfalso; omega) | (have e := ev_bin (live := live) (br := br) (o := 5) (op := fun x y => x * y) (k0 := k0) (k2 := k2) (φ := φ) hl hb rfl (fun _ _ => rfl); rw [e.2] at ef24; rw [e.1]; exact ih t2 p2 (dBin 5 k0 k2) _ _ _ _ _ _ (by omega) ha2 hp2 (evV_in dBin_in) eg2 ef22 ef23 ef24 hfE hgE hH hA) | (have e := (ev_div (live := live) (br := br) (o := 6) (op := fun x y => Int.tdiv x y) (k0 := k0) (k2 := k2) (φ := φ) hl hb rfl (fun _ _ => rfl) _ _ rfl rfl).2 (by assumption); rw [e.2] at ef24; rw [e.1]; exact ih t2 p2 (dBin 6 k0 k2) _ _ _ _ _ _ (by omega) ha2 hp2 (evV_in dBin_in) eg2 ef22 ef23 ef24 hfE hgE hH hA) | (have e := (ev_div (live := live) (br := br) (o := 6) (op := fun x y => Int.tdiv x y) (k0 := k0) (k2 := k2) (φ := φ) hl hb rfl (fun _ _ => rfl) _ _ rfl rfl).1 (by assumption); rw [if_pos (by omega)] at e; rw [e.2] at ef24; rw [e.1]; exact ih t2 p2 (dBin 6 k0 k2) _ _ _ _ _ _ (by omega) ha2 hp2 (evV_in dBin_in) eg2 ef22 ef23 ef24 hfE hgE hH hA) | (have e := (ev_div (live := live) (br := br) (o := 6) (op := fun x y => Int.tdiv x y) (k0 := k0) (k2 := k2) (φ := φ) hl hb rfl (fun _ _ => rfl) _ _ rfl rfl).1 (by assumption); rw [if_neg (by omega)] at e; rw [e.2] at ef24; rw [e.1]; exact ih t2 p2 (dBin 6 k0 k2) _ _ _ _ _ _ (by omega) ha2 hp2 (evV_in dBin_in) eg2 ef22 ef23 ef24 hfE hgE hH hA) | (have e := (ev_div (live := live) (br := br) (o := 7) (op := fun x y => Int.tmod x y) (k0 := k0) (k2 := k2) (φ := φ) hl hb rfl (fun _ _ => rfl) _ _ rfl rfl).2 (by assumption); rw [e.2] at ef24; rw [e.1]; exact ih t2 p2 (dBin 7 k0 k2) _ _ _ _ _ _ (by omega) ha2 hp2 (evV_in dBin_in) eg2 ef22 ef23 ef24 hfE hgE hH hA) | (have e := (ev_div (live := live) (br := br) (o := 7) (op := fun x y => Int.tmod x y) (k0 := k0) (k2 := k2) (φ := φ) hl hb rfl (fun _ _ => rfl) _ _ rfl rfl).1 (by assumption); rw [if_pos (by omega)] at e; rw [e.2] at ef24; rw [e.1]; exact ih t2 p2 (dBin 7 k0 k2) _ _ _ _ _ _ (by omega) ha2 hp2 (evV_in dBin_in) eg2 ef22 ef23 ef24 hfE hgE hH hA) | (have e := (ev_div (live := live) (br := br) (o := 7) (op := fun x y => Int.tmod x y) (k0 := k0) (k2 := k2) (φ := φ) hl hb rfl (fun _ _ => rfl) _ _ rfl rfl).1 (by assumption); rw [if_neg (by omega)] at e; rw [e.2] at ef24; rw [e.1]; exact ih t2 p2 (dBin 7 k0 k2) _ _ _ _ _ _ (by omega) ha2 hp2 (evV_in dBin_in) eg2 ef22 ef23 ef24 hfE hgE hH hA)
                · skip
                  refine z_lld_2 (TX8_termOf_1.at 25 rfl) ?_
                  refine z_lld_5 (TX8_termOf_1.at 26 rfl) ?_
                  refine z_lmul (TX8_termOf_1.at 27 rfl) ?_
                  refine z_goto (tgt := 160) (TX8_termOf_1.at 28 rfl) rfl ?_
                  first | rw [zlrem_eq vz (by omega)] | skip
                  refine z_ild_1 (TX8_termOf_2.at 0 rfl) ?_
                  refine zm_callL2 (m_bounded ef24 (by first | exact mul_in vz rz | exact tdiv_in vz | exact tmod_in vz | (exfalso; omega)) hl (by first | exact evB_01 (evB_01 hb) | exact Or.inr rfl | exact Or.inl rfl)) (TX8_termOf_2.at 1 rfl) c8_277 rfl rfl hH hA (by omega) (Nat.le_of_ble_eq_true rfl) (fun x161 f161 g161 j161 h r161 q161 hH hA => ?_)
                  obtain ⟨q161, xf, xg, xj⟩ := q161
                  rw [xj] at hH
                  have ef22 := (xf 22 (by decide)).trans ef22
                  have ef23 := (xf 23 (by decide)).trans ef23
                  have hfE := hfE.trans xf (by decide)
                  have eg2 := (xg 2 (by decide)).trans eg2
                  have hgE := hgE.trans xg (by decide)
                  have qL := q161
                  obtain ⟨rfl, ef24⟩ := qL
                  rw [bd_eq] at r161 ⊢
                  rw [bd_eqB] at ef24
                  refine z_lst_2 (TX8_termOf_2.at 2 rfl) (Nat.le_of_ble_eq_true rfl) rfl ?_
                  refine z_goto (tgt := 6) (TX8_termOf_2.at 3 rfl) rfl ?_
                  first | (exfalso; omega) | (have e := ev_bin (live := live) (br := br) (o := 5) (op := fun x y => x * y) (k0 := k0) (k2 := k2) (φ := φ) hl hb rfl (fun _ _ => rfl); rw [e.2] at ef24; rw [e.1]; exact ih t2 p2 (dBin 5 k0 k2) _ _ _ _ _ _ (by omega) ha2 hp2 (evV_in dBin_in) eg2 ef22 ef23 ef24 hfE hgE hH hA) | (have e := (ev_div (live := live) (br := br) (o := 6) (op := fun x y => Int.tdiv x y) (k0 := k0) (k2 := k2) (φ := φ) hl hb rfl (fun _ _ => rfl) _ _ rfl rfl).2 (by assumption); rw [e.2] at ef24; rw [e.1]; exact ih t2 p2 (dBin 6 k0 k2) _ _ _ _ _ _ (by omega) ha2 hp2 (evV_in dBin_in) eg2 ef22 ef23 ef24 hfE hgE hH hA) | (have e := (ev_div (live := live) (br := br) (o := 6) (op := fun x y => Int.tdiv x y) (k0 := k0) (k2 := k2) (φ := φ) hl hb rfl (fun _ _ => rfl) _ _ rfl rfl).1 (by assumption); rw [if_pos (by omega)] at e; rw [e.2] at ef24; rw [e.1]; exact ih t2 p2 (dBin 6 k0 k2) _ _ _ _ _ _ (by omega) ha2 hp2 (evV_in dBin_in) eg2 ef22 ef23 ef24 hfE hgE hH hA) | (have e := (ev_div (live := live) (br := br) (o := 6) (op := fun x y => Int.tdiv x y) (k0 := k0) (k2 := k2) (φ := φ) hl hb rfl (fun _ _ => rfl) _ _ rfl rfl).1 (by assumption); rw [if_neg (by omega)] at e; rw [e.2] at ef24; rw [e.1]; exact ih t2 p2 (dBin 6 k0 k2) _ _ _ _ _ _ (by omega) ha2 hp2 (evV_in dBin_in) eg2 ef22 ef23 ef24 hfE hgE hH hA) | (have e := (ev_div (live := live) (br := br) (o := 7) (op := fun x y => Int.tmod x y) (k0 := k0) (k2 := k2) (φ := φ) hl hb rfl (fun _ _ => rfl) _ _ rfl rfl).2 (by assumption); rw [e.2] at ef24; rw [e.1]; exact ih t2 p2 (dBin 7 k0 k2) _ _ _ _ _ _ (by omega) ha2 hp2 (evV_in dBin_in) eg2 ef22 ef23 ef24 hfE hgE hH hA) | (have e := (ev_div (live := live) (br := br) (o := 7) (op := fun x y => Int.tmod x y) (k0 := k0) (k2 := k2) (φ := φ) hl hb rfl (fun _ _ => rfl) _ _ rfl rfl).1 (by assumption); rw [if_pos (by omega)] at e; rw [e.2] at ef24; rw [e.1]; exact ih t2 p2 (dBin 7 k0 k2) _ _ _ _ _ _ (by omega) ha2 hp2 (evV_in dBin_in) eg2 ef22 ef23 ef24 hfE hgE hH hA) | (have e := (ev_div (live := live) (br := br) (o := 7) (op := fun x y => Int.tmod x y) (k0 := k0) (k2 := k2) (φ := φ) hl hb rfl (fun _ _ => rfl) _ _ rfl rfl).1 (by assumption); rw [if_neg (by omega)] at e; rw [e.2] at ef24; rw [e.1]; exact ih t2 p2 (dBin 7 k0 k2) _ _ _ _ _ _ (by omega) ha2 hp2 (evV_in dBin_in) eg2 ef22 ef23 ef24 hfE hgE hH hA)
              · skip
                refine z_ild_1 (TX8_termOf_1.at 12 rfl) ?_
                refine z_if_eq (tgt := 114) (TX8_termOf_1.at 13 rfl) rfl (by omega) (fun c41 => ?_) (fun c41 => ?_)
                · skip
                  refine z_iconst (TX8_termOf_1.at 16 rfl) ?_
                  refine zm_putZE (TX8_termOf_1.at 17 rfl) fp8_270 hH hA rfl (by decide) (by first | omega | exact b2i_01 _) (fun h f115 e1 e2 hH hA => ?_)
                  have ef22 := (e1 22 (by decide)).trans ef22
                  have ef23 := (e1 23 (by decide)).trans ef23
                  have ef24 := e2
                  have hfE := hfE.put e1 (by decide)
                  refine z_lconst (v := 1) (by decide) (TX8_termOf_1.at 18 rfl) ?_
                  refine z_lst_5 (TX8_termOf_1.at 19 rfl) (Nat.le_of_ble_eq_true rfl) rfl ?_
                  refine z_ald_0 (TX8_termOf_1.at 20 rfl) ?_
                  refine z_ild_4 (TX8_termOf_1.at 21 rfl) ?_
                  refine z_bipush (by decide) (TX8_termOf_1.at 22 rfl) ?_
                  refine zs_call1 (s_sign (by omega)) (TX8_termOf_1.at 23 rfl) c8_219 rfl (by omega) (Nat.le_of_ble_eq_true rfl) (fun r126 => ?_)
                  refine z_icmp_ne (tgt := 139) (TX8_termOf_1.at 24 rfl) rfl (by omega) (by omega) (fun c42 => ?_) (fun c42 => ?_)
                  · skip
                    refine z_ild_4 (TX8_termOf_1.at 29 rfl) ?_
                    refine z_bipush (by decide) (TX8_termOf_1.at 30 rfl) ?_
                    refine zs_call1 (s_sign (by omega)) (TX8_termOf_1.at 31 rfl) c8_219 rfl (by omega) (Nat.le_of_ble_eq_true rfl) (fun r143 => ?_)
                    refine z_icmp_ne (tgt := 156) (TX8_termOf_1.at 32 rfl) rfl (by omega) (by omega) (fun c43 => ?_) (fun c43 => ?_)
                    · skip
                      refine z_lld_2 (TX8_termOf_1.at 37 rfl) ?_
                      refine z_lld_5 (TX8_termOf_1.at 38 rfl) ?_
                      refine z_lrem (by omega) (by omega) (TX8_termOf_1.at 39 rfl) ?_
                      first | rw [zlrem_eq vz (by omega)] | skip
                      refine z_ild_1 (TX8_termOf_2.at 0 rfl) ?_
                      refine zm_callL2 (m_bounded ef24 (by first | exact mul_in vz rz | exact tdiv_in vz | exact tmod_in vz | (exfalso; omega)) hl (by first | exact evB_01 (evB_01 hb) | exact Or.inr rfl | exact Or.inl rfl)) (TX8_termOf_2.at 1 rfl) c8_277 rfl rfl hH hA (by omega) (Nat.le_of_ble_eq_true rfl) (fun x161 f161 g161 j161 h r161 q161 hH hA => ?_)
                      obtain ⟨q161, xf, xg, xj⟩ := q161
                      rw [xj] at hH
                      have ef22 := (xf 22 (by decide)).trans ef22
                      have ef23 := (xf 23 (by decide)).trans ef23
                      have hfE := hfE.trans xf (by decide)
                      have eg2 := (xg 2 (by decide)).trans eg2
                      have hgE := hgE.trans xg (by decide)
                      have qL := q161
                      obtain ⟨rfl, ef24⟩ := qL
                      rw [bd_eq] at r161 ⊢
                      rw [bd_eqB] at ef24
                      refine z_lst_2 (TX8_termOf_2.at 2 rfl) (Nat.le_of_ble_eq_true rfl) rfl ?_
                      refine z_goto (tgt := 6) (TX8_termOf_2.at 3 rfl) rfl ?_
                      first | (exfalso; omega) | (have e := ev_bin (live := live) (br := br) (o := 5) (op := fun x y => x * y) (k0 := k0) (k2 := k2) (φ := φ) hl hb rfl (fun _ _ => rfl); rw [e.2] at ef24; rw [e.1]; exact ih t2 p2 (dBin 5 k0 k2) _ _ _ _ _ _ (by omega) ha2 hp2 (evV_in dBin_in) eg2 ef22 ef23 ef24 hfE hgE hH hA) | (have e := (ev_div (live := live) (br := br) (o := 6) (op := fun x y => Int.tdiv x y) (k0 := k0) (k2 := k2) (φ := φ) hl hb rfl (fun _ _ => rfl) _ _ rfl rfl).2 (by assumption); rw [e.2] at ef24; rw [e.1]; exact ih t2 p2 (dBin 6 k0 k2) _ _ _ _ _ _ (by omega) ha2 hp2 (evV_in dBin_in) eg2 ef22 ef23 ef24 hfE hgE hH hA) | (have e := (ev_div (live := live) (br := br) (o := 6) (op := fun x y => Int.tdiv x y) (k0 := k0) (k2 := k2) (φ := φ) hl hb rfl (fun _ _ => rfl) _ _ rfl rfl).1 (by assumption); rw [if_pos (by omega)] at e; rw [e.2] at ef24; rw [e.1]; exact ih t2 p2 (dBin 6 k0 k2) _ _ _ _ _ _ (by omega) ha2 hp2 (evV_in dBin_in) eg2 ef22 ef23 ef24 hfE hgE hH hA) | (have e := (ev_div (live := live) (br := br) (o := 6) (op := fun x y => Int.tdiv x y) (k0 := k0) (k2 := k2) (φ := φ) hl hb rfl (fun _ _ => rfl) _ _ rfl rfl).1 (by assumption); rw [if_neg (by omega)] at e; rw [e.2] at ef24; rw [e.1]; exact ih t2 p2 (dBin 6 k0 k2) _ _ _ _ _ _ (by omega) ha2 hp2 (evV_in dBin_in) eg2 ef22 ef23 ef24 hfE hgE hH hA) | (have e := (ev_div (live := live) (br := br) (o := 7) (op := fun x y => Int.tmod x y) (k0 := k0) (k2 := k2) (φ := φ) hl hb rfl (fun _ _ => rfl) _ _ rfl rfl).2 (by assumption); rw [e.2] at ef24; rw [e.1]; exact ih t2 p2 (dBin 7 k0 k2) _ _ _ _ _ _ (by omega) ha2 hp2 (evV_in dBin_in) eg2 ef22 ef23 ef24 hfE hgE hH hA) | (have e := (ev_div (live := live) (br := br) (o := 7) (op := fun x y => Int.tmod x y) (k0 := k0) (k2 := k2) (φ := φ) hl hb rfl (fun _ _ => rfl) _ _ rfl rfl).1 (by assumption); rw [if_pos (by omega)] at e; rw [e.2] at ef24; rw [e.1]; exact ih t2 p2 (dBin 7 k0 k2) _ _ _ _ _ _ (by omega) ha2 hp2 (evV_in dBin_in) eg2 ef22 ef23 ef24 hfE hgE hH hA) | (have e := (ev_div (live := live) (br := br) (o := 7) (op := fun x y => Int.tmod x y) (k0 := k0) (k2 := k2) (φ := φ) hl hb rfl (fun _ _ => rfl) _ _ rfl rfl).1 (by assumption); rw [if_neg (by omega)] at e; rw [e.2] at ef24; rw [e.1]; exact ih t2 p2 (dBin 7 k0 k2) _ _ _ _ _ _ (by omega) ha2 hp2 (evV_in dBin_in) eg2 ef22 ef23 ef24 hfE hgE hH hA)
                    · skip
                      refine z_lld_2 (TX8_termOf_1.at 33 rfl) ?_
                      refine z_lld_5 (TX8_termOf_1.at 34 rfl) ?_
                      refine z_ldiv (by omega) (by omega) (TX8_termOf_1.at 35 rfl) ?_
                      rw [zldiv_eq vz (by omega)]
                      refine z_goto (tgt := 160) (TX8_termOf_1.at 36 rfl) rfl ?_
                      first | rw [zlrem_eq vz (by omega)] | skip
                      refine z_ild_1 (TX8_termOf_2.at 0 rfl) ?_
                      refine zm_callL2 (m_bounded ef24 (by first | exact mul_in vz rz | exact tdiv_in vz | exact tmod_in vz | (exfalso; omega)) hl (by first | exact evB_01 (evB_01 hb) | exact Or.inr rfl | exact Or.inl rfl)) (TX8_termOf_2.at 1 rfl) c8_277 rfl rfl hH hA (by omega) (Nat.le_of_ble_eq_true rfl) (fun x161 f161 g161 j161 h r161 q161 hH hA => ?_)
                      obtain ⟨q161, xf, xg, xj⟩ := q161
                      rw [xj] at hH
                      have ef22 := (xf 22 (by decide)).trans ef22
                      have ef23 := (xf 23 (by decide)).trans ef23
                      have hfE := hfE.trans xf (by decide)
                      have eg2 := (xg 2 (by decide)).trans eg2
                      have hgE := hgE.trans xg (by decide)
                      have qL := q161
                      obtain ⟨rfl, ef24⟩ := qL
                      rw [bd_eq] at r161 ⊢
                      rw [bd_eqB] at ef24
                      refine z_lst_2 (TX8_termOf_2.at 2 rfl) (Nat.le_of_ble_eq_true rfl) rfl ?_
                      refine z_goto (tgt := 6) (TX8_termOf_2.at 3 rfl) rfl ?_
                      first | (exfalso; omega) | (have e := ev_bin (live := live) (br := br) (o := 5) (op := fun x y => x * y) (k0 := k0) (k2 := k2) (φ := φ) hl hb rfl (fun _ _ => rfl); rw [e.2] at ef24; rw [e.1]; exact ih t2 p2 (dBin 5 k0 k2) _ _ _ _ _ _ (by omega) ha2 hp2 (evV_in dBin_in) eg2 ef22 ef23 ef24 hfE hgE hH hA) | (have e := (ev_div (live := live) (br := br) (o := 6) (op := fun x y => Int.tdiv x y) (k0 := k0) (k2 := k2) (φ := φ) hl hb rfl (fun _ _ => rfl) _ _ rfl rfl).2 (by assumption); rw [e.2] at ef24; rw [e.1]; exact ih t2 p2 (dBin 6 k0 k2) _ _ _ _ _ _ (by omega) ha2 hp2 (evV_in dBin_in) eg2 ef22 ef23 ef24 hfE hgE hH hA) | (have e := (ev_div (live := live) (br := br) (o := 6) (op := fun x y => Int.tdiv x y) (k0 := k0) (k2 := k2) (φ := φ) hl hb rfl (fun _ _ => rfl) _ _ rfl rfl).1 (by assumption); rw [if_pos (by omega)] at e; rw [e.2] at ef24; rw [e.1]; exact ih t2 p2 (dBin 6 k0 k2) _ _ _ _ _ _ (by omega) ha2 hp2 (evV_in dBin_in) eg2 ef22 ef23 ef24 hfE hgE hH hA) | (have e := (ev_div (live := live) (br := br) (o := 6) (op := fun x y => Int.tdiv x y) (k0 := k0) (k2 := k2) (φ := φ) hl hb rfl (fun _ _ => rfl) _ _ rfl rfl).1 (by assumption); rw [if_neg (by omega)] at e; rw [e.2] at ef24; rw [e.1]; exact ih t2 p2 (dBin 6 k0 k2) _ _ _ _ _ _ (by omega) ha2 hp2 (evV_in dBin_in) eg2 ef22 ef23 ef24 hfE hgE hH hA) | (have e := (ev_div (live := live) (br := br) (o := 7) (op := fun x y => Int.tmod x y) (k0 := k0) (k2 := k2) (φ := φ) hl hb rfl (fun _ _ => rfl) _ _ rfl rfl).2 (by assumption); rw [e.2] at ef24; rw [e.1]; exact ih t2 p2 (dBin 7 k0 k2) _ _ _ _ _ _ (by omega) ha2 hp2 (evV_in dBin_in) eg2 ef22 ef23 ef24 hfE hgE hH hA) | (have e := (ev_div (live := live) (br := br) (o := 7) (op := fun x y => Int.tmod x y) (k0 := k0) (k2 := k2) (φ := φ) hl hb rfl (fun _ _ => rfl) _ _ rfl rfl).1 (by assumption); rw [if_pos (by omega)] at e; rw [e.2] at ef24; rw [e.1]; exact ih t2 p2 (dBin 7 k0 k2) _ _ _ _ _ _ (by omega) ha2 hp2 (evV_in dBin_in) eg2 ef22 ef23 ef24 hfE hgE hH hA) | (have e := (ev_div (live := live) (br := br) (o := 7) (op := fun x y => Int.tmod x y) (k0 := k0) (k2 := k2) (φ := φ) hl hb rfl (fun _ _ => rfl) _ _ rfl rfl).1 (by assumption); rw [if_neg (by omega)] at e; rw [e.2] at ef24; rw [e.1]; exact ih t2 p2 (dBin 7 k0 k2) _ _ _ _ _ _ (by omega) ha2 hp2 (evV_in dBin_in) eg2 ef22 ef23 ef24 hfE hgE hH hA)
                  · skip
                    refine z_lld_2 (TX8_termOf_1.at 25 rfl) ?_
                    refine z_lld_5 (TX8_termOf_1.at 26 rfl) ?_
                    refine z_lmul (TX8_termOf_1.at 27 rfl) ?_
                    refine z_goto (tgt := 160) (TX8_termOf_1.at 28 rfl) rfl ?_
                    first | rw [zlrem_eq vz (by omega)] | skip
                    refine z_ild_1 (TX8_termOf_2.at 0 rfl) ?_
                    refine zm_callL2 (m_bounded ef24 (by first | exact mul_in vz rz | exact tdiv_in vz | exact tmod_in vz | (exfalso; omega)) hl (by first | exact evB_01 (evB_01 hb) | exact Or.inr rfl | exact Or.inl rfl)) (TX8_termOf_2.at 1 rfl) c8_277 rfl rfl hH hA (by omega) (Nat.le_of_ble_eq_true rfl) (fun x161 f161 g161 j161 h r161 q161 hH hA => ?_)
                    obtain ⟨q161, xf, xg, xj⟩ := q161
                    rw [xj] at hH
                    have ef22 := (xf 22 (by decide)).trans ef22
                    have ef23 := (xf 23 (by decide)).trans ef23
                    have hfE := hfE.trans xf (by decide)
                    have eg2 := (xg 2 (by decide)).trans eg2
                    have hgE := hgE.trans xg (by decide)
                    have qL := q161
                    obtain ⟨rfl, ef24⟩ := qL
                    rw [bd_eq] at r161 ⊢
                    rw [bd_eqB] at ef24
                    refine z_lst_2 (TX8_termOf_2.at 2 rfl) (Nat.le_of_ble_eq_true rfl) rfl ?_
                    refine z_goto (tgt := 6) (TX8_termOf_2.at 3 rfl) rfl ?_
                    first | (exfalso; omega) | (have e := ev_bin (live := live) (br := br) (o := 5) (op := fun x y => x * y) (k0 := k0) (k2 := k2) (φ := φ) hl hb rfl (fun _ _ => rfl); rw [e.2] at ef24; rw [e.1]; exact ih t2 p2 (dBin 5 k0 k2) _ _ _ _ _ _ (by omega) ha2 hp2 (evV_in dBin_in) eg2 ef22 ef23 ef24 hfE hgE hH hA) | (have e := (ev_div (live := live) (br := br) (o := 6) (op := fun x y => Int.tdiv x y) (k0 := k0) (k2 := k2) (φ := φ) hl hb rfl (fun _ _ => rfl) _ _ rfl rfl).2 (by assumption); rw [e.2] at ef24; rw [e.1]; exact ih t2 p2 (dBin 6 k0 k2) _ _ _ _ _ _ (by omega) ha2 hp2 (evV_in dBin_in) eg2 ef22 ef23 ef24 hfE hgE hH hA) | (have e := (ev_div (live := live) (br := br) (o := 6) (op := fun x y => Int.tdiv x y) (k0 := k0) (k2 := k2) (φ := φ) hl hb rfl (fun _ _ => rfl) _ _ rfl rfl).1 (by assumption); rw [if_pos (by omega)] at e; rw [e.2] at ef24; rw [e.1]; exact ih t2 p2 (dBin 6 k0 k2) _ _ _ _ _ _ (by omega) ha2 hp2 (evV_in dBin_in) eg2 ef22 ef23 ef24 hfE hgE hH hA) | (have e := (ev_div (live := live) (br := br) (o := 6) (op := fun x y => Int.tdiv x y) (k0 := k0) (k2 := k2) (φ := φ) hl hb rfl (fun _ _ => rfl) _ _ rfl rfl).1 (by assumption); rw [if_neg (by omega)] at e; rw [e.2] at ef24; rw [e.1]; exact ih t2 p2 (dBin 6 k0 k2) _ _ _ _ _ _ (by omega) ha2 hp2 (evV_in dBin_in) eg2 ef22 ef23 ef24 hfE hgE hH hA) | (have e := (ev_div (live := live) (br := br) (o := 7) (op := fun x y => Int.tmod x y) (k0 := k0) (k2 := k2) (φ := φ) hl hb rfl (fun _ _ => rfl) _ _ rfl rfl).2 (by assumption); rw [e.2] at ef24; rw [e.1]; exact ih t2 p2 (dBin 7 k0 k2) _ _ _ _ _ _ (by omega) ha2 hp2 (evV_in dBin_in) eg2 ef22 ef23 ef24 hfE hgE hH hA) | (have e := (ev_div (live := live) (br := br) (o := 7) (op := fun x y => Int.tmod x y) (k0 := k0) (k2 := k2) (φ := φ) hl hb rfl (fun _ _ => rfl) _ _ rfl rfl).1 (by assumption); rw [if_pos (by omega)] at e; rw [e.2] at ef24; rw [e.1]; exact ih t2 p2 (dBin 7 k0 k2) _ _ _ _ _ _ (by omega) ha2 hp2 (evV_in dBin_in) eg2 ef22 ef23 ef24 hfE hgE hH hA) | (have e := (ev_div (live := live) (br := br) (o := 7) (op := fun x y => Int.tmod x y) (k0 := k0) (k2 := k2) (φ := φ) hl hb rfl (fun _ _ => rfl) _ _ rfl rfl).1 (by assumption); rw [if_neg (by omega)] at e; rw [e.2] at ef24; rw [e.1]; exact ih t2 p2 (dBin 7 k0 k2) _ _ _ _ _ _ (by omega) ha2 hp2 (evV_in dBin_in) eg2 ef22 ef23 ef24 hfE hgE hH hA)
                · skip
                  refine z_iconst (TX8_termOf_1.at 14 rfl) ?_
                  refine z_goto (tgt := 115) (TX8_termOf_1.at 15 rfl) rfl ?_
                  refine zm_putZE (TX8_termOf_1.at 17 rfl) fp8_270 hH hA rfl (by decide) (by first | omega | exact b2i_01 _) (fun h f115 e1 e2 hH hA => ?_)
                  have ef22 := (e1 22 (by decide)).trans ef22
                  have ef23 := (e1 23 (by decide)).trans ef23
                  have ef24 := e2
                  have hfE := hfE.put e1 (by decide)
                  refine z_lconst (v := 1) (by decide) (TX8_termOf_1.at 18 rfl) ?_
                  refine z_lst_5 (TX8_termOf_1.at 19 rfl) (Nat.le_of_ble_eq_true rfl) rfl ?_
                  refine z_ald_0 (TX8_termOf_1.at 20 rfl) ?_
                  refine z_ild_4 (TX8_termOf_1.at 21 rfl) ?_
                  refine z_bipush (by decide) (TX8_termOf_1.at 22 rfl) ?_
                  refine zs_call1 (s_sign (by omega)) (TX8_termOf_1.at 23 rfl) c8_219 rfl (by omega) (Nat.le_of_ble_eq_true rfl) (fun r126 => ?_)
                  refine z_icmp_ne (tgt := 139) (TX8_termOf_1.at 24 rfl) rfl (by omega) (by omega) (fun c44 => ?_) (fun c44 => ?_)
                  · skip
                    refine z_ild_4 (TX8_termOf_1.at 29 rfl) ?_
                    refine z_bipush (by decide) (TX8_termOf_1.at 30 rfl) ?_
                    refine zs_call1 (s_sign (by omega)) (TX8_termOf_1.at 31 rfl) c8_219 rfl (by omega) (Nat.le_of_ble_eq_true rfl) (fun r143 => ?_)
                    refine z_icmp_ne (tgt := 156) (TX8_termOf_1.at 32 rfl) rfl (by omega) (by omega) (fun c45 => ?_) (fun c45 => ?_)
                    · skip
                      refine z_lld_2 (TX8_termOf_1.at 37 rfl) ?_
                      refine z_lld_5 (TX8_termOf_1.at 38 rfl) ?_
                      refine z_lrem (by omega) (by omega) (TX8_termOf_1.at 39 rfl) ?_
                      first | rw [zlrem_eq vz (by omega)] | skip
                      refine z_ild_1 (TX8_termOf_2.at 0 rfl) ?_
                      refine zm_callL2 (m_bounded ef24 (by first | exact mul_in vz rz | exact tdiv_in vz | exact tmod_in vz | (exfalso; omega)) hl (by first | exact evB_01 (evB_01 hb) | exact Or.inr rfl | exact Or.inl rfl)) (TX8_termOf_2.at 1 rfl) c8_277 rfl rfl hH hA (by omega) (Nat.le_of_ble_eq_true rfl) (fun x161 f161 g161 j161 h r161 q161 hH hA => ?_)
                      obtain ⟨q161, xf, xg, xj⟩ := q161
                      rw [xj] at hH
                      have ef22 := (xf 22 (by decide)).trans ef22
                      have ef23 := (xf 23 (by decide)).trans ef23
                      have hfE := hfE.trans xf (by decide)
                      have eg2 := (xg 2 (by decide)).trans eg2
                      have hgE := hgE.trans xg (by decide)
                      have qL := q161
                      obtain ⟨rfl, ef24⟩ := qL
                      rw [bd_eq] at r161 ⊢
                      rw [bd_eqB] at ef24
                      refine z_lst_2 (TX8_termOf_2.at 2 rfl) (Nat.le_of_ble_eq_true rfl) rfl ?_
                      refine z_goto (tgt := 6) (TX8_termOf_2.at 3 rfl) rfl ?_
                      first | (exfalso; omega) | (have e := ev_bin (live := live) (br := br) (o := 5) (op := fun x y => x * y) (k0 := k0) (k2 := k2) (φ := φ) hl hb rfl (fun _ _ => rfl); rw [e.2] at ef24; rw [e.1]; exact ih t2 p2 (dBin 5 k0 k2) _ _ _ _ _ _ (by omega) ha2 hp2 (evV_in dBin_in) eg2 ef22 ef23 ef24 hfE hgE hH hA) | (have e := (ev_div (live := live) (br := br) (o := 6) (op := fun x y => Int.tdiv x y) (k0 := k0) (k2 := k2) (φ := φ) hl hb rfl (fun _ _ => rfl) _ _ rfl rfl).2 (by assumption); rw [e.2] at ef24; rw [e.1]; exact ih t2 p2 (dBin 6 k0 k2) _ _ _ _ _ _ (by omega) ha2 hp2 (evV_in dBin_in) eg2 ef22 ef23 ef24 hfE hgE hH hA) | (have e := (ev_div (live := live) (br := br) (o := 6) (op := fun x y => Int.tdiv x y) (k0 := k0) (k2 := k2) (φ := φ) hl hb rfl (fun _ _ => rfl) _ _ rfl rfl).1 (by assumption); rw [if_pos (by omega)] at e; rw [e.2] at ef24; rw [e.1]; exact ih t2 p2 (dBin 6 k0 k2) _ _ _ _ _ _ (by omega) ha2 hp2 (evV_in dBin_in) eg2 ef22 ef23 ef24 hfE hgE hH hA) | (have e := (ev_div (live := live) (br := br) (o := 6) (op := fun x y => Int.tdiv x y) (k0 := k0) (k2 := k2) (φ := φ) hl hb rfl (fun _ _ => rfl) _ _ rfl rfl).1 (by assumption); rw [if_neg (by omega)] at e; rw [e.2] at ef24; rw [e.1]; exact ih t2 p2 (dBin 6 k0 k2) _ _ _ _ _ _ (by omega) ha2 hp2 (evV_in dBin_in) eg2 ef22 ef23 ef24 hfE hgE hH hA) | (have e := (ev_div (live := live) (br := br) (o := 7) (op := fun x y => Int.tmod x y) (k0 := k0) (k2 := k2) (φ := φ) hl hb rfl (fun _ _ => rfl) _ _ rfl rfl).2 (by assumption); rw [e.2] at ef24; rw [e.1]; exact ih t2 p2 (dBin 7 k0 k2) _ _ _ _ _ _ (by omega) ha2 hp2 (evV_in dBin_in) eg2 ef22 ef23 ef24 hfE hgE hH hA) | (have e := (ev_div (live := live) (br := br) (o := 7) (op := fun x y => Int.tmod x y) (k0 := k0) (k2 := k2) (φ := φ) hl hb rfl (fun _ _ => rfl) _ _ rfl rfl).1 (by assumption); rw [if_pos (by omega)] at e; rw [e.2] at ef24; rw [e.1]; exact ih t2 p2 (dBin 7 k0 k2) _ _ _ _ _ _ (by omega) ha2 hp2 (evV_in dBin_in) eg2 ef22 ef23 ef24 hfE hgE hH hA) | (have e := (ev_div (live := live) (br := br) (o := 7) (op := fun x y => Int.tmod x y) (k0 := k0) (k2 := k2) (φ := φ) hl hb rfl (fun _ _ => rfl) _ _ rfl rfl).1 (by assumption); rw [if_neg (by omega)] at e; rw [e.2] at ef24; rw [e.1]; exact ih t2 p2 (dBin 7 k0 k2) _ _ _ _ _ _ (by omega) ha2 hp2 (evV_in dBin_in) eg2 ef22 ef23 ef24 hfE hgE hH hA)
                    · skip
                      refine z_lld_2 (TX8_termOf_1.at 33 rfl) ?_
                      refine z_lld_5 (TX8_termOf_1.at 34 rfl) ?_
                      refine z_ldiv (by omega) (by omega) (TX8_termOf_1.at 35 rfl) ?_
                      rw [zldiv_eq vz (by omega)]
                      refine z_goto (tgt := 160) (TX8_termOf_1.at 36 rfl) rfl ?_
                      first | rw [zlrem_eq vz (by omega)] | skip
                      refine z_ild_1 (TX8_termOf_2.at 0 rfl) ?_
                      refine zm_callL2 (m_bounded ef24 (by first | exact mul_in vz rz | exact tdiv_in vz | exact tmod_in vz | (exfalso; omega)) hl (by first | exact evB_01 (evB_01 hb) | exact Or.inr rfl | exact Or.inl rfl)) (TX8_termOf_2.at 1 rfl) c8_277 rfl rfl hH hA (by omega) (Nat.le_of_ble_eq_true rfl) (fun x161 f161 g161 j161 h r161 q161 hH hA => ?_)
                      obtain ⟨q161, xf, xg, xj⟩ := q161
                      rw [xj] at hH
                      have ef22 := (xf 22 (by decide)).trans ef22
                      have ef23 := (xf 23 (by decide)).trans ef23
                      have hfE := hfE.trans xf (by decide)
                      have eg2 := (xg 2 (by decide)).trans eg2
                      have hgE := hgE.trans xg (by decide)
                      have qL := q161
                      obtain ⟨rfl, ef24⟩ := qL
                      rw [bd_eq] at r161 ⊢
                      rw [bd_eqB] at ef24
                      refine z_lst_2 (TX8_termOf_2.at 2 rfl) (Nat.le_of_ble_eq_true rfl) rfl ?_
                      refine z_goto (tgt := 6) (TX8_termOf_2.at 3 rfl) rfl ?_
                      first | (exfalso; omega) | (have e := ev_bin (live := live) (br := br) (o := 5) (op := fun x y => x * y) (k0 := k0) (k2 := k2) (φ := φ) hl hb rfl (fun _ _ => rfl); rw [e.2] at ef24; rw [e.1]; exact ih t2 p2 (dBin 5 k0 k2) _ _ _ _ _ _ (by omega) ha2 hp2 (evV_in dBin_in) eg2 ef22 ef23 ef24 hfE hgE hH hA) | (have e := (ev_div (live := live) (br := br) (o := 6) (op := fun x y => Int.tdiv x y) (k0 := k0) (k2 := k2) (φ := φ) hl hb rfl (fun _ _ => rfl) _ _ rfl rfl).2 (by assumption); rw [e.2] at ef24; rw [e.1]; exact ih t2 p2 (dBin 6 k0 k2) _ _ _ _ _ _ (by omega) ha2 hp2 (evV_in dBin_in) eg2 ef22 ef23 ef24 hfE hgE hH hA) | (have e := (ev_div (live := live) (br := br) (o := 6) (op := fun x y => Int.tdiv x y) (k0 := k0) (k2 := k2) (φ := φ) hl hb rfl (fun _ _ => rfl) _ _ rfl rfl).1 (by assumption); rw [if_pos (by omega)] at e; rw [e.2] at ef24; rw [e.1]; exact ih t2 p2 (dBin 6 k0 k2) _ _ _ _ _ _ (by omega) ha2 hp2 (evV_in dBin_in) eg2 ef22 ef23 ef24 hfE hgE hH hA) | (have e := (ev_div (live := live) (br := br) (o := 6) (op := fun x y => Int.tdiv x y) (k0 := k0) (k2 := k2) (φ := φ) hl hb rfl (fun _ _ => rfl) _ _ rfl rfl).1 (by assumption); rw [if_neg (by omega)] at e; rw [e.2] at ef24; rw [e.1]; exact ih t2 p2 (dBin 6 k0 k2) _ _ _ _ _ _ (by omega) ha2 hp2 (evV_in dBin_in) eg2 ef22 ef23 ef24 hfE hgE hH hA) | (have e := (ev_div (live := live) (br := br) (o := 7) (op := fun x y => Int.tmod x y) (k0 := k0) (k2 := k2) (φ := φ) hl hb rfl (fun _ _ => rfl) _ _ rfl rfl).2 (by assumption); rw [e.2] at ef24; rw [e.1]; exact ih t2 p2 (dBin 7 k0 k2) _ _ _ _ _ _ (by omega) ha2 hp2 (evV_in dBin_in) eg2 ef22 ef23 ef24 hfE hgE hH hA) | (have e := (ev_div (live := live) (br := br) (o := 7) (op := fun x y => Int.tmod x y) (k0 := k0) (k2 := k2) (φ := φ) hl hb rfl (fun _ _ => rfl) _ _ rfl rfl).1 (by assumption); rw [if_pos (by omega)] at e; rw [e.2] at ef24; rw [e.1]; exact ih t2 p2 (dBin 7 k0 k2) _ _ _ _ _ _ (by omega) ha2 hp2 (evV_in dBin_in) eg2 ef22 ef23 ef24 hfE hgE hH hA) | (have e := (ev_div (live := live) (br := br) (o := 7) (op := fun x y => Int.tmod x y) (k0 := k0) (k2 := k2) (φ := φ) hl hb rfl (fun _ _ => rfl) _ _ rfl rfl).1 (by assumption); rw [if_neg (by omega)] at e; rw [e.2] at ef24; rw [e.1]; exact ih t2 p2 (dBin 7 k0 k2) _ _ _ _ _ _ (by omega) ha2 hp2 (evV_in dBin_in) eg2 ef22 ef23 ef24 hfE hgE hH hA)
                  · skip
                    refine z_lld_2 (TX8_termOf_1.at 25 rfl) ?_
                    refine z_lld_5 (TX8_termOf_1.at 26 rfl) ?_
                    refine z_lmul (TX8_termOf_1.at 27 rfl) ?_
                    refine z_goto (tgt := 160) (TX8_termOf_1.at 28 rfl) rfl ?_
                    first | rw [zlrem_eq vz (by omega)] | skip
                    refine z_ild_1 (TX8_termOf_2.at 0 rfl) ?_
                    refine zm_callL2 (m_bounded ef24 (by first | exact mul_in vz rz | exact tdiv_in vz | exact tmod_in vz | (exfalso; omega)) hl (by first | exact evB_01 (evB_01 hb) | exact Or.inr rfl | exact Or.inl rfl)) (TX8_termOf_2.at 1 rfl) c8_277 rfl rfl hH hA (by omega) (Nat.le_of_ble_eq_true rfl) (fun x161 f161 g161 j161 h r161 q161 hH hA => ?_)
                    obtain ⟨q161, xf, xg, xj⟩ := q161
                    rw [xj] at hH
                    have ef22 := (xf 22 (by decide)).trans ef22
                    have ef23 := (xf 23 (by decide)).trans ef23
                    have hfE := hfE.trans xf (by decide)
                    have eg2 := (xg 2 (by decide)).trans eg2
                    have hgE := hgE.trans xg (by decide)
                    have qL := q161
                    obtain ⟨rfl, ef24⟩ := qL
                    rw [bd_eq] at r161 ⊢
                    rw [bd_eqB] at ef24
                    refine z_lst_2 (TX8_termOf_2.at 2 rfl) (Nat.le_of_ble_eq_true rfl) rfl ?_
                    refine z_goto (tgt := 6) (TX8_termOf_2.at 3 rfl) rfl ?_
                    first | (exfalso; omega) | (have e := ev_bin (live := live) (br := br) (o := 5) (op := fun x y => x * y) (k0 := k0) (k2 := k2) (φ := φ) hl hb rfl (fun _ _ => rfl); rw [e.2] at ef24; rw [e.1]; exact ih t2 p2 (dBin 5 k0 k2) _ _ _ _ _ _ (by omega) ha2 hp2 (evV_in dBin_in) eg2 ef22 ef23 ef24 hfE hgE hH hA) | (have e := (ev_div (live := live) (br := br) (o := 6) (op := fun x y => Int.tdiv x y) (k0 := k0) (k2 := k2) (φ := φ) hl hb rfl (fun _ _ => rfl) _ _ rfl rfl).2 (by assumption); rw [e.2] at ef24; rw [e.1]; exact ih t2 p2 (dBin 6 k0 k2) _ _ _ _ _ _ (by omega) ha2 hp2 (evV_in dBin_in) eg2 ef22 ef23 ef24 hfE hgE hH hA) | (have e := (ev_div (live := live) (br := br) (o := 6) (op := fun x y => Int.tdiv x y) (k0 := k0) (k2 := k2) (φ := φ) hl hb rfl (fun _ _ => rfl) _ _ rfl rfl).1 (by assumption); rw [if_pos (by omega)] at e; rw [e.2] at ef24; rw [e.1]; exact ih t2 p2 (dBin 6 k0 k2) _ _ _ _ _ _ (by omega) ha2 hp2 (evV_in dBin_in) eg2 ef22 ef23 ef24 hfE hgE hH hA) | (have e := (ev_div (live := live) (br := br) (o := 6) (op := fun x y => Int.tdiv x y) (k0 := k0) (k2 := k2) (φ := φ) hl hb rfl (fun _ _ => rfl) _ _ rfl rfl).1 (by assumption); rw [if_neg (by omega)] at e; rw [e.2] at ef24; rw [e.1]; exact ih t2 p2 (dBin 6 k0 k2) _ _ _ _ _ _ (by omega) ha2 hp2 (evV_in dBin_in) eg2 ef22 ef23 ef24 hfE hgE hH hA) | (have e := (ev_div (live := live) (br := br) (o := 7) (op := fun x y => Int.tmod x y) (k0 := k0) (k2 := k2) (φ := φ) hl hb rfl (fun _ _ => rfl) _ _ rfl rfl).2 (by assumption); rw [e.2] at ef24; rw [e.1]; exact ih t2 p2 (dBin 7 k0 k2) _ _ _ _ _ _ (by omega) ha2 hp2 (evV_in dBin_in) eg2 ef22 ef23 ef24 hfE hgE hH hA) | (have e := (ev_div (live := live) (br := br) (o := 7) (op := fun x y => Int.tmod x y) (k0 := k0) (k2 := k2) (φ := φ) hl hb rfl (fun _ _ => rfl) _ _ rfl rfl).1 (by assumption); rw [if_pos (by omega)] at e; rw [e.2] at ef24; rw [e.1]; exact ih t2 p2 (dBin 7 k0 k2) _ _ _ _ _ _ (by omega) ha2 hp2 (evV_in dBin_in) eg2 ef22 ef23 ef24 hfE hgE hH hA) | (have e := (ev_div (live := live) (br := br) (o := 7) (op := fun x y => Int.tmod x y) (k0 := k0) (k2 := k2) (φ := φ) hl hb rfl (fun _ _ => rfl) _ _ rfl rfl).1 (by assumption); rw [if_neg (by omega)] at e; rw [e.2] at ef24; rw [e.1]; exact ih t2 p2 (dBin 7 k0 k2) _ _ _ _ _ _ (by omega) ha2 hp2 (evV_in dBin_in) eg2 ef22 ef23 ef24 hfE hgE hH hA)

set_option maxHeartbeats 4000000 in
set_option maxRecDepth 100000 in
theorem m_termOf {l : Launch} {o : Nat} {ar : Nat → Nat} {f : mF} {g j : mA} {K : Int → Int} {y22 : Int} {y23 : Int} {br : Int} {live : Int} {b nt : Int} {N t p t1 p1 : Nat} {k1 : Den} {lw : Bool} {φ : Int → Int} {item : Nat → Nat → PR} (eg2 : g 2 = K) (ef22 : f 22 = y22) (ef23 : f 23 = y23) (ef24 : f 24 = br) (hl : live = 0 ∨ live = 1) (hb : br = 0 ∨ br = 1) (ey : y22 = b + t) (ez : y23 = b + nt) (b0 : 0 ≤ b) (bn : b + nt ≤ 2800) (n4 : nt ≤ 400) (tn : (t : Int) ≤ nt) (hN : 2 ≤ N) (hFo : FOK lw K f g φ) (hAdv : Adv (cK K b nt) item) (hitem : EvC l o ar MX8_partOf N lw K b nt φ item) (hp0 : pRow mulOp (cK K b nt) item t p = .ok (t1, p1, k1)) : MM l o ar MX8_termOf (N + 1) [.ref o, vI live] f g j (PL (fun r f' g' j' => (r = evV live br (k1 φ) ∧ f' 24 = evB live br (k1 φ) ∧ f' 22 = b + t1 ∧ zIn r) ∧ eqx [22, 24] f f' ∧ eqx [] g g' ∧ j' = j)) := by
  refine MM.intro [some (.ref o), some (vI live), none, none, none, none, none] (by decide) (Nat.le_of_ble_eq_true rfl) rfl (fun d hd h0 h hH hA => ?_)
  have hfE : eqx [22, 24] f f := eqx.rf
  have hgE : eqx [] g g := eqx.rf
  subst ey; subst ez
  obtain ⟨t2, p2, k2, hpi, hp⟩ := prow_step hp0
  have ha : advR (cK K b nt) t (.ok (t2, p2, k2)) := hpi ▸ hAdv t p
  have ha1 : t < t2 := ha.1
  have ha2 := adv_le (nt := nt) cK_nz ha.1 ha.2
  refine z_ald_0 (TX8_termOf_0.at 0 rfl) ?_
  refine z_ild_1 (TX8_termOf_0.at 1 rfl) ?_
  refine zm_callL1 (hitem live _ t p t2 p2 k2 _ _ _ hl hb eg2 ef22 ef23 ef24 (hFo.keep hfE hgE) tn hpi) (TX8_termOf_0.at 2 rfl) c8_281 rfl rfl hH hA (by omega) (Nat.le_of_ble_eq_true rfl) (fun x2 f2 g2 j2 h r2 q2 hH hA => ?_)
  obtain ⟨q2, xf, xg, xj⟩ := q2
  rw [xj] at hH
  have ef23 := (xf 23 (by decide)).trans ef23
  have hfE := hfE.trans xf (by decide)
  have eg2 := (xg 2 (by decide)).trans eg2
  have hgE := hgE.trans xg (by decide)
  have qL := q2
  obtain ⟨rfl, ef24, ef22, rz⟩ := qL
  refine z_lst_2 (TX8_termOf_0.at 3 rfl) (Nat.le_of_ble_eq_true rfl) rfl ?_
  refine lp_termOf (t1 := t1) (p1 := p1) (k1 := k1) (lw := lw) hd hN hl hb b0 bn n4 hAdv hitem hFo (fun o4 o5 o6 f3 g3 h3 ef22 ef24 vz hfE hgE hH hA => ?_) 401 t2 p2 k2 _ _ _ _ _ _ (by omega) ha2 hp rz eg2 ef22 ef23 ef24 hfE hgE hH hA
  refine z_lld_2 (TX8_termOf_2.at 4 rfl) ?_
  refine zm_lret (TX8_termOf_2.at 5 rfl) rfl hH hA (by omega) ?_
  exact ⟨⟨rfl, ef24, ef22, vz⟩, hfE, hgE, rfl⟩

theorem ev_termOf {l : Launch} {o : Nat} {ar : Nat → Nat} {N : Nat} {lw : Bool} {K : Int → Int} {b nt : Int} {φ : Int → Int} {item : Nat → Nat → PR} (b0 : 0 ≤ b) (bn : b + nt ≤ 2800) (n4 : nt ≤ 400) (hN : 2 ≤ N) (hAdv : Adv (cK K b nt) item) (hitem : EvC l o ar MX8_partOf N lw K b nt φ item) : EvC l o ar MX8_termOf (N + 1) lw K b nt φ (pRow mulOp (cK K b nt) item) := fun live br t p t' p' k f g j hl hb eg2 ef22 ef23 ef24 hFo tn hp => m_termOf eg2 ef22 ef23 ef24 hl hb rfl rfl b0 bn n4 tn hN hFo hAdv hitem hp
/-- a sum with d brackets left -/
theorem ev_sumD {l : Launch} {o : Nat} {ar : Nat → Nat} {lw : Bool} {K : Int → Int} {b nt : Int} {φ : Int → Int} (b0 : 0 ≤ b) (bn : b + nt ≤ 2800) (n4 : nt ≤ 400) (n0 : 0 ≤ K 76) (n1 : K 76 ≤ 10) (hd0 : ∀ i, 0 ≤ i → i < K 76 → K i = 0 ∨ K i = 1) : ∀ d : Nat, EvC l o ar MX8_sumOf (5 + 3 * d) lw K b nt φ (pSumD lw (cK K b nt) (vK K b) d) := by
  intro d
  induction d with
  | zero => exact ev_sumOf b0 bn n4 (by omega) (Adv_row (fun x o h => op_ne.1 h) (Adv_part (fun g h => by cases h))) (ev_termOf (N := 3) b0 bn n4 (by omega) (Adv_part (fun g h => by cases h)) (ev_part (N := 2) b0 bn n0 n1 hd0 (by omega) (fun pf h => by cases h)))
  | succ d ih => exact ev_sumOf (N := 5 + 3 * d + 2) b0 bn n4 (by omega) (Adv_row (fun x o h => op_ne.1 h) (Adv_part (fun g h => by cases h; exact Adv_sum _ _ _ d))) (ev_termOf (N := 5 + 3 * d + 1) b0 bn n4 (by omega) (Adv_part (fun g h => by cases h; exact Adv_sum _ _ _ d)) (ev_part (N := 5 + 3 * d) b0 bn n0 n1 hd0 (by omega) (fun pf h => by cases h; exact ⟨Adv_sum _ _ _ d, ih⟩)))
