/-! ===== tells and what hangs on it ===== -/
/-- the law in force, as clauses -/
def LawK (K : Int → Int) (cl : List Cla) : Prop := (K 80 = -1 ∧ cl = []) ∨ (0 ≤ K 80 ∧ K 80 ≤ 6 ∧ ∃ nN : Nat, K (81 + K 80) = (nN : Int) ∧ nN ≤ 400 ∧ pText true (cK K (400 * K 80) nN) (vK K (400 * K 80)) nN 12 0 0 = .ok cl)
/-- the rest that tells needs -/
def LawH (K : Int → Int) : Prop := 0 ≤ K 76 ∧ K 76 ≤ 10 ∧ (∀ i, 0 ≤ i → i < K 76 → K i = 0 ∨ K i = 1)
theorem zl2i_in {z : Int} (h : zIn z) : zl2i z = z := by
  have h0 := h.1
  have h1 := h.2
  have h2 : (Int64.ofInt z).toInt = z := Int64.toInt_ofInt_of_le (by omega) (by omega)
  unfold zl2i
  rw [Int64.toInt_toInt32, h2]
  exact Int.bmod_eq_of_le (by omega) (by omega)
set_option maxHeartbeats 4000000 in
set_option maxRecDepth 100000 in
theorem m_tells0 {l : Launch} {o : Nat} {ar : Nat → Nat} {f : mF} {g j : mA} {K : Int → Int} {X26 : Int → Int} {head lo hi wo : Int} {φ : Int → Int} {cl : List Cla} (eg2 : g 2 = K) (eg26 : g 26 = X26) (hh : zIn head) (hlo : zIn lo) (hhi : zIn hi) (hwo : zIn wo) (hlh : lo ≤ hi) (hK : LawH K) (hφ : ∀ a, 0 ≤ a → a ≤ 8 → X26 a = φ a) (h80 : K 80 = -1) : MM l o ar MX8_tells 45 [.ref o, vI head, vI lo, vI hi, vI wo] f g j (PI (fun r f' g' j' => (r = wo) ∧ eqx [22, 23, 24, 25] f f' ∧ eqx [] g g' ∧ j' = j)) := by
  refine MM.intro [some (.ref o), some (vI head), some (vI lo), some (vI hi), some (vI wo), none, none, none, none, none, none, none] (by decide) (Nat.le_of_ble_eq_true rfl) rfl (fun d hd h0 h hH hA => ?_)
  have hfE : eqx [22, 23, 24, 25] f f := eqx.rf
  have hgE : eqx [] g g := eqx.rf
  refine z_ald_0 (TX8_tells_0.at 0 rfl) ?_
  refine zm_getA (TX8_tells_0.at 1 rfl) fl8_28 hH (by decide) (by decide) ?_
  refine z_bipush (by decide) (TX8_tells_0.at 2 rfl) ?_
  refine zm_ialdE eg2 (TX8_tells_0.at 3 rfl) hH rfl (by omega) (show _ < ((5688 : Nat) : Int) by omega) (fun r6 => ?_)
  refine z_iconst (TX8_tells_0.at 4 rfl) ?_
  refine z_icmp_ne (tgt := 14) (TX8_tells_0.at 5 rfl) rfl (by omega) (by omega) (fun c1 => absurd c1 (by omega)) (fun c1 => ?_)
  refine z_ild_4 (TX8_tells_0.at 6 rfl) ?_
  refine zm_iret (TX8_tells_0.at 7 rfl) rfl hH hA (by omega) ?_
  exact ⟨rfl, hfE, hgE, rfl⟩

set_option maxHeartbeats 4000000 in
set_option maxRecDepth 100000 in
theorem m_tells1 {l : Launch} {o : Nat} {ar : Nat → Nat} {f : mF} {g j : mA} {K : Int → Int} {X26 : Int → Int} {y22 : Int} {y23 : Int} {y24 : Int} {y25 : Int} {head lo hi wo : Int} {φ : Int → Int} {cl : List Cla} {nN : Nat} (eg2 : g 2 = K) (eg26 : g 26 = X26) (ef22 : f 22 = y22) (ef23 : f 23 = y23) (ef24 : f 24 = y24) (ef25 : f 25 = y25) (hh : zIn head) (hlo : zIn lo) (hhi : zIn hi) (hwo : zIn wo) (hlh : lo ≤ hi) (hK : LawH K) (hφ : ∀ a, 0 ≤ a → a ≤ 8 → X26 a = φ a) (h80 : 0 ≤ K 80) (h86 : K 80 ≤ 6) (hn : K (81 + K 80) = (nN : Int)) (n4 : nN ≤ 400) (hp : pText true (cK K (400 * K 80) nN) (vK K (400 * K 80)) nN 12 0 0 = .ok cl) : MM l o ar MX8_tells 45 [.ref o, vI head, vI lo, vI hi, vI wo] f g j (PI (fun r f' g' j' => (r = tellF head lo hi φ cl wo) ∧ eqx [22, 23, 24, 25] f f' ∧ eqx [] g g' ∧ j' = j)) := by
  refine MM.intro [some (.ref o), some (vI head), some (vI lo), some (vI hi), some (vI wo), none, none, none, none, none, none, none] (by decide) (Nat.le_of_ble_eq_true rfl) rfl (fun d hd h0 h hH hA => ?_)
  have hfE : eqx [22, 23, 24, 25] f f := eqx.rf
  have hgE : eqx [] g g := eqx.rf
  obtain ⟨n0, n1, hd0⟩ := hK
  refine z_ald_0 (TX8_tells_0.at 0 rfl) ?_
  refine zm_getA (TX8_tells_0.at 1 rfl) fl8_28 hH (by decide) (by decide) ?_
  refine z_bipush (by decide) (TX8_tells_0.at 2 rfl) ?_
  refine zm_ialdE eg2 (TX8_tells_0.at 3 rfl) hH rfl (by omega) (show _ < ((5688 : Nat) : Int) by omega) (fun r6 => ?_)
  refine z_iconst (TX8_tells_0.at 4 rfl) ?_
  refine z_icmp_ne (tgt := 14) (TX8_tells_0.at 5 rfl) rfl (by omega) (by omega) (fun c1 => ?_) (fun c1 => absurd c1 (by omega))
  refine z_ald_0 (TX8_tells_0.at 8 rfl) ?_
  refine z_iconst (TX8_tells_0.at 9 rfl) ?_
  refine zm_putZE (TX8_tells_0.at 10 rfl) fp8_290 hH hA rfl (by decide) (by first | omega | exact b2i_01 _) (fun h f16 e1 e2 hH hA => ?_)
  have ef22 := (e1 22 (by decide)).trans ef22
  have ef23 := (e1 23 (by decide)).trans ef23
  have ef24 := (e1 24 (by decide)).trans ef24
  have ef25 := e2
  have hfE := hfE.put e1 (by decide)
  refine z_ild_4 (TX8_tells_0.at 11 rfl) ?_
  refine z_i2l (by omega) (TX8_tells_0.at 12 rfl) ?_
  refine z_lst_5 (TX8_tells_0.at 13 rfl) (Nat.le_of_ble_eq_true rfl) rfl ?_
  refine z_ald_0 (TX8_tells_0.at 14 rfl) ?_
  refine z_sipush (by decide) (TX8_tells_0.at 15 rfl) ?_
  refine z_ald_0 (TX8_tells_0.at 16 rfl) ?_
  refine zm_getA (TX8_tells_0.at 17 rfl) fl8_28 hH (by decide) (by decide) ?_
  refine z_bipush (by decide) (TX8_tells_0.at 18 rfl) ?_
  refine zm_ialdE eg2 (TX8_tells_0.at 19 rfl) hH rfl (by omega) (show _ < ((5688 : Nat) : Int) by omega) (fun r34 => ?_)
  refine z_imul (TX8_tells_0.at 20 rfl) ?_
  refine zm_putIE (TX8_tells_0.at 21 rfl) fp8_260 hH hA rfl (by decide) (by first | omega | exact b2i_01 _) (fun h f36 e1 e2 hH hA => ?_)
  have ef22 := e2
  have ef23 := (e1 23 (by decide)).trans ef23
  have ef24 := (e1 24 (by decide)).trans ef24
  have ef25 := (e1 25 (by decide)).trans ef25
  have hfE := hfE.put e1 (by decide)
  refine z_ald_0 (TX8_tells_0.at 22 rfl) ?_
  refine z_ald_0 (TX8_tells_0.at 23 rfl) ?_
  refine zm_getIE ef22 (TX8_tells_0.at 24 rfl) fl8_260 hH rfl (by decide) (fun r41 => ?_)
  refine z_ald_0 (TX8_tells_0.at 25 rfl) ?_
  refine zm_getA (TX8_tells_0.at 26 rfl) fl8_28 hH (by decide) (by decide) ?_
  refine z_bipush (by decide) (TX8_tells_0.at 27 rfl) ?_
  refine z_ald_0 (TX8_tells_0.at 28 rfl) ?_
  refine zm_getA (TX8_tells_0.at 29 rfl) fl8_28 hH (by decide) (by decide) ?_
  refine z_bipush (by decide) (TX8_tells_0.at 30 rfl) ?_
  refine zm_ialdE eg2 (TX8_tells_0.at 31 rfl) hH rfl (by omega) (show _ < ((5688 : Nat) : Int) by omega) (fun r56 => ?_)
  refine z_iadd (TX8_tells_0.at 32 rfl) ?_
  refine zm_ialdE eg2 (TX8_tells_0.at 33 rfl) hH rfl (by omega) (show _ < ((5688 : Nat) : Int) by omega) (fun r58 => ?_)
  refine z_iadd (TX8_tells_0.at 34 rfl) ?_
  refine zm_putIE (TX8_tells_0.at 35 rfl) fp8_257 hH hA rfl (by decide) (by first | omega | exact b2i_01 _) (fun h f60 e1 e2 hH hA => ?_)
  have ef22 := (e1 22 (by decide)).trans ef22
  have ef23 := e2
  have ef24 := (e1 24 (by decide)).trans ef24
  have ef25 := (e1 25 (by decide)).trans ef25
  have hfE := hfE.put e1 (by decide)
  refine lp_tells (K := K) (X26 := X26) (nN := nN) (b := 400 * K 80) (fin := tellF head lo hi φ cl wo) hd (by omega) (by omega) (by omega) n0 n1 hd0 hh hlo hhi hlh hφ (fun w2 o7 o8 o9 o10 o11 f g h ew zw eg2 hfE hgE hH hA => ?_) cl 12 0 0 wo _ _ _ _ _ _ _ _ _ _ (Or.inl ⟨hp, rfl⟩) hwo rfl eg2 eg26 (by rw [ef22]; simp) (by rw [ef23, hn]) rfl ef25 hfE hgE hH hA
  refine z_lld_5 (TX8_tells_2.at 37 rfl) ?_
  refine z_l2i (TX8_tells_2.at 38 rfl) ?_
  have zz : zIn (zl2i w2) := (by rw [zl2i_in zw]; exact zw)
  refine zm_iret (TX8_tells_2.at 39 rfl) rfl hH hA (by rw [zl2i_in zw]; omega) ?_
  exact ⟨by rw [ew, zl2i_in zw], hfE, hgE, rfl⟩

theorem m_tells {l : Launch} {o : Nat} {ar : Nat → Nat} {f : mF} {g j : mA} {K X26 : Int → Int} {head lo hi wo : Int} {φ : Int → Int} {cl : List Cla} (eg2 : g 2 = K) (eg26 : g 26 = X26) (hh : zIn head) (hlo : zIn lo) (hhi : zIn hi) (hwo : zIn wo) (hlh : lo ≤ hi) (hK : LawH K) (hL : LawK K cl) (hφ : ∀ a, 0 ≤ a → a ≤ 8 → X26 a = φ a) : MM l o ar MX8_tells 45 [.ref o, vI head, vI lo, vI hi, vI wo] f g j (PI (fun r f' g' j' => (r = tellF head lo hi φ cl wo) ∧ eqx [22, 23, 24, 25] f f' ∧ eqx [] g g' ∧ j' = j)) := by
  rcases hL with ⟨h80, rfl⟩ | ⟨h80, h86, nN, hn, n4, hp⟩
  · exact m_tells0 (φ := φ) (cl := []) eg2 eg26 hh hlo hhi hwo hlh hK hφ h80
  · exact m_tells1 (φ := φ) eg2 eg26 rfl rfl rfl rfl hh hlo hhi hwo hlh hK hφ h80 h86 hn n4 hp

/-- how long fuse x burns, how long knot k holds, whether fuse x catches -/
def brn (K : Int → Int) (cl : List Cla) (x : Int) : Int := tellF 1 1 99 (askF K x) cl (K (10 + x))
def hld (K : Int → Int) (cl : List Cla) (k : Int) : Int := tellF 2 0 9 (askN K k) cl 0
abbrev ctc (K : Int → Int) (cl : List Cla) (x : Int) : Prop := K x = 0 ∧ tellF 3 0 1 (askF K x) cl 0 = 0
set_option maxHeartbeats 4000000 in
set_option maxRecDepth 100000 in
theorem m_burnsFor {l : Launch} {o : Nat} {ar : Nat → Nat} {f : mF} {g j : mA} {K : Int → Int} {x : Int} {cl : List Cla} (eg2 : g 2 = K) (hx : zIn x) (x0 : 0 ≤ x) (x1 : x ≤ 9) (hK : LawH K) (hL : LawK K cl) : MM l o ar MX8_burnsFor 46 [.ref o, vI x] f g j (PI (fun r f' g' j' => (r = brn K cl x) ∧ eqx [22, 23, 24, 25] f f' ∧ eqx [26] g g' ∧ j' = j)) := by
  refine MM.intro [some (.ref o), some (vI x)] (by decide) (Nat.le_of_ble_eq_true rfl) rfl (fun d hd h0 h hH hA => ?_)
  have hfE : eqx [22, 23, 24, 25] f f := eqx.rf
  have hgE : eqx [26] g g := eqx.rf
  refine z_ald_0 (TX8_burnsFor.at 0 rfl) ?_
  refine z_ild_1 (TX8_burnsFor.at 1 rfl) ?_
  refine zm_callV1 (m_setsFuse eg2 rfl hx x0 x1) (TX8_burnsFor.at 2 rfl) c8_323 rfl rfl hH hA (by omega) (Nat.le_of_ble_eq_true rfl) (fun f2 g2 j2 h q2 hH hA => ?_)
  obtain ⟨q2, xf, xg, xj⟩ := q2
  rw [xj] at hH
  have hfE := hfE.trans xf (by decide)
  have eg2 := (xg 2 (by decide)).trans eg2
  have hgE := hgE.trans xg (by decide)
  have qL := q2
  have hφ := qL
  refine z_ald_0 (TX8_burnsFor.at 3 rfl) ?_
  refine z_iconst (TX8_burnsFor.at 4 rfl) ?_
  refine z_iconst (TX8_burnsFor.at 5 rfl) ?_
  refine z_bipush (by decide) (TX8_burnsFor.at 6 rfl) ?_
  refine z_ald_0 (TX8_burnsFor.at 7 rfl) ?_
  refine zm_getA (TX8_burnsFor.at 8 rfl) fl8_28 hH (by decide) (by decide) ?_
  refine z_bipush (by decide) (TX8_burnsFor.at 9 rfl) ?_
  refine z_ild_1 (TX8_burnsFor.at 10 rfl) ?_
  refine z_iadd (TX8_burnsFor.at 11 rfl) ?_
  refine zm_ialdE eg2 (TX8_burnsFor.at 12 rfl) hH rfl (by omega) (show _ < ((5688 : Nat) : Int) by omega) (fun r18 => ?_)
  refine zm_callI4 (m_tells eg2 rfl (by omega) (by omega) (by omega) (by omega) (by omega) hK hL hφ) (TX8_burnsFor.at 13 rfl) c8_326 rfl rfl hH hA (by omega) (Nat.le_of_ble_eq_true rfl) (fun x19 f19 g19 j19 h r19 q19 hH hA => ?_)
  obtain ⟨q19, xf, xg, xj⟩ := q19
  rw [xj] at hH
  have hfE := hfE.trans xf (by decide)
  have eg2 := (xg 2 (by decide)).trans eg2
  have hgE := hgE.trans xg (by decide)
  have qL := q19
  refine zm_iret (TX8_burnsFor.at 14 rfl) rfl hH hA (by omega) ?_
  exact ⟨qL, hfE, hgE, rfl⟩

set_option maxHeartbeats 4000000 in
set_option maxRecDepth 100000 in
theorem m_holdsFor {l : Launch} {o : Nat} {ar : Nat → Nat} {f : mF} {g j : mA} {K : Int → Int} {k : Int} {cl : List Cla} (eg2 : g 2 = K) (hk : zIn k) (hK : LawH K) (hL : LawK K cl) : MM l o ar MX8_holdsFor 46 [.ref o, vI k] f g j (PI (fun r f' g' j' => (r = hld K cl k) ∧ eqx [22, 23, 24, 25] f f' ∧ eqx [26] g g' ∧ j' = j)) := by
  refine MM.intro [some (.ref o), some (vI k)] (by decide) (Nat.le_of_ble_eq_true rfl) rfl (fun d hd h0 h hH hA => ?_)
  have hfE : eqx [22, 23, 24, 25] f f := eqx.rf
  have hgE : eqx [26] g g := eqx.rf
  refine z_ald_0 (TX8_holdsFor.at 0 rfl) ?_
  refine z_ild_1 (TX8_holdsFor.at 1 rfl) ?_
  refine zm_callV1 (m_setsKnot eg2 rfl hk hK.1 hK.2.1) (TX8_holdsFor.at 2 rfl) c8_330 rfl rfl hH hA (by omega) (Nat.le_of_ble_eq_true rfl) (fun f2 g2 j2 h q2 hH hA => ?_)
  obtain ⟨q2, xf, xg, xj⟩ := q2
  rw [xj] at hH
  have hfE := hfE.trans xf (by decide)
  have eg2 := (xg 2 (by decide)).trans eg2
  have hgE := hgE.trans xg (by decide)
  have qL := q2
  have hφ := qL
  refine z_ald_0 (TX8_holdsFor.at 3 rfl) ?_
  refine z_iconst (TX8_holdsFor.at 4 rfl) ?_
  refine z_iconst (TX8_holdsFor.at 5 rfl) ?_
  refine z_bipush (by decide) (TX8_holdsFor.at 6 rfl) ?_
  refine z_iconst (TX8_holdsFor.at 7 rfl) ?_
  refine zm_callI4 (m_tells eg2 rfl (by omega) (by omega) (by omega) (by omega) (by omega) hK hL hφ) (TX8_holdsFor.at 8 rfl) c8_326 rfl rfl hH hA (by omega) (Nat.le_of_ble_eq_true rfl) (fun x11 f11 g11 j11 h r11 q11 hH hA => ?_)
  obtain ⟨q11, xf, xg, xj⟩ := q11
  rw [xj] at hH
  have hfE := hfE.trans xf (by decide)
  have eg2 := (xg 2 (by decide)).trans eg2
  have hgE := hgE.trans xg (by decide)
  have qL := q11
  refine zm_iret (TX8_holdsFor.at 9 rfl) rfl hH hA (by omega) ?_
  exact ⟨qL, hfE, hgE, rfl⟩

set_option maxHeartbeats 4000000 in
set_option maxRecDepth 100000 in
theorem m_catchesNow {l : Launch} {o : Nat} {ar : Nat → Nat} {f : mF} {g j : mA} {K : Int → Int} {x : Int} {cl : List Cla} (eg2 : g 2 = K) (hx : zIn x) (x0 : 0 ≤ x) (x1 : x ≤ 9) (hK : LawH K) (hL : LawK K cl) : MM l o ar MX8_catchesNow 46 [.ref o, vI x] f g j (PI (fun r f' g' j' => (r = b2i (ctc K cl x)) ∧ eqx [22, 23, 24, 25] f f' ∧ eqx [26] g g' ∧ j' = j)) := by
  refine MM.intro [some (.ref o), some (vI x)] (by decide) (Nat.le_of_ble_eq_true rfl) rfl (fun d hd h0 h hH hA => ?_)
  have hfE : eqx [22, 23, 24, 25] f f := eqx.rf
  have hgE : eqx [26] g g := eqx.rf
  refine z_ald_0 (TX8_catchesNow.at 0 rfl) ?_
  refine z_ild_1 (TX8_catchesNow.at 1 rfl) ?_
  refine zm_callV1 (m_setsFuse eg2 rfl hx x0 x1) (TX8_catchesNow.at 2 rfl) c8_323 rfl rfl hH hA (by omega) (Nat.le_of_ble_eq_true rfl) (fun f2 g2 j2 h q2 hH hA => ?_)
  obtain ⟨q2, xf, xg, xj⟩ := q2
  rw [xj] at hH
  have hfE := hfE.trans xf (by decide)
  have eg2 := (xg 2 (by decide)).trans eg2
  have hgE := hgE.trans xg (by decide)
  have qL := q2
  have hφ := qL
  refine z_ald_0 (TX8_catchesNow.at 3 rfl) ?_
  refine zm_getA (TX8_catchesNow.at 4 rfl) fl8_28 hH (by decide) (by decide) ?_
  refine z_iconst (TX8_catchesNow.at 5 rfl) ?_
  refine z_ild_1 (TX8_catchesNow.at 6 rfl) ?_
  refine z_iadd (TX8_catchesNow.at 7 rfl) ?_
  refine zm_ialdE eg2 (TX8_catchesNow.at 8 rfl) hH rfl (by omega) (show _ < ((5688 : Nat) : Int) by omega) (fun r12 => ?_)
  refine z_if_ne (tgt := 31) (TX8_catchesNow.at 9 rfl) rfl (by omega) (fun c1 => ?_) (fun c1 => ?_)
  · skip
    refine z_iconst (TX8_catchesNow.at 19 rfl) ?_
    refine zm_zret (TX8_catchesNow.at 20 rfl) rfl hH hA (by first | omega | exact b2i_01 _) ?_
    exact ⟨(b2i_f (fun hc => c1 (by rw [show (0 : Int) + x = x by omega]; exact hc.1))).symm, hfE, hgE, rfl⟩
  · skip
    refine z_ald_0 (TX8_catchesNow.at 10 rfl) ?_
    refine z_iconst (TX8_catchesNow.at 11 rfl) ?_
    refine z_iconst (TX8_catchesNow.at 12 rfl) ?_
    refine z_iconst (TX8_catchesNow.at 13 rfl) ?_
    refine z_iconst (TX8_catchesNow.at 14 rfl) ?_
    refine zm_callI4 (m_tells eg2 rfl (by omega) (by omega) (by omega) (by omega) (by omega) hK hL hφ) (TX8_catchesNow.at 15 rfl) c8_326 rfl rfl hH hA (by omega) (Nat.le_of_ble_eq_true rfl) (fun x21 f21 g21 j21 h r21 q21 hH hA => ?_)
    obtain ⟨q21, xf, xg, xj⟩ := q21
    rw [xj] at hH
    have hfE := hfE.trans xf (by decide)
    have eg2 := (xg 2 (by decide)).trans eg2
    have hgE := hgE.trans xg (by decide)
    have qL := q21
    refine z_if_ne (tgt := 31) (TX8_catchesNow.at 16 rfl) rfl (by omega) (fun c2 => ?_) (fun c2 => ?_)
    · skip
      refine z_iconst (TX8_catchesNow.at 19 rfl) ?_
      refine zm_zret (TX8_catchesNow.at 20 rfl) rfl hH hA (by first | omega | exact b2i_01 _) ?_
      exact ⟨(b2i_f (fun hc => c2 (qL.trans hc.2))).symm, hfE, hgE, rfl⟩
    · skip
      refine z_iconst (TX8_catchesNow.at 17 rfl) ?_
      refine z_goto (tgt := 32) (TX8_catchesNow.at 18 rfl) rfl ?_
      refine zm_zret (TX8_catchesNow.at 20 rfl) rfl hH hA (by first | omega | exact b2i_01 _) ?_
      exact ⟨(b2i_t ⟨by rw [show (0 : Int) + x = x by omega] at c1; omega, by rw [← qL]; omega⟩).symm, hfE, hgE, rfl⟩

