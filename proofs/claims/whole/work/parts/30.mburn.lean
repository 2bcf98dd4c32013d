/-! ===== tells and what hangs on it ===== -/
/-- the law in force, as clauses -/
def LawK (K : Int → Int) (cl : List Cla) : Prop := (K 80 = -1 ∧ cl = []) ∨ (0 ≤ K 80 ∧ K 80 ≤ 6 ∧ ∃ nN : Nat, K (81 + K 80) = (nN : Int) ∧ nN ≤ 400 ∧ pText true (cK K (400 * K 80) nN) (vK K (400 * K 80)) nN 12 0 0 = .ok cl)
/-- the rest that tells needs -/
def LawH (K : Int → Int) : Prop := 0 ≤ K 76 ∧ K 76 ≤ 10 ∧ (∀ i, 0 ≤ i → i < K 76 → K i = 0 ∨ K i = 1)
theorem zl2i_in {z : Int} (h : zIn z) : zl2i z = z := by
  have h0 := h.1
  have h1 := h.2
  have h2 : (Int64.ofInt z).toInt = z := Int64.toInt_ofInt_of_le (by omega) (by omega)
  unfold zl2i
  rw [Int64.toInt_toInt32, h2]
  exact Int.bmod_eq_of_le (by omega) (by omega)
set_option maxHeartbeats 4000000 in
set_option maxRecDepth 100000 in
theorem m_tells0 {l : Launch} {o : Nat} {ar : Nat → Nat} {f : mF} {g j : mA} {K : Int → Int} {X26 : Int → Int} {head lo hi wo : Int} {φ : Int → Int} {cl : List Cla} (eg2 : g 2 = K) (eg26 : g 26 = X26) (hh : zIn head) (hlo : zIn lo) (hhi : zIn hi) (hwo : zIn wo) (hlh : lo ≤ hi) (hK : LawH K) (hφ : ∀ a, 0 ≤ a → a ≤ 8 → X26 a = φ a) (h80 : K 80 = -1) : MM l o ar MX8_tells 45 [.ref o, vI head, vI lo, vI hi, vI wo] f g j (PI (fun r f' g' j' => (r = wo) ∧ eqx [22, 23, 24, 25] f f' ∧ eqx [] g g' ∧ j' = j)) := by
  refine MM.intro [some (.ref o), some (vI head), some (vI lo), some (vI hi), some (vI wo), none, none, none, none, none, none, none] (by decide) (Nat.le_of_ble_eq_true rfl) rfl (fun d hd h0 h hH hA => ?_)
  have hfE : eqx [22, 23, 24, 25] f f := eqx.rf
  have hgE : eqx [] g g := eqx.rf
  refine z_ald_0 (TX8_tells_0.at 0 rfl) ?_
  refine zm_getA (TX8_tells_0.at 1 rfl) fl8_28 hH (by decide) (by decide) ?_
  refine z_bipush (by decide) (TX8_tells_0.at 2 rfl) ?_
  refine zm_ialdE eg2 (TX8_tells_0.at 3 rfl) hH rfl (by omega) (show _ < ((5688 : Nat) : Int) by omega) (fun r6 => ?_)
  refine z_iconst (TX8_tells_0.at 4 rfl) ?_
  refine z_icmp_ne (tgt := 14) (TX8_tells_0.at 5 rfl) rfl (by omega) (by omega) (fun c1 => absurd c1 (by omega)) (fun c1 => ?_)
  refine z_ild_4 (TX8_tells_0.at 6 rfl) ?_
  refine zm_iret (TX8_tells_0.at 7 rfl) rfl hH hA (by omega) ?_
  exact ⟨rfl, hfE, hgE, rfl⟩

set_option maxHeartbeats 4000000 in
set_option maxRecDepth 100000 in
theorem m_tells1 {l : Launch} {o : Nat} {ar : Nat → Nat} {f : mF} {g j : mA} {K : Int → Int} {X26 : Int → Int} {y22 : Int} {y23 : Int} {y24 : Int} {y25 : Int} {head lo hi wo : Int} {φ : Int → Int} {cl : List Cla} {nN : Nat} (eg2 : g 2 = K) (eg26 : g 26 = X26) (ef22 : f 22 = y22) (ef23 : f 23 = y23) (ef24 : f 24 = y24) (ef25 : f 25 = y25) (hh : zIn head) (hlo : zIn lo) (hhi : zIn hi) (hwo : zIn wo) (hlh : lo ≤ hi) (hK : LawH K) (hφ : ∀ a, 0 ≤ a → a ≤ 8 → X26 a = φ a) (h80 : 0 ≤ K 80) (h86 : K 80 ≤ 6) (hn : K (81 + K 80) = (nN : Int)) (n4 : nN ≤ 400) (hp : pText true (cK K (400 * K 80) nN) (vK K (400 * K 80)) nN 12 0 0 = .ok cl) : MM l o ar MX8_tells 45 [.ref o, vI head, vI lo, vI hi, vI wo] f g j (PI (fun r f' g' j' => (r = tellF head lo hi φ cl wo) ∧ eqx [22, 23, 24, 25] f f' ∧ eqx [] g g' ∧ j' = j)) := by
  refine MM.intro [some (.ref o), some (vI head), some (vI lo), some (vI hi), some (vI wo), none, none, none, none, none, none, none] (by decide) (Nat.le_of_ble_eq_true rfl) rfl (fun d hd h0 h hH hA => ?_)
  have hfE : eqx [22, 23, 24, 25] f f := eqx.rf
  have hgE : eqx [] g g := eqx.rf
  obtain ⟨n0, n1, hd0⟩ := hK
  refine z_ald_0 (TX8_tells_0.at 0 rfl) ?_
  refine zm_getA (TX8_tells_0.at 1 rfl) fl8_28 hH (by decide) (by decide) ?_
  refine z_bipush (by decide) (TX8_tells_0.at 2 rfl) ?_
  refine zm_ialdE eg2 (TX8_tells_0.at 3 rfl) hH rfl (by omega) (show _ < ((5688 : Nat) : Int) by omega) (fun r6 => ?_)
  refine z_iconst (TX8_tells_0.at 4 rfl) ?_
  refine z_icmp_ne (tgt := 14) (TX8_tells_0.at 5 rfl) rfl (by omega) (by omega) (fun c1 => ?_) (fun c1 => absurd c1 (by omega))
  refine z_ald_0 (TX8_tells_0.at 8 rfl) ?_
  refine z_iconst (TX8_tells_0.at 9 rfl) ?_
  refine zm_putZE (TX8_tells_0.at 10 rfl) fp8_290 hH hA rfl (by decide) (by first | omega | exact b2i_01 _) (fun h f16 e1 e2 hH hA => ?_)
  have ef22 := (e1 22 (by decide)).trans ef22
  have ef23 := (e1 23 (by decide)).trans ef23
  have ef24 := (e1 24 (by decide)).trans ef24
  have ef25 := e2
  have hfE := hfE.put e1 (by decide)
  refine z_ild_4 (TX8_tells_0.at 11 rfl) ?_
  refine z_i2l (by omega) (TX8_tells_0.at 12 rfl) ?_
  refine z_lst_5 (TX8_tells_0.at 13 rfl) (Nat.le_of_ble_eq_true rfl) rfl ?_
  refine z_ald_0 (TX8_tells_0.at 14 rfl) ?_
  refine z_sipush (by decide) (TX8_tells_0.at 15 rfl) ?_
  refine z_ald_0 (TX8_tells_0.at 16 rfl) ?_
  refine zm_getA (TX8_tells_0.at 17 rfl) fl8_28 hH (by decide) (by decide) ?_
  refine z_bipush (by decide) (TX8_tells_0.at 18 rfl) ?_
  refine zm_ialdE eg2 (TX8_tells_0.at 19 rfl) hH rfl (by omega) (show _ < ((5688 : Nat) : Int) by omega) (fun r34 => ?_)
  refine z_imul (TX8_tells_0.at 20 rfl) ?_
  refine zm_putIE (TX8_tells_0.at 21 rfl) fp8_260 hH hA rfl (by decide) (by first | omega | exact b2i_01 _) (fun h f36 e1 e2 hH hA => ?_)
  have ef22 := e2
  have ef23 := (e1 23 (by decide)).trans ef23
  have ef24 := (e1 24 (by decide)).trans ef24
  have ef25 := (e1 25 (by decide)).trans ef25
  have hfE := hfE.put e1 (by decide)
  refine z_ald_0 (TX8_tells_0.at 22 rfl) ?_
  refine z_ald_0 (TX8_tells_0.at 23 rfl) ?_
  refine zm_getIE ef22 (TX8_tells_0.at 24 rfl) fl8_260 hH rfl (by decide) (fun r41 => ?_)
  refine z_ald_0 (TX8_tells_0.at 25 rfl) ?_
  refine zm_getA (TX8_tells_0.at 26 rfl) fl8_28 hH (by decide) (by decide) ?_
  refine z_bipush (by decide) (TX8_tells_0.at 27 rfl) ?_
  refine z_ald_0 (TX8_tells_0.at 28 rfl) ?_
  refine zm_getA (TX8_tells_0.at 29 rfl) fl8_28 hH (by decide) (by decide) ?_
  refine z_bipush (by decide) (TX8_tells_0.at 30 rfl) ?_
  refine zm_ialdE eg2 (TX8_tells_0.at 31 rfl) hH rfl (by omega) (show _ < ((5688 : Nat) : Int) by omega) (fun r56 => ?_)
  refine z_iadd (TX8_tells_0.at 32 rfl) ?_
  refine zm_ialdE eg2 (TX8_tells_0.at 33 rfl) hH rfl (by omega) (show _ < ((5688 : Nat) : Int) by omega) (fun r58 => ?_)
  refine z_iadd (TX8_tells_0.at 34 rfl) ?_
  refine zm_putIE (TX8_tells_0.at 35 rfl) fp8_257 hH hA rfl (by decide) (by first | omega | exact b2i_01 _) (fun h f60 e1 e2 hH hA => ?_)
  have ef22 := (e1 22 (by decide)).trans ef22
  have ef23 := e2
  have ef24 := (e1 24 (by decide)).trans ef24
  have ef25 := (e1 25 (by decide)).trans ef25
  have hfE := hfE.put e1 (by decide)
  refine lp_tells (K := K) (X26 := X26) (nN := nN) (b := 400 * K 80) (fin := tellF head lo hi φ cl wo) hd (by omega) (by omega) (by omega) n0 n1 hd0 hh hlo hhi hlh hφ (fun w2 o7 o8 o9 o10 o11 f g h ew zw eg2 hfE hgE hH hA => ?_) cl 12 0 0 wo _ _ _ _ _ _ _ _ _ _ (Or.inl ⟨hp, rfl⟩) hwo rfl eg2 eg26 (by rw [ef22]; simp) (by rw [ef23, hn]) rfl ef25 hfE hgE hH hA
  refine z_lld_5 (TX8_tells_2.at 37 rfl) ?_
  refine z_l2i (TX8_tells_2.at 38 rfl) ?_
  have zz : zIn (zl2i w2) := (by rw [zl2i_in zw]; exact zw)
  refine zm_iret (TX8_tells_2.at 39 rfl) rfl hH hA (by rw [zl2i_in zw]; omega) ?_
  exact ⟨by rw [ew, zl2i_in zw], hfE, hgE, rfl⟩

theorem m_tells {l : Launch} {o : Nat} {ar : Nat → Nat} {f : mF} {g j : mA} {K X26 : Int → Int} {head lo hi wo : Int} {φ : Int → Int} {cl : List Cla} (eg2 : g 2 = K) (eg26 : g 26 = X26) (hh : zIn head) (hlo : zIn lo) (hhi : zIn hi) (hwo : zIn wo) (hlh : lo ≤ hi) (hK : LawH K) (hL : LawK K cl) (hφ : ∀ a, 0 ≤ a → a ≤ 8 → X26 a = φ a) : MM l o ar MX8_tells 45 [.ref o, vI head, vI lo, vI hi, vI wo] f g j (PI (fun r f' g' j' => (r = tellF head lo hi φ cl wo) ∧ eqx [22, 23, 24, 25] f f' ∧ eqx [] g g' ∧ j' = j)) := by
  rcases hL with ⟨h80, rfl⟩ | ⟨h80, h86, nN, hn, n4, hp⟩
  · exact m_tells0 (φ := φ) (cl := []) eg2 eg26 hh hlo hhi hwo hlh hK hφ h80
  · exact m_tells1 (φ := φ) eg2 eg26 rfl rfl rfl rfl hh hlo hhi hwo hlh hK hφ h80 h86 hn n4 hp

