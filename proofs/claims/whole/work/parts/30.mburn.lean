/-! ===== tells and what hangs on it ===== -/
/-- the law in force, as clauses -/
def LawK (K : Int → Int) (cl : List Cla) : Prop := (K 80 = -1 ∧ cl = []) ∨ (0 ≤ K 80 ∧ K 80 ≤ 6 ∧ ∃ nN : Nat, K (81 + K 80) = (nN : Int) ∧ nN ≤ 400 ∧ pText true (cK K (400 * K 80) nN) (vK K (400 * K 80)) nN 12 0 0 = .ok cl)
/-- the rest that tells needs -/
def LawH (K : Int → Int) : Prop := 0 ≤ K 76 ∧ K 76 ≤ 10 ∧ (∀ i, 0 ≤ i → i < K 76 → K i = 0 ∨ K i = 1)
theorem zl2i_in {z : Int} (h : zIn z) : zl2i z = z := by
  unfold zl2i
  exact Int.bmod_eq_of_le (by have := h.1; omega) (by have := h.2; omega)
set_option maxHeartbeats 4000000 in
set_option maxRecDepth 100000 in
theorem m_tells0 {l : Launch} {o : Nat} {ar : Nat → Nat} {f : mF} {g j : mA} {K : Int → Int} {X26 : Int → Int} {head lo hi wo : Int} {φ : Int → Int} {cl : List Cla} (eg2 : g 2 = K) (eg26 : g 26 = X26) (hh : zIn head) (hlo : zIn lo) (hhi : zIn hi) (hwo : zIn wo) (hlh : lo ≤ hi) (hK : LawH K) (hφ : ∀ a, 0 ≤ a → a ≤ 8 → X26 a = φ a) (h80 : K 80 = -1) : MM l o ar MX8_tells 45 [.ref o, vI head, vI lo, vI hi, vI wo] f g j (PI (fun r f' g' j' => (r = wo) ∧ eqx [22, 23, 24, 25] f f' ∧ eqx [] g g' ∧ j' = j)) := by
  refine MM.intro [some (.ref o), some (vI head), some (vI lo), some (vI hi), some (vI wo), none, none, none, none, none, none, none] (by decide) (Nat.le_of_ble_eq_true rfl) rfl (fun d hd h0 h hH hA => ?_)
  have hfE : eqx [22, 23, 24, 25] f f := eqx.rf
  have hgE : eqx [] g g := eqx.rf
  refine z_ald_0 (TX8_tells_0.at 0 rfl) ?_
  refine zm_getA (TX8_tells_0.at 1 rfl) fl8_28 hH (by decide) (by decide) ?_
  refine z_bipush (by decide) (TX8_tells_0.at 2 rfl) ?_
  refine zm_ialdE eg2 (TX8_tells_0.at 3 rfl) hH rfl (by omega) (show _ < ((5688 : Nat) : Int) by omega) (fun r6 => ?_)
  refine z_iconst (TX8_tells_0.at 4 rfl) ?_
  refine z_icmp_ne (tgt := 14) (TX8_tells_0.at 5 rfl) rfl (by omega) (by omega) (fun c1 => absurd c1 (by omega)) (fun c1 => ?_)
  refine z_ild_4 (TX8_tells_0.at 6 rfl) ?_
  refine zm_iret (TX8_tells_0.at 7 rfl) rfl hH hA (by omega) ?_
  exact ⟨rfl, hfE, hgE, rfl⟩

