/-! ===== the class: its nodes are born ===== -/
theorem cTg_17 {c s : Nat} (h : 17 ≤ s) : cTg c s = 10 := by
  unfold cTg
  split <;> first | rfl | (exfalso; omega)
/-- as HC, some nodes may not live yet -/
def HP (E : cE) (f : mF) (g j : mA) (h : zH) : Prop :=
  (∀ m, E.2.1 m = true → h (E.1 (32 * m + 31)) = some (.inr (cCls m, cfs E f m))) ∧ (∀ k, E.2.1 (k / 32) = true → cTag k < 6 → h (E.1 k) = some (cCell E g j k)) ∧ (∀ k k', cUse E k → cUse E k' → E.1 k = E.1 k' → k = k') ∧ (∀ k, k < 448 → E.2.2 k = cLn (cCls (k / 32)) (k % 32)) ∧ (∀ k, E.2.2 k < 2147483648) ∧ (∀ k, zIn (f k)) ∧ (∀ k i, zIn (g k i)) ∧ (∀ k i, zInL (j k i))
theorem HC.hp {E : cE} {f : mF} {g j : mA} {h : zH} (H : HC E f g j h) : HP E f g j h := ⟨H.1, H.2.1, H.2.2.1, H.2.2.2.2.1, H.2.2.2.2.2.1, H.2.2.2.2.2.2.1.1, H.2.2.2.2.2.2.2.1, H.2.2.2.2.2.2.2.2⟩
theorem HP.hc {E : cE} {f : mF} {g j : mA} {h : zH} (H : HP E f g j h) (h4 : ∀ m, m < 14 → m ≠ 4 → m ≠ 5 → E.2.1 m = true) (h354 : 0 ≤ f 354) : HC E f g j h := ⟨H.1, H.2.1, H.2.2.1, h4, H.2.2.2.1, H.2.2.2.2.1, ⟨H.2.2.2.2.2.1, h354⟩, H.2.2.2.2.2.2.1, H.2.2.2.2.2.2.2⟩
/-- one node more -/
def eAdd (E : cE) (m a : Nat) (ad ln : Nat → Nat) : cE := (fun k => if k / 32 = m then (if k % 32 = 31 then a else ad (k % 32)) else E.1 k, fun x => decide (x = m) || E.2.1 x, fun k => if k / 32 = m then ln (k % 32) else E.2.2 k)
section EA
variable {E : cE} {m a : Nat} {ad ln : Nat → Nat}
theorem eAdd_o {k : Nat} (h : k / 32 ≠ m) : (eAdd E m a ad ln).1 k = E.1 k := if_neg h
theorem eAdd_a : (eAdd E m a ad ln).1 (32 * m + 31) = a := by
  show (if (32 * m + 31) / 32 = m then (if (32 * m + 31) % 32 = 31 then a else ad ((32 * m + 31) % 32)) else E.1 (32 * m + 31)) = a
  rw [if_pos (by omega), if_pos (by omega)]
theorem eAdd_s {s : Nat} (h : s < 31) : (eAdd E m a ad ln).1 (32 * m + s) = ad s := by
  show (if (32 * m + s) / 32 = m then (if (32 * m + s) % 32 = 31 then a else ad ((32 * m + s) % 32)) else E.1 (32 * m + s)) = ad s
  rw [if_pos (by omega), if_neg (by omega), show (32 * m + s) % 32 = s by omega]
theorem eAdd_l {k : Nat} (h : k / 32 ≠ m) : (eAdd E m a ad ln).2.2 k = E.2.2 k := if_neg h
theorem eAdd_ls {s : Nat} (h : s < 32) : (eAdd E m a ad ln).2.2 (32 * m + s) = ln s := by
  show (if (32 * m + s) / 32 = m then ln ((32 * m + s) % 32) else E.2.2 (32 * m + s)) = ln s
  rw [if_pos (by omega), show (32 * m + s) % 32 = s by omega]
theorem eAdd_m : (eAdd E m a ad ln).2.1 m = true := by
  show (decide (m = m) || E.2.1 m) = true
  rw [decide_eq_true rfl]; rfl
theorem eAdd_v {x : Nat} (h : E.2.1 x = true) : (eAdd E m a ad ln).2.1 x = true := by
  show (decide (x = m) || E.2.1 x) = true
  rw [h, Bool.or_true]
theorem eAdd_i {x : Nat} (h : (eAdd E m a ad ln).2.1 x = true) (hx : x ≠ m) : E.2.1 x = true := by
  have h : (decide (x = m) || E.2.1 x) = true := h
  rw [decide_eq_false hx, Bool.false_or] at h
  exact h
end EA
theorem HP.add {E : cE} {f f' : mF} {g g' j j' : mA} {h h' : zH} {m a : Nat} {ad ln : Nat → Nat} (H : HP E f g j h) (hm : E.2.1 m = false)
    (ef : ∀ k, k / 32 ≠ m → f' k = f k) (eg : ∀ k, k / 32 ≠ m → g' k = g k) (ej : ∀ k, k / 32 ≠ m → j' k = j k)
    (ho : h' a = some (.inr (cCls m, cfs (eAdd E m a ad ln) f' m))) (hc : ∀ s, cTg (cCls m) s < 6 → h' (ad s) = some (cCell (eAdd E m a ad ln) g' j' (32 * m + s)))
    (hi : ∀ s s', cTg (cCls m) s < 6 → cTg (cCls m) s' < 6 → ad s = ad s' → s = s') (hna : ∀ s, cTg (cCls m) s < 6 → ad s ≠ a)
    (hu : ∀ k, cUse E k → h' (E.1 k) = h (E.1 k) ∧ E.1 k ≠ a ∧ ∀ s, cTg (cCls m) s < 6 → E.1 k ≠ ad s)
    (h8 : ∀ x s, E.2.1 x = true → cTg (cCls x) s = 8 → cOb (cCls x) s / 32 ≠ m)
    (hrf : ∀ (k i : Nat), E.2.1 (k / 32) = true → cTag k < 6 → cTag k ≠ 0 → cTag k ≠ 1 → g k i < 0 ∨ (g k i).toNat ≠ m)
    (hln : ∀ s, s < 32 → ln s < 2147483648 ∧ (m < 14 → ln s = cLn (cCls m) s)) (z1 : ∀ k, zIn (f' k)) (z2 : ∀ k i, zIn (g' k i)) (z3 : ∀ k i, zInL (j' k i)) : HP (eAdd E m a ad ln) f' g' j' h' := by
  obtain ⟨h1, h2, h3, h5, h6, h7, h7b, h7c⟩ := H
  have hsl : ∀ k, k / 32 = m → k = 32 * m + k % 32 := fun k hk => by omega
  have h31 : ∀ x, cTg x 31 = 10 := fun x => cTg_31 x
  have hlt : ∀ s, cTg (cCls m) s < 6 → s < 17 := fun s hs => by
    by_cases z : s < 17
    · exact z
    · rw [cTg_17 (by omega)] at hs; omega
  have huse : ∀ k, cUse (eAdd E m a ad ln) k → k / 32 ≠ m → cUse E k := fun k hk hx => ⟨eAdd_i hk.1 hx, hk.2⟩
  have hadr : ∀ k, cUse (eAdd E m a ad ln) k → k / 32 = m → (k % 32 = 31 ∧ (eAdd E m a ad ln).1 k = a) ∨ (cTg (cCls m) (k % 32) < 6 ∧ (eAdd E m a ad ln).1 k = ad (k % 32)) := fun k hk hx => by
    rcases hk.2 with q | q
    · right
      unfold cTag at q
      rw [hx] at q
      refine ⟨q, ?_⟩
      rw [show (eAdd E m a ad ln).1 k = (eAdd E m a ad ln).1 (32 * m + k % 32) by rw [← hsl k hx]]
      exact eAdd_s (by have := hlt _ q; omega)
    · left
      refine ⟨q, ?_⟩
      rw [show (eAdd E m a ad ln).1 k = (eAdd E m a ad ln).1 (32 * m + 31) by rw [← q, ← hsl k hx]]
      exact eAdd_a
  refine ⟨fun x hx => ?_, fun k hk ht => ?_, fun k k' hk hk' e => ?_, fun k hk => ?_, fun k => ?_, z1, z2, z3⟩
  · by_cases e : x = m
    · subst e
      rw [eAdd_a]; exact ho
    · have hx1 := eAdd_i hx e
      have hd : (32 * x + 31) / 32 ≠ m := by omega
      rw [eAdd_o hd, (hu _ ⟨by rw [show (32 * x + 31) / 32 = x by omega]; exact hx1, Or.inr (by omega)⟩).1, h1 x hx1]
      congr 3
      unfold cfs
      apply List.map_congr_left
      intro s hs
      have hs2 := Nat.lt_of_lt_of_le (List.mem_range.mp hs) (cNf_le _)
      unfold cfv
      rw [eAdd_o (show (32 * x + s) / 32 ≠ m by omega), ef _ (show (32 * x + s) / 32 ≠ m by omega)]
      by_cases q : cTg (cCls x) ((32 * x + s) % 32) = 8
      · rw [eAdd_o (h8 x _ hx1 q)]
      · rw [if_neg q, if_neg q]
  · by_cases e : k / 32 = m
    · have ht2 := ht
      unfold cTag at ht2
      rw [e] at ht2
      have h17 := hlt _ ht2
      have ek := hsl k e
      rw [ek, eAdd_s (by omega)]
      exact hc _ ht2
    · have hk1 := eAdd_i hk e
      rw [eAdd_o e, (hu k ⟨hk1, Or.inl ht⟩).1, h2 k hk1 ht]
      unfold cCell
      rw [eAdd_l e, eg k e, ej k e]
      by_cases q1 : cTag k = 1
      · rw [if_pos q1, if_pos q1]
      · by_cases q0 : cTag k = 0
        · rw [if_neg q1, if_neg q1, if_pos q0, if_pos q0]
        · rw [if_neg q1, if_neg q1, if_neg q0, if_neg q0]
          congr 8
          funext i
          unfold crf
          rcases hrf k i hk1 ht q0 q1 with q | q
          · rw [if_pos q, if_pos q]
          · by_cases qn : g k i < 0
            · rw [if_pos qn, if_pos qn]
            · rw [if_neg qn, if_neg qn, eAdd_o (by omega)]
  · by_cases e1 : k / 32 = m
    · by_cases e2 : k' / 32 = m
      · rcases hadr k hk e1 with ⟨a1, a2⟩ | ⟨a1, a2⟩ <;> rcases hadr k' hk' e2 with ⟨b1, b2⟩ | ⟨b1, b2⟩
        · omega
        · exact absurd (b2.symm.trans (e.symm.trans a2)) (hna _ b1)
        · exact absurd (a2.symm.trans (e.trans b2)) (hna _ a1)
        · have := hi _ _ a1 b1 (a2.symm.trans (e.trans b2)); omega
      · exfalso
        have u := hu k' (huse k' hk' e2)
        rw [eAdd_o e2] at e
        rcases hadr k hk e1 with ⟨a1, a2⟩ | ⟨a1, a2⟩
        · exact u.2.1 (e.symm.trans a2)
        · exact u.2.2 _ a1 (e.symm.trans a2)
    · by_cases e2 : k' / 32 = m
      · exfalso
        have u := hu k (huse k hk e1)
        rw [eAdd_o e1] at e
        rcases hadr k' hk' e2 with ⟨a1, a2⟩ | ⟨a1, a2⟩
        · exact u.2.1 (e.trans a2)
        · exact u.2.2 _ a1 (e.trans a2)
      · rw [eAdd_o e1, eAdd_o e2] at e
        exact h3 k k' (huse k hk e1) (huse k' hk' e2) e
  · by_cases e : k / 32 = m
    · have ek := hsl k e
      rw [ek, eAdd_ls (by omega), (hln _ (by omega)).2 (by omega), show (32 * m + k % 32) / 32 = m by omega, show (32 * m + k % 32) % 32 = k % 32 by omega]
    · rw [eAdd_l e]; exact h5 k hk
  · by_cases e : k / 32 = m
    · have ek := hsl k e
      rw [ek, eAdd_ls (by omega)]; exact (hln _ (by omega)).1
    · rw [eAdd_l e]; exact h6 k
/-- a node in a heap: its fields, its rows -/
def ndF (c : Nat) (ad : Nat → Nat) (fv : Nat → Value) : List Value := (List.range (cNf c)).map (fun s => if cTg c s < 6 then .ref (ad s) else fv s)
def Nd (c a : Nat) (ad : Nat → Nat) (ce : Nat → zE) (fv : Nat → Value) (h : zH) : Prop := h a = some (.inr (c, ndF c ad fv)) ∧ (∀ s, cTg c s < 6 → h (ad s) = some (ce s)) ∧ (∀ s s', cTg c s < 6 → cTg c s' < 6 → ad s = ad s' → s = s') ∧ ∀ s, cTg c s < 6 → ad s ≠ a
def Bo (c a : Nat) (ad : Nat → Nat) (ce : Nat → zE) (fv : Nat → Value) (h0 h : zH) : Prop := Nd c a ad ce fv h ∧ (∀ s, cTg c s < 6 → h0 (ad s) = none) ∧ ∀ x, x ≠ a → (∀ s, cTg c s < 6 → x ≠ ad s) → h x = h0 x
theorem Bo.keep {c a x : Nat} {ad : Nat → Nat} {ce : Nat → zE} {fv : Nat → Value} {h0 h : zH} {e : zE} (B : Bo c a ad ce fv h0 h) (hx : h0 x = some e) (hxa : x ≠ a) : h x = some e := by
  rw [B.2.2 x hxa (fun s hs z => ?_)]
  · exact hx
  · have := B.2.1 s hs
    rw [← z, hx] at this
    cases this
def zC (t n : Nat) : zE := if t = 1 then .inl (1, n, .inr (.inl (fun _ => 0))) else if t = 0 then .inl (0, n, .inl (fun _ => 0)) else .inl (t, n, .inr (.inr (.inr (.inr (fun _ => none)))))
theorem ne_so {h : zH} {x y : Nat} {e : zE} (h1 : h x = some e) (h2 : h y = none) : y ≠ x := fun z => by rw [z, h1] at h2; cases h2
theorem ne_lr {h : zH} {x y : Nat} {u : Nat × vp_A} {w : Nat × List Value} (h1 : h x = some (.inl u)) (h2 : h y = some (.inr w)) : x ≠ y := fun z => by rw [z, h2] at h1; cases h1
theorem sl0 {s : Nat} (h : cTg 0 s < 6) : s = 0 ∨ s = 1 ∨ s = 3 ∨ s = 4 ∨ s = 5 := by
  by_cases z : s < 17
  · exact (show ∀ s : Nat, s < 17 → cTg 0 s < 6 → s = 0 ∨ s = 1 ∨ s = 3 ∨ s = 4 ∨ s = 5 by decide) s z h
  · rw [cTg_17 (by omega)] at h; omega
theorem sl1 {s : Nat} (h : cTg 1 s < 6) : s = 1 ∨ s = 2 ∨ s = 3 ∨ s = 4 ∨ s = 6 ∨ s = 8 ∨ s = 10 ∨ s = 11 ∨ s = 12 ∨ s = 14 := by
  by_cases z : s < 17
  · exact (show ∀ s : Nat, s < 17 → cTg 1 s < 6 → s = 1 ∨ s = 2 ∨ s = 3 ∨ s = 4 ∨ s = 6 ∨ s = 8 ∨ s = 10 ∨ s = 11 ∨ s = 12 ∨ s = 14 by decide) s z h
  · rw [cTg_17 (by omega)] at h; omega
theorem sl2 {s : Nat} (h : cTg 2 s < 6) : s = 1 ∨ s = 2 ∨ s = 3 := by
  by_cases z : s < 17
  · exact (show ∀ s : Nat, s < 17 → cTg 2 s < 6 → s = 1 ∨ s = 2 ∨ s = 3 by decide) s z h
  · rw [cTg_17 (by omega)] at h; omega
theorem sl3 {s : Nat} (h : cTg 3 s < 6) : s = 2 ∨ s = 3 ∨ s = 4 := by
  by_cases z : s < 17
  · exact (show ∀ s : Nat, s < 17 → cTg 3 s < 6 → s = 2 ∨ s = 3 ∨ s = 4 by decide) s z h
  · rw [cTg_17 (by omega)] at h; omega
theorem sl4 {s : Nat} (h : cTg 4 s < 6) : s = 3 ∨ s = 4 ∨ s = 5 ∨ s = 6 ∨ s = 7 ∨ s = 8 := by
  by_cases z : s < 17
  · exact (show ∀ s : Nat, s < 17 → cTg 4 s < 6 → s = 3 ∨ s = 4 ∨ s = 5 ∨ s = 6 ∨ s = 7 ∨ s = 8 by decide) s z h
  · rw [cTg_17 (by omega)] at h; omega
theorem sl5 {s : Nat} (h : cTg 5 s < 6) : s = 0 := by
  by_cases z : s < 17
  · exact (show ∀ s : Nat, s < 17 → cTg 5 s < 6 → s = 0 by decide) s z h
  · rw [cTg_17 (by omega)] at h; omega
theorem sl6 {s : Nat} (h : cTg 6 s < 6) : s = 1 := by
  by_cases z : s < 17
  · exact (show ∀ s : Nat, s < 17 → cTg 6 s < 6 → s = 1 by decide) s z h
  · rw [cTg_17 (by omega)] at h; omega
theorem sl7 {s : Nat} (h : cTg 7 s < 6) : s = 3 ∨ s = 10 ∨ s = 11 ∨ s = 12 := by
  by_cases z : s < 17
  · exact (show ∀ s : Nat, s < 17 → cTg 7 s < 6 → s = 3 ∨ s = 10 ∨ s = 11 ∨ s = 12 by decide) s z h
  · rw [cTg_17 (by omega)] at h; omega
set_option maxHeartbeats 4000000 in
set_option maxRecDepth 100000 in
theorem i_X2 {l : Launch} {d a : Nat} {h0 : zH} (hd : 1 ≤ d)  (ha : h0 a = some (.inr (2, [vI 0, .null, .null, .null]))) : MZ l MX2_init d 3 48 [.ref a] h0 (fun v h => v = none ∧ ∃ ad, Bo 2 a ad (fun s => zC (cTg 2 s) (cLn 2 s)) (fun s => match s with | 0 => vI 0 | _ => .null) h0 h) := by
  refine MZ.intro [some (.ref a)] (by decide) (Nat.le_of_ble_eq_true rfl) rfl ?_
  have ho : ∀ x, x ≠ a → h0 x = h0 x := fun _ _ => rfl
  refine z_ald_0 (TX2_init.at 0 rfl) ?_
  refine z_objI (TX2_init.at 1 rfl) oi2 (by omega) (Nat.le_of_ble_eq_true rfl) ?_
  refine z_ald_0 (TX2_init.at 2 rfl) ?_
  refine z_iconst (TX2_init.at 3 rfl) ?_
  refine z_pf (TX2_init.at 4 rfl) fp2_9 ha (Nat.le_of_ble_eq_true rfl) rfl rfl (fun h e1 e2 => ?_)
  have ha : h a = some (.inr (2, [vI 0, .null, .null, .null])) := e1
  have ho : ∀ x, x ≠ a → h x = h0 x := fun x xa => (e2 x xa).trans (ho x xa)
  refine z_ald_0 (TX2_init.at 5 rfl) ?_
  refine z_bipush (by decide) (TX2_init.at 6 rfl) ?_
  refine z_newI (TX2_init.at 7 rfl) ac0 (by omega) (by omega) (by omega) (by omega) (fun q1 h hn e1 e2 => ?_)
  have da1 : q1 ≠ a := ne_so ha hn
  have n1 : h0 q1 = none := (ho q1 da1).symm.trans hn
  have ha := (e2 a da1.symm).trans ha
  have k1 : h q1 = some (.inl (0, Int.toNat 16, .inl (fun _ => 0))) := e1
  have ho : ∀ x, x ≠ a → x ≠ q1 → h x = h0 x := fun x xa x1 => (e2 x x1).trans (ho x xa)
  refine z_pF (TX2_init.at 8 rfl) fp2_15 rfl ha (Nat.le_of_ble_eq_true rfl) rfl rfl (fun h e1 e2 => ?_)
  have ha : h a = some (.inr (2, [vI 0, .ref q1, .null, .null])) := e1
  have k1 := (e2 q1 da1).trans k1
  have ho : ∀ x, x ≠ a → x ≠ q1 → h x = h0 x := fun x xa x1 => (e2 x xa).trans (ho x xa x1)
  refine z_ald_0 (TX2_init.at 9 rfl) ?_
  refine z_bipush (by decide) (TX2_init.at 10 rfl) ?_
  refine z_newI (TX2_init.at 11 rfl) ac0 (by omega) (by omega) (by omega) (by omega) (fun q2 h hn e1 e2 => ?_)
  have da2 : q2 ≠ a := ne_so ha hn
  have d2_1 : q2 ≠ q1 := ne_so k1 hn
  have n2 : h0 q2 = none := (ho q2 da2 d2_1).symm.trans hn
  have ha := (e2 a da2.symm).trans ha
  have k1 := (e2 q1 d2_1.symm).trans k1
  have k2 : h q2 = some (.inl (0, Int.toNat 16, .inl (fun _ => 0))) := e1
  have ho : ∀ x, x ≠ a → x ≠ q1 → x ≠ q2 → h x = h0 x := fun x xa x1 x2 => (e2 x x2).trans (ho x xa x1)
  refine z_pF (TX2_init.at 12 rfl) fp2_19 rfl ha (Nat.le_of_ble_eq_true rfl) rfl rfl (fun h e1 e2 => ?_)
  have ha : h a = some (.inr (2, [vI 0, .ref q1, .ref q2, .null])) := e1
  have k1 := (e2 q1 da1).trans k1
  have k2 := (e2 q2 da2).trans k2
  have ho : ∀ x, x ≠ a → x ≠ q1 → x ≠ q2 → h x = h0 x := fun x xa x1 x2 => (e2 x xa).trans (ho x xa x1 x2)
  refine z_ald_0 (TX2_init.at 13 rfl) ?_
  refine z_bipush (by decide) (TX2_init.at 14 rfl) ?_
  refine z_newI (TX2_init.at 15 rfl) ac0 (by omega) (by omega) (by omega) (by omega) (fun q3 h hn e1 e2 => ?_)
  have da3 : q3 ≠ a := ne_so ha hn
  have d3_1 : q3 ≠ q1 := ne_so k1 hn
  have d3_2 : q3 ≠ q2 := ne_so k2 hn
  have n3 : h0 q3 = none := (ho q3 da3 d3_1 d3_2).symm.trans hn
  have ha := (e2 a da3.symm).trans ha
  have k1 := (e2 q1 d3_1.symm).trans k1
  have k2 := (e2 q2 d3_2.symm).trans k2
  have k3 : h q3 = some (.inl (0, Int.toNat 16, .inl (fun _ => 0))) := e1
  have ho : ∀ x, x ≠ a → x ≠ q1 → x ≠ q2 → x ≠ q3 → h x = h0 x := fun x xa x1 x2 x3 => (e2 x x3).trans (ho x xa x1 x2)
  refine z_pF (TX2_init.at 16 rfl) fp2_22 rfl ha (Nat.le_of_ble_eq_true rfl) rfl rfl (fun h e1 e2 => ?_)
  have ha : h a = some (.inr (2, [vI 0, .ref q1, .ref q2, .ref q3])) := e1
  have k1 := (e2 q1 da1).trans k1
  have k2 := (e2 q2 da2).trans k2
  have k3 := (e2 q3 da3).trans k3
  have ho : ∀ x, x ≠ a → x ≠ q1 → x ≠ q2 → x ≠ q3 → h x = h0 x := fun x xa x1 x2 x3 => (e2 x xa).trans (ho x xa x1 x2 x3)
  refine z_vret (TX2_init.at 17 rfl) rfl ⟨rfl, (fun s => match s with | 1 => q1 | 2 => q2 | 3 => q3 | _ => 0), ⟨ha, fun s hs => ?_, fun s t hs ht e => ?_, fun s hs => ?_⟩, fun s hs => ?_, fun x xa xs => ?_⟩
  · rcases sl2 hs with rfl | rfl | rfl
    · exact k1
    · exact k2
    · exact k3
  · rcases sl2 hs with rfl | rfl | rfl
    · rcases sl2 ht with rfl | rfl | rfl
      · rfl
      · exact absurd e d2_1.symm
      · exact absurd e d3_1.symm
    · rcases sl2 ht with rfl | rfl | rfl
      · exact absurd e d2_1
      · rfl
      · exact absurd e d3_2.symm
    · rcases sl2 ht with rfl | rfl | rfl
      · exact absurd e d3_1
      · exact absurd e d3_2
      · rfl
  · rcases sl2 hs with rfl | rfl | rfl
    · exact da1
    · exact da2
    · exact da3
  · rcases sl2 hs with rfl | rfl | rfl
    · exact n1
    · exact n2
    · exact n3
  · exact ho x xa (xs 1 (by decide)) (xs 2 (by decide)) (xs 3 (by decide))

set_option maxHeartbeats 4000000 in
set_option maxRecDepth 100000 in
theorem i_X6 {l : Launch} {d a : Nat} {h0 : zH} (hd : 1 ≤ d)  (ha : h0 a = some (.inr (6, [vI 0, .null]))) : MZ l MX6_init d 1 400 [.ref a] h0 (fun v h => v = none ∧ ∃ ad, Bo 6 a ad (fun s => zC (cTg 6 s) (cLn 6 s)) (fun s => match s with | 0 => vI 0 | _ => .null) h0 h) := by
  refine MZ.intro [some (.ref a)] (by decide) (Nat.le_of_ble_eq_true rfl) rfl ?_
  have ho : ∀ x, x ≠ a → h0 x = h0 x := fun _ _ => rfl
  refine z_ald_0 (TX6_init.at 0 rfl) ?_
  refine z_objI (TX6_init.at 1 rfl) oi6 (by omega) (Nat.le_of_ble_eq_true rfl) ?_
  refine z_ald_0 (TX6_init.at 2 rfl) ?_
  refine z_iconst (TX6_init.at 3 rfl) ?_
  refine z_pf (TX6_init.at 4 rfl) fp6_9 ha (Nat.le_of_ble_eq_true rfl) rfl rfl (fun h e1 e2 => ?_)
  have ha : h a = some (.inr (6, [vI 0, .null])) := e1
  have ho : ∀ x, x ≠ a → h x = h0 x := fun x xa => (e2 x xa).trans (ho x xa)
  refine z_ald_0 (TX6_init.at 5 rfl) ?_
  refine z_sipush (by decide) (TX6_init.at 6 rfl) ?_
  refine z_newI (TX6_init.at 7 rfl) ac0 (by omega) (by omega) (by omega) (by omega) (fun q1 h hn e1 e2 => ?_)
  have da1 : q1 ≠ a := ne_so ha hn
  have n1 : h0 q1 = none := (ho q1 da1).symm.trans hn
  have ha := (e2 a da1.symm).trans ha
  have k1 : h q1 = some (.inl (0, Int.toNat 400, .inl (fun _ => 0))) := e1
  have ho : ∀ x, x ≠ a → x ≠ q1 → h x = h0 x := fun x xa x1 => (e2 x x1).trans (ho x xa)
  refine z_pF (TX6_init.at 8 rfl) fp6_15 rfl ha (Nat.le_of_ble_eq_true rfl) rfl rfl (fun h e1 e2 => ?_)
  have ha : h a = some (.inr (6, [vI 0, .ref q1])) := e1
  have k1 := (e2 q1 da1).trans k1
  have ho : ∀ x, x ≠ a → x ≠ q1 → h x = h0 x := fun x xa x1 => (e2 x xa).trans (ho x xa x1)
  refine z_vret (TX6_init.at 9 rfl) rfl ⟨rfl, (fun s => match s with | 1 => q1 | _ => 0), ⟨ha, fun s hs => ?_, fun s t hs ht e => ?_, fun s hs => ?_⟩, fun s hs => ?_, fun x xa xs => ?_⟩
  · have z := sl6 hs
    subst z
    exact k1
  · rw [sl6 hs, sl6 ht]
  · have z := sl6 hs
    subst z
    exact da1
  · have z := sl6 hs
    subst z
    exact n1
  · exact ho x xa (xs 1 (by decide))

set_option maxHeartbeats 4000000 in
set_option maxRecDepth 100000 in
theorem i_X5 {l : Launch} {d a : Nat} {h0 : zH} (hd : 1 ≤ d)  (ha : h0 a = some (.inr (5, [.null]))) : MZ l MX5_init d 1 64 [.ref a] h0 (fun v h => v = none ∧ ∃ ad, Bo 5 a ad (fun s => zC (cTg 5 s) (cLn 5 s)) (fun _ => .null) h0 h) := by
  refine MZ.intro [some (.ref a)] (by decide) (Nat.le_of_ble_eq_true rfl) rfl ?_
  have ho : ∀ x, x ≠ a → h0 x = h0 x := fun _ _ => rfl
  refine z_ald_0 (TX5_init.at 0 rfl) ?_
  refine z_objI (TX5_init.at 1 rfl) oi5 (by omega) (Nat.le_of_ble_eq_true rfl) ?_
  refine z_ald_0 (TX5_init.at 2 rfl) ?_
  refine z_bipush (by decide) (TX5_init.at 3 rfl) ?_
  refine z_newI (TX5_init.at 4 rfl) ac0 (by omega) (by omega) (by omega) (by omega) (fun q0 h hn e1 e2 => ?_)
  have da0 : q0 ≠ a := ne_so ha hn
  have n0 : h0 q0 = none := (ho q0 da0).symm.trans hn
  have ha := (e2 a da0.symm).trans ha
  have k0 : h q0 = some (.inl (0, Int.toNat 64, .inl (fun _ => 0))) := e1
  have ho : ∀ x, x ≠ a → x ≠ q0 → h x = h0 x := fun x xa x0 => (e2 x x0).trans (ho x xa)
  refine z_pF (TX5_init.at 5 rfl) fp5_9 rfl ha (Nat.le_of_ble_eq_true rfl) rfl rfl (fun h e1 e2 => ?_)
  have ha : h a = some (.inr (5, [.ref q0])) := e1
  have k0 := (e2 q0 da0).trans k0
  have ho : ∀ x, x ≠ a → x ≠ q0 → h x = h0 x := fun x xa x0 => (e2 x xa).trans (ho x xa x0)
  refine z_vret (TX5_init.at 6 rfl) rfl ⟨rfl, (fun s => match s with | 0 => q0 | _ => 0), ⟨ha, fun s hs => ?_, fun s t hs ht e => ?_, fun s hs => ?_⟩, fun s hs => ?_, fun x xa xs => ?_⟩
  · have z := sl5 hs
    subst z
    exact k0
  · rw [sl5 hs, sl5 ht]
  · have z := sl5 hs
    subst z
    exact da0
  · have z := sl5 hs
    subst z
    exact n0
  · exact ho x xa (xs 0 (by decide))

set_option maxHeartbeats 4000000 in
set_option maxRecDepth 100000 in
theorem i_X4 {l : Launch} {d a : Nat} {n k : Int} {h0 : zH} (hd : 1 ≤ d) (n0 : 0 ≤ n) (n1 : n ≤ 12) (k0 : 0 ≤ k) (k1 : k ≤ 400) (ha : h0 a = some (.inr (4, [vI 0, vI 0, vI 0, .null, .null, .null, .null, .null, .null]))) : MZ l MX4_init d 6 460 [.ref a, vI n, vI k] h0 (fun v h => v = none ∧ ∃ ad, Bo 4 a ad (fun s => zC 0 (if s = 8 then k.toNat else n.toNat)) (fun s => match s with | 0 => vI 0 | 1 => vI 0 | 2 => vI 0 | _ => .null) h0 h) := by
  refine MZ.intro [some (.ref a), some (vI n), some (vI k), none] (by decide) (Nat.le_of_ble_eq_true rfl) rfl ?_
  have ho : ∀ x, x ≠ a → h0 x = h0 x := fun _ _ => rfl
  refine z_ald_0 (TX4_init.at 0 rfl) ?_
  refine z_objI (TX4_init.at 1 rfl) oi4 (by omega) (Nat.le_of_ble_eq_true rfl) ?_
  refine z_ald_0 (TX4_init.at 2 rfl) ?_
  refine z_iconst (TX4_init.at 3 rfl) ?_
  refine z_pf (TX4_init.at 4 rfl) fp4_9 ha (Nat.le_of_ble_eq_true rfl) rfl rfl (fun h e1 e2 => ?_)
  have ha : h a = some (.inr (4, [vI 0, vI 0, vI 0, .null, .null, .null, .null, .null, .null])) := e1
  have ho : ∀ x, x ≠ a → h x = h0 x := fun x xa => (e2 x xa).trans (ho x xa)
  refine z_ald_0 (TX4_init.at 5 rfl) ?_
  refine z_iconst (TX4_init.at 6 rfl) ?_
  refine z_pf (TX4_init.at 7 rfl) fp4_15 ha (Nat.le_of_ble_eq_true rfl) rfl rfl (fun h e1 e2 => ?_)
  have ha : h a = some (.inr (4, [vI 0, vI 0, vI 0, .null, .null, .null, .null, .null, .null])) := e1
  have ho : ∀ x, x ≠ a → h x = h0 x := fun x xa => (e2 x xa).trans (ho x xa)
  refine z_ald_0 (TX4_init.at 8 rfl) ?_
  refine z_iconst (TX4_init.at 9 rfl) ?_
  refine z_pf (TX4_init.at 10 rfl) fp4_18 ha (Nat.le_of_ble_eq_true rfl) rfl rfl (fun h e1 e2 => ?_)
  have ha : h a = some (.inr (4, [vI 0, vI 0, vI 0, .null, .null, .null, .null, .null, .null])) := e1
  have ho : ∀ x, x ≠ a → h x = h0 x := fun x xa => (e2 x xa).trans (ho x xa)
  refine z_iconst (TX4_init.at 11 rfl) ?_
  refine z_ild_1 (TX4_init.at 12 rfl) ?_
  refine z_max (TX4_init.at 13 rfl) cm4_22 (by omega) (by omega) (by omega) (Nat.le_of_ble_eq_true rfl) ?_
  rw [show max 0 n = n by omega]
  refine z_ist_3 (TX4_init.at 14 rfl) (by decide) rfl ?_
  refine z_ald_0 (TX4_init.at 15 rfl) ?_
  refine z_ild_3 (TX4_init.at 16 rfl) ?_
  refine z_newI (TX4_init.at 17 rfl) ac0 (by omega) (by omega) (by omega) (by omega) (fun q3 h hn e1 e2 => ?_)
  have da3 : q3 ≠ a := ne_so ha hn
  have n3 : h0 q3 = none := (ho q3 da3).symm.trans hn
  have ha := (e2 a da3.symm).trans ha
  have k3 : h q3 = some (.inl (0, Int.toNat n, .inl (fun _ => 0))) := e1
  have ho : ∀ x, x ≠ a → x ≠ q3 → h x = h0 x := fun x xa x3 => (e2 x x3).trans (ho x xa)
  refine z_pF (TX4_init.at 18 rfl) fp4_28 rfl ha (Nat.le_of_ble_eq_true rfl) rfl rfl (fun h e1 e2 => ?_)
  have ha : h a = some (.inr (4, [vI 0, vI 0, vI 0, .ref q3, .null, .null, .null, .null, .null])) := e1
  have k3 := (e2 q3 da3).trans k3
  have ho : ∀ x, x ≠ a → x ≠ q3 → h x = h0 x := fun x xa x3 => (e2 x xa).trans (ho x xa x3)
  refine z_ald_0 (TX4_init.at 19 rfl) ?_
  refine z_ild_3 (TX4_init.at 20 rfl) ?_
  refine z_newI (TX4_init.at 21 rfl) ac0 (by omega) (by omega) (by omega) (by omega) (fun q4 h hn e1 e2 => ?_)
  have da4 : q4 ≠ a := ne_so ha hn
  have d4_3 : q4 ≠ q3 := ne_so k3 hn
  have n4 : h0 q4 = none := (ho q4 da4 d4_3).symm.trans hn
  have ha := (e2 a da4.symm).trans ha
  have k3 := (e2 q3 d4_3.symm).trans k3
  have k4 : h q4 = some (.inl (0, Int.toNat n, .inl (fun _ => 0))) := e1
  have ho : ∀ x, x ≠ a → x ≠ q3 → x ≠ q4 → h x = h0 x := fun x xa x3 x4 => (e2 x x4).trans (ho x xa x3)
  refine z_pF (TX4_init.at 22 rfl) fp4_32 rfl ha (Nat.le_of_ble_eq_true rfl) rfl rfl (fun h e1 e2 => ?_)
  have ha : h a = some (.inr (4, [vI 0, vI 0, vI 0, .ref q3, .ref q4, .null, .null, .null, .null])) := e1
  have k3 := (e2 q3 da3).trans k3
  have k4 := (e2 q4 da4).trans k4
  have ho : ∀ x, x ≠ a → x ≠ q3 → x ≠ q4 → h x = h0 x := fun x xa x3 x4 => (e2 x xa).trans (ho x xa x3 x4)
  refine z_ald_0 (TX4_init.at 23 rfl) ?_
  refine z_ild_3 (TX4_init.at 24 rfl) ?_
  refine z_newI (TX4_init.at 25 rfl) ac0 (by omega) (by omega) (by omega) (by omega) (fun q5 h hn e1 e2 => ?_)
  have da5 : q5 ≠ a := ne_so ha hn
  have d5_3 : q5 ≠ q3 := ne_so k3 hn
  have d5_4 : q5 ≠ q4 := ne_so k4 hn
  have n5 : h0 q5 = none := (ho q5 da5 d5_3 d5_4).symm.trans hn
  have ha := (e2 a da5.symm).trans ha
  have k3 := (e2 q3 d5_3.symm).trans k3
  have k4 := (e2 q4 d5_4.symm).trans k4
  have k5 : h q5 = some (.inl (0, Int.toNat n, .inl (fun _ => 0))) := e1
  have ho : ∀ x, x ≠ a → x ≠ q3 → x ≠ q4 → x ≠ q5 → h x = h0 x := fun x xa x3 x4 x5 => (e2 x x5).trans (ho x xa x3 x4)
  refine z_pF (TX4_init.at 26 rfl) fp4_35 rfl ha (Nat.le_of_ble_eq_true rfl) rfl rfl (fun h e1 e2 => ?_)
  have ha : h a = some (.inr (4, [vI 0, vI 0, vI 0, .ref q3, .ref q4, .ref q5, .null, .null, .null])) := e1
  have k3 := (e2 q3 da3).trans k3
  have k4 := (e2 q4 da4).trans k4
  have k5 := (e2 q5 da5).trans k5
  have ho : ∀ x, x ≠ a → x ≠ q3 → x ≠ q4 → x ≠ q5 → h x = h0 x := fun x xa x3 x4 x5 => (e2 x xa).trans (ho x xa x3 x4 x5)
  refine z_ald_0 (TX4_init.at 27 rfl) ?_
  refine z_ild_3 (TX4_init.at 28 rfl) ?_
  refine z_newI (TX4_init.at 29 rfl) ac0 (by omega) (by omega) (by omega) (by omega) (fun q6 h hn e1 e2 => ?_)
  have da6 : q6 ≠ a := ne_so ha hn
  have d6_3 : q6 ≠ q3 := ne_so k3 hn
  have d6_4 : q6 ≠ q4 := ne_so k4 hn
  have d6_5 : q6 ≠ q5 := ne_so k5 hn
  have n6 : h0 q6 = none := (ho q6 da6 d6_3 d6_4 d6_5).symm.trans hn
  have ha := (e2 a da6.symm).trans ha
  have k3 := (e2 q3 d6_3.symm).trans k3
  have k4 := (e2 q4 d6_4.symm).trans k4
  have k5 := (e2 q5 d6_5.symm).trans k5
  have k6 : h q6 = some (.inl (0, Int.toNat n, .inl (fun _ => 0))) := e1
  have ho : ∀ x, x ≠ a → x ≠ q3 → x ≠ q4 → x ≠ q5 → x ≠ q6 → h x = h0 x := fun x xa x3 x4 x5 x6 => (e2 x x6).trans (ho x xa x3 x4 x5)
  refine z_pF (TX4_init.at 30 rfl) fp4_38 rfl ha (Nat.le_of_ble_eq_true rfl) rfl rfl (fun h e1 e2 => ?_)
  have ha : h a = some (.inr (4, [vI 0, vI 0, vI 0, .ref q3, .ref q4, .ref q5, .ref q6, .null, .null])) := e1
  have k3 := (e2 q3 da3).trans k3
  have k4 := (e2 q4 da4).trans k4
  have k5 := (e2 q5 da5).trans k5
  have k6 := (e2 q6 da6).trans k6
  have ho : ∀ x, x ≠ a → x ≠ q3 → x ≠ q4 → x ≠ q5 → x ≠ q6 → h x = h0 x := fun x xa x3 x4 x5 x6 => (e2 x xa).trans (ho x xa x3 x4 x5 x6)
  refine z_ald_0 (TX4_init.at 31 rfl) ?_
  refine z_ild_3 (TX4_init.at 32 rfl) ?_
  refine z_newI (TX4_init.at 33 rfl) ac0 (by omega) (by omega) (by omega) (by omega) (fun q7 h hn e1 e2 => ?_)
  have da7 : q7 ≠ a := ne_so ha hn
  have d7_3 : q7 ≠ q3 := ne_so k3 hn
  have d7_4 : q7 ≠ q4 := ne_so k4 hn
  have d7_5 : q7 ≠ q5 := ne_so k5 hn
  have d7_6 : q7 ≠ q6 := ne_so k6 hn
  have n7 : h0 q7 = none := (ho q7 da7 d7_3 d7_4 d7_5 d7_6).symm.trans hn
  have ha := (e2 a da7.symm).trans ha
  have k3 := (e2 q3 d7_3.symm).trans k3
  have k4 := (e2 q4 d7_4.symm).trans k4
  have k5 := (e2 q5 d7_5.symm).trans k5
  have k6 := (e2 q6 d7_6.symm).trans k6
  have k7 : h q7 = some (.inl (0, Int.toNat n, .inl (fun _ => 0))) := e1
  have ho : ∀ x, x ≠ a → x ≠ q3 → x ≠ q4 → x ≠ q5 → x ≠ q6 → x ≠ q7 → h x = h0 x := fun x xa x3 x4 x5 x6 x7 => (e2 x x7).trans (ho x xa x3 x4 x5 x6)
  refine z_pF (TX4_init.at 34 rfl) fp4_41 rfl ha (Nat.le_of_ble_eq_true rfl) rfl rfl (fun h e1 e2 => ?_)
  have ha : h a = some (.inr (4, [vI 0, vI 0, vI 0, .ref q3, .ref q4, .ref q5, .ref q6, .ref q7, .null])) := e1
  have k3 := (e2 q3 da3).trans k3
  have k4 := (e2 q4 da4).trans k4
  have k5 := (e2 q5 da5).trans k5
  have k6 := (e2 q6 da6).trans k6
  have k7 := (e2 q7 da7).trans k7
  have ho : ∀ x, x ≠ a → x ≠ q3 → x ≠ q4 → x ≠ q5 → x ≠ q6 → x ≠ q7 → h x = h0 x := fun x xa x3 x4 x5 x6 x7 => (e2 x xa).trans (ho x xa x3 x4 x5 x6 x7)
  refine z_ald_0 (TX4_init.at 35 rfl) ?_
  refine z_iconst (TX4_init.at 36 rfl) ?_
  refine z_ild_2 (TX4_init.at 37 rfl) ?_
  refine z_max (TX4_init.at 38 rfl) cm4_22 (by omega) (by omega) (by omega) (Nat.le_of_ble_eq_true rfl) ?_
  rw [show max 0 k = k by omega]
  refine z_newI (TX4_init.at 39 rfl) ac0 (by omega) (by omega) (by omega) (by omega) (fun q8 h hn e1 e2 => ?_)
  have da8 : q8 ≠ a := ne_so ha hn
  have d8_3 : q8 ≠ q3 := ne_so k3 hn
  have d8_4 : q8 ≠ q4 := ne_so k4 hn
  have d8_5 : q8 ≠ q5 := ne_so k5 hn
  have d8_6 : q8 ≠ q6 := ne_so k6 hn
  have d8_7 : q8 ≠ q7 := ne_so k7 hn
  have n8 : h0 q8 = none := (ho q8 da8 d8_3 d8_4 d8_5 d8_6 d8_7).symm.trans hn
  have ha := (e2 a da8.symm).trans ha
  have k3 := (e2 q3 d8_3.symm).trans k3
  have k4 := (e2 q4 d8_4.symm).trans k4
  have k5 := (e2 q5 d8_5.symm).trans k5
  have k6 := (e2 q6 d8_6.symm).trans k6
  have k7 := (e2 q7 d8_7.symm).trans k7
  have k8 : h q8 = some (.inl (0, Int.toNat k, .inl (fun _ => 0))) := e1
  have ho : ∀ x, x ≠ a → x ≠ q3 → x ≠ q4 → x ≠ q5 → x ≠ q6 → x ≠ q7 → x ≠ q8 → h x = h0 x := fun x xa x3 x4 x5 x6 x7 x8 => (e2 x x8).trans (ho x xa x3 x4 x5 x6 x7)
  refine z_pF (TX4_init.at 40 rfl) fp4_44 rfl ha (Nat.le_of_ble_eq_true rfl) rfl rfl (fun h e1 e2 => ?_)
  have ha : h a = some (.inr (4, [vI 0, vI 0, vI 0, .ref q3, .ref q4, .ref q5, .ref q6, .ref q7, .ref q8])) := e1
  have k3 := (e2 q3 da3).trans k3
  have k4 := (e2 q4 da4).trans k4
  have k5 := (e2 q5 da5).trans k5
  have k6 := (e2 q6 da6).trans k6
  have k7 := (e2 q7 da7).trans k7
  have k8 := (e2 q8 da8).trans k8
  have ho : ∀ x, x ≠ a → x ≠ q3 → x ≠ q4 → x ≠ q5 → x ≠ q6 → x ≠ q7 → x ≠ q8 → h x = h0 x := fun x xa x3 x4 x5 x6 x7 x8 => (e2 x xa).trans (ho x xa x3 x4 x5 x6 x7 x8)
  refine z_vret (TX4_init.at 41 rfl) rfl ⟨rfl, (fun s => match s with | 3 => q3 | 4 => q4 | 5 => q5 | 6 => q6 | 7 => q7 | 8 => q8 | _ => 0), ⟨ha, fun s hs => ?_, fun s t hs ht e => ?_, fun s hs => ?_⟩, fun s hs => ?_, fun x xa xs => ?_⟩
  · rcases sl4 hs with rfl | rfl | rfl | rfl | rfl | rfl
    · exact k3
    · exact k4
    · exact k5
    · exact k6
    · exact k7
    · exact k8
  · rcases sl4 hs with rfl | rfl | rfl | rfl | rfl | rfl
    · rcases sl4 ht with rfl | rfl | rfl | rfl | rfl | rfl
      · rfl
      · exact absurd e d4_3.symm
      · exact absurd e d5_3.symm
      · exact absurd e d6_3.symm
      · exact absurd e d7_3.symm
      · exact absurd e d8_3.symm
    · rcases sl4 ht with rfl | rfl | rfl | rfl | rfl | rfl
      · exact absurd e d4_3
      · rfl
      · exact absurd e d5_4.symm
      · exact absurd e d6_4.symm
      · exact absurd e d7_4.symm
      · exact absurd e d8_4.symm
    · rcases sl4 ht with rfl | rfl | rfl | rfl | rfl | rfl
      · exact absurd e d5_3
      · exact absurd e d5_4
      · rfl
      · exact absurd e d6_5.symm
      · exact absurd e d7_5.symm
      · exact absurd e d8_5.symm
    · rcases sl4 ht with rfl | rfl | rfl | rfl | rfl | rfl
      · exact absurd e d6_3
      · exact absurd e d6_4
      · exact absurd e d6_5
      · rfl
      · exact absurd e d7_6.symm
      · exact absurd e d8_6.symm
    · rcases sl4 ht with rfl | rfl | rfl | rfl | rfl | rfl
      · exact absurd e d7_3
      · exact absurd e d7_4
      · exact absurd e d7_5
      · exact absurd e d7_6
      · rfl
      · exact absurd e d8_7.symm
    · rcases sl4 ht with rfl | rfl | rfl | rfl | rfl | rfl
      · exact absurd e d8_3
      · exact absurd e d8_4
      · exact absurd e d8_5
      · exact absurd e d8_6
      · exact absurd e d8_7
      · rfl
  · rcases sl4 hs with rfl | rfl | rfl | rfl | rfl | rfl
    · exact da3
    · exact da4
    · exact da5
    · exact da6
    · exact da7
    · exact da8
  · rcases sl4 hs with rfl | rfl | rfl | rfl | rfl | rfl
    · exact n3
    · exact n4
    · exact n5
    · exact n6
    · exact n7
    · exact n8
  · exact ho x xa (xs 3 (by decide)) (xs 4 (by decide)) (xs 5 (by decide)) (xs 6 (by decide)) (xs 7 (by decide)) (xs 8 (by decide))

