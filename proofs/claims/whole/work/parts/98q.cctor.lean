/-! ===== the class: its constructor ===== -/
def YN (E E' : cE) (m b : Nat) (h : zH) : Prop := (∀ x, E'.2.1 x = true → x = m ∨ E.2.1 x = true) ∧ E'.2.1 m = true ∧ (∀ x, E.2.1 x = true → E'.2.1 x = true) ∧ E'.1 (32 * m + 31) = b ∧ (∀ k, k / 32 ≠ m → E'.1 k = E.1 k) ∧ ∀ k, cUse E' k → (cUse E k ∧ E'.1 k = E.1 k) ∨ h (E'.1 k) = none
theorem YN.mk {E : cE} {m b : Nat} {ad ln : Nat → Nat} {h : zH} (hb : h b = none) (had : ∀ s, cTg (cCls m) s < 6 → h (ad s) = none) : YN E (eAdd E m b ad ln) m b h := by
  refine ⟨fun x hx => ?_, eAdd_m, fun x => eAdd_v, eAdd_a, fun k => eAdd_o, fun k hk => ?_⟩
  · by_cases e : x = m
    · exact Or.inl e
    · exact Or.inr (eAdd_i hx e)
  · rcases eAdd_use hk with ⟨u, ee⟩ | ⟨u, ⟨u2, ee⟩ | ⟨u2, ee⟩⟩
    · exact Or.inl ⟨u, ee⟩
    · rw [ee]; exact Or.inr hb
    · rw [ee]; exact Or.inr (had _ u2)
theorem YA.bornE {h0 h h1 h2 : zH} {a m b : Nat} {E : cE} {ad : Nat → Nat} {ce : Nat → zE} {fv : Nat → Value} {ea : zE} (H : YA h0 a E h) (ha : h a = some ea) (hm : E.2.1 m = false) (hb : h b = none) (e2 : ∀ x, x ≠ b → h1 x = h x) (B : Bo (cCls m) b ad ce fv h1 h2)
    (hce : ∀ s, cTg (cCls m) s < 6 → ce s = ceI (cCls m) (cLn (cCls m) s) s) (hfv : ∀ s, s < cNf (cCls m) → ¬ cTg (cCls m) s < 6 → fv s = cfv (eAdd E m b ad (cLn (cCls m))) fI (cCls m) (32 * m + s))
    (h8 : ∀ x s, E.2.1 x = true → cTg (cCls x) s = 8 → cOb (cCls x) s / 32 ≠ m) : ∃ E', YA h0 a E' h2 ∧ YN E E' m b h :=
  ⟨_, YA.born H ha hm hb e2 B hce hfv h8, YN.mk hb (fun s hs => (e2 _ (B.1.2.2.2 s hs)).symm.trans (B.2.1 s hs))⟩
theorem YA.bornE2 {h0 h h1 h2 : zH} {a m m2 b b2 : Nat} {E : cE} {ad ad2 : Nat → Nat} {ce ce2 : Nat → zE} {fv fv2 : Nat → Value} {ea : zE} (H : YA h0 a E h) (ha : h a = some ea) (hm : E.2.1 m = false) (hm2 : E.2.1 m2 = false) (hmm : m ≠ m2) (hb : h b = none) (e2 : ∀ x, x ≠ b → h1 x = h x) (hb1 : h1 b ≠ none) (B : Bo2 (cCls m) b ad ce fv (cCls m2) b2 ad2 ce2 fv2 h1 h2)
    (hce : ∀ s, cTg (cCls m) s < 6 → ce s = ceI (cCls m) (cLn (cCls m) s) s) (hfv : ∀ s, s < cNf (cCls m) → ¬ cTg (cCls m) s < 6 → fv s = cfv (eAdd (eAdd E m2 b2 ad2 (cLn (cCls m2))) m b ad (cLn (cCls m))) fI (cCls m) (32 * m + s))
    (hce2 : ∀ s, cTg (cCls m2) s < 6 → ce2 s = ceI (cCls m2) (cLn (cCls m2) s) s) (hfv2 : ∀ s, s < cNf (cCls m2) → ¬ cTg (cCls m2) s < 6 → fv2 s = cfv (eAdd E m2 b2 ad2 (cLn (cCls m2))) fI (cCls m2) (32 * m2 + s))
    (h8 : ∀ x s, E.2.1 x = true → cTg (cCls x) s = 8 → cOb (cCls x) s / 32 ≠ m ∧ cOb (cCls x) s / 32 ≠ m2) (h82 : ∀ s, cTg (cCls m2) s ≠ 8) : ∃ E1 E', YA h0 a E' h2 ∧ YN E E1 m2 b2 h ∧ YN E1 E' m b h := by
  have hb2b : b2 ≠ b := fun z => hb1 (by rw [← z]; exact B.2.2.2.1)
  refine ⟨_, _, YA.born2 H ha hm hm2 hmm hb e2 hb1 B hce hfv hce2 hfv2 h8 h82, YN.mk ((e2 _ hb2b).symm.trans B.2.2.2.1) (fun s hs => ?_), YN.mk hb (fun s hs => (e2 _ (B.1.2.2.2 s hs)).symm.trans (B.2.2.1 s hs))⟩
  have n1 := B.2.2.2.2.1 s hs
  exact (e2 _ (fun z => hb1 (by rw [← z]; exact n1))).symm.trans n1
theorem sn7 {s : Nat} (h : s < 17) (hs : ¬ cTg 7 s < 6) : s = 0 ∨ s = 1 ∨ s = 2 ∨ s = 4 ∨ s = 5 ∨ s = 6 ∨ s = 7 ∨ s = 8 ∨ s = 9 ∨ s = 13 ∨ s = 14 ∨ s = 15 ∨ s = 16 := (show ∀ s : Nat, s < 17 → ¬ cTg 7 s < 6 → s = 0 ∨ s = 1 ∨ s = 2 ∨ s = 4 ∨ s = 5 ∨ s = 6 ∨ s = 7 ∨ s = 8 ∨ s = 9 ∨ s = 13 ∨ s = 14 ∨ s = 15 ∨ s = 16 by decide) s h hs
/-- the young object -/
def YF (h0 : zH) (a : Nat) (E : cE) (h : zH) : Prop := HC E fI gI (fun _ _ => 0) h ∧ E.1 31 = a ∧ (∀ x, E.2.1 x = true ↔ (x < 14 ∧ x ≠ 4 ∧ x ≠ 5)) ∧ (∀ k, cUse E k → E.1 k = a ∨ h0 (E.1 k) = none) ∧ ∀ x e, h0 x = some e → x ≠ a → h x = some e
theorem so0 {s : Nat} (h : s < 7) (hs : ¬ cTg 0 s < 6) : s = 2 ∨ s = 6 := (show ∀ s : Nat, s < 7 → ¬ cTg 0 s < 6 → s = 2 ∨ s = 6 by decide) s h hs
theorem so1 {s : Nat} (h : s < 16) (hs : ¬ cTg 1 s < 6) : s = 0 ∨ s = 5 ∨ s = 7 ∨ s = 9 ∨ s = 13 ∨ s = 15 := (show ∀ s : Nat, s < 16 → ¬ cTg 1 s < 6 → s = 0 ∨ s = 5 ∨ s = 7 ∨ s = 9 ∨ s = 13 ∨ s = 15 by decide) s h hs
theorem so2 {s : Nat} (h : s < 4) (hs : ¬ cTg 2 s < 6) : s = 0 := (show ∀ s : Nat, s < 4 → ¬ cTg 2 s < 6 → s = 0 by decide) s h hs
theorem so3 {s : Nat} (h : s < 9) (hs : ¬ cTg 3 s < 6) : s = 0 ∨ s = 1 ∨ s = 5 ∨ s = 6 ∨ s = 7 ∨ s = 8 := (show ∀ s : Nat, s < 9 → ¬ cTg 3 s < 6 → s = 0 ∨ s = 1 ∨ s = 5 ∨ s = 6 ∨ s = 7 ∨ s = 8 by decide) s h hs
theorem so4 {s : Nat} (h : s < 9) (hs : ¬ cTg 4 s < 6) : s = 0 ∨ s = 1 ∨ s = 2 := (show ∀ s : Nat, s < 9 → ¬ cTg 4 s < 6 → s = 0 ∨ s = 1 ∨ s = 2 by decide) s h hs
theorem so6 {s : Nat} (h : s < 2) (hs : ¬ cTg 6 s < 6) : s = 0 := (show ∀ s : Nat, s < 2 → ¬ cTg 6 s < 6 → s = 0 by decide) s h hs
set_option maxHeartbeats 4000000 in
set_option maxRecDepth 100000 in
theorem i_X7 {l : Launch} {d a : Nat} {h0 : zH} (hd : 3 ≤ d) (ha : h0 a = some (.inr (7, [.null, .null, .null, .null, .null, .null, .null, .null, .null, .null, .null, .null, .null, vI 0, vI 0, vI 0, vI 0]))) : MZ l MX7_init d 68 2712 [.ref a] h0 (fun v h => v = none ∧ ∃ E, YF h0 a E h) := by
  refine MZ.intro [some (.ref a)] (by decide) (Nat.le_of_ble_eq_true rfl) rfl ?_
  obtain ⟨E1, hE0, hv⟩ : ∃ E, YA h0 a E h0 ∧ ∀ x, E.2.1 x = true → False := ⟨E0, ⟨HP.nil, fun k hk => (by have := hk.1; cases this), fun x e hx _ => hx⟩, fun x hx => (by cases hx)⟩
  have hY := hE0
  refine z_ald_0 (TX7_init_0.at 0 rfl) ?_
  refine z_objI (TX7_init_0.at 1 rfl) oi7 (by omega) (Nat.le_of_ble_eq_true rfl) ?_
  refine z_ald_0 (TX7_init_0.at 2 rfl) ?_
  refine z_newO (TX7_init_0.at 3 rfl) nw7_9 (by omega) (by show 16 ≤ _; omega) (fun b1 h1 hn e1 e2 => ?_)
  show Z l MX7_init d _ _ _ _ _ _ h1 _ (_ - 16)
  refine z_dup rfl (TX7_init_0.at 4 rfl) ?_
  refine z_invI0 (TX7_init_0.at 5 rfl) c7_11 (by omega) (by omega) (by omega) (Nat.le_of_ble_eq_true rfl) (i_X1 (by omega) e1) (fun v h2 hp => ?_)
  obtain ⟨rfl, ad, B⟩ := hp
  obtain ⟨E1, hY1, hq1⟩ := YA.bornE (m := 1) hY ha (by cases hz : E1.2.1 1 with | false => rfl | true => exact absurd (hv 1 hz) (by decide)) hn e2 B (fun s hs => by rcases sl1 hs with rfl | rfl | rfl | rfl | rfl | rfl | rfl | rfl | rfl | rfl <;> rfl) (fun s hs q => by rcases so1 hs q with rfl | rfl | rfl | rfl | rfl | rfl <;> rfl) (fun x s hx ht => absurd (hv x hx) id)
  have ha1 := B.keep ((e2 a (ne_so ha hn).symm).trans ha) (ne_so ha hn).symm
  have hv : ∀ x, E1.2.1 x = true → x = 1 := fun x hx => (hq1.1 x hx).elim id (fun z => absurd (hv x z) id)
  have v1 := hq1.2.1
  have x1 : E1.1 63 = b1 := hq1.2.2.2.1
  have ha := ha1
  have hY := hY1
  clear hY1 hq1 e1 e2 hn
  refine z_pF (TX7_init_0.at 6 rfl) fp7_12 rfl ha (Nat.le_of_ble_eq_true rfl) rfl rfl (fun h e1 e2 => ?_)
  have ha : h a = some (.inr (7, [.ref b1, .null, .null, .null, .null, .null, .null, .null, .null, .null, .null, .null, .null, vI 0, vI 0, vI 0, vI 0])) := e1
  have hY := hY.mv e2 (Or.inl rfl) (fun k hk => (hY.2.1 k hk).2)
  refine z_ald_0 (TX7_init_0.at 7 rfl) ?_
  refine z_newO (TX7_init_0.at 8 rfl) nw7_9 (by omega) (by show 16 ≤ _; omega) (fun b2 h1 hn e1 e2 => ?_)
  show Z l MX7_init d _ _ _ _ _ _ h1 _ (_ - 16)
  refine z_dup rfl (TX7_init_0.at 9 rfl) ?_
  refine z_invI0 (TX7_init_0.at 10 rfl) c7_11 (by omega) (by omega) (by omega) (Nat.le_of_ble_eq_true rfl) (i_X1 (by omega) e1) (fun v h2 hp => ?_)
  obtain ⟨rfl, ad, B⟩ := hp
  obtain ⟨E1, hY1, hq1⟩ := YA.bornE (m := 2) hY ha (by cases hz : E1.2.1 2 with | false => rfl | true => exact absurd (hv 2 hz) (by decide)) hn e2 B (fun s hs => by rcases sl1 hs with rfl | rfl | rfl | rfl | rfl | rfl | rfl | rfl | rfl | rfl <;> rfl) (fun s hs q => by rcases so1 hs q with rfl | rfl | rfl | rfl | rfl | rfl <;> rfl) (fun x s hx ht => by have z := hv x hx; subst z <;> rcases t8 ht with ⟨q, w⟩ | ⟨q, w⟩ | q <;> first | exact absurd q (by decide) | (rw [w]; decide))
  have ha1 := B.keep ((e2 a (ne_so ha hn).symm).trans ha) (ne_so ha hn).symm
  have hv : ∀ x, E1.2.1 x = true → x = 2 ∨ x = 1 := fun x hx => (hq1.1 x hx).imp id (hv x)
  have v1 := hq1.2.2.1 1 v1
  have x1 := (hq1.2.2.2.2.1 63 (by decide)).trans x1
  have v2 := hq1.2.1
  have x2 : E1.1 95 = b2 := hq1.2.2.2.1
  have ha := ha1
  have hY := hY1
  clear hY1 hq1 e1 e2 hn
  refine z_pF (TX7_init_0.at 11 rfl) fp7_16 rfl ha (Nat.le_of_ble_eq_true rfl) rfl rfl (fun h e1 e2 => ?_)
  have ha : h a = some (.inr (7, [.ref b1, .ref b2, .null, .null, .null, .null, .null, .null, .null, .null, .null, .null, .null, vI 0, vI 0, vI 0, vI 0])) := e1
  have hY := hY.mv e2 (Or.inl rfl) (fun k hk => (hY.2.1 k hk).2)
  refine z_ald_0 (TX7_init_0.at 12 rfl) ?_
  refine z_newO (TX7_init_0.at 13 rfl) nw7_9 (by omega) (by show 16 ≤ _; omega) (fun b3 h1 hn e1 e2 => ?_)
  show Z l MX7_init d _ _ _ _ _ _ h1 _ (_ - 16)
  refine z_dup rfl (TX7_init_0.at 14 rfl) ?_
  refine z_invI0 (TX7_init_0.at 15 rfl) c7_11 (by omega) (by omega) (by omega) (Nat.le_of_ble_eq_true rfl) (i_X1 (by omega) e1) (fun v h2 hp => ?_)
  obtain ⟨rfl, ad, B⟩ := hp
  obtain ⟨E1, hY1, hq1⟩ := YA.bornE (m := 3) hY ha (by cases hz : E1.2.1 3 with | false => rfl | true => exact absurd (hv 3 hz) (by decide)) hn e2 B (fun s hs => by rcases sl1 hs with rfl | rfl | rfl | rfl | rfl | rfl | rfl | rfl | rfl | rfl <;> rfl) (fun s hs q => by rcases so1 hs q with rfl | rfl | rfl | rfl | rfl | rfl <;> rfl) (fun x s hx ht => by rcases hv x hx with rfl | rfl <;> rcases t8 ht with ⟨q, w⟩ | ⟨q, w⟩ | q <;> first | exact absurd q (by decide) | (rw [w]; decide))
  have ha1 := B.keep ((e2 a (ne_so ha hn).symm).trans ha) (ne_so ha hn).symm
  have hv : ∀ x, E1.2.1 x = true → x = 3 ∨ x = 2 ∨ x = 1 := fun x hx => (hq1.1 x hx).imp id (hv x)
  have v2 := hq1.2.2.1 2 v2
  have x2 := (hq1.2.2.2.2.1 95 (by decide)).trans x2
  have v1 := hq1.2.2.1 1 v1
  have x1 := (hq1.2.2.2.2.1 63 (by decide)).trans x1
  have v3 := hq1.2.1
  have x3 : E1.1 127 = b3 := hq1.2.2.2.1
  have ha := ha1
  have hY := hY1
  clear hY1 hq1 e1 e2 hn
  refine z_pF (TX7_init_0.at 16 rfl) fp7_19 rfl ha (Nat.le_of_ble_eq_true rfl) rfl rfl (fun h e1 e2 => ?_)
  have ha : h a = some (.inr (7, [.ref b1, .ref b2, .ref b3, .null, .null, .null, .null, .null, .null, .null, .null, .null, .null, vI 0, vI 0, vI 0, vI 0])) := e1
  have hY := hY.mv e2 (Or.inl rfl) (fun k hk => (hY.2.1 k hk).2)
  refine z_ald_0 (TX7_init_0.at 17 rfl) ?_
  refine z_iconst (TX7_init_0.at 18 rfl) ?_
  refine z_newQ (t := 5) (TX7_init_0.at 19 rfl) (by decide) rfl cl7_9 ao5 (by omega) (by omega) (by omega) (by omega) (fun q3 h hn e1 e2 => ?_)
  have da3 : q3 ≠ a := ne_so ha hn
  have n3 : h0 q3 = none := hY.fresh hn da3
  have u3 : ∀ k, cUse E1 k → E1.1 k ≠ q3 := fun k hk z => by obtain ⟨e, he⟩ := hY.1.some hk; rw [z, hn] at he; cases he
  have hY := hY.mv e2 (Or.inr n3) u3
  have ha := (e2 a da3.symm).trans ha
  have k3 := e1
  refine z_pF (TX7_init_0.at 20 rfl) fp7_22 rfl ha (Nat.le_of_ble_eq_true rfl) rfl rfl (fun h e1 e2 => ?_)
  have ha : h a = some (.inr (7, [.ref b1, .ref b2, .ref b3, .ref q3, .null, .null, .null, .null, .null, .null, .null, .null, .null, vI 0, vI 0, vI 0, vI 0])) := e1
  have k3 := (e2 q3 da3).trans k3
  have hY := hY.mv e2 (Or.inl rfl) (fun k hk => (hY.2.1 k hk).2)
  refine z_ald_0 (TX7_init_0.at 21 rfl) ?_
  refine z_newO (TX7_init_0.at 22 rfl) nw7_26 (by omega) (by show 4 ≤ _; omega) (fun b6 h1 hn e1 e2 => ?_)
  show Z l MX7_init d _ _ _ _ _ _ h1 _ (_ - 4)
  refine z_dup rfl (TX7_init_0.at 23 rfl) ?_
  refine z_invIN0 (TX7_init_0.at 24 rfl) c7_28 (by omega) (by omega) (by omega) (Nat.le_of_ble_eq_true rfl) (i_X2 (by omega) e1) (fun v h2 hp => ?_)
  obtain ⟨rfl, ad, B⟩ := hp
  obtain ⟨E1, hY1, hq1⟩ := YA.bornE (m := 6) hY ha (by cases hz : E1.2.1 6 with | false => rfl | true => exact absurd (hv 6 hz) (by decide)) hn e2 B (fun s hs => by rcases sl2 hs with rfl | rfl | rfl <;> rfl) (fun s hs q => by have z := so2 hs q; subst z; rfl) (fun x s hx ht => by rcases hv x hx with rfl | rfl | rfl <;> rcases t8 ht with ⟨q, w⟩ | ⟨q, w⟩ | q <;> first | exact absurd q (by decide) | (rw [w]; decide))
  have ha1 := B.keep ((e2 a (ne_so ha hn).symm).trans ha) (ne_so ha hn).symm
  have k3z := B.keep ((e2 q3 (ne_so k3 hn).symm).trans k3) (ne_so k3 hn).symm
  have hv : ∀ x, E1.2.1 x = true → x = 6 ∨ x = 3 ∨ x = 2 ∨ x = 1 := fun x hx => (hq1.1 x hx).imp id (hv x)
  have v3 := hq1.2.2.1 3 v3
  have x3 := (hq1.2.2.2.2.1 127 (by decide)).trans x3
  have v2 := hq1.2.2.1 2 v2
  have x2 := (hq1.2.2.2.2.1 95 (by decide)).trans x2
  have v1 := hq1.2.2.1 1 v1
  have x1 := (hq1.2.2.2.2.1 63 (by decide)).trans x1
  have v6 := hq1.2.1
  have x6 : E1.1 223 = b6 := hq1.2.2.2.1
  have u3 : ∀ k, cUse E1 k → E1.1 k ≠ q3 := fun k hk => by
    rcases hq1.2.2.2.2.2 k hk with ⟨z1, z2⟩ | z1
    · rw [z2]; exact u3 k z1
    · exact ne_so k3 z1
  have ha := ha1
  have k3 := k3z
  have hY := hY1
  clear hY1 hq1 e1 e2 hn
  refine z_pF (TX7_init_0.at 25 rfl) fp7_29 rfl ha (Nat.le_of_ble_eq_true rfl) rfl rfl (fun h e1 e2 => ?_)
  have ha : h a = some (.inr (7, [.ref b1, .ref b2, .ref b3, .ref q3, .ref b6, .null, .null, .null, .null, .null, .null, .null, .null, vI 0, vI 0, vI 0, vI 0])) := e1
  have k3 := (e2 q3 da3).trans k3
  have hY := hY.mv e2 (Or.inl rfl) (fun k hk => (hY.2.1 k hk).2)
  refine z_ald_0 (TX7_init_0.at 26 rfl) ?_
  refine z_newO (TX7_init_0.at 27 rfl) nw7_26 (by omega) (by show 4 ≤ _; omega) (fun b7 h1 hn e1 e2 => ?_)
  show Z l MX7_init d _ _ _ _ _ _ h1 _ (_ - 4)
  refine z_dup rfl (TX7_init_0.at 28 rfl) ?_
  refine z_invIN0 (TX7_init_0.at 29 rfl) c7_28 (by omega) (by omega) (by omega) (Nat.le_of_ble_eq_true rfl) (i_X2 (by omega) e1) (fun v h2 hp => ?_)
  obtain ⟨rfl, ad, B⟩ := hp
  obtain ⟨E1, hY1, hq1⟩ := YA.bornE (m := 7) hY ha (by cases hz : E1.2.1 7 with | false => rfl | true => exact absurd (hv 7 hz) (by decide)) hn e2 B (fun s hs => by rcases sl2 hs with rfl | rfl | rfl <;> rfl) (fun s hs q => by have z := so2 hs q; subst z; rfl) (fun x s hx ht => by rcases hv x hx with rfl | rfl | rfl | rfl <;> rcases t8 ht with ⟨q, w⟩ | ⟨q, w⟩ | q <;> first | exact absurd q (by decide) | (rw [w]; decide))
  have ha1 := B.keep ((e2 a (ne_so ha hn).symm).trans ha) (ne_so ha hn).symm
  have k3z := B.keep ((e2 q3 (ne_so k3 hn).symm).trans k3) (ne_so k3 hn).symm
  have hv : ∀ x, E1.2.1 x = true → x = 7 ∨ x = 6 ∨ x = 3 ∨ x = 2 ∨ x = 1 := fun x hx => (hq1.1 x hx).imp id (hv x)
  have v6 := hq1.2.2.1 6 v6
  have x6 := (hq1.2.2.2.2.1 223 (by decide)).trans x6
  have v3 := hq1.2.2.1 3 v3
  have x3 := (hq1.2.2.2.2.1 127 (by decide)).trans x3
  have v2 := hq1.2.2.1 2 v2
  have x2 := (hq1.2.2.2.2.1 95 (by decide)).trans x2
  have v1 := hq1.2.2.1 1 v1
  have x1 := (hq1.2.2.2.2.1 63 (by decide)).trans x1
  have v7 := hq1.2.1
  have x7 : E1.1 255 = b7 := hq1.2.2.2.1
  have u3 : ∀ k, cUse E1 k → E1.1 k ≠ q3 := fun k hk => by
    rcases hq1.2.2.2.2.2 k hk with ⟨z1, z2⟩ | z1
    · rw [z2]; exact u3 k z1
    · exact ne_so k3 z1
  have ha := ha1
  have k3 := k3z
  have hY := hY1
  clear hY1 hq1 e1 e2 hn
  refine z_pF (TX7_init_0.at 30 rfl) fp7_33 rfl ha (Nat.le_of_ble_eq_true rfl) rfl rfl (fun h e1 e2 => ?_)
  have ha : h a = some (.inr (7, [.ref b1, .ref b2, .ref b3, .ref q3, .ref b6, .ref b7, .null, .null, .null, .null, .null, .null, .null, vI 0, vI 0, vI 0, vI 0])) := e1
  have k3 := (e2 q3 da3).trans k3
  have hY := hY.mv e2 (Or.inl rfl) (fun k hk => (hY.2.1 k hk).2)
  refine z_ald_0 (TX7_init_0.at 31 rfl) ?_
  refine z_newO (TX7_init_0.at 32 rfl) nw7_36 (by omega) (by show 2 ≤ _; omega) (fun b8 h1 hn e1 e2 => ?_)
  show Z l MX7_init d _ _ _ _ _ _ h1 _ (_ - 2)
  refine z_dup rfl (TX7_init_0.at 33 rfl) ?_
  refine z_invIN0 (TX7_init_0.at 34 rfl) c7_38 (by omega) (by omega) (by omega) (Nat.le_of_ble_eq_true rfl) (i_X6 (by omega) e1) (fun v h2 hp => ?_)
  obtain ⟨rfl, ad, B⟩ := hp
  obtain ⟨E1, hY1, hq1⟩ := YA.bornE (m := 8) hY ha (by cases hz : E1.2.1 8 with | false => rfl | true => exact absurd (hv 8 hz) (by decide)) hn e2 B (fun s hs => by have z := sl6 hs; subst z; rfl) (fun s hs q => by have z := so6 hs q; subst z; rfl) (fun x s hx ht => by rcases hv x hx with rfl | rfl | rfl | rfl | rfl <;> rcases t8 ht with ⟨q, w⟩ | ⟨q, w⟩ | q <;> first | exact absurd q (by decide) | (rw [w]; decide))
  have ha1 := B.keep ((e2 a (ne_so ha hn).symm).trans ha) (ne_so ha hn).symm
  have k3z := B.keep ((e2 q3 (ne_so k3 hn).symm).trans k3) (ne_so k3 hn).symm
  have hv : ∀ x, E1.2.1 x = true → x = 8 ∨ x = 7 ∨ x = 6 ∨ x = 3 ∨ x = 2 ∨ x = 1 := fun x hx => (hq1.1 x hx).imp id (hv x)
  have v7 := hq1.2.2.1 7 v7
  have x7 := (hq1.2.2.2.2.1 255 (by decide)).trans x7
  have v6 := hq1.2.2.1 6 v6
  have x6 := (hq1.2.2.2.2.1 223 (by decide)).trans x6
  have v3 := hq1.2.2.1 3 v3
  have x3 := (hq1.2.2.2.2.1 127 (by decide)).trans x3
  have v2 := hq1.2.2.1 2 v2
  have x2 := (hq1.2.2.2.2.1 95 (by decide)).trans x2
  have v1 := hq1.2.2.1 1 v1
  have x1 := (hq1.2.2.2.2.1 63 (by decide)).trans x1
  have v8 := hq1.2.1
  have x8 : E1.1 287 = b8 := hq1.2.2.2.1
  have u3 : ∀ k, cUse E1 k → E1.1 k ≠ q3 := fun k hk => by
    rcases hq1.2.2.2.2.2 k hk with ⟨z1, z2⟩ | z1
    · rw [z2]; exact u3 k z1
    · exact ne_so k3 z1
  have ha := ha1
  have k3 := k3z
  have hY := hY1
  clear hY1 hq1 e1 e2 hn
  refine z_pF (TX7_init_0.at 35 rfl) fp7_39 rfl ha (Nat.le_of_ble_eq_true rfl) rfl rfl (fun h e1 e2 => ?_)
  have ha : h a = some (.inr (7, [.ref b1, .ref b2, .ref b3, .ref q3, .ref b6, .ref b7, .ref b8, .null, .null, .null, .null, .null, .null, vI 0, vI 0, vI 0, vI 0])) := e1
  have k3 := (e2 q3 da3).trans k3
  have hY := hY.mv e2 (Or.inl rfl) (fun k hk => (hY.2.1 k hk).2)
  refine z_ald_0 (TX7_init_0.at 36 rfl) ?_
  refine z_newO (TX7_init_0.at 37 rfl) nw7_43 (by omega) (by show 9 ≤ _; omega) (fun b9 h1 hn e1 e2 => ?_)
  show Z l MX7_init d _ _ _ _ _ _ h1 _ (_ - 9)
  refine z_dup rfl (TX7_init_0.at 38 rfl) ?_
  refine z_invIN0 (TX7_init_0.at 39 rfl) c7_45 (by omega) (by omega) (by omega) (Nat.le_of_ble_eq_true rfl) (i_X3 (by omega) e1) (fun v h2 hp => ?_)
  obtain ⟨rfl, ad, b13, ad2, B⟩ := hp
  have hkp : ∀ x e, h1 x = some e → x ≠ b9 → h2 x = some e := fun x e hx hxb => by rw [B.2.2.2.2.2.2 x hxb (fun s hs => (ne_so hx (B.2.2.1 s hs)).symm) (ne_so hx B.2.2.2.1).symm (fun s hs => (ne_so hx (B.2.2.2.2.1 s hs)).symm)]; exact hx
  obtain ⟨E9, E1, hY1, hq9, hq1⟩ := YA.bornE2 (m := 9) (m2 := 13) hY ha (by cases hz : E1.2.1 9 with | false => rfl | true => exact absurd (hv 9 hz) (by decide)) (by cases hz : E1.2.1 13 with | false => rfl | true => exact absurd (hv 13 hz) (by decide)) (by decide) hn e2 (by rw [e1]; exact fun z => by cases z) B (fun s hs => by rcases sl3 hs with rfl | rfl | rfl <;> rfl) (fun s hs q => by rcases so3 hs q with rfl | rfl | rfl | rfl | rfl | rfl <;> rfl) (fun s hs => by rcases sl4 hs with rfl | rfl | rfl | rfl | rfl | rfl <;> rfl) (fun s hs q => by rcases so4 hs q with rfl | rfl | rfl <;> rfl) (fun x s hx ht => by rcases hv x hx with rfl | rfl | rfl | rfl | rfl | rfl <;> rcases t8 ht with ⟨q, w⟩ | ⟨q, w⟩ | q <;> first | exact absurd q (by decide) | (rw [w]; exact ⟨by decide, by decide⟩)) (fun s ht => by rcases t8 ht with ⟨q, w⟩ | ⟨q, w⟩ | q <;> exact absurd q (by decide))
  have ha1 := hkp a _ ((e2 a (ne_so ha hn).symm).trans ha) (ne_so ha hn).symm
  have k3z := hkp q3 _ ((e2 q3 (ne_so k3 hn).symm).trans k3) (ne_so k3 hn).symm
  have hv : ∀ x, E9.2.1 x = true → x = 13 ∨ x = 8 ∨ x = 7 ∨ x = 6 ∨ x = 3 ∨ x = 2 ∨ x = 1 := fun x hx => (hq9.1 x hx).imp id (hv x)
  have v8 := hq9.2.2.1 8 v8
  have x8 := (hq9.2.2.2.2.1 287 (by decide)).trans x8
  have v7 := hq9.2.2.1 7 v7
  have x7 := (hq9.2.2.2.2.1 255 (by decide)).trans x7
  have v6 := hq9.2.2.1 6 v6
  have x6 := (hq9.2.2.2.2.1 223 (by decide)).trans x6
  have v3 := hq9.2.2.1 3 v3
  have x3 := (hq9.2.2.2.2.1 127 (by decide)).trans x3
  have v2 := hq9.2.2.1 2 v2
  have x2 := (hq9.2.2.2.2.1 95 (by decide)).trans x2
  have v1 := hq9.2.2.1 1 v1
  have x1 := (hq9.2.2.2.2.1 63 (by decide)).trans x1
  have v13 := hq9.2.1
  have x13 : E9.1 447 = b13 := hq9.2.2.2.1
  have u3 : ∀ k, cUse E9 k → E9.1 k ≠ q3 := fun k hk => by
    rcases hq9.2.2.2.2.2 k hk with ⟨z1, z2⟩ | z1
    · rw [z2]; exact u3 k z1
    · exact ne_so k3 z1
  have hv : ∀ x, E1.2.1 x = true → x = 9 ∨ x = 13 ∨ x = 8 ∨ x = 7 ∨ x = 6 ∨ x = 3 ∨ x = 2 ∨ x = 1 := fun x hx => (hq1.1 x hx).imp id (hv x)
  have v13 := hq1.2.2.1 13 v13
  have x13 := (hq1.2.2.2.2.1 447 (by decide)).trans x13
  have v8 := hq1.2.2.1 8 v8
  have x8 := (hq1.2.2.2.2.1 287 (by decide)).trans x8
  have v7 := hq1.2.2.1 7 v7
  have x7 := (hq1.2.2.2.2.1 255 (by decide)).trans x7
  have v6 := hq1.2.2.1 6 v6
  have x6 := (hq1.2.2.2.2.1 223 (by decide)).trans x6
  have v3 := hq1.2.2.1 3 v3
  have x3 := (hq1.2.2.2.2.1 127 (by decide)).trans x3
  have v2 := hq1.2.2.1 2 v2
  have x2 := (hq1.2.2.2.2.1 95 (by decide)).trans x2
  have v1 := hq1.2.2.1 1 v1
  have x1 := (hq1.2.2.2.2.1 63 (by decide)).trans x1
  have v9 := hq1.2.1
  have x9 : E1.1 319 = b9 := hq1.2.2.2.1
  have u3 : ∀ k, cUse E1 k → E1.1 k ≠ q3 := fun k hk => by
    rcases hq1.2.2.2.2.2 k hk with ⟨z1, z2⟩ | z1
    · rw [z2]; exact u3 k z1
    · exact ne_so k3 z1
  have ha := ha1
  have k3 := k3z
  have hY := hY1
  clear hY1 hq1 e1 e2 hn
  refine z_pF (TX7_init_1.at 0 rfl) fp7_46 rfl ha (Nat.le_of_ble_eq_true rfl) rfl rfl (fun h e1 e2 => ?_)
  have ha : h a = some (.inr (7, [.ref b1, .ref b2, .ref b3, .ref q3, .ref b6, .ref b7, .ref b8, .ref b9, .null, .null, .null, .null, .null, vI 0, vI 0, vI 0, vI 0])) := e1
  have k3 := (e2 q3 da3).trans k3
  have hY := hY.mv e2 (Or.inl rfl) (fun k hk => (hY.2.1 k hk).2)
  refine z_ald_0 (TX7_init_1.at 1 rfl) ?_
  refine z_newO (TX7_init_1.at 2 rfl) nw7_50 (by omega) (by show 1 ≤ _; omega) (fun b10 h1 hn e1 e2 => ?_)
  show Z l MX7_init d _ _ _ _ _ _ h1 _ (_ - 1)
  refine z_dup rfl (TX7_init_1.at 3 rfl) ?_
  refine z_invIN0 (TX7_init_1.at 4 rfl) c7_52 (by omega) (by omega) (by omega) (Nat.le_of_ble_eq_true rfl) (i_X5 (by omega) e1) (fun v h2 hp => ?_)
  obtain ⟨rfl, ad, B⟩ := hp
  obtain ⟨E1, hY1, hq1⟩ := YA.bornE (m := 10) hY ha (by cases hz : E1.2.1 10 with | false => rfl | true => exact absurd (hv 10 hz) (by decide)) hn e2 B (fun s hs => by have z := sl5 hs; subst z; rfl) (fun s hs q => absurd (show cTg 5 s < 6 by have : s = 0 := (by have hs : s < 1 := hs; omega); rw [this]; decide) q) (fun x s hx ht => by rcases hv x hx with rfl | rfl | rfl | rfl | rfl | rfl | rfl | rfl <;> rcases t8 ht with ⟨q, w⟩ | ⟨q, w⟩ | q <;> first | exact absurd q (by decide) | (rw [w]; decide))
  have ha1 := B.keep ((e2 a (ne_so ha hn).symm).trans ha) (ne_so ha hn).symm
  have k3z := B.keep ((e2 q3 (ne_so k3 hn).symm).trans k3) (ne_so k3 hn).symm
  have hv : ∀ x, E1.2.1 x = true → x = 10 ∨ x = 9 ∨ x = 13 ∨ x = 8 ∨ x = 7 ∨ x = 6 ∨ x = 3 ∨ x = 2 ∨ x = 1 := fun x hx => (hq1.1 x hx).imp id (hv x)
  have v9 := hq1.2.2.1 9 v9
  have x9 := (hq1.2.2.2.2.1 319 (by decide)).trans x9
  have v13 := hq1.2.2.1 13 v13
  have x13 := (hq1.2.2.2.2.1 447 (by decide)).trans x13
  have v8 := hq1.2.2.1 8 v8
  have x8 := (hq1.2.2.2.2.1 287 (by decide)).trans x8
  have v7 := hq1.2.2.1 7 v7
  have x7 := (hq1.2.2.2.2.1 255 (by decide)).trans x7
  have v6 := hq1.2.2.1 6 v6
  have x6 := (hq1.2.2.2.2.1 223 (by decide)).trans x6
  have v3 := hq1.2.2.1 3 v3
  have x3 := (hq1.2.2.2.2.1 127 (by decide)).trans x3
  have v2 := hq1.2.2.1 2 v2
  have x2 := (hq1.2.2.2.2.1 95 (by decide)).trans x2
  have v1 := hq1.2.2.1 1 v1
  have x1 := (hq1.2.2.2.2.1 63 (by decide)).trans x1
  have v10 := hq1.2.1
  have x10 : E1.1 351 = b10 := hq1.2.2.2.1
  have u3 : ∀ k, cUse E1 k → E1.1 k ≠ q3 := fun k hk => by
    rcases hq1.2.2.2.2.2 k hk with ⟨z1, z2⟩ | z1
    · rw [z2]; exact u3 k z1
    · exact ne_so k3 z1
  have ha := ha1
  have k3 := k3z
  have hY := hY1
  clear hY1 hq1 e1 e2 hn
  refine z_pF (TX7_init_1.at 5 rfl) fp7_53 rfl ha (Nat.le_of_ble_eq_true rfl) rfl rfl (fun h e1 e2 => ?_)
  have ha : h a = some (.inr (7, [.ref b1, .ref b2, .ref b3, .ref q3, .ref b6, .ref b7, .ref b8, .ref b9, .ref b10, .null, .null, .null, .null, vI 0, vI 0, vI 0, vI 0])) := e1
  have k3 := (e2 q3 da3).trans k3
  have hY := hY.mv e2 (Or.inl rfl) (fun k hk => (hY.2.1 k hk).2)
  refine z_ald_0 (TX7_init_1.at 6 rfl) ?_
  refine z_newO (TX7_init_1.at 7 rfl) nw7_57 (by omega) (by show 7 ≤ _; omega) (fun b11 h1 hn e1 e2 => ?_)
  show Z l MX7_init d _ _ _ _ _ _ h1 _ (_ - 7)
  refine z_dup rfl (TX7_init_1.at 8 rfl) ?_
  refine z_invIN0 (TX7_init_1.at 9 rfl) c7_59 (by omega) (by omega) (by omega) (Nat.le_of_ble_eq_true rfl) (i_X0 (by omega) e1) (fun v h2 hp => ?_)
  obtain ⟨rfl, ad, b12, ad2, B⟩ := hp
  have hkp : ∀ x e, h1 x = some e → x ≠ b11 → h2 x = some e := fun x e hx hxb => by rw [B.2.2.2.2.2.2 x hxb (fun s hs => (ne_so hx (B.2.2.1 s hs)).symm) (ne_so hx B.2.2.2.1).symm (fun s hs => (ne_so hx (B.2.2.2.2.1 s hs)).symm)]; exact hx
  obtain ⟨E9, E1, hY1, hq9, hq1⟩ := YA.bornE2 (m := 11) (m2 := 12) hY ha (by cases hz : E1.2.1 11 with | false => rfl | true => exact absurd (hv 11 hz) (by decide)) (by cases hz : E1.2.1 12 with | false => rfl | true => exact absurd (hv 12 hz) (by decide)) (by decide) hn e2 (by rw [e1]; exact fun z => by cases z) B (fun s hs => by rcases sl0 hs with rfl | rfl | rfl | rfl | rfl <;> rfl) (fun s hs q => by rcases so0 hs q with rfl | rfl <;> rfl) (fun s hs => by have z := sl5 hs; subst z; rfl) (fun s hs q => absurd (show cTg 5 s < 6 by have : s = 0 := (by have hs : s < 1 := hs; omega); rw [this]; decide) q) (fun x s hx ht => by rcases hv x hx with rfl | rfl | rfl | rfl | rfl | rfl | rfl | rfl | rfl <;> rcases t8 ht with ⟨q, w⟩ | ⟨q, w⟩ | q <;> first | exact absurd q (by decide) | (rw [w]; exact ⟨by decide, by decide⟩)) (fun s ht => by rcases t8 ht with ⟨q, w⟩ | ⟨q, w⟩ | q <;> exact absurd q (by decide))
  have ha1 := hkp a _ ((e2 a (ne_so ha hn).symm).trans ha) (ne_so ha hn).symm
  have k3z := hkp q3 _ ((e2 q3 (ne_so k3 hn).symm).trans k3) (ne_so k3 hn).symm
  have hv : ∀ x, E9.2.1 x = true → x = 12 ∨ x = 10 ∨ x = 9 ∨ x = 13 ∨ x = 8 ∨ x = 7 ∨ x = 6 ∨ x = 3 ∨ x = 2 ∨ x = 1 := fun x hx => (hq9.1 x hx).imp id (hv x)
  have v10 := hq9.2.2.1 10 v10
  have x10 := (hq9.2.2.2.2.1 351 (by decide)).trans x10
  have v9 := hq9.2.2.1 9 v9
  have x9 := (hq9.2.2.2.2.1 319 (by decide)).trans x9
  have v13 := hq9.2.2.1 13 v13
  have x13 := (hq9.2.2.2.2.1 447 (by decide)).trans x13
  have v8 := hq9.2.2.1 8 v8
  have x8 := (hq9.2.2.2.2.1 287 (by decide)).trans x8
  have v7 := hq9.2.2.1 7 v7
  have x7 := (hq9.2.2.2.2.1 255 (by decide)).trans x7
  have v6 := hq9.2.2.1 6 v6
  have x6 := (hq9.2.2.2.2.1 223 (by decide)).trans x6
  have v3 := hq9.2.2.1 3 v3
  have x3 := (hq9.2.2.2.2.1 127 (by decide)).trans x3
  have v2 := hq9.2.2.1 2 v2
  have x2 := (hq9.2.2.2.2.1 95 (by decide)).trans x2
  have v1 := hq9.2.2.1 1 v1
  have x1 := (hq9.2.2.2.2.1 63 (by decide)).trans x1
  have v12 := hq9.2.1
  have x12 : E9.1 415 = b12 := hq9.2.2.2.1
  have u3 : ∀ k, cUse E9 k → E9.1 k ≠ q3 := fun k hk => by
    rcases hq9.2.2.2.2.2 k hk with ⟨z1, z2⟩ | z1
    · rw [z2]; exact u3 k z1
    · exact ne_so k3 z1
  have hv : ∀ x, E1.2.1 x = true → x = 11 ∨ x = 12 ∨ x = 10 ∨ x = 9 ∨ x = 13 ∨ x = 8 ∨ x = 7 ∨ x = 6 ∨ x = 3 ∨ x = 2 ∨ x = 1 := fun x hx => (hq1.1 x hx).imp id (hv x)
  have v12 := hq1.2.2.1 12 v12
  have x12 := (hq1.2.2.2.2.1 415 (by decide)).trans x12
  have v10 := hq1.2.2.1 10 v10
  have x10 := (hq1.2.2.2.2.1 351 (by decide)).trans x10
  have v9 := hq1.2.2.1 9 v9
  have x9 := (hq1.2.2.2.2.1 319 (by decide)).trans x9
  have v13 := hq1.2.2.1 13 v13
  have x13 := (hq1.2.2.2.2.1 447 (by decide)).trans x13
  have v8 := hq1.2.2.1 8 v8
  have x8 := (hq1.2.2.2.2.1 287 (by decide)).trans x8
  have v7 := hq1.2.2.1 7 v7
  have x7 := (hq1.2.2.2.2.1 255 (by decide)).trans x7
  have v6 := hq1.2.2.1 6 v6
  have x6 := (hq1.2.2.2.2.1 223 (by decide)).trans x6
  have v3 := hq1.2.2.1 3 v3
  have x3 := (hq1.2.2.2.2.1 127 (by decide)).trans x3
  have v2 := hq1.2.2.1 2 v2
  have x2 := (hq1.2.2.2.2.1 95 (by decide)).trans x2
  have v1 := hq1.2.2.1 1 v1
  have x1 := (hq1.2.2.2.2.1 63 (by decide)).trans x1
  have v11 := hq1.2.1
  have x11 : E1.1 383 = b11 := hq1.2.2.2.1
  have u3 : ∀ k, cUse E1 k → E1.1 k ≠ q3 := fun k hk => by
    rcases hq1.2.2.2.2.2 k hk with ⟨z1, z2⟩ | z1
    · rw [z2]; exact u3 k z1
    · exact ne_so k3 z1
  have ha := ha1
  have k3 := k3z
  have hY := hY1
  clear hY1 hq1 e1 e2 hn
  refine z_pF (TX7_init_1.at 10 rfl) fp7_60 rfl ha (Nat.le_of_ble_eq_true rfl) rfl rfl (fun h e1 e2 => ?_)
  have ha : h a = some (.inr (7, [.ref b1, .ref b2, .ref b3, .ref q3, .ref b6, .ref b7, .ref b8, .ref b9, .ref b10, .ref b11, .null, .null, .null, vI 0, vI 0, vI 0, vI 0])) := e1
  have k3 := (e2 q3 da3).trans k3
  have hY := hY.mv e2 (Or.inl rfl) (fun k hk => (hY.2.1 k hk).2)
  refine z_ald_0 (TX7_init_1.at 11 rfl) ?_
  refine z_bipush (by decide) (TX7_init_1.at 12 rfl) ?_
  refine z_newI (TX7_init_1.at 13 rfl) ac0 (by omega) (by omega) (by omega) (by omega) (fun q10 h hn e1 e2 => ?_)
  have da10 : q10 ≠ a := ne_so ha hn
  have d10_3 : q10 ≠ q3 := ne_so k3 hn
  have n10 : h0 q10 = none := hY.fresh hn da10
  have u10 : ∀ k, cUse E1 k → E1.1 k ≠ q10 := fun k hk z => by obtain ⟨e, he⟩ := hY.1.some hk; rw [z, hn] at he; cases he
  have hY := hY.mv e2 (Or.inr n10) u10
  have ha := (e2 a da10.symm).trans ha
  have k3 := (e2 q3 d10_3.symm).trans k3
  have k10 := e1
  refine z_pF (TX7_init_1.at 14 rfl) fp7_64 rfl ha (Nat.le_of_ble_eq_true rfl) rfl rfl (fun h e1 e2 => ?_)
  have ha : h a = some (.inr (7, [.ref b1, .ref b2, .ref b3, .ref q3, .ref b6, .ref b7, .ref b8, .ref b9, .ref b10, .ref b11, .ref q10, .null, .null, vI 0, vI 0, vI 0, vI 0])) := e1
  have k3 := (e2 q3 da3).trans k3
  have k10 := (e2 q10 da10).trans k10
  have hY := hY.mv e2 (Or.inl rfl) (fun k hk => (hY.2.1 k hk).2)
  refine z_ald_0 (TX7_init_1.at 15 rfl) ?_
  refine z_bipush (by decide) (TX7_init_1.at 16 rfl) ?_
  refine z_newI (TX7_init_1.at 17 rfl) ac0 (by omega) (by omega) (by omega) (by omega) (fun q11 h hn e1 e2 => ?_)
  have da11 : q11 ≠ a := ne_so ha hn
  have d11_3 : q11 ≠ q3 := ne_so k3 hn
  have d11_10 : q11 ≠ q10 := ne_so k10 hn
  have n11 : h0 q11 = none := hY.fresh hn da11
  have u11 : ∀ k, cUse E1 k → E1.1 k ≠ q11 := fun k hk z => by obtain ⟨e, he⟩ := hY.1.some hk; rw [z, hn] at he; cases he
  have hY := hY.mv e2 (Or.inr n11) u11
  have ha := (e2 a da11.symm).trans ha
  have k3 := (e2 q3 d11_3.symm).trans k3
  have k10 := (e2 q10 d11_10.symm).trans k10
  have k11 := e1
  refine z_pF (TX7_init_1.at 18 rfl) fp7_68 rfl ha (Nat.le_of_ble_eq_true rfl) rfl rfl (fun h e1 e2 => ?_)
  have ha : h a = some (.inr (7, [.ref b1, .ref b2, .ref b3, .ref q3, .ref b6, .ref b7, .ref b8, .ref b9, .ref b10, .ref b11, .ref q10, .ref q11, .null, vI 0, vI 0, vI 0, vI 0])) := e1
  have k3 := (e2 q3 da3).trans k3
  have k10 := (e2 q10 da10).trans k10
  have k11 := (e2 q11 da11).trans k11
  have hY := hY.mv e2 (Or.inl rfl) (fun k hk => (hY.2.1 k hk).2)
  refine z_ald_0 (TX7_init_1.at 19 rfl) ?_
  refine z_bipush (by decide) (TX7_init_1.at 20 rfl) ?_
  refine z_newL (TX7_init_1.at 21 rfl) ac1 (by omega) (by omega) (by omega) (by omega) (fun q12 h hn e1 e2 => ?_)
  have da12 : q12 ≠ a := ne_so ha hn
  have d12_3 : q12 ≠ q3 := ne_so k3 hn
  have d12_10 : q12 ≠ q10 := ne_so k10 hn
  have d12_11 : q12 ≠ q11 := ne_so k11 hn
  have n12 : h0 q12 = none := hY.fresh hn da12
  have u12 : ∀ k, cUse E1 k → E1.1 k ≠ q12 := fun k hk z => by obtain ⟨e, he⟩ := hY.1.some hk; rw [z, hn] at he; cases he
  have hY := hY.mv e2 (Or.inr n12) u12
  have ha := (e2 a da12.symm).trans ha
  have k3 := (e2 q3 d12_3.symm).trans k3
  have k10 := (e2 q10 d12_10.symm).trans k10
  have k11 := (e2 q11 d12_11.symm).trans k11
  have k12 := e1
  refine z_pF (TX7_init_1.at 22 rfl) fp7_71 rfl ha (Nat.le_of_ble_eq_true rfl) rfl rfl (fun h e1 e2 => ?_)
  have ha : h a = some (.inr (7, [.ref b1, .ref b2, .ref b3, .ref q3, .ref b6, .ref b7, .ref b8, .ref b9, .ref b10, .ref b11, .ref q10, .ref q11, .ref q12, vI 0, vI 0, vI 0, vI 0])) := e1
  have k3 := (e2 q3 da3).trans k3
  have k10 := (e2 q10 da10).trans k10
  have k11 := (e2 q11 da11).trans k11
  have k12 := (e2 q12 da12).trans k12
  have hY := hY.mv e2 (Or.inl rfl) (fun k hk => (hY.2.1 k hk).2)
  refine z_ald_0 (TX7_init_1.at 23 rfl) ?_
  refine z_iconst (TX7_init_1.at 24 rfl) ?_
  refine z_pf (TX7_init_1.at 25 rfl) fp7_75 ha (Nat.le_of_ble_eq_true rfl) rfl rfl (fun h e1 e2 => ?_)
  have ha : h a = some (.inr (7, [.ref b1, .ref b2, .ref b3, .ref q3, .ref b6, .ref b7, .ref b8, .ref b9, .ref b10, .ref b11, .ref q10, .ref q11, .ref q12, vI 0, vI 0, vI 0, vI 0])) := e1
  have k3 := (e2 q3 da3).trans k3
  have k10 := (e2 q10 da10).trans k10
  have k11 := (e2 q11 da11).trans k11
  have k12 := (e2 q12 da12).trans k12
  have hY := hY.mv e2 (Or.inl rfl) (fun k hk => (hY.2.1 k hk).2)
  refine z_ald_0 (TX7_init_1.at 26 rfl) ?_
  refine z_iconst (TX7_init_1.at 27 rfl) ?_
  refine z_pf (TX7_init_1.at 28 rfl) fp7_79 ha (Nat.le_of_ble_eq_true rfl) rfl rfl (fun h e1 e2 => ?_)
  have ha : h a = some (.inr (7, [.ref b1, .ref b2, .ref b3, .ref q3, .ref b6, .ref b7, .ref b8, .ref b9, .ref b10, .ref b11, .ref q10, .ref q11, .ref q12, vI 0, vI (-1), vI 0, vI 0])) := e1
  have k3 := (e2 q3 da3).trans k3
  have k10 := (e2 q10 da10).trans k10
  have k11 := (e2 q11 da11).trans k11
  have k12 := (e2 q12 da12).trans k12
  have hY := hY.mv e2 (Or.inl rfl) (fun k hk => (hY.2.1 k hk).2)
  refine z_ald_0 (TX7_init_1.at 29 rfl) ?_
  refine z_iconst (TX7_init_1.at 30 rfl) ?_
  refine z_pf (TX7_init_1.at 31 rfl) fp7_82 ha (Nat.le_of_ble_eq_true rfl) rfl rfl (fun h e1 e2 => ?_)
  have ha : h a = some (.inr (7, [.ref b1, .ref b2, .ref b3, .ref q3, .ref b6, .ref b7, .ref b8, .ref b9, .ref b10, .ref b11, .ref q10, .ref q11, .ref q12, vI 0, vI (-1), vI (-1), vI 0])) := e1
  have k3 := (e2 q3 da3).trans k3
  have k10 := (e2 q10 da10).trans k10
  have k11 := (e2 q11 da11).trans k11
  have k12 := (e2 q12 da12).trans k12
  have hY := hY.mv e2 (Or.inl rfl) (fun k hk => (hY.2.1 k hk).2)
  refine z_ald_0 (TX7_init_1.at 32 rfl) ?_
  refine z_iconst (TX7_init_1.at 33 rfl) ?_
  refine z_pf (TX7_init_1.at 34 rfl) fp7_85 ha (Nat.le_of_ble_eq_true rfl) rfl rfl (fun h e1 e2 => ?_)
  have ha : h a = some (.inr (7, [.ref b1, .ref b2, .ref b3, .ref q3, .ref b6, .ref b7, .ref b8, .ref b9, .ref b10, .ref b11, .ref q10, .ref q11, .ref q12, vI 0, vI (-1), vI (-1), vI 0])) := e1
  have k3 := (e2 q3 da3).trans k3
  have k10 := (e2 q10 da10).trans k10
  have k11 := (e2 q11 da11).trans k11
  have k12 := (e2 q12 da12).trans k12
  have hY := hY.mv e2 (Or.inl rfl) (fun k hk => (hY.2.1 k hk).2)
  have hN : Nd 7 a (fun s => match s with | 3 => q3 | 10 => q10 | 11 => q11 | 12 => q12 | _ => 0) (fun s => zC (cTg 7 s) (cLn 7 s)) (fun s => match s with | 0 => .ref b1 | 1 => .ref b2 | 2 => .ref b3 | 4 => .ref b6 | 5 => .ref b7 | 6 => .ref b8 | 7 => .ref b9 | 8 => .ref b10 | 9 => .ref b11 | 13 => vI 0 | 14 => vI (-1) | 15 => vI (-1) | 16 => vI 0 | _ => .null) h := by
    refine ⟨ha, fun s hs => ?_, fun s t hs ht e => ?_, fun s hs => ?_⟩
    · rcases sl7 hs with rfl | rfl | rfl | rfl
      · exact k3
      · exact k10
      · exact k11
      · exact k12
    · rcases sl7 hs with rfl | rfl | rfl | rfl
      · rcases sl7 ht with rfl | rfl | rfl | rfl
        · rfl
        · exact absurd e d10_3.symm
        · exact absurd e d11_3.symm
        · exact absurd e d12_3.symm
      · rcases sl7 ht with rfl | rfl | rfl | rfl
        · exact absurd e d10_3
        · rfl
        · exact absurd e d11_10.symm
        · exact absurd e d12_10.symm
      · rcases sl7 ht with rfl | rfl | rfl | rfl
        · exact absurd e d11_3
        · exact absurd e d11_10
        · rfl
        · exact absurd e d12_11.symm
      · rcases sl7 ht with rfl | rfl | rfl | rfl
        · exact absurd e d12_3
        · exact absurd e d12_10
        · exact absurd e d12_11
        · rfl
    · rcases sl7 hs with rfl | rfl | rfl | rfl
      · exact da3
      · exact da10
      · exact da11
      · exact da12
  have hm0 : E1.2.1 0 = false := by cases hz : E1.2.1 0 with | false => rfl | true => exact absurd (hv 0 hz) (by decide)
  have hP := HP.nd (m := 0) (ln := cLn 7) hY.1 hm0 hN (fun _ _ => rfl) (fun _ _ => rfl) (fun _ _ => rfl) (fun _ _ => rfl) (fun _ _ => rfl) (fun _ _ => rfl) (fun s hs => by rcases sl7 hs with rfl | rfl | rfl | rfl <;> rfl) (fun s hs q => by
      rcases sn7 hs q with rfl | rfl | rfl | rfl | rfl | rfl | rfl | rfl | rfl | rfl | rfl | rfl | rfl
      · exact congrArg Value.ref x1.symm
      · exact congrArg Value.ref x2.symm
      · exact congrArg Value.ref x3.symm
      · exact congrArg Value.ref x6.symm
      · exact congrArg Value.ref x7.symm
      · exact congrArg Value.ref x8.symm
      · exact congrArg Value.ref x9.symm
      · exact congrArg Value.ref x10.symm
      · exact congrArg Value.ref x11.symm
      · rfl
      · rfl
      · rfl
      · rfl) (fun k hk => ⟨rfl, (hY.2.1 k hk).2, fun s hs => by
      rcases sl7 hs with rfl | rfl | rfl | rfl
      · exact u3 k hk
      · exact u10 k hk
      · exact u11 k hk
      · exact u12 k hk⟩) (fun x s hx ht => by rcases hv x hx with rfl | rfl | rfl | rfl | rfl | rfl | rfl | rfl | rfl | rfl | rfl <;> rcases t8 ht with ⟨q, w⟩ | ⟨q, w⟩ | q <;> first | exact absurd q (by decide) | (rw [w]; decide)) (fun k i _ _ q0 q1 => Or.inl (gI_rf q0 q1)) (fun s _ => ⟨Nat.lt_of_le_of_lt (cLn_le _ _) (by decide), fun _ => rfl⟩) (fun z => absurd z (by decide))
  have hQ := YN.mk (E := E1) (m := 0) (b := a) (ad := (fun s => match s with | 3 => q3 | 10 => q10 | 11 => q11 | 12 => q12 | _ => 0)) (ln := cLn 7) (h := fun _ => none) rfl (fun _ _ => rfl)
  refine z_vret (TX7_init_1.at 35 rfl) rfl ⟨rfl, _, hP.hc (fun x h1 h2 h3 => ?_) (Int.le_refl 0), hQ.2.2.2.1, fun x => ⟨fun hx => ?_, fun hx => ?_⟩, fun k hk => ?_, hY.2.2⟩
  · have hx : x = 0 ∨ x = 1 ∨ x = 2 ∨ x = 3 ∨ x = 6 ∨ x = 7 ∨ x = 8 ∨ x = 9 ∨ x = 10 ∨ x = 11 ∨ x = 12 ∨ x = 13 := by omega
    rcases hx with rfl | rfl | rfl | rfl | rfl | rfl | rfl | rfl | rfl | rfl | rfl | rfl
    · exact hQ.2.1
    · exact hQ.2.2.1 1 v1
    · exact hQ.2.2.1 2 v2
    · exact hQ.2.2.1 3 v3
    · exact hQ.2.2.1 6 v6
    · exact hQ.2.2.1 7 v7
    · exact hQ.2.2.1 8 v8
    · exact hQ.2.2.1 9 v9
    · exact hQ.2.2.1 10 v10
    · exact hQ.2.2.1 11 v11
    · exact hQ.2.2.1 12 v12
    · exact hQ.2.2.1 13 v13
  · rcases hQ.1 x hx with z | z
    · omega
    · have := hv x z; omega
  · have hx : x = 0 ∨ x = 1 ∨ x = 2 ∨ x = 3 ∨ x = 6 ∨ x = 7 ∨ x = 8 ∨ x = 9 ∨ x = 10 ∨ x = 11 ∨ x = 12 ∨ x = 13 := by omega
    rcases hx with rfl | rfl | rfl | rfl | rfl | rfl | rfl | rfl | rfl | rfl | rfl | rfl
    · exact hQ.2.1
    · exact hQ.2.2.1 1 v1
    · exact hQ.2.2.1 2 v2
    · exact hQ.2.2.1 3 v3
    · exact hQ.2.2.1 6 v6
    · exact hQ.2.2.1 7 v7
    · exact hQ.2.2.1 8 v8
    · exact hQ.2.2.1 9 v9
    · exact hQ.2.2.1 10 v10
    · exact hQ.2.2.1 11 v11
    · exact hQ.2.2.1 12 v12
    · exact hQ.2.2.1 13 v13
  · rcases eAdd_use hk with ⟨z, ee⟩ | ⟨z, ⟨z2, ee⟩ | ⟨z2, ee⟩⟩
    · rw [ee]; exact Or.inr (hY.2.1 k z).1
    · exact Or.inl ee
    · right
      rw [ee]
      have z3 : cTg 7 (k % 32) < 6 := z2
      obtain ⟨s, es⟩ : ∃ s, k % 32 = s := ⟨_, rfl⟩
      rw [es] at z3 ⊢
      rcases sl7 z3 with rfl | rfl | rfl | rfl
      · exact n3
      · exact n10
      · exact n11
      · exact n12

