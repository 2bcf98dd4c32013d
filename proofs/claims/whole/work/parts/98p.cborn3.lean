/-! ===== the class: the whole object is born ===== -/
def fI : mF := fun k => if (cCls (k / 32) = 1 ∧ k % 32 = 15) ∨ k = 289 ∨ k = 14 ∨ k = 15 then -1 else 0
def gI : mA := fun k i => if cCls (k / 32) = 1 ∧ k % 32 = 6 then (if 0 ≤ i ∧ i < 8 then -1 else 0) else if cCls (k / 32) = 1 ∧ k % 32 = 12 then (if i = 1 then 1 else 0) else if 2 ≤ cTag k then -1 else 0
def ceI (c n s : Nat) : zE := if c = 1 ∧ s = 6 then .inl (0, 8, .inl (fillN (fun _ => 0) (-1) 8)) else if c = 1 ∧ s = 12 then .inl (0, 3, .inl (upd (fun _ => 0) 1 1)) else zC (cTg c s) n
theorem fI_in (k : Nat) : zIn (fI k) := by unfold fI; split <;> decide
theorem gI_in (k : Nat) (i : Int) : zIn (gI k i) := by
  unfold gI
  split
  · split <;> decide
  · split
    · split <;> decide
    · split <;> decide
theorem cell_I {E : cE} {g j : mA} {m s : Nat} (hs : cTg (cCls m) s < 6) (eg : g (32 * m + s) = gI (32 * m + s)) (ej : j (32 * m + s) = fun _ => 0) (hl : cCls m = 1 → E.2.2 (32 * m + s) = cLn 1 s) : cCell E g j (32 * m + s) = ceI (cCls m) (E.2.2 (32 * m + s)) s := by
  have h17 : s < 17 := by
    by_cases z : s < 17
    · exact z
    · rw [cTg_17 (by omega)] at hs; omega
  have ed : (32 * m + s) / 32 = m := by omega
  have em : (32 * m + s) % 32 = s := by omega
  have et : cTag (32 * m + s) = cTg (cCls m) s := by unfold cTag; rw [ed, em]
  unfold cCell ceI
  rw [et, eg, ej]
  by_cases c6 : cCls m = 1 ∧ s = 6
  · rw [if_pos c6, hl c6.1, c6.1, c6.2]
    refine congrArg (fun f => (Sum.inl (0, 8, Sum.inl f) : zE)) (funext fun i => ?_)
    unfold gI fillN
    rw [c6.2] at ed em
    rw [ed, em, if_pos ⟨c6.1, rfl⟩]
    by_cases z : i < 8
    · rw [if_pos (by omega), if_pos z]
    · rw [if_neg (by omega), if_neg z]; rfl
  · rw [if_neg c6]
    by_cases c12 : cCls m = 1 ∧ s = 12
    · rw [if_pos c12, hl c12.1, c12.1, c12.2]
      refine congrArg (fun f => (Sum.inl (0, 3, Sum.inl f) : zE)) (funext fun i => ?_)
      unfold gI upd
      rw [c12.2] at ed em
      rw [ed, em, if_neg (by omega), if_pos ⟨c12.1, rfl⟩]
      by_cases z : i = 1
      · rw [if_pos (by omega), if_pos z]; rfl
      · rw [if_neg (by omega), if_neg z]; rfl
    · rw [if_neg c12]
      unfold zC
      have eg2 : ∀ i : Int, gI (32 * m + s) i = if 2 ≤ cTg (cCls m) s then -1 else 0 := fun i => by
        unfold gI
        rw [ed, em, if_neg c6, if_neg c12, et]
      by_cases q1 : cTg (cCls m) s = 1
      · rw [if_pos q1, if_pos q1]; rfl
      · rw [if_neg q1, if_neg q1]
        by_cases q0 : cTg (cCls m) s = 0
        · rw [if_pos q0, if_pos q0]
          congr 4
          funext i
          rw [eg2, if_neg (by omega)]
          rfl
        · rw [if_neg q0, if_neg q0]
          congr 7
          funext i
          rw [eg2, if_pos (by omega)]
          rfl
theorem HP.some {E : cE} {f : mF} {g j : mA} {h : zH} {k : Nat} (H : HP E f g j h) (hk : cUse E k) : ∃ e, h (E.1 k) = some e := by
  rcases hk.2 with q | q
  · exact ⟨_, H.2.1 k hk.1 q⟩
  · have := H.1 (k / 32) hk.1
    rw [show 32 * (k / 32) + 31 = k by omega] at this
    exact ⟨_, this⟩
theorem HP.mv {E : cE} {f : mF} {g j : mA} {h h' : zH} (H : HP E f g j h) (e : ∀ k, cUse E k → h' (E.1 k) = h (E.1 k)) : HP E f g j h' :=
  ⟨fun m hm => (e _ ⟨by rw [show (32 * m + 31) / 32 = m by omega]; exact hm, Or.inr (by omega)⟩).trans (H.1 m hm), fun k hk ht => (e k ⟨hk, Or.inl ht⟩).trans (H.2.1 k hk ht), H.2.2⟩
/-- a young node comes to the others -/
theorem HP.nd {E : cE} {f f' : mF} {g g' j j' : mA} {h h' : zH} {m b : Nat} {ad ln : Nat → Nat} {ce : Nat → zE} {fv : Nat → Value} (H : HP E f g j h) (hm : E.2.1 m = false) (B : Nd (cCls m) b ad ce fv h')
    (ef : ∀ k, k / 32 ≠ m → f' k = f k) (eg : ∀ k, k / 32 ≠ m → g' k = g k) (ej : ∀ k, k / 32 ≠ m → j' k = j k) (ef2 : ∀ k, k / 32 = m → f' k = fI k) (eg2 : ∀ k, k / 32 = m → g' k = gI k) (ej2 : ∀ k, k / 32 = m → j' k = fun _ => 0)
    (hce : ∀ s, cTg (cCls m) s < 6 → ce s = ceI (cCls m) (ln s) s) (hfv : ∀ s, s < cNf (cCls m) → ¬ cTg (cCls m) s < 6 → fv s = cfv (eAdd E m b ad ln) fI (cCls m) (32 * m + s))
    (hu : ∀ k, cUse E k → h' (E.1 k) = h (E.1 k) ∧ E.1 k ≠ b ∧ ∀ s, cTg (cCls m) s < 6 → E.1 k ≠ ad s)
    (h8 : ∀ x s, E.2.1 x = true → cTg (cCls x) s = 8 → cOb (cCls x) s / 32 ≠ m)
    (hrf : ∀ (k i : Nat), E.2.1 (k / 32) = true → cTag k < 6 → cTag k ≠ 0 → cTag k ≠ 1 → g k i < 0 ∨ (g k i).toNat ≠ m)
    (hln : ∀ s, s < 32 → ln s < 2147483648 ∧ (m < 14 → ln s = cLn (cCls m) s)) (hl1 : cCls m = 1 → ∀ s, ln s = cLn 1 s) : HP (eAdd E m b ad ln) f' g' j' h' := by
  have hlt : ∀ s, cTg (cCls m) s < 6 → s < 17 := fun s hs => by
    by_cases z : s < 17
    · exact z
    · rw [cTg_17 (by omega)] at hs; omega
  refine HP.add H hm ef eg ej ?_ (fun s hs => ?_) B.2.2.1 B.2.2.2 hu h8 hrf hln (fun k => ?_) (fun k i => ?_) (fun k i => ?_)
  · rw [B.1]
    congr 3
    unfold ndF cfs
    apply List.map_congr_left
    intro s hs
    have hs := List.mem_range.mp hs
    have hs2 := Nat.lt_of_lt_of_le hs (cNf_le _)
    by_cases q : cTg (cCls m) s < 6
    · rw [if_pos q, cfv, show (32 * m + s) % 32 = s by omega, if_pos q, eAdd_s (by omega)]
    · rw [if_neg q, hfv s hs q]
      unfold cfv
      rw [ef2 (32 * m + s) (by omega)]
  · have h17 := hlt s hs
    rw [B.2.1 s hs, hce s hs, cell_I hs (eg2 _ (by omega)) (ej2 _ (by omega)) (fun h1 => by rw [eAdd_ls (by omega)]; exact hl1 h1 s), eAdd_ls (by omega)]
  · by_cases e : k / 32 = m
    · rw [ef2 k e]; exact fI_in k
    · rw [ef k e]; exact H.2.2.2.2.2.1 k
  · by_cases e : k / 32 = m
    · rw [eg2 k e]; exact gI_in k i
    · rw [eg k e]; exact H.2.2.2.2.2.2.1 k i
  · by_cases e : k / 32 = m
    · rw [ej2 k e]; show zInL 0; decide
    · rw [ej k e]; exact H.2.2.2.2.2.2.2 k i
theorem t8 {c s : Nat} (h : cTg c s = 8) : (c = 0 ∧ cOb c s = 415) ∨ (c = 3 ∧ cOb c s = 447) ∨ c = 7 := by
  unfold cTg at h
  split at h <;> first | (exact absurd h (by decide)) | exact Or.inl ⟨rfl, rfl⟩ | exact Or.inr (Or.inl ⟨rfl, rfl⟩) | exact Or.inr (Or.inr rfl)
def E0 : cE := (fun _ => 0, fun _ => false, fun k => cLn (cCls (k / 32)) (k % 32))
theorem cLn_le (c s : Nat) : cLn c s ≤ 401 := by unfold cLn; split <;> decide
theorem HP.nil {h : zH} : HP E0 fI gI (fun _ _ => 0) h :=
  ⟨fun _ h => (by cases h), fun _ h => (by cases h), fun _ _ h => (by have := h.1; cases this), fun _ _ => rfl, fun k => Nat.lt_of_le_of_lt (cLn_le _ _) (by decide), fI_in, gI_in, fun _ _ => by show zInL 0; decide⟩
theorem gI_rf {k : Nat} {i : Int} (h0 : cTag k ≠ 0) (h1 : cTag k ≠ 1) : gI k i < 0 := by
  have h2 : 2 ≤ cTag k := by omega
  unfold gI
  by_cases c6 : cCls (k / 32) = 1 ∧ k % 32 = 6
  · exfalso; unfold cTag at h0; rw [c6.1, c6.2] at h0; exact h0 rfl
  · rw [if_neg c6]
    by_cases c12 : cCls (k / 32) = 1 ∧ k % 32 = 12
    · exfalso; unfold cTag at h0; rw [c12.1, c12.2] at h0; exact h0 rfl
    · rw [if_neg c12, if_pos h2]; decide
/-- while the object is made: the nodes so far, and what was there before -/
def YA (h0 : zH) (a : Nat) (E : cE) (h : zH) : Prop := HP E fI gI (fun _ _ => 0) h ∧ (∀ k, cUse E k → h0 (E.1 k) = none ∧ E.1 k ≠ a) ∧ ∀ x e, h0 x = some e → x ≠ a → h x = some e
theorem YA.fresh {h0 h : zH} {a q : Nat} {E : cE} (H : YA h0 a E h) (hq : h q = none) (hqa : q ≠ a) : h0 q = none := by
  cases hz : h0 q with
  | none => rfl
  | some e => have := H.2.2 q e hz hqa; rw [hq] at this; cases this
theorem YA.mv {h0 h h' : zH} {a y : Nat} {E : cE} (H : YA h0 a E h) (e : ∀ x, x ≠ y → h' x = h x) (hy : y = a ∨ h0 y = none) (hyE : ∀ k, cUse E k → E.1 k ≠ y) : YA h0 a E h' :=
  ⟨H.1.mv (fun k hk => e _ (hyE k hk)), H.2.1, fun x ex hx hxa => (e x (fun z => by
    rcases hy with q | q
    · exact hxa (z.trans q)
    · rw [z, q] at hx; cases hx)).trans (H.2.2 x ex hx hxa)⟩
theorem eAdd_use {E : cE} {m b k : Nat} {ad ln : Nat → Nat} (hk : cUse (eAdd E m b ad ln) k) : (cUse E k ∧ (eAdd E m b ad ln).1 k = E.1 k) ∨ (k / 32 = m ∧ ((k % 32 = 31 ∧ (eAdd E m b ad ln).1 k = b) ∨ (cTg (cCls m) (k % 32) < 6 ∧ (eAdd E m b ad ln).1 k = ad (k % 32)))) := by
  by_cases e : k / 32 = m
  · refine Or.inr ⟨e, ?_⟩
    have ek : k = 32 * m + k % 32 := by omega
    by_cases z : k % 32 = 31
    · left
      refine ⟨z, ?_⟩
      rw [z] at ek
      rw [ek]; exact eAdd_a
    · right
      rcases hk.2 with q | q
      · unfold cTag at q
        rw [e] at q
        refine ⟨q, ?_⟩
        have h2 : (eAdd E m b ad ln).1 (32 * m + k % 32) = ad (k % 32) := eAdd_s (by omega)
        rw [← ek] at h2
        exact h2
      · exact absurd q z
  · exact Or.inl ⟨⟨eAdd_i hk.1 e, hk.2⟩, eAdd_o e⟩
theorem YA.born {h0 h h1 h2 : zH} {a m b : Nat} {E : cE} {ad : Nat → Nat} {ce : Nat → zE} {fv : Nat → Value} {ea : zE} (H : YA h0 a E h) (ha : h a = some ea) (hm : E.2.1 m = false) (hb : h b = none) (e2 : ∀ x, x ≠ b → h1 x = h x) (B : Bo (cCls m) b ad ce fv h1 h2)
    (hce : ∀ s, cTg (cCls m) s < 6 → ce s = ceI (cCls m) (cLn (cCls m) s) s) (hfv : ∀ s, s < cNf (cCls m) → ¬ cTg (cCls m) s < 6 → fv s = cfv (eAdd E m b ad (cLn (cCls m))) fI (cCls m) (32 * m + s))
    (h8 : ∀ x s, E.2.1 x = true → cTg (cCls x) s = 8 → cOb (cCls x) s / 32 ≠ m) : YA h0 a (eAdd E m b ad (cLn (cCls m))) h2 := by
  have hab : a ≠ b := (ne_so ha hb).symm
  have hk1 : ∀ k, cUse E k → ∃ e, h1 (E.1 k) = some e ∧ E.1 k ≠ b ∧ h (E.1 k) = some e := fun k hk => by
    obtain ⟨e, he⟩ := H.1.some hk
    have hne : E.1 k ≠ b := (ne_so he hb).symm
    exact ⟨e, (e2 _ hne).trans he, hne, he⟩
  have ha1 : h1 a = some ea := (e2 a hab).trans ha
  refine ⟨HP.nd H.1 hm B.1 (fun _ _ => rfl) (fun _ _ => rfl) (fun _ _ => rfl) (fun _ _ => rfl) (fun _ _ => rfl) (fun _ _ => rfl) hce hfv (fun k hk => ?_) h8 (fun k i _ _ q0 q1 => Or.inl (gI_rf q0 q1)) (fun s _ => ⟨Nat.lt_of_le_of_lt (cLn_le _ _) (by decide), fun _ => rfl⟩) (fun h1 s => by rw [h1]), fun k hk => ?_, fun x e hx hxa => ?_⟩
  · obtain ⟨e, x1, x2, x3⟩ := hk1 k hk
    exact ⟨(B.keep x1 x2).trans x3.symm, x2, fun s hs => (ne_so x1 (B.2.1 s hs)).symm⟩
  · rcases eAdd_use hk with ⟨u, ee⟩ | ⟨u, ⟨u2, ee⟩ | ⟨u2, ee⟩⟩
    · rw [ee]; exact H.2.1 k u
    · rw [ee]; exact ⟨H.fresh hb hab.symm, hab.symm⟩
    · rw [ee]
      have n1 := B.2.1 _ u2
      have n2 : ad (k % 32) ≠ a := ne_so ha1 n1
      have n3 : ad (k % 32) ≠ b := B.1.2.2.2 _ u2
      exact ⟨H.fresh ((e2 _ n3).symm.trans n1) n2, n2⟩
  · have h3 := H.2.2 x e hx hxa
    have hxb : x ≠ b := (ne_so h3 hb).symm
    exact B.keep ((e2 x hxb).trans h3) hxb
/-- an object with a part -/
theorem YA.born2 {h0 h h1 h2 : zH} {a m m2 b b2 : Nat} {E : cE} {ad ad2 : Nat → Nat} {ce ce2 : Nat → zE} {fv fv2 : Nat → Value} {ea : zE} (H : YA h0 a E h) (ha : h a = some ea) (hm : E.2.1 m = false) (hm2 : E.2.1 m2 = false) (hmm : m ≠ m2) (hb : h b = none) (e2 : ∀ x, x ≠ b → h1 x = h x) (hb1 : h1 b ≠ none) (B : Bo2 (cCls m) b ad ce fv (cCls m2) b2 ad2 ce2 fv2 h1 h2)
    (hce : ∀ s, cTg (cCls m) s < 6 → ce s = ceI (cCls m) (cLn (cCls m) s) s) (hfv : ∀ s, s < cNf (cCls m) → ¬ cTg (cCls m) s < 6 → fv s = cfv (eAdd (eAdd E m2 b2 ad2 (cLn (cCls m2))) m b ad (cLn (cCls m))) fI (cCls m) (32 * m + s))
    (hce2 : ∀ s, cTg (cCls m2) s < 6 → ce2 s = ceI (cCls m2) (cLn (cCls m2) s) s) (hfv2 : ∀ s, s < cNf (cCls m2) → ¬ cTg (cCls m2) s < 6 → fv2 s = cfv (eAdd E m2 b2 ad2 (cLn (cCls m2))) fI (cCls m2) (32 * m2 + s))
    (h8 : ∀ x s, E.2.1 x = true → cTg (cCls x) s = 8 → cOb (cCls x) s / 32 ≠ m ∧ cOb (cCls x) s / 32 ≠ m2) (h82 : ∀ s, cTg (cCls m2) s ≠ 8) : YA h0 a (eAdd (eAdd E m2 b2 ad2 (cLn (cCls m2))) m b ad (cLn (cCls m))) h2 := by
  obtain ⟨N1, N2, f1, f2, f3, f4, f5⟩ := B
  have hab : a ≠ b := (ne_so ha hb).symm
  have ha1 : h1 a = some ea := (e2 a hab).trans ha
  have hb2b : b2 ≠ b := fun z => hb1 (by rw [← z]; exact f2)
  have hkp : ∀ x e, h1 x = some e → x ≠ b → h2 x = some e := fun x e hx hxb => by
    rw [f5 x hxb (fun s hs => (ne_so hx (f1 s hs)).symm) (ne_so hx f2).symm (fun s hs => (ne_so hx (f3 s hs)).symm)]; exact hx
  have hk1 : ∀ k, cUse E k → ∃ e, h1 (E.1 k) = some e ∧ E.1 k ≠ b ∧ h (E.1 k) = some e := fun k hk => by
    obtain ⟨e, he⟩ := H.1.some hk
    have hne : E.1 k ≠ b := (ne_so he hb).symm
    exact ⟨e, (e2 _ hne).trans he, hne, he⟩
  have lnk : ∀ (c s : Nat), s < 32 → cLn c s < 2147483648 := fun c s _ => Nat.lt_of_le_of_lt (cLn_le _ _) (by decide)
  have h31 : HP (eAdd E m2 b2 ad2 (cLn (cCls m2))) fI gI (fun _ _ => 0) h2 := HP.nd H.1 hm2 N2 (fun _ _ => rfl) (fun _ _ => rfl) (fun _ _ => rfl) (fun _ _ => rfl) (fun _ _ => rfl) (fun _ _ => rfl) hce2 hfv2 (fun k hk => by
      obtain ⟨e, x1, x2, x3⟩ := hk1 k hk
      exact ⟨(hkp _ e x1 x2).trans x3.symm, (ne_so x1 f2).symm, fun s hs => (ne_so x1 (f3 s hs)).symm⟩) (fun x s hx ht => (h8 x s hx ht).2) (fun k i _ _ q0 q1 => Or.inl (gI_rf q0 q1)) (fun s hs => ⟨lnk _ s hs, fun _ => rfl⟩) (fun h1 s => by rw [h1])
  refine ⟨HP.nd h31 (show (decide (m = m2) || E.2.1 m) = false by rw [decide_eq_false hmm, hm]; rfl) N1 (fun _ _ => rfl) (fun _ _ => rfl) (fun _ _ => rfl) (fun _ _ => rfl) (fun _ _ => rfl) (fun _ _ => rfl) hce hfv (fun k hk => ?_) (fun x s hx ht => ?_) (fun k i _ _ q0 q1 => Or.inl (gI_rf q0 q1)) (fun s hs => ⟨lnk _ s hs, fun _ => rfl⟩) (fun h1 s => by rw [h1]), fun k hk => ?_, fun x e hx hxa => ?_⟩
  · refine ⟨rfl, ?_⟩
    rcases eAdd_use hk with ⟨u, ee⟩ | ⟨u, ⟨u2, ee⟩ | ⟨u2, ee⟩⟩
    · rw [ee]
      obtain ⟨e, x1, x2, x3⟩ := hk1 k u
      exact ⟨x2, fun s hs => (ne_so x1 (f1 s hs)).symm⟩
    · rw [ee]
      exact ⟨hb2b, fun s hs z => by have h9 := N1.2.1 s hs; rw [← z, N2.1, hce s hs] at h9; unfold ceI zC at h9; split at h9 <;> first | cases h9 | (split at h9 <;> first | cases h9 | (split at h9 <;> first | cases h9 | (split at h9 <;> cases h9)))⟩
    · rw [ee]
      exact ⟨fun z => by have h9 := f3 _ u2; rw [z] at h9; exact hb1 h9, fun s hs z => f4 s _ hs u2 z.symm⟩
  · by_cases e : x = m2
    · rw [e] at ht; exact absurd ht (h82 s)
    · exact (h8 x s (eAdd_i hx e) ht).1
  · rcases eAdd_use hk with ⟨u, ee⟩ | ⟨u, ⟨u2, ee⟩ | ⟨u2, ee⟩⟩
    · rw [ee]
      rcases eAdd_use u with ⟨v, e5⟩ | ⟨v, ⟨v2, e5⟩ | ⟨v2, e5⟩⟩
      · rw [e5]; exact H.2.1 k v
      · rw [e5]
        have n2 : b2 ≠ a := ne_so ha1 f2
        exact ⟨H.fresh ((e2 _ hb2b).symm.trans f2) n2, n2⟩
      · rw [e5]
        have n1 := f3 _ v2
        have n2 : ad2 (k % 32) ≠ a := ne_so ha1 n1
        have n3 : ad2 (k % 32) ≠ b := fun z => hb1 (by rw [← z]; exact n1)
        exact ⟨H.fresh ((e2 _ n3).symm.trans n1) n2, n2⟩
    · rw [ee]; exact ⟨H.fresh hb hab.symm, hab.symm⟩
    · rw [ee]
      have n1 := f1 _ u2
      have n2 : ad (k % 32) ≠ a := ne_so ha1 n1
      have n3 : ad (k % 32) ≠ b := N1.2.2.2 _ u2
      exact ⟨H.fresh ((e2 _ n3).symm.trans n1) n2, n2⟩
  · have h3 := H.2.2 x e hx hxa
    have hxb : x ≠ b := (ne_so h3 hb).symm
    exact hkp x e ((e2 x hxb).trans h3) hxb
