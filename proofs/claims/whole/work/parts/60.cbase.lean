/-! ===== the class: its nodes, slot by slot, as the reference's ===== -/
def cTg (c s : Nat) : Nat := match c, s with
  | 0, 0 => 0
  | 0, 1 => 0
  | 0, 2 => 9
  | 0, 3 => 0
  | 0, 4 => 0
  | 0, 5 => 0
  | 0, 6 => 8
  | 1, 0 => 9
  | 1, 1 => 0
  | 1, 2 => 0
  | 1, 3 => 0
  | 1, 4 => 0
  | 1, 5 => 9
  | 1, 6 => 0
  | 1, 7 => 9
  | 1, 8 => 0
  | 1, 9 => 9
  | 1, 10 => 0
  | 1, 11 => 0
  | 1, 12 => 0
  | 1, 13 => 9
  | 1, 14 => 4
  | 1, 15 => 9
  | 2, 0 => 9
  | 2, 1 => 0
  | 2, 2 => 0
  | 2, 3 => 0
  | 3, 0 => 8
  | 3, 1 => 9
  | 3, 2 => 0
  | 3, 3 => 0
  | 3, 4 => 0
  | 3, 5 => 9
  | 3, 6 => 9
  | 3, 7 => 9
  | 3, 8 => 9
  | 4, 0 => 9
  | 4, 1 => 9
  | 4, 2 => 9
  | 4, 3 => 0
  | 4, 4 => 0
  | 4, 5 => 0
  | 4, 6 => 0
  | 4, 7 => 0
  | 4, 8 => 0
  | 5, 0 => 0
  | 6, 0 => 9
  | 6, 1 => 0
  | 7, 0 => 8
  | 7, 1 => 8
  | 7, 2 => 8
  | 7, 3 => 5
  | 7, 4 => 8
  | 7, 5 => 8
  | 7, 6 => 8
  | 7, 7 => 8
  | 7, 8 => 8
  | 7, 9 => 8
  | 7, 10 => 0
  | 7, 11 => 0
  | 7, 12 => 1
  | 7, 13 => 9
  | 7, 14 => 9
  | 7, 15 => 9
  | 7, 16 => 9
  | _, _ => 10
def cLn (c s : Nat) : Nat := match c, s with
  | 0, 0 => 10
  | 0, 1 => 8
  | 0, 3 => 8
  | 0, 4 => 31
  | 0, 5 => 8
  | 1, 1 => 10
  | 1, 2 => 10
  | 1, 3 => 10
  | 1, 4 => 10
  | 1, 6 => 8
  | 1, 8 => 3
  | 1, 10 => 6
  | 1, 11 => 6
  | 1, 12 => 3
  | 1, 14 => 6
  | 2, 1 => 16
  | 2, 2 => 16
  | 2, 3 => 16
  | 3, 2 => 401
  | 3, 3 => 401
  | 3, 4 => 401
  | 4, 3 => 12
  | 4, 4 => 12
  | 4, 5 => 12
  | 4, 6 => 12
  | 4, 7 => 12
  | 4, 8 => 400
  | 5, 0 => 64
  | 6, 1 => 400
  | 7, 3 => 2
  | 7, 10 => 31
  | 7, 11 => 6
  | 7, 12 => 20
  | _, _ => 0
def cOb (c s : Nat) : Nat := match c, s with
  | 0, 6 => 415
  | 3, 0 => 447
  | 7, 0 => 63
  | 7, 1 => 95
  | 7, 2 => 127
  | 7, 4 => 223
  | 7, 5 => 255
  | 7, 6 => 287
  | 7, 7 => 319
  | 7, 8 => 351
  | 7, 9 => 383
  | _, _ => 0
def cNf (c : Nat) : Nat := match c with
  | 0 => 7
  | 1 => 16
  | 2 => 4
  | 3 => 9
  | 4 => 9
  | 5 => 1
  | 6 => 2
  | 7 => 17
  | _ => 0
def cCls (m : Nat) : Nat := match m with
  | 0 => 7
  | 1 => 1
  | 2 => 1
  | 3 => 1
  | 4 => 1
  | 5 => 1
  | 6 => 2
  | 7 => 2
  | 8 => 6
  | 9 => 3
  | 10 => 5
  | 11 => 0
  | 12 => 5
  | _ => 4
abbrev cTag (k : Nat) : Nat := cTg (cCls (k / 32)) (k % 32)
theorem cTg_31 (c : Nat) : cTg c 31 = 10 := by unfold cTg; split <;> simp_all
/-- addresses by key, which nodes live, lengths by key -/
abbrev cE : Type := (Nat → Nat) × (Nat → Bool) × (Nat → Nat)
def cfv (E : cE) (f : mF) (c k : Nat) : Value := if cTg c (k % 32) < 6 then .ref (E.1 k) else if cTg c (k % 32) = 8 then .ref (E.1 (cOb c (k % 32))) else vI (f k)
def cfs (E : cE) (f : mF) (m : Nat) : List Value := (List.range (cNf (cCls m))).map (fun s => cfv E f (cCls m) (32 * m + s))
/-- a reference that is kept as a number: -1 is none, else the node -/
def crf (E : cE) (x : Int) : Option Nat := if x < 0 then none else some (E.1 (32 * x.toNat + 31))
def cCell (E : cE) (g j : mA) (k : Nat) : zE := if cTag k = 1 then .inl (1, E.2.2 k, .inr (.inl (fun i : Nat => Int64.ofInt (j k i)))) else if cTag k = 0 then .inl (0, E.2.2 k, .inl (fun i : Nat => Int32.ofInt (g k i))) else .inl (cTag k, E.2.2 k, .inr (.inr (.inr (.inr (fun i : Nat => crf E (g k i))))))
def cUse (E : cE) (k : Nat) : Prop := E.2.1 (k / 32) = true ∧ (cTag k < 6 ∨ k % 32 = 31)
def HC (E : cE) (f : mF) (g j : mA) (h : zH) : Prop :=
  (∀ m, E.2.1 m = true → h (E.1 (32 * m + 31)) = some (.inr (cCls m, cfs E f m))) ∧ (∀ k, E.2.1 (k / 32) = true → cTag k < 6 → h (E.1 k) = some (cCell E g j k)) ∧ (∀ k k', cUse E k → cUse E k' → E.1 k = E.1 k' → k = k') ∧ (∀ m, m < 14 → m ≠ 4 → m ≠ 5 → E.2.1 m = true) ∧ (∀ k, k < 448 → E.2.2 k = cLn (cCls (k / 32)) (k % 32)) ∧ (∀ k, E.2.2 k < 2147483648) ∧ ((∀ k, zIn (f k)) ∧ 0 ≤ f 354) ∧ (∀ k i, zIn (g k i)) ∧ (∀ k i, zInL (j k i))
def cAg (E : cE) (h0 h : zH) : Prop := ∀ a, (∀ k, cUse E k → a ≠ E.1 k) → h a = h0 a
theorem cAg.refl {E : cE} {h : zH} : cAg E h h := fun _ _ => rfl
theorem cAg.trans {E : cE} {h0 h1 h2 : zH} (a : cAg E h0 h1) (b : cAg E h1 h2) : cAg E h0 h2 := fun q h1 => (b q h1).trans (a q h1)
def CP (E : cE) (h0 : zH) (P : Option Value → mF → mA → mA → Prop) : Option Value → zH → Prop := fun v h => ∃ (f : mF) (g j : mA), HC E f g j h ∧ cAg E h0 h ∧ P v f g j
def CM (l : Launch) (E : cE) (M : zM) (n : Nat) (vs : List Value) (f : mF) (g j : mA) (P : Option Value → mF → mA → mA → Prop) : Prop := ∀ d, n ≤ d → ∀ h, HC E f g j h → MZ l M d 0 0 vs h (CP E h P)
theorem cfs_get {E : cE} {f : mF} {m s : Nat} (hs : s < cNf (cCls m)) : (cfs E f m)[s]? = some (cfv E f (cCls m) (32 * m + s)) := by simp [cfs, hs]
theorem cNf_le (c : Nat) : cNf c ≤ 17 := by unfold cNf; split <;> decide
theorem cfs_set {E : cE} {f : mF} {m s : Nat} {x : Int} (hs : s < cNf (cCls m)) (ht : cTg (cCls m) s = 9) : (cfs E f m).set s (vI x) = cfs E (va_up f (32 * m + s) x) m := by
  have hs32 := Nat.lt_of_lt_of_le hs (cNf_le _)
  have e32 : (32 * m + s) % 32 = s := by omega
  apply List.ext_getElem?
  intro i
  by_cases hi : i = s
  · subst hi
    rw [List.getElem?_set_self (by simp [cfs, hs]), cfs_get hs]
    simp [cfv, e32, ht, va_up]
  · rw [List.getElem?_set_ne (fun e => hi e.symm)]
    by_cases h50 : i < cNf (cCls m)
    · rw [cfs_get h50, cfs_get h50]
      simp [cfv, va_up, hi]
    · simp [cfs, h50]
theorem cfs_far {E : cE} {f : mF} {m m' s : Nat} {x : Int} (hs : s < 32) (hm : m' ≠ m) : cfs E (va_up f (32 * m + s) x) m' = cfs E f m' := by
  unfold cfs
  apply List.map_congr_left
  intro i hi
  have hi2 := Nat.lt_of_lt_of_le (List.mem_range.mp hi) (cNf_le _)
  have : 32 * m' + i ≠ 32 * m + s := by omega
  simp [cfv, va_up, this]
theorem HC.putF {E : cE} {f : mF} {g j : mA} {h h0 : zH} {m s : Nat} {x : Int} (H : HC E f g j h) (hA : cAg E h0 h) (hl : E.2.1 m = true) (hs : s < cNf (cCls m)) (ht : cTg (cCls m) s = 9) (hx : zIn x) (hx2 : 32 * m + s = 354 → 0 ≤ x) : HC E (va_up f (32 * m + s) x) g j (zup h (E.1 (32 * m + 31)) (.inr (cCls m, (cfs E f m).set s (vI x)))) ∧ cAg E h0 (zup h (E.1 (32 * m + 31)) (.inr (cCls m, (cfs E f m).set s (vI x)))) := by
  obtain ⟨h1, h2, h3, h4, h5, h6, h7, h8, h9⟩ := H
  have hs32 := Nat.lt_of_lt_of_le hs (cNf_le _)
  have um : ∀ m', E.2.1 m' = true → cUse E (32 * m' + 31) := fun m' z => ⟨by rw [show (32 * m' + 31) / 32 = m' by omega]; exact z, Or.inr (by omega)⟩
  refine ⟨⟨fun m' hm' => ?_, fun k hk ht' => ?_, h3, h4, h5, h6, ⟨fun q => ?_, ?_⟩, h8, h9⟩, fun a ha => ?_⟩
  · by_cases e : m' = m
    · subst e; rw [cfs_set hs ht]; exact if_pos rfl
    · rw [zup, if_neg (fun z => e (by have := h3 _ _ (um m' hm') (um m hl) z; omega)), cfs_far (by omega) e]; exact h1 m' hm'
  · rw [zup, if_neg (fun z => ?_)]
    · exact h2 k hk ht'
    · have e := h3 _ _ ⟨hk, Or.inl ht'⟩ (um m hl) z
      rw [e] at ht'
      have e2 : (32 * m + 31) % 32 = 31 := by omega
      unfold cTag at ht'
      rw [e2, cTg_31] at ht'
      omega
  · unfold va_up
    split
    · exact hx
    · exact h7.1 q
  · unfold va_up
    split
    · rename_i hq; exact hx2 hq.symm
    · exact h7.2
  · rw [zup, if_neg (ha _ (um m hl))]; exact hA a ha
theorem HC.putC {E : cE} {f : mF} {g j g' j' : mA} {h h0 : zH} {k : Nat} (H : HC E f g j h) (hA : cAg E h0 h) (hl : E.2.1 (k / 32) = true) (ht : cTag k < 6) (e1 : ∀ q, q ≠ k → g' q = g q) (e2 : ∀ q, q ≠ k → j' q = j q) (r1 : ∀ i, zIn (g' k i)) (r2 : ∀ i, zInL (j' k i)) : HC E f g' j' (zup h (E.1 k) (cCell E g' j' k)) ∧ cAg E h0 (zup h (E.1 k) (cCell E g' j' k)) := by
  obtain ⟨h1, h2, h3, h4, h5, h6, h7, h8, h9⟩ := H
  have uk : cUse E k := ⟨hl, Or.inl ht⟩
  refine ⟨⟨fun m hm => ?_, fun q hq hq2 => ?_, h3, h4, h5, h6, h7, fun q i => ?_, fun q i => ?_⟩, fun a ha => ?_⟩
  · rw [zup, if_neg (fun z => ?_)]
    · exact h1 m hm
    · have e := h3 _ _ ⟨by rw [show (32 * m + 31) / 32 = m by omega]; exact hm, Or.inr (by omega)⟩ uk z
      rw [← e] at ht
      have e2 : (32 * m + 31) % 32 = 31 := by omega
      unfold cTag at ht
      rw [e2, cTg_31] at ht
      omega
  · by_cases e : q = k
    · subst e; exact if_pos rfl
    · rw [zup, if_neg (fun z => e (h3 _ _ ⟨hq, Or.inl hq2⟩ uk z)), h2 q hq hq2]
      simp only [cCell, e1 q e, e2 q e]
  · by_cases e : q = k
    · subst e; exact r1 i
    · rw [e1 q e]; exact h8 q i
  · by_cases e : q = k
    · subst e; exact r2 i
    · rw [e2 q e]; exact h9 q i
  · rw [zup, if_neg (ha k uk)]; exact hA a ha
section CR
variable {l : Launch} {M M' : zM} {d : Nat} {Pz : Option Value → zH → Prop} {pc pc' : Nat} {L : List (Option Value)} {S : List Value} {h h0 : zH} {E : cE} {f : mF} {g j : mA}
theorem CM.intro {n : Nat} {vs : List Value} {P : Option Value → mF → mA → mA → Prop} (L : List (Option Value)) (hy : plainName M.1.cls = true) (hn : (lg_sl vs).length ≤ M.2.2.1) (hL : lv_args 0 vs = zp 0 L) (k : ∀ d, n ≤ d → ∀ h0 h, HC E f g j h → cAg E h0 h → Z l M d 0 0 (CP E h0 P) 0 L [] h 0 0) : CM l E M n vs f g j P :=
  fun d hd h hH => MZ.intro L hy hn hL (k d hd h h hH cAg.refl)
/-- fields: key k = 32 m + s -/
theorem zc_getI {idx ci m s k : Nat} (hm : E.2.1 m = true) (hd : zAt M 3 pc pc' (.getfield idx)) (hf : zFl M.1.cls idx ci s) (hH : HC E f g j h) (hc : cCls m = ci) (hk : 32 * m + s = k) (hs : s < cNf ci) (ht : cTg ci s = 9) (K : zIn (f k) → Z l M d 0 0 Pz pc' L (vI (f k) :: S) h 0 0) : Z l M d 0 0 Pz pc L (.ref (E.1 (32 * m + 31)) :: S) h 0 0 := by
  subst hc; subst hk
  have hs32 := Nat.lt_of_lt_of_le hs (cNf_le _)
  have e : (32 * m + s) % 32 = s := by omega
  exact z_getf hd hf (hH.1 m hm) (cfs_get hs) (by rw [cfv, e, ht, if_neg (by decide), if_neg (by decide)]; exact K (hH.2.2.2.2.2.2.1.1 _))
theorem zc_getA {idx ci m s k : Nat} (hm : E.2.1 m = true) (hd : zAt M 3 pc pc' (.getfield idx)) (hf : zFl M.1.cls idx ci s) (hH : HC E f g j h) (hc : cCls m = ci) (hk : 32 * m + s = k) (hs : s < cNf ci) (ht : cTg ci s < 6) (K : Z l M d 0 0 Pz pc' L (.ref (E.1 k) :: S) h 0 0) : Z l M d 0 0 Pz pc L (.ref (E.1 (32 * m + 31)) :: S) h 0 0 := by
  subst hc; subst hk
  have hs32 := Nat.lt_of_lt_of_le hs (cNf_le _)
  have e : (32 * m + s) % 32 = s := by omega
  exact z_getf hd hf (hH.1 m hm) (cfs_get hs) (by rw [cfv, e, if_pos ht]; exact K)
theorem zc_getO {idx ci m s k : Nat} (hm : E.2.1 m = true) (hd : zAt M 3 pc pc' (.getfield idx)) (hf : zFl M.1.cls idx ci s) (hH : HC E f g j h) (hc : cCls m = ci) (hk : cOb ci s = k) (hs : s < cNf ci) (ht : cTg ci s = 8) (K : Z l M d 0 0 Pz pc' L (.ref (E.1 k) :: S) h 0 0) : Z l M d 0 0 Pz pc L (.ref (E.1 (32 * m + 31)) :: S) h 0 0 := by
  subst hc; subst hk
  have hs32 := Nat.lt_of_lt_of_le hs (cNf_le _)
  have e : (32 * m + s) % 32 = s := by omega
  exact z_getf hd hf (hH.1 m hm) (cfs_get hs) (by rw [cfv, e, ht, if_neg (by decide), if_pos rfl]; exact K)
theorem zc_putI {idx ci m s k : Nat} {x : Int} (hm : E.2.1 m = true) (hd : zAt M 3 pc pc' (.putfield idx)) (hf : zFp M.1.cls idx ci s false .int) (hH : HC E f g j h) (hA : cAg E h0 h) (hc : cCls m = ci) (hk : 32 * m + s = k) (hs : s < cNf ci) (ht : cTg ci s = 9) (hx : zIn x) (K : ∀ (h : zH) (f1 : mF), (∀ q, q ≠ k → f1 q = f q) → f1 k = x → HC E f1 g j h → cAg E h0 h → Z l M d 0 0 Pz pc' L S h 0 0) (h354 : k = 354 → 0 ≤ x := by first | (intro h9; exfalso; revert h9; decide) | (intro _; omega)) : Z l M d 0 0 Pz pc L (vI x :: .ref (E.1 (32 * m + 31)) :: S) h 0 0 := by
  subst hc; subst hk
  exact z_putf hd hf (hH.1 m hm) (by simp [cfs, hs]) rfl rfl (K _ _ (fun _ e => va_up_ne _ _ e) (va_up_self _ _ _) (hH.putF hA hm hs ht hx h354).1 (hH.putF hA hm hs ht hx h354).2)
theorem zc_putZ {idx ci m s k : Nat} {x : Int} (hm : E.2.1 m = true) (hd : zAt M 3 pc pc' (.putfield idx)) (hf : zFp M.1.cls idx ci s false .boolean) (hH : HC E f g j h) (hA : cAg E h0 h) (hc : cCls m = ci) (hk : 32 * m + s = k) (hs : s < cNf ci) (ht : cTg ci s = 9) (hx : x = 0 ∨ x = 1) (K : ∀ (h : zH) (f1 : mF), (∀ q, q ≠ k → f1 q = f q) → f1 k = x → HC E f1 g j h → cAg E h0 h → Z l M d 0 0 Pz pc' L S h 0 0) : Z l M d 0 0 Pz pc L (vI x :: .ref (E.1 (32 * m + 31)) :: S) h 0 0 := by
  subst hc; subst hk
  have hx' : zIn x := by rcases hx with rfl | rfl <;> decide
  exact z_putf hd hf (hH.1 m hm) (by simp [cfs, hs]) (by rcases hx with rfl | rfl <;> rfl) (by rcases hx with rfl | rfl <;> rfl) (K _ _ (fun _ e => va_up_ne _ _ e) (va_up_self _ _ _) (hH.putF hA hm hs ht hx' (fun _ => by omega)).1 (hH.putF hA hm hs ht hx' (fun _ => by omega)).2)
theorem HC.arrI {k : Nat} (hH : HC E f g j h) (hm : E.2.1 (k / 32) = true) (ht : cTag k = 0) : h (E.1 k) = some (.inl (0, E.2.2 k, .inl (fun i : Nat => Int32.ofInt (g k i)))) := by
  rw [hH.2.1 k hm (by rw [ht]; decide), cCell, if_neg (by rw [ht]; decide), if_pos ht]
theorem HC.arrL {k : Nat} (hH : HC E f g j h) (hm : E.2.1 (k / 32) = true) (ht : cTag k = 1) : h (E.1 k) = some (.inl (1, E.2.2 k, .inr (.inl (fun i : Nat => Int64.ofInt (j k i))))) := by
  rw [hH.2.1 k hm (by rw [ht]; decide), cCell, if_pos ht]
theorem zc_iald {k : Nat} {i : Int} {G : Int → Int} (hm : E.2.1 (k / 32) = true) (e : g k = G) (hd : zAt M 1 pc pc' .iaload) (hH : HC E f g j h) (ht : cTag k = 0) (hi0 : 0 ≤ i) (hi1 : i < E.2.2 k) (K : zIn (G i) → Z l M d 0 0 Pz pc' L (vI (G i) :: S) h 0 0) : Z l M d 0 0 Pz pc L (vI i :: .ref (E.1 k) :: S) h 0 0 := by
  subst e
  exact z_iald hd (f := fun n : Nat => Int32.ofInt (g k n)) (n := E.2.2 k) (hH.arrI hm ht) hi0 hi1 (hH.2.2.2.2.2.1 k) (by rw [show ((i.toNat : Nat) : Int) = i by omega]; exact K (hH.2.2.2.2.2.2.2.1 k i))
theorem zc_lald {k : Nat} {i : Int} {G : Int → Int} (hm : E.2.1 (k / 32) = true) (e : j k = G) (hd : zAt M 1 pc pc' .laload) (hH : HC E f g j h) (ht : cTag k = 1) (hi0 : 0 ≤ i) (hi1 : i < E.2.2 k) (K : zInL (G i) → Z l M d 0 0 Pz pc' L (vL (G i) :: S) h 0 0) : Z l M d 0 0 Pz pc L (vI i :: .ref (E.1 k) :: S) h 0 0 := by
  subst e
  exact z_lald hd (f := fun n : Nat => Int64.ofInt (j k n)) (n := E.2.2 k) (hH.arrL hm ht) hi0 hi1 (hH.2.2.2.2.2.1 k) (by rw [show ((i.toNat : Nat) : Int) = i by omega]; exact K (hH.2.2.2.2.2.2.2.2 k i))
theorem zc_iast {k : Nat} {i x : Int} (hm : E.2.1 (k / 32) = true) (hd : zAt M 1 pc pc' .iastore) (hH : HC E f g j h) (hA : cAg E h0 h) (ht : cTag k = 0) (hi0 : 0 ≤ i) (hi1 : i < E.2.2 k) (hx : zIn x) (K : ∀ (h : zH) (g1 : mA), (∀ q, q ≠ k → g1 q = g q) → g1 k = iu (g k) i x → HC E f g1 j h → cAg E h0 h → Z l M d 0 0 Pz pc' L S h 0 0) : Z l M d 0 0 Pz pc L (vI x :: vI i :: .ref (E.1 k) :: S) h 0 0 := by
  have q := hH.putC (g' := va_up g k (iu (g k) i x)) (j' := j) (k := k) hA hm (by rw [ht]; decide) (fun q e => va_up_ne _ _ e) (fun _ _ => rfl) (by rw [va_up_self]; exact iu_in (hH.2.2.2.2.2.2.2.1 k) hx) (hH.2.2.2.2.2.2.2.2 k)
  refine z_iast hd (f := fun n : Nat => Int32.ofInt (g k n)) (n := E.2.2 k) (hH.arrI hm ht) hi0 hi1 (hH.2.2.2.2.2.1 k) ?_
  rw [upd_iu hi0]
  rw [cCell, if_neg (by rw [ht]; decide), if_pos ht, va_up_self] at q
  exact K _ _ (fun _ e => va_up_ne _ _ e) (va_up_self _ _ _) q.1 q.2
theorem zc_last {k : Nat} {i x : Int} (hm : E.2.1 (k / 32) = true) (hd : zAt M 1 pc pc' .lastore) (hH : HC E f g j h) (hA : cAg E h0 h) (ht : cTag k = 1) (hi0 : 0 ≤ i) (hi1 : i < E.2.2 k) (hx : zInL x) (K : ∀ (h : zH) (j1 : mA), (∀ q, q ≠ k → j1 q = j q) → j1 k = iu (j k) i x → HC E f g j1 h → cAg E h0 h → Z l M d 0 0 Pz pc' L S h 0 0) : Z l M d 0 0 Pz pc L (vL x :: vI i :: .ref (E.1 k) :: S) h 0 0 := by
  have q := hH.putC (g' := g) (j' := va_up j k (iu (j k) i x)) (k := k) hA hm (by rw [ht]; decide) (fun _ _ => rfl) (fun q e => va_up_ne _ _ e) (hH.2.2.2.2.2.2.2.1 k) (by rw [va_up_self]; exact iu_inL (hH.2.2.2.2.2.2.2.2 k) hx)
  refine z_last hd (f := fun n : Nat => Int64.ofInt (j k n)) (n := E.2.2 k) (hH.arrL hm ht) hi0 hi1 (hH.2.2.2.2.2.1 k) ?_
  rw [updL_iu hi0]
  rw [cCell, if_pos ht, va_up_self] at q
  exact K _ _ (fun _ e => va_up_ne _ _ e) (va_up_self _ _ _) q.1 q.2
theorem zc_alen {k : Nat} (hm : E.2.1 (k / 32) = true) (hd : zAt M 1 pc pc' .arraylength) (hH : HC E f g j h) (ht : cTag k < 6) (K : Z l M d 0 0 Pz pc' L (vI (E.2.2 k : Int) :: S) h 0 0) : Z l M d 0 0 Pz pc L (.ref (E.1 k) :: S) h 0 0 := by
  have q := hH.2.1 k hm ht
  unfold cCell at q
  split at q
  · exact z_alen hd q (by decide) K
  · split at q
    · exact z_alen hd q (by decide) K
    · exact z_alen hd q ht K
theorem zc_iret {x : Int} {Q : Int → mF → mA → mA → Prop} (hd : zAt M 1 pc pc' .ireturn) (hM : M.2.2.2 = some .int) (hH : HC E f g j h) (hA : cAg E h0 h) (hx : zIn x) (q : Q x f g j) : Z l M d 0 0 (CP E h0 (PI Q)) pc L [vI x] h 0 0 :=
  z_iret hd hM ⟨f, g, j, hH, hA, x, rfl, hx, q⟩
theorem zc_zret {x : Int} {Q : Int → mF → mA → mA → Prop} (hd : zAt M 1 pc pc' .ireturn) (hM : M.2.2.2 = some .boolean) (hH : HC E f g j h) (hA : cAg E h0 h) (hx : x = 0 ∨ x = 1) (q : Q x f g j) : Z l M d 0 0 (CP E h0 (PI Q)) pc L [vI x] h 0 0 :=
  z_zret hd hM hx ⟨f, g, j, hH, hA, x, rfl, by omega, q⟩
theorem zc_lret {x : Int} {Q : Int → mF → mA → mA → Prop} (hd : zAt M 1 pc pc' .lreturn) (hM : M.2.2.2 = some .long) (hH : HC E f g j h) (hA : cAg E h0 h) (hx : zInL x) (q : Q x f g j) : Z l M d 0 0 (CP E h0 (PL Q)) pc L [vL x] h 0 0 :=
  z_lret hd hM ⟨f, g, j, hH, hA, x, rfl, hx, q⟩
theorem zc_vret {Q : mF → mA → mA → Prop} (hd : zAt M 1 pc pc' .return_) (hM : M.2.2.2 = none) (hH : HC E f g j h) (hA : cAg E h0 h) (q : Q f g j) : Z l M d 0 0 (CP E h0 (PV Q)) pc L [] h 0 0 :=
  z_vret hd hM ⟨f, g, j, hH, hA, rfl, q⟩
theorem zc_callI {idx n n' m : Nat} {As : List Value} {T : u_T} {N : Nat} {Q : Int → mF → mA → mA → Prop} (hM : CM l E M' n' (.ref (E.1 (32 * m + 31)) :: As) f g j (PI Q)) (hm : E.2.1 m = true) (hd : zAt M 3 pc pc' (.invokevirtual idx)) (hc : zCV M.1.cls idx M' n) (hn : As.length = n) (hcl : vwCl[cCls m]? = some (M'.1.cls, T, N)) (hH : HC E f g j h) (hA : cAg E h0 h) (hdd : n' + 1 ≤ d) (hW : (S.map fun v => v.category).sum ≤ 8)
    (K : ∀ (r : Int) (f : mF) (g j : mA) (h : zH), zIn r → Q r f g j → HC E f g j h → cAg E h0 h → Z l M d 0 0 Pz pc' L (vI r :: S) h 0 0) : Z l M d 0 0 Pz pc L (As.reverse ++ .ref (E.1 (32 * m + 31)) :: S) h 0 0 := by
  obtain ⟨hd, rfl⟩ := hd
  refine z_invV (ci := cCls m) (T := T) (N := N) hd hc hn (hH.1 m hm) hcl (d' := d - 1) (by omega) (Nat.le_refl 0) (Nat.le_refl 0) hW (hM (d - 1) (by omega) h hH) (fun v h' hp => ?_)
  obtain ⟨f', g', j', hH', hA', r, rfl, hr, hq⟩ := hp
  exact K r f' g' j' h' hr hq hH' (hA.trans hA')
theorem zc_callL {idx n n' m : Nat} {As : List Value} {T : u_T} {N : Nat} {Q : Int → mF → mA → mA → Prop} (hM : CM l E M' n' (.ref (E.1 (32 * m + 31)) :: As) f g j (PL Q)) (hm : E.2.1 m = true) (hd : zAt M 3 pc pc' (.invokevirtual idx)) (hc : zCV M.1.cls idx M' n) (hn : As.length = n) (hcl : vwCl[cCls m]? = some (M'.1.cls, T, N)) (hH : HC E f g j h) (hA : cAg E h0 h) (hdd : n' + 1 ≤ d) (hW : (S.map fun v => v.category).sum ≤ 8)
    (K : ∀ (r : Int) (f : mF) (g j : mA) (h : zH), zInL r → Q r f g j → HC E f g j h → cAg E h0 h → Z l M d 0 0 Pz pc' L (vL r :: S) h 0 0) : Z l M d 0 0 Pz pc L (As.reverse ++ .ref (E.1 (32 * m + 31)) :: S) h 0 0 := by
  obtain ⟨hd, rfl⟩ := hd
  refine z_invV (ci := cCls m) (T := T) (N := N) hd hc hn (hH.1 m hm) hcl (d' := d - 1) (by omega) (Nat.le_refl 0) (Nat.le_refl 0) hW (hM (d - 1) (by omega) h hH) (fun v h' hp => ?_)
  obtain ⟨f', g', j', hH', hA', r, rfl, hr, hq⟩ := hp
  exact K r f' g' j' h' hr hq hH' (hA.trans hA')
theorem zc_callV {idx n n' m : Nat} {As : List Value} {T : u_T} {N : Nat} {Q : mF → mA → mA → Prop} (hM : CM l E M' n' (.ref (E.1 (32 * m + 31)) :: As) f g j (PV Q)) (hm : E.2.1 m = true) (hd : zAt M 3 pc pc' (.invokevirtual idx)) (hc : zCV M.1.cls idx M' n) (hn : As.length = n) (hcl : vwCl[cCls m]? = some (M'.1.cls, T, N)) (hH : HC E f g j h) (hA : cAg E h0 h) (hdd : n' + 1 ≤ d) (hW : (S.map fun v => v.category).sum ≤ 8)
    (K : ∀ (f : mF) (g j : mA) (h : zH), Q f g j → HC E f g j h → cAg E h0 h → Z l M d 0 0 Pz pc' L (S) h 0 0) : Z l M d 0 0 Pz pc L (As.reverse ++ .ref (E.1 (32 * m + 31)) :: S) h 0 0 := by
  obtain ⟨hd, rfl⟩ := hd
  refine z_invV (ci := cCls m) (T := T) (N := N) hd hc hn (hH.1 m hm) hcl (d' := d - 1) (by omega) (Nat.le_refl 0) (Nat.le_refl 0) hW (hM (d - 1) (by omega) h hH) (fun v h' hp => ?_)
  obtain ⟨f', g', j', hH', hA', rfl, hq⟩ := hp
  exact K f' g' j' h' hq hH' (hA.trans hA')
theorem zc_callI0 {idx n n' m : Nat} {T : u_T} {N : Nat} {Q : Int → mF → mA → mA → Prop} (hM : CM l E M' n' [.ref (E.1 (32 * m + 31))] f g j (PI Q)) (hm : E.2.1 m = true) (hd : zAt M 3 pc pc' (.invokevirtual idx)) (hc : zCV M.1.cls idx M' n) (hn : 0 = n) (hcl : vwCl[cCls m]? = some (M'.1.cls, T, N)) (hH : HC E f g j h) (hA : cAg E h0 h) (hdd : n' + 1 ≤ d) (hW : (S.map fun v => v.category).sum ≤ 8) (K : ∀ (r : Int) (f : mF) (g j : mA) (h : zH), zIn r → Q r f g j → HC E f g j h → cAg E h0 h → Z l M d 0 0 Pz pc' L (vI r :: S) h 0 0) : Z l M d 0 0 Pz pc L (.ref (E.1 (32 * m + 31)) :: S) h 0 0 := zc_callI (As := []) hM hm hd hc hn hcl hH hA hdd hW K
theorem zc_callL0 {idx n n' m : Nat} {T : u_T} {N : Nat} {Q : Int → mF → mA → mA → Prop} (hM : CM l E M' n' [.ref (E.1 (32 * m + 31))] f g j (PL Q)) (hm : E.2.1 m = true) (hd : zAt M 3 pc pc' (.invokevirtual idx)) (hc : zCV M.1.cls idx M' n) (hn : 0 = n) (hcl : vwCl[cCls m]? = some (M'.1.cls, T, N)) (hH : HC E f g j h) (hA : cAg E h0 h) (hdd : n' + 1 ≤ d) (hW : (S.map fun v => v.category).sum ≤ 8) (K : ∀ (r : Int) (f : mF) (g j : mA) (h : zH), zInL r → Q r f g j → HC E f g j h → cAg E h0 h → Z l M d 0 0 Pz pc' L (vL r :: S) h 0 0) : Z l M d 0 0 Pz pc L (.ref (E.1 (32 * m + 31)) :: S) h 0 0 := zc_callL (As := []) hM hm hd hc hn hcl hH hA hdd hW K
theorem zc_callV0 {idx n n' m : Nat} {T : u_T} {N : Nat} {Q : mF → mA → mA → Prop} (hM : CM l E M' n' [.ref (E.1 (32 * m + 31))] f g j (PV Q)) (hm : E.2.1 m = true) (hd : zAt M 3 pc pc' (.invokevirtual idx)) (hc : zCV M.1.cls idx M' n) (hn : 0 = n) (hcl : vwCl[cCls m]? = some (M'.1.cls, T, N)) (hH : HC E f g j h) (hA : cAg E h0 h) (hdd : n' + 1 ≤ d) (hW : (S.map fun v => v.category).sum ≤ 8) (K : ∀ (f : mF) (g j : mA) (h : zH), Q f g j → HC E f g j h → cAg E h0 h → Z l M d 0 0 Pz pc' L (S) h 0 0) : Z l M d 0 0 Pz pc L (.ref (E.1 (32 * m + 31)) :: S) h 0 0 := zc_callV (As := []) hM hm hd hc hn hcl hH hA hdd hW K
theorem zc_callI1 {idx n n' m : Nat} {a0 : Value} {T : u_T} {N : Nat} {Q : Int → mF → mA → mA → Prop} (hM : CM l E M' n' [.ref (E.1 (32 * m + 31)), a0] f g j (PI Q)) (hm : E.2.1 m = true) (hd : zAt M 3 pc pc' (.invokevirtual idx)) (hc : zCV M.1.cls idx M' n) (hn : 1 = n) (hcl : vwCl[cCls m]? = some (M'.1.cls, T, N)) (hH : HC E f g j h) (hA : cAg E h0 h) (hdd : n' + 1 ≤ d) (hW : (S.map fun v => v.category).sum ≤ 8) (K : ∀ (r : Int) (f : mF) (g j : mA) (h : zH), zIn r → Q r f g j → HC E f g j h → cAg E h0 h → Z l M d 0 0 Pz pc' L (vI r :: S) h 0 0) : Z l M d 0 0 Pz pc L (a0 :: .ref (E.1 (32 * m + 31)) :: S) h 0 0 := zc_callI (As := [a0]) hM hm hd hc hn hcl hH hA hdd hW K
theorem zc_callL1 {idx n n' m : Nat} {a0 : Value} {T : u_T} {N : Nat} {Q : Int → mF → mA → mA → Prop} (hM : CM l E M' n' [.ref (E.1 (32 * m + 31)), a0] f g j (PL Q)) (hm : E.2.1 m = true) (hd : zAt M 3 pc pc' (.invokevirtual idx)) (hc : zCV M.1.cls idx M' n) (hn : 1 = n) (hcl : vwCl[cCls m]? = some (M'.1.cls, T, N)) (hH : HC E f g j h) (hA : cAg E h0 h) (hdd : n' + 1 ≤ d) (hW : (S.map fun v => v.category).sum ≤ 8) (K : ∀ (r : Int) (f : mF) (g j : mA) (h : zH), zInL r → Q r f g j → HC E f g j h → cAg E h0 h → Z l M d 0 0 Pz pc' L (vL r :: S) h 0 0) : Z l M d 0 0 Pz pc L (a0 :: .ref (E.1 (32 * m + 31)) :: S) h 0 0 := zc_callL (As := [a0]) hM hm hd hc hn hcl hH hA hdd hW K
theorem zc_callV1 {idx n n' m : Nat} {a0 : Value} {T : u_T} {N : Nat} {Q : mF → mA → mA → Prop} (hM : CM l E M' n' [.ref (E.1 (32 * m + 31)), a0] f g j (PV Q)) (hm : E.2.1 m = true) (hd : zAt M 3 pc pc' (.invokevirtual idx)) (hc : zCV M.1.cls idx M' n) (hn : 1 = n) (hcl : vwCl[cCls m]? = some (M'.1.cls, T, N)) (hH : HC E f g j h) (hA : cAg E h0 h) (hdd : n' + 1 ≤ d) (hW : (S.map fun v => v.category).sum ≤ 8) (K : ∀ (f : mF) (g j : mA) (h : zH), Q f g j → HC E f g j h → cAg E h0 h → Z l M d 0 0 Pz pc' L (S) h 0 0) : Z l M d 0 0 Pz pc L (a0 :: .ref (E.1 (32 * m + 31)) :: S) h 0 0 := zc_callV (As := [a0]) hM hm hd hc hn hcl hH hA hdd hW K
theorem zc_callI2 {idx n n' m : Nat} {a0 a1 : Value} {T : u_T} {N : Nat} {Q : Int → mF → mA → mA → Prop} (hM : CM l E M' n' [.ref (E.1 (32 * m + 31)), a0, a1] f g j (PI Q)) (hm : E.2.1 m = true) (hd : zAt M 3 pc pc' (.invokevirtual idx)) (hc : zCV M.1.cls idx M' n) (hn : 2 = n) (hcl : vwCl[cCls m]? = some (M'.1.cls, T, N)) (hH : HC E f g j h) (hA : cAg E h0 h) (hdd : n' + 1 ≤ d) (hW : (S.map fun v => v.category).sum ≤ 8) (K : ∀ (r : Int) (f : mF) (g j : mA) (h : zH), zIn r → Q r f g j → HC E f g j h → cAg E h0 h → Z l M d 0 0 Pz pc' L (vI r :: S) h 0 0) : Z l M d 0 0 Pz pc L (a1 :: a0 :: .ref (E.1 (32 * m + 31)) :: S) h 0 0 := zc_callI (As := [a0, a1]) hM hm hd hc hn hcl hH hA hdd hW K
theorem zc_callL2 {idx n n' m : Nat} {a0 a1 : Value} {T : u_T} {N : Nat} {Q : Int → mF → mA → mA → Prop} (hM : CM l E M' n' [.ref (E.1 (32 * m + 31)), a0, a1] f g j (PL Q)) (hm : E.2.1 m = true) (hd : zAt M 3 pc pc' (.invokevirtual idx)) (hc : zCV M.1.cls idx M' n) (hn : 2 = n) (hcl : vwCl[cCls m]? = some (M'.1.cls, T, N)) (hH : HC E f g j h) (hA : cAg E h0 h) (hdd : n' + 1 ≤ d) (hW : (S.map fun v => v.category).sum ≤ 8) (K : ∀ (r : Int) (f : mF) (g j : mA) (h : zH), zInL r → Q r f g j → HC E f g j h → cAg E h0 h → Z l M d 0 0 Pz pc' L (vL r :: S) h 0 0) : Z l M d 0 0 Pz pc L (a1 :: a0 :: .ref (E.1 (32 * m + 31)) :: S) h 0 0 := zc_callL (As := [a0, a1]) hM hm hd hc hn hcl hH hA hdd hW K
theorem zc_callV2 {idx n n' m : Nat} {a0 a1 : Value} {T : u_T} {N : Nat} {Q : mF → mA → mA → Prop} (hM : CM l E M' n' [.ref (E.1 (32 * m + 31)), a0, a1] f g j (PV Q)) (hm : E.2.1 m = true) (hd : zAt M 3 pc pc' (.invokevirtual idx)) (hc : zCV M.1.cls idx M' n) (hn : 2 = n) (hcl : vwCl[cCls m]? = some (M'.1.cls, T, N)) (hH : HC E f g j h) (hA : cAg E h0 h) (hdd : n' + 1 ≤ d) (hW : (S.map fun v => v.category).sum ≤ 8) (K : ∀ (f : mF) (g j : mA) (h : zH), Q f g j → HC E f g j h → cAg E h0 h → Z l M d 0 0 Pz pc' L (S) h 0 0) : Z l M d 0 0 Pz pc L (a1 :: a0 :: .ref (E.1 (32 * m + 31)) :: S) h 0 0 := zc_callV (As := [a0, a1]) hM hm hd hc hn hcl hH hA hdd hW K
theorem zc_callI3 {idx n n' m : Nat} {a0 a1 a2 : Value} {T : u_T} {N : Nat} {Q : Int → mF → mA → mA → Prop} (hM : CM l E M' n' [.ref (E.1 (32 * m + 31)), a0, a1, a2] f g j (PI Q)) (hm : E.2.1 m = true) (hd : zAt M 3 pc pc' (.invokevirtual idx)) (hc : zCV M.1.cls idx M' n) (hn : 3 = n) (hcl : vwCl[cCls m]? = some (M'.1.cls, T, N)) (hH : HC E f g j h) (hA : cAg E h0 h) (hdd : n' + 1 ≤ d) (hW : (S.map fun v => v.category).sum ≤ 8) (K : ∀ (r : Int) (f : mF) (g j : mA) (h : zH), zIn r → Q r f g j → HC E f g j h → cAg E h0 h → Z l M d 0 0 Pz pc' L (vI r :: S) h 0 0) : Z l M d 0 0 Pz pc L (a2 :: a1 :: a0 :: .ref (E.1 (32 * m + 31)) :: S) h 0 0 := zc_callI (As := [a0, a1, a2]) hM hm hd hc hn hcl hH hA hdd hW K
theorem zc_callL3 {idx n n' m : Nat} {a0 a1 a2 : Value} {T : u_T} {N : Nat} {Q : Int → mF → mA → mA → Prop} (hM : CM l E M' n' [.ref (E.1 (32 * m + 31)), a0, a1, a2] f g j (PL Q)) (hm : E.2.1 m = true) (hd : zAt M 3 pc pc' (.invokevirtual idx)) (hc : zCV M.1.cls idx M' n) (hn : 3 = n) (hcl : vwCl[cCls m]? = some (M'.1.cls, T, N)) (hH : HC E f g j h) (hA : cAg E h0 h) (hdd : n' + 1 ≤ d) (hW : (S.map fun v => v.category).sum ≤ 8) (K : ∀ (r : Int) (f : mF) (g j : mA) (h : zH), zInL r → Q r f g j → HC E f g j h → cAg E h0 h → Z l M d 0 0 Pz pc' L (vL r :: S) h 0 0) : Z l M d 0 0 Pz pc L (a2 :: a1 :: a0 :: .ref (E.1 (32 * m + 31)) :: S) h 0 0 := zc_callL (As := [a0, a1, a2]) hM hm hd hc hn hcl hH hA hdd hW K
theorem zc_callV3 {idx n n' m : Nat} {a0 a1 a2 : Value} {T : u_T} {N : Nat} {Q : mF → mA → mA → Prop} (hM : CM l E M' n' [.ref (E.1 (32 * m + 31)), a0, a1, a2] f g j (PV Q)) (hm : E.2.1 m = true) (hd : zAt M 3 pc pc' (.invokevirtual idx)) (hc : zCV M.1.cls idx M' n) (hn : 3 = n) (hcl : vwCl[cCls m]? = some (M'.1.cls, T, N)) (hH : HC E f g j h) (hA : cAg E h0 h) (hdd : n' + 1 ≤ d) (hW : (S.map fun v => v.category).sum ≤ 8) (K : ∀ (f : mF) (g j : mA) (h : zH), Q f g j → HC E f g j h → cAg E h0 h → Z l M d 0 0 Pz pc' L (S) h 0 0) : Z l M d 0 0 Pz pc L (a2 :: a1 :: a0 :: .ref (E.1 (32 * m + 31)) :: S) h 0 0 := zc_callV (As := [a0, a1, a2]) hM hm hd hc hn hcl hH hA hdd hW K
theorem zc_callI4 {idx n n' m : Nat} {a0 a1 a2 a3 : Value} {T : u_T} {N : Nat} {Q : Int → mF → mA → mA → Prop} (hM : CM l E M' n' [.ref (E.1 (32 * m + 31)), a0, a1, a2, a3] f g j (PI Q)) (hm : E.2.1 m = true) (hd : zAt M 3 pc pc' (.invokevirtual idx)) (hc : zCV M.1.cls idx M' n) (hn : 4 = n) (hcl : vwCl[cCls m]? = some (M'.1.cls, T, N)) (hH : HC E f g j h) (hA : cAg E h0 h) (hdd : n' + 1 ≤ d) (hW : (S.map fun v => v.category).sum ≤ 8) (K : ∀ (r : Int) (f : mF) (g j : mA) (h : zH), zIn r → Q r f g j → HC E f g j h → cAg E h0 h → Z l M d 0 0 Pz pc' L (vI r :: S) h 0 0) : Z l M d 0 0 Pz pc L (a3 :: a2 :: a1 :: a0 :: .ref (E.1 (32 * m + 31)) :: S) h 0 0 := zc_callI (As := [a0, a1, a2, a3]) hM hm hd hc hn hcl hH hA hdd hW K
theorem zc_callL4 {idx n n' m : Nat} {a0 a1 a2 a3 : Value} {T : u_T} {N : Nat} {Q : Int → mF → mA → mA → Prop} (hM : CM l E M' n' [.ref (E.1 (32 * m + 31)), a0, a1, a2, a3] f g j (PL Q)) (hm : E.2.1 m = true) (hd : zAt M 3 pc pc' (.invokevirtual idx)) (hc : zCV M.1.cls idx M' n) (hn : 4 = n) (hcl : vwCl[cCls m]? = some (M'.1.cls, T, N)) (hH : HC E f g j h) (hA : cAg E h0 h) (hdd : n' + 1 ≤ d) (hW : (S.map fun v => v.category).sum ≤ 8) (K : ∀ (r : Int) (f : mF) (g j : mA) (h : zH), zInL r → Q r f g j → HC E f g j h → cAg E h0 h → Z l M d 0 0 Pz pc' L (vL r :: S) h 0 0) : Z l M d 0 0 Pz pc L (a3 :: a2 :: a1 :: a0 :: .ref (E.1 (32 * m + 31)) :: S) h 0 0 := zc_callL (As := [a0, a1, a2, a3]) hM hm hd hc hn hcl hH hA hdd hW K
theorem zc_callV4 {idx n n' m : Nat} {a0 a1 a2 a3 : Value} {T : u_T} {N : Nat} {Q : mF → mA → mA → Prop} (hM : CM l E M' n' [.ref (E.1 (32 * m + 31)), a0, a1, a2, a3] f g j (PV Q)) (hm : E.2.1 m = true) (hd : zAt M 3 pc pc' (.invokevirtual idx)) (hc : zCV M.1.cls idx M' n) (hn : 4 = n) (hcl : vwCl[cCls m]? = some (M'.1.cls, T, N)) (hH : HC E f g j h) (hA : cAg E h0 h) (hdd : n' + 1 ≤ d) (hW : (S.map fun v => v.category).sum ≤ 8) (K : ∀ (f : mF) (g j : mA) (h : zH), Q f g j → HC E f g j h → cAg E h0 h → Z l M d 0 0 Pz pc' L (S) h 0 0) : Z l M d 0 0 Pz pc L (a3 :: a2 :: a1 :: a0 :: .ref (E.1 (32 * m + 31)) :: S) h 0 0 := zc_callV (As := [a0, a1, a2, a3]) hM hm hd hc hn hcl hH hA hdd hW K
theorem zc_callI5 {idx n n' m : Nat} {a0 a1 a2 a3 a4 : Value} {T : u_T} {N : Nat} {Q : Int → mF → mA → mA → Prop} (hM : CM l E M' n' [.ref (E.1 (32 * m + 31)), a0, a1, a2, a3, a4] f g j (PI Q)) (hm : E.2.1 m = true) (hd : zAt M 3 pc pc' (.invokevirtual idx)) (hc : zCV M.1.cls idx M' n) (hn : 5 = n) (hcl : vwCl[cCls m]? = some (M'.1.cls, T, N)) (hH : HC E f g j h) (hA : cAg E h0 h) (hdd : n' + 1 ≤ d) (hW : (S.map fun v => v.category).sum ≤ 8) (K : ∀ (r : Int) (f : mF) (g j : mA) (h : zH), zIn r → Q r f g j → HC E f g j h → cAg E h0 h → Z l M d 0 0 Pz pc' L (vI r :: S) h 0 0) : Z l M d 0 0 Pz pc L (a4 :: a3 :: a2 :: a1 :: a0 :: .ref (E.1 (32 * m + 31)) :: S) h 0 0 := zc_callI (As := [a0, a1, a2, a3, a4]) hM hm hd hc hn hcl hH hA hdd hW K
theorem zc_callL5 {idx n n' m : Nat} {a0 a1 a2 a3 a4 : Value} {T : u_T} {N : Nat} {Q : Int → mF → mA → mA → Prop} (hM : CM l E M' n' [.ref (E.1 (32 * m + 31)), a0, a1, a2, a3, a4] f g j (PL Q)) (hm : E.2.1 m = true) (hd : zAt M 3 pc pc' (.invokevirtual idx)) (hc : zCV M.1.cls idx M' n) (hn : 5 = n) (hcl : vwCl[cCls m]? = some (M'.1.cls, T, N)) (hH : HC E f g j h) (hA : cAg E h0 h) (hdd : n' + 1 ≤ d) (hW : (S.map fun v => v.category).sum ≤ 8) (K : ∀ (r : Int) (f : mF) (g j : mA) (h : zH), zInL r → Q r f g j → HC E f g j h → cAg E h0 h → Z l M d 0 0 Pz pc' L (vL r :: S) h 0 0) : Z l M d 0 0 Pz pc L (a4 :: a3 :: a2 :: a1 :: a0 :: .ref (E.1 (32 * m + 31)) :: S) h 0 0 := zc_callL (As := [a0, a1, a2, a3, a4]) hM hm hd hc hn hcl hH hA hdd hW K
theorem zc_callV5 {idx n n' m : Nat} {a0 a1 a2 a3 a4 : Value} {T : u_T} {N : Nat} {Q : mF → mA → mA → Prop} (hM : CM l E M' n' [.ref (E.1 (32 * m + 31)), a0, a1, a2, a3, a4] f g j (PV Q)) (hm : E.2.1 m = true) (hd : zAt M 3 pc pc' (.invokevirtual idx)) (hc : zCV M.1.cls idx M' n) (hn : 5 = n) (hcl : vwCl[cCls m]? = some (M'.1.cls, T, N)) (hH : HC E f g j h) (hA : cAg E h0 h) (hdd : n' + 1 ≤ d) (hW : (S.map fun v => v.category).sum ≤ 8) (K : ∀ (f : mF) (g j : mA) (h : zH), Q f g j → HC E f g j h → cAg E h0 h → Z l M d 0 0 Pz pc' L (S) h 0 0) : Z l M d 0 0 Pz pc L (a4 :: a3 :: a2 :: a1 :: a0 :: .ref (E.1 (32 * m + 31)) :: S) h 0 0 := zc_callV (As := [a0, a1, a2, a3, a4]) hM hm hd hc hn hcl hH hA hdd hW K
end CR
