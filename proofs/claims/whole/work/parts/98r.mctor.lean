/-! ===== the reference: its constructor ===== -/
def Yr (h0 : zH) (a : Nat) (R : List (Nat × Nat × zE)) (h : zH) : Prop := (∀ p ∈ R, h p.2.1 = some p.2.2 ∧ h0 p.2.1 = none ∧ p.2.1 ≠ a) ∧ R.Pairwise (fun p q => p.2.1 ≠ q.2.1) ∧ ∀ x, x ≠ a → (∀ p ∈ R, x ≠ p.2.1) → h x = h0 x
section YR
variable {h0 h h' : zH} {a s q : Nat} {R R1 R2 : List (Nat × Nat × zE)} {e e' ea : zE}
theorem Yr.new (Y : Yr h0 a R h) (ha : h a = some ea) (hn : h q = none) (e1 : h' q = some e) (e2 : ∀ x, x ≠ q → h' x = h x) : Yr h0 a ((s, q, e) :: R) h' := by
  have hqa : q ≠ a := ne_so ha hn
  have hqr : ∀ p ∈ R, q ≠ p.2.1 := fun p hp => ne_so (Y.1 p hp).1 hn
  refine ⟨fun p hp => ?_, List.pairwise_cons.mpr ⟨hqr, Y.2.1⟩, fun x xa xr => ?_⟩
  · rcases List.mem_cons.mp hp with z | z
    · subst z
      exact ⟨e1, (Y.2.2 q hqa hqr).symm.trans hn, hqa⟩
    · exact ⟨(e2 _ (hqr p z).symm).trans (Y.1 p z).1, (Y.1 p z).2⟩
  · exact (e2 x (xr _ (List.mem_cons_self ..))).trans (Y.2.2 x xa (fun p hp => xr p (List.mem_cons_of_mem _ hp)))
theorem Yr.put (Y : Yr h0 a R h) (e2 : ∀ x, x ≠ a → h' x = h x) : Yr h0 a R h' :=
  ⟨fun p hp => ⟨(e2 _ (Y.1 p hp).2.2).trans (Y.1 p hp).1, (Y.1 p hp).2⟩, Y.2.1, fun x xa xr => (e2 x xa).trans (Y.2.2 x xa xr)⟩
theorem Yr.hd (Y : Yr h0 a ((s, q, e) :: R) h) (e1 : h' q = some e') (e2 : ∀ x, x ≠ q → h' x = h x) : Yr h0 a ((s, q, e') :: R) h' := by
  have hP := List.pairwise_cons.mp Y.2.1
  refine ⟨fun p hp => ?_, List.pairwise_cons.mpr ⟨hP.1, hP.2⟩, fun x xa xr => ?_⟩
  · rcases List.mem_cons.mp hp with z | z
    · subst z
      exact ⟨e1, (Y.1 _ (List.mem_cons_self ..)).2⟩
    · exact ⟨(e2 _ (hP.1 p z).symm).trans (Y.1 p (List.mem_cons_of_mem _ z)).1, (Y.1 p (List.mem_cons_of_mem _ z)).2⟩
  · refine (e2 x (xr (s, q, e') (List.mem_cons_self ..))).trans (Y.2.2 x xa (fun p hp => ?_))
    rcases List.mem_cons.mp hp with z | z
    · subst z; exact xr (s, q, e') (List.mem_cons_self ..)
    · exact xr p (List.mem_cons_of_mem _ z)
theorem Yr.up {p : Nat × Nat × zE} (Y : Yr h0 a (R1 ++ p :: R2) h) : Yr h0 a (p :: (R1 ++ R2)) h := by
  have hm : ∀ x, x ∈ R1 ++ p :: R2 ↔ x ∈ p :: (R1 ++ R2) := fun x => by
    simp only [List.mem_append, List.mem_cons]
    constructor
    · rintro (h | h | h)
      · exact Or.inr (Or.inl h)
      · exact Or.inl h
      · exact Or.inr (Or.inr h)
    · rintro (h | h | h)
      · exact Or.inr (Or.inl h)
      · exact Or.inl h
      · exact Or.inr (Or.inr h)
  refine ⟨fun x hx => Y.1 x ((hm x).mpr hx), ?_, fun x xa xr => Y.2.2 x xa (fun z hz => xr z ((hm z).mp hz))⟩
  have h1 := List.pairwise_append.mp Y.2.1
  have h2 := List.pairwise_cons.mp h1.2.1
  refine List.pairwise_cons.mpr ⟨fun z hz => ?_, List.pairwise_append.mpr ⟨h1.1, h2.2, fun x hx y hy => h1.2.2 x hx y (List.mem_cons_of_mem _ hy)⟩⟩
  rcases List.mem_append.mp hz with w | w
  · exact (h1.2.2 z w p (List.mem_cons_self ..)).symm
  · exact h2.1 z w
theorem Yr.inj (Y : Yr h0 a R h) {s s' q q' : Nat} {e e' : zE} (h1 : (s, q, e) ∈ R) (h2 : (s', q', e') ∈ R) (hq : q = q') : s = s' := by
  have key : ∀ (R : List (Nat × Nat × zE)), R.Pairwise (fun p q => p.2.1 ≠ q.2.1) → (s, q, e) ∈ R → (s', q', e') ∈ R → s = s' := by
    intro R
    induction R with
    | nil => intro _ h; cases h
    | cons p R ih =>
      intro hP h1 h2
      have hP := List.pairwise_cons.mp hP
      rcases List.mem_cons.mp h1 with z1 | z1
      · rcases List.mem_cons.mp h2 with z2 | z2
        · exact congrArg Prod.fst (z1.trans z2.symm)
        · exact absurd hq (by have := hP.1 _ z2; rw [← z1] at this; exact this)
      · rcases List.mem_cons.mp h2 with z2 | z2
        · exact absurd hq.symm (by have := hP.1 _ z1; rw [← z2] at this; exact this)
        · exact ih hP.2 z1 z2
  exact key R Y.2.1 h1 h2
end YR
def wN (n : Nat) : Nat → Int32 := fun i => if i < n then Int32.ofInt (mWords.getD i 0) else 0
theorem wN_s {n : Nat} : upd (wN n) n (Int32.ofInt (mWords.getD n 0)) = wN (n + 1) := by
  funext i
  unfold upd wN
  by_cases e : i = n
  · rw [if_pos e, if_pos (by omega), e]
  · rw [if_neg e]
    by_cases q : i < n
    · rw [if_pos q, if_pos (by omega)]
    · rw [if_neg q, if_neg (by omega)]
theorem wN_0 : wN 0 = fun _ => 0 := by funext i; unfold wN; rw [if_neg (by omega)]
section ZY
variable {l : Launch} {M : zM} {d mc ms : Nat} {P : Option Value → zH → Prop} {pc pc' : Nat} {L : List (Option Value)} {S : List Value} {h h0 : zH} {kc ks : Nat} {a s q n : Nat} {R : List (Nat × Nat × zE)} {ea : zE}
theorem z_bastY {i x : Int} (Y : Yr h0 a ((s, q, .inl (2, 134, .inl (wN n))) :: R) h) (ha : h a = some ea) (hd : zAt M 1 pc pc' .bastore) (hi : i = (n : Int)) (hn : n < 134) (hx : mWords.getD n 0 = x) (hz : zi2b x = x) (K : ∀ h' : zH, Yr h0 a ((s, q, .inl (2, 134, .inl (wN (n + 1)))) :: R) h' → h' a = some ea → Z l M d mc ms P pc' L S h' kc ks) : Z l M d mc ms P pc L (vI x :: vI i :: .ref q :: S) h kc ks := by
  have h1 := Y.1 _ (List.mem_cons_self ..)
  refine z_bast hd h1.1 (by omega) (by omega) (by decide) ?_
  rw [hz, show i.toNat = n by omega, ← hx, wN_s]
  exact K _ (Y.hd (if_pos rfl) (fun x hx => if_neg hx)) ((if_neg h1.2.2.symm).trans ha)
theorem z_iastY {i x : Int} {N : Nat} {f : Nat → Int32} (Y : Yr h0 a ((s, q, .inl (0, N, .inl f)) :: R) h) (ha : h a = some ea) (hd : zAt M 1 pc pc' .iastore) (h1 : 0 ≤ i) (h2 : i < N) (hN : N < 2147483648) (K : ∀ h' : zH, Yr h0 a ((s, q, .inl (0, N, .inl (upd f i.toNat (Int32.ofInt x)))) :: R) h' → h' a = some ea → Z l M d mc ms P pc' L S h' kc ks) : Z l M d mc ms P pc L (vI x :: vI i :: .ref q :: S) h kc ks := by
  have h5 := Y.1 _ (List.mem_cons_self ..)
  refine z_iast hd h5.1 h1 h2 hN ?_
  exact K _ (Y.hd (if_pos rfl) (fun x hx => if_neg hx)) ((if_neg h5.2.2.symm).trans ha)
end ZY
def gW (n : Nat) : Int → Int := fun i => if i = 74 then 1 else if i = 80 then -1 else if 20 ≤ i ∧ i < 20 + (n : Int) then -1 else 0
theorem gW_0 : upd (upd (fun _ => 0) 74 (Int32.ofInt 1)) 80 (Int32.ofInt (-1)) = fun i : Nat => Int32.ofInt (gW 0 i) := by
  funext i
  unfold upd gW
  by_cases e : i = 80
  · rw [if_pos e, if_neg (by omega), if_pos (by omega)]
  · rw [if_neg e]
    by_cases e2 : i = 74
    · rw [if_pos e2, if_pos (by omega)]
    · rw [if_neg e2, if_neg (by omega), if_neg (by omega), if_neg (by omega)]; rfl
theorem gW_s {n : Nat} (hn : n < 8) : upd (fun i : Nat => Int32.ofInt (gW n i)) (20 + n) (Int32.ofInt (-1)) = fun i : Nat => Int32.ofInt (gW (n + 1) i) := by
  funext i
  unfold upd
  by_cases e : i = 20 + n
  · rw [if_pos e]
    unfold gW
    rw [if_neg (by omega), if_neg (by omega), if_pos (by omega)]
  · rw [if_neg e]
    have h : gW n i = gW (n + 1) i := by
      unfold gW
      by_cases e1 : (i : Int) = 74
      · rw [if_pos e1, if_pos e1]
      · rw [if_neg e1, if_neg e1]
        by_cases e2 : (i : Int) = 80
        · rw [if_pos e2, if_pos e2]
        · rw [if_neg e2, if_neg e2]
          by_cases e3 : 20 ≤ (i : Int) ∧ (i : Int) < 20 + (n : Int)
          · rw [if_pos e3, if_pos (by omega)]
          · rw [if_neg e3, if_neg (by omega)]
    exact congrArg Int32.ofInt h
def fM : mF := fun k => match k with | 14 => (-1) | 40 => (-1) | 48 => (-1) | _ => 0
def gM : mA := fun k i => if k = 2 then gW 8 i else if k = 7 then (if 0 ≤ i ∧ i < 134 then mWords.getD i.toNat 0 else 0) else 0
set_option maxHeartbeats 4000000 in
set_option maxRecDepth 100000 in
theorem lp_ini {l : Launch} {d a q mc ms kc ks : Nat} {h0 : zH} {P : Option Value → zH → Prop} {R : List (Nat × Nat × zE)} {fs : List Value} (hfs : fs[2]? = some (.ref q)) (kx : ∀ (i : Int) (h : zH), Yr h0 a ((2, q, .inl (0, 5688, .inl (fun i : Nat => Int32.ofInt (gW 8 i)))) :: R) h → h a = some (.inr (8, fs)) → Z l MX8_init d mc ms P 1045 [some (.ref a), some (vI i)] [] h kc ks) : ∀ (n i : Nat) (h : zH), i ≤ 8 → 8 < i + n → Yr h0 a ((2, q, .inl (0, 5688, .inl (fun j : Nat => Int32.ofInt (gW i j)))) :: R) h → h a = some (.inr (8, fs)) → Z l MX8_init d mc ms P 1023 [some (.ref a), some (vI (i : Int))] [] h kc ks := by
  intro n
  induction n with
  | zero => intro i h i1 i2; omega
  | succ n ih =>
    intro i h i1 i2 Y ha
    refine z_ild_1 (TX8_init_16.at 7 rfl) ?_
    refine z_bipush (by decide) (TX8_init_16.at 8 rfl) ?_
    refine z_icmp_ge (tgt := 1045) (TX8_init_16.at 9 rfl) rfl (by omega) (by decide) (fun c7 => ?_) (fun c7 => ?_)
    · rw [show i = 8 by omega] at Y
      exact kx _ h Y ha
    · refine z_ald_0 (TX8_init_16.at 10 rfl) ?_
      refine z_getf (v := .ref q) (TX8_init_16.at 11 rfl) fl8_28 ha hfs ?_
      refine z_bipush (by decide) (TX8_init_16.at 12 rfl) ?_
      refine z_ild_1 (TX8_init_16.at 13 rfl) ?_
      refine z_iadd (TX8_init_16.at 14 rfl) ?_
      refine z_iconst (TX8_init_16.at 15 rfl) ?_
      refine z_iastY Y ha (TX8_init_16.at 16 rfl) (by omega) (by omega) (by decide) ?_
      intro h Y ha
      rw [show ((20 : Int) + (i : Int)).toNat = 20 + i by omega, gW_s (by omega)] at Y
      refine z_iinc_1 (TX8_init_16.at 17 rfl) (by decide) rfl ?_
      refine z_goto (tgt := 1023) (TX8_init_16.at 18 rfl) rfl ?_
      exact ih (i + 1) h (by omega) (by omega) Y ha
def iniR (q1 q2 q3 q4 q5 q7 q11 q12 q15 q16 q17 q26 q30 q31 q32 q34 q35 q37 q38 q39 q46 q47 : Nat) : List (Nat × Nat × zE) := (2, q2, .inl (0, 5688, .inl (fun i : Nat => Int32.ofInt (gW 8 i)))) :: [(47, q47, .inl (0, 29, .inl (fun _ => 0))), (46, q46, .inl (1, 2, .inr (.inl (fun _ => 0)))), (39, q39, .inl (1, 21, .inr (.inl (fun _ => 0)))), (38, q38, .inl (0, 64, .inl (fun _ => 0))), (37, q37, .inl (0, 8, .inl (fun _ => 0))), (35, q35, .inl (0, 480, .inl (fun _ => 0))), (34, q34, .inl (0, 480, .inl (fun _ => 0))), (32, q32, .inl (0, 8, .inl (fun _ => 0))), (31, q31, .inl (0, 8, .inl (fun _ => 0))), (30, q30, .inl (0, 10, .inl (fun _ => 0))), (26, q26, .inl (0, 9, .inl (fun _ => 0))), (17, q17, .inl (0, 401, .inl (fun _ => 0))), (16, q16, .inl (0, 401, .inl (fun _ => 0))), (15, q15, .inl (0, 401, .inl (fun _ => 0))), (12, q12, .inl (0, 5, .inl (fun _ => 0))), (11, q11, .inl (2, 400, .inl (fun _ => 0))), (7, q7, .inl (2, 134, .inl (wN 134))), (5, q5, .inl (0, 58, .inl (fun _ => 0))), (4, q4, .inl (3, 2, .inl (fun _ => 0))), (3, q3, .inl (0, 11376, .inl (fun _ => 0))), (1, q1, .inl (0, 7, .inl (fun _ => 0)))]
def iniF (q1 q2 q3 q4 q5 q7 q11 q12 q15 q16 q17 q26 q30 q31 q32 q34 q35 q37 q38 q39 q46 q47 : Nat) : List Value := [vI 0, .ref q1, .ref q2, .ref q3, .ref q4, .ref q5, vI 0, .ref q7, vI 0, vI 0, vI 0, .ref q11, .ref q12, vI 0, vI (-1), .ref q15, .ref q16, .ref q17, vI 0, vI 0, vI 0, vI 0, vI 0, vI 0, vI 0, vI 0, .ref q26, vI 0, vI 0, vI 0, .ref q30, .ref q31, .ref q32, vI 0, .ref q34, .ref q35, vI 0, .ref q37, .ref q38, .ref q39, vI (-1), vI 0, vI 0, vI 0, vI 0, vI 0, .ref q46, .ref q47, vI (-1), vI 0]
set_option maxHeartbeats 4000000 in
set_option maxRecDepth 100000 in
theorem i_X8a {l : Launch} {d a : Nat} {h0 : zH} {P : Option Value → zH → Prop} (hd : 2 ≤ d) (kx0 : ∀ (q1 q2 q3 q4 q5 q7 q11 q12 q15 q16 q17 q26 q30 q31 q32 q34 q35 q37 q38 q39 q46 q47 : Nat) (h : zH), Yr h0 a (iniR q1 q2 q3 q4 q5 q7 q11 q12 q15 q16 q17 q26 q30 q31 q32 q34 q35 q37 q38 q39 q46 q47) h → h a = some (.inr (8, iniF q1 q2 q3 q4 q5 q7 q11 q12 q15 q16 q17 q26 q30 q31 q32 q34 q35 q37 q38 q39 q46 q47)) → P none h) (h : zH) (Y : Yr h0 a [] h) (ha : h a = some (.inr (8, [vI 0, .null, .null, .null, .null, .null, vI 0, .null, vI 0, vI 0, vI 0, .null, .null, vI 0, vI 0, .null, .null, .null, vI 0, vI 0, vI 0, vI 0, vI 0, vI 0, vI 0, vI 0, .null, vI 0, vI 0, vI 0, .null, .null, .null, vI 0, .null, .null, vI 0, .null, .null, .null, vI 0, vI 0, vI 0, vI 0, vI 0, vI 0, .null, .null, vI 0, vI 0]))) : Z l MX8_init d 22 19992 P 0 [some (.ref a), none] [] h 22 19992 := by
  refine z_ald_0 (TX8_init_0.at 0 rfl) ?_
  refine z_objI (TX8_init_0.at 1 rfl) oi8 (by omega) (Nat.le_of_ble_eq_true rfl) ?_
  refine z_ald_0 (TX8_init_0.at 2 rfl) ?_
  refine z_bipush (by decide) (TX8_init_0.at 3 rfl) ?_
  refine z_newI (TX8_init_0.at 4 rfl) ac0 (by decide) (by decide) (by omega) (by omega) (fun q1 h1 hn e1 e2 => ?_)
  have Y1 := Y.new (s := 1) (e := .inl (0, 7, .inl (fun _ => 0))) ha hn e1 e2
  have ha1 := (e2 a (ne_so ha hn).symm).trans ha
  clear Y ha hn e1 e2 h
  have Y := Y1; have ha := ha1; clear Y1 ha1
  revert h1
  intro h Y ha
  show Z l MX8_init d _ _ _ _ _ _ h _ (_ - 7)
  refine z_pF (TX8_init_0.at 5 rfl) fp8_7 rfl ha (Nat.le_of_ble_eq_true rfl) rfl rfl (fun h1 e1 e2 => ?_)
  have Y1 := Y.put e2
  clear Y ha e2 h
  have Y := Y1; have ha := e1; clear Y1 e1
  revert h1
  intro h Y ha
  replace ha : h a = some (.inr (8, [vI 0, .ref q1, .null, .null, .null, .null, vI 0, .null, vI 0, vI 0, vI 0, .null, .null, vI 0, vI 0, .null, .null, .null, vI 0, vI 0, vI 0, vI 0, vI 0, vI 0, vI 0, vI 0, .null, vI 0, vI 0, vI 0, .null, .null, .null, vI 0, .null, .null, vI 0, .null, .null, .null, vI 0, vI 0, vI 0, vI 0, vI 0, vI 0, .null, .null, vI 0, vI 0])) := ha
  refine z_ald_0 (TX8_init_0.at 6 rfl) ?_
  refine z_sipush (by decide) (TX8_init_0.at 7 rfl) ?_
  refine z_newI (TX8_init_0.at 8 rfl) ac0 (by decide) (by decide) (by omega) (by omega) (fun q2 h1 hn e1 e2 => ?_)
  have Y1 := Y.new (s := 2) (e := .inl (0, 5688, .inl (fun _ => 0))) ha hn e1 e2
  have ha1 := (e2 a (ne_so ha hn).symm).trans ha
  clear Y ha hn e1 e2 h
  have Y := Y1; have ha := ha1; clear Y1 ha1
  revert h1
  intro h Y ha
  show Z l MX8_init d _ _ _ _ _ _ h _ (_ - 5688)
  refine z_pF (TX8_init_0.at 9 rfl) fp8_28 rfl ha (Nat.le_of_ble_eq_true rfl) rfl rfl (fun h1 e1 e2 => ?_)
  have Y1 := Y.put e2
  clear Y ha e2 h
  have Y := Y1; have ha := e1; clear Y1 e1
  revert h1
  intro h Y ha
  replace ha : h a = some (.inr (8, [vI 0, .ref q1, .ref q2, .null, .null, .null, vI 0, .null, vI 0, vI 0, vI 0, .null, .null, vI 0, vI 0, .null, .null, .null, vI 0, vI 0, vI 0, vI 0, vI 0, vI 0, vI 0, vI 0, .null, vI 0, vI 0, vI 0, .null, .null, .null, vI 0, .null, .null, vI 0, .null, .null, .null, vI 0, vI 0, vI 0, vI 0, vI 0, vI 0, .null, .null, vI 0, vI 0])) := ha
  refine z_ald_0 (TX8_init_0.at 10 rfl) ?_
  refine z_sipush (by decide) (TX8_init_0.at 11 rfl) ?_
  refine z_newI (TX8_init_0.at 12 rfl) ac0 (by decide) (by decide) (by omega) (by omega) (fun q3 h1 hn e1 e2 => ?_)
  have Y1 := Y.new (s := 3) (e := .inl (0, 11376, .inl (fun _ => 0))) ha hn e1 e2
  have ha1 := (e2 a (ne_so ha hn).symm).trans ha
  clear Y ha hn e1 e2 h
  have Y := Y1; have ha := ha1; clear Y1 ha1
  revert h1
  intro h Y ha
  show Z l MX8_init d _ _ _ _ _ _ h _ (_ - 11376)
  refine z_pF (TX8_init_0.at 13 rfl) fp8_31 rfl ha (Nat.le_of_ble_eq_true rfl) rfl rfl (fun h1 e1 e2 => ?_)
  have Y1 := Y.put e2
  clear Y ha e2 h
  have Y := Y1; have ha := e1; clear Y1 e1
  revert h1
  intro h Y ha
  replace ha : h a = some (.inr (8, [vI 0, .ref q1, .ref q2, .ref q3, .null, .null, vI 0, .null, vI 0, vI 0, vI 0, .null, .null, vI 0, vI 0, .null, .null, .null, vI 0, vI 0, vI 0, vI 0, vI 0, vI 0, vI 0, vI 0, .null, vI 0, vI 0, vI 0, .null, .null, .null, vI 0, .null, .null, vI 0, .null, .null, .null, vI 0, vI 0, vI 0, vI 0, vI 0, vI 0, .null, .null, vI 0, vI 0])) := ha
  refine z_ald_0 (TX8_init_0.at 14 rfl) ?_
  refine z_iconst (TX8_init_0.at 15 rfl) ?_
  refine z_newT (TX8_init_0.at 16 rfl) ac3 (by decide) (by decide) (by omega) (by omega) (fun q4 h1 hn e1 e2 => ?_)
  have Y1 := Y.new (s := 4) (e := .inl (3, 2, .inl (fun _ => 0))) ha hn e1 e2
  have ha1 := (e2 a (ne_so ha hn).symm).trans ha
  clear Y ha hn e1 e2 h
  have Y := Y1; have ha := ha1; clear Y1 ha1
  revert h1
  intro h Y ha
  show Z l MX8_init d _ _ _ _ _ _ h _ (_ - 2)
  refine z_pF (TX8_init_0.at 17 rfl) fp8_34 rfl ha (Nat.le_of_ble_eq_true rfl) rfl rfl (fun h1 e1 e2 => ?_)
  have Y1 := Y.put e2
  clear Y ha e2 h
  have Y := Y1; have ha := e1; clear Y1 e1
  revert h1
  intro h Y ha
  replace ha : h a = some (.inr (8, [vI 0, .ref q1, .ref q2, .ref q3, .ref q4, .null, vI 0, .null, vI 0, vI 0, vI 0, .null, .null, vI 0, vI 0, .null, .null, .null, vI 0, vI 0, vI 0, vI 0, vI 0, vI 0, vI 0, vI 0, .null, vI 0, vI 0, vI 0, .null, .null, .null, vI 0, .null, .null, vI 0, .null, .null, .null, vI 0, vI 0, vI 0, vI 0, vI 0, vI 0, .null, .null, vI 0, vI 0])) := ha
  refine z_ald_0 (TX8_init_0.at 18 rfl) ?_
  refine z_bipush (by decide) (TX8_init_0.at 19 rfl) ?_
  refine z_newI (TX8_init_0.at 20 rfl) ac0 (by decide) (by decide) (by omega) (by omega) (fun q5 h1 hn e1 e2 => ?_)
  have Y1 := Y.new (s := 5) (e := .inl (0, 58, .inl (fun _ => 0))) ha hn e1 e2
  have ha1 := (e2 a (ne_so ha hn).symm).trans ha
  clear Y ha hn e1 e2 h
  have Y := Y1; have ha := ha1; clear Y1 ha1
  revert h1
  intro h Y ha
  show Z l MX8_init d _ _ _ _ _ _ h _ (_ - 58)
  refine z_pF (TX8_init_0.at 21 rfl) fp8_38 rfl ha (Nat.le_of_ble_eq_true rfl) rfl rfl (fun h1 e1 e2 => ?_)
  have Y1 := Y.put e2
  clear Y ha e2 h
  have Y := Y1; have ha := e1; clear Y1 e1
  revert h1
  intro h Y ha
  replace ha : h a = some (.inr (8, [vI 0, .ref q1, .ref q2, .ref q3, .ref q4, .ref q5, vI 0, .null, vI 0, vI 0, vI 0, .null, .null, vI 0, vI 0, .null, .null, .null, vI 0, vI 0, vI 0, vI 0, vI 0, vI 0, vI 0, vI 0, .null, vI 0, vI 0, vI 0, .null, .null, .null, vI 0, .null, .null, vI 0, .null, .null, .null, vI 0, vI 0, vI 0, vI 0, vI 0, vI 0, .null, .null, vI 0, vI 0])) := ha
  refine z_ald_0 (TX8_init_0.at 22 rfl) ?_
  refine z_sipush (by decide) (TX8_init_0.at 23 rfl) ?_
  refine z_newB (TX8_init_0.at 24 rfl) ac2 (by decide) (by decide) (by omega) (by omega) (fun q7 h1 hn e1 e2 => ?_)
  have Y1 := Y.new (s := 7) (e := .inl (2, 134, .inl (fun _ => 0))) ha hn e1 e2
  have ha1 := (e2 a (ne_so ha hn).symm).trans ha
  clear Y ha hn e1 e2 h
  have Y := Y1; have ha := ha1; clear Y1 ha1
  revert h1
  intro h Y ha
  show Z l MX8_init d _ _ _ _ _ _ h _ (_ - 134)
  rw [← wN_0] at Y
  refine z_dup rfl (TX8_init_0.at 25 rfl) ?_
  refine z_iconst (TX8_init_0.at 26 rfl) ?_
  refine z_bipush (by decide) (TX8_init_0.at 27 rfl) ?_
  refine z_bastY (n := 0) Y ha (TX8_init_0.at 28 rfl) rfl (by decide) rfl rfl ?_
  clear Y ha h
  intro h Y ha
  refine z_dup rfl (TX8_init_0.at 29 rfl) ?_
  refine z_iconst (TX8_init_0.at 30 rfl) ?_
  refine z_bipush (by decide) (TX8_init_0.at 31 rfl) ?_
  refine z_bastY (n := 1) Y ha (TX8_init_0.at 32 rfl) rfl (by decide) rfl rfl ?_
  clear Y ha h
  intro h Y ha
  refine z_dup rfl (TX8_init_0.at 33 rfl) ?_
  refine z_iconst (TX8_init_0.at 34 rfl) ?_
  refine z_bipush (by decide) (TX8_init_0.at 35 rfl) ?_
  refine z_bastY (n := 2) Y ha (TX8_init_0.at 36 rfl) rfl (by decide) rfl rfl ?_
  clear Y ha h
  intro h Y ha
  refine z_dup rfl (TX8_init_0.at 37 rfl) ?_
  refine z_iconst (TX8_init_0.at 38 rfl) ?_
  refine z_bipush (by decide) (TX8_init_0.at 39 rfl) ?_
  refine z_bastY (n := 3) Y ha (TX8_init_1.at 0 rfl) rfl (by decide) rfl rfl ?_
  clear Y ha h
  intro h Y ha
  refine z_dup rfl (TX8_init_1.at 1 rfl) ?_
  refine z_iconst (TX8_init_1.at 2 rfl) ?_
  refine z_bipush (by decide) (TX8_init_1.at 3 rfl) ?_
  refine z_bastY (n := 4) Y ha (TX8_init_1.at 4 rfl) rfl (by decide) rfl rfl ?_
  clear Y ha h
  intro h Y ha
  refine z_dup rfl (TX8_init_1.at 5 rfl) ?_
  refine z_iconst (TX8_init_1.at 6 rfl) ?_
  refine z_bipush (by decide) (TX8_init_1.at 7 rfl) ?_
  refine z_bastY (n := 5) Y ha (TX8_init_1.at 8 rfl) rfl (by decide) rfl rfl ?_
  clear Y ha h
  intro h Y ha
  refine z_dup rfl (TX8_init_1.at 9 rfl) ?_
  refine z_bipush (by decide) (TX8_init_1.at 10 rfl) ?_
  refine z_bipush (by decide) (TX8_init_1.at 11 rfl) ?_
  refine z_bastY (n := 6) Y ha (TX8_init_1.at 12 rfl) rfl (by decide) rfl rfl ?_
  clear Y ha h
  intro h Y ha
  refine z_dup rfl (TX8_init_1.at 13 rfl) ?_
  refine z_bipush (by decide) (TX8_init_1.at 14 rfl) ?_
  refine z_bipush (by decide) (TX8_init_1.at 15 rfl) ?_
  refine z_bastY (n := 7) Y ha (TX8_init_1.at 16 rfl) rfl (by decide) rfl rfl ?_
  clear Y ha h
  intro h Y ha
  refine z_dup rfl (TX8_init_1.at 17 rfl) ?_
  refine z_bipush (by decide) (TX8_init_1.at 18 rfl) ?_
  refine z_bipush (by decide) (TX8_init_1.at 19 rfl) ?_
  refine z_bastY (n := 8) Y ha (TX8_init_1.at 20 rfl) rfl (by decide) rfl rfl ?_
  clear Y ha h
  intro h Y ha
  refine z_dup rfl (TX8_init_1.at 21 rfl) ?_
  refine z_bipush (by decide) (TX8_init_1.at 22 rfl) ?_
  refine z_bipush (by decide) (TX8_init_1.at 23 rfl) ?_
  refine z_bastY (n := 9) Y ha (TX8_init_1.at 24 rfl) rfl (by decide) rfl rfl ?_
  clear Y ha h
  intro h Y ha
  refine z_dup rfl (TX8_init_1.at 25 rfl) ?_
  refine z_bipush (by decide) (TX8_init_1.at 26 rfl) ?_
  refine z_bipush (by decide) (TX8_init_1.at 27 rfl) ?_
  refine z_bastY (n := 10) Y ha (TX8_init_1.at 28 rfl) rfl (by decide) rfl rfl ?_
  clear Y ha h
  intro h Y ha
  refine z_dup rfl (TX8_init_1.at 29 rfl) ?_
  refine z_bipush (by decide) (TX8_init_1.at 30 rfl) ?_
  refine z_bipush (by decide) (TX8_init_1.at 31 rfl) ?_
  refine z_bastY (n := 11) Y ha (TX8_init_1.at 32 rfl) rfl (by decide) rfl rfl ?_
  clear Y ha h
  intro h Y ha
  refine z_dup rfl (TX8_init_1.at 33 rfl) ?_
  refine z_bipush (by decide) (TX8_init_1.at 34 rfl) ?_
  refine z_bipush (by decide) (TX8_init_1.at 35 rfl) ?_
  refine z_bastY (n := 12) Y ha (TX8_init_1.at 36 rfl) rfl (by decide) rfl rfl ?_
  clear Y ha h
  intro h Y ha
  refine z_dup rfl (TX8_init_1.at 37 rfl) ?_
  refine z_bipush (by decide) (TX8_init_1.at 38 rfl) ?_
  refine z_bipush (by decide) (TX8_init_1.at 39 rfl) ?_
  refine z_bastY (n := 13) Y ha (TX8_init_2.at 0 rfl) rfl (by decide) rfl rfl ?_
  clear Y ha h
  intro h Y ha
  refine z_dup rfl (TX8_init_2.at 1 rfl) ?_
  refine z_bipush (by decide) (TX8_init_2.at 2 rfl) ?_
  refine z_bipush (by decide) (TX8_init_2.at 3 rfl) ?_
  refine z_bastY (n := 14) Y ha (TX8_init_2.at 4 rfl) rfl (by decide) rfl rfl ?_
  clear Y ha h
  intro h Y ha
  refine z_dup rfl (TX8_init_2.at 5 rfl) ?_
  refine z_bipush (by decide) (TX8_init_2.at 6 rfl) ?_
  refine z_bipush (by decide) (TX8_init_2.at 7 rfl) ?_
  refine z_bastY (n := 15) Y ha (TX8_init_2.at 8 rfl) rfl (by decide) rfl rfl ?_
  clear Y ha h
  intro h Y ha
  refine z_dup rfl (TX8_init_2.at 9 rfl) ?_
  refine z_bipush (by decide) (TX8_init_2.at 10 rfl) ?_
  refine z_bipush (by decide) (TX8_init_2.at 11 rfl) ?_
  refine z_bastY (n := 16) Y ha (TX8_init_2.at 12 rfl) rfl (by decide) rfl rfl ?_
  clear Y ha h
  intro h Y ha
  refine z_dup rfl (TX8_init_2.at 13 rfl) ?_
  refine z_bipush (by decide) (TX8_init_2.at 14 rfl) ?_
  refine z_bipush (by decide) (TX8_init_2.at 15 rfl) ?_
  refine z_bastY (n := 17) Y ha (TX8_init_2.at 16 rfl) rfl (by decide) rfl rfl ?_
  clear Y ha h
  intro h Y ha
  refine z_dup rfl (TX8_init_2.at 17 rfl) ?_
  refine z_bipush (by decide) (TX8_init_2.at 18 rfl) ?_
  refine z_bipush (by decide) (TX8_init_2.at 19 rfl) ?_
  refine z_bastY (n := 18) Y ha (TX8_init_2.at 20 rfl) rfl (by decide) rfl rfl ?_
  clear Y ha h
  intro h Y ha
  refine z_dup rfl (TX8_init_2.at 21 rfl) ?_
  refine z_bipush (by decide) (TX8_init_2.at 22 rfl) ?_
  refine z_bipush (by decide) (TX8_init_2.at 23 rfl) ?_
  refine z_bastY (n := 19) Y ha (TX8_init_2.at 24 rfl) rfl (by decide) rfl rfl ?_
  clear Y ha h
  intro h Y ha
  refine z_dup rfl (TX8_init_2.at 25 rfl) ?_
  refine z_bipush (by decide) (TX8_init_2.at 26 rfl) ?_
  refine z_bipush (by decide) (TX8_init_2.at 27 rfl) ?_
  refine z_bastY (n := 20) Y ha (TX8_init_2.at 28 rfl) rfl (by decide) rfl rfl ?_
  clear Y ha h
  intro h Y ha
  refine z_dup rfl (TX8_init_2.at 29 rfl) ?_
  refine z_bipush (by decide) (TX8_init_2.at 30 rfl) ?_
  refine z_bipush (by decide) (TX8_init_2.at 31 rfl) ?_
  refine z_bastY (n := 21) Y ha (TX8_init_2.at 32 rfl) rfl (by decide) rfl rfl ?_
  clear Y ha h
  intro h Y ha
  refine z_dup rfl (TX8_init_2.at 33 rfl) ?_
  refine z_bipush (by decide) (TX8_init_2.at 34 rfl) ?_
  refine z_bipush (by decide) (TX8_init_2.at 35 rfl) ?_
  refine z_bastY (n := 22) Y ha (TX8_init_2.at 36 rfl) rfl (by decide) rfl rfl ?_
  clear Y ha h
  intro h Y ha
  refine z_dup rfl (TX8_init_2.at 37 rfl) ?_
  refine z_bipush (by decide) (TX8_init_2.at 38 rfl) ?_
  refine z_bipush (by decide) (TX8_init_2.at 39 rfl) ?_
  refine z_bastY (n := 23) Y ha (TX8_init_3.at 0 rfl) rfl (by decide) rfl rfl ?_
  clear Y ha h
  intro h Y ha
  refine z_dup rfl (TX8_init_3.at 1 rfl) ?_
  refine z_bipush (by decide) (TX8_init_3.at 2 rfl) ?_
  refine z_bipush (by decide) (TX8_init_3.at 3 rfl) ?_
  refine z_bastY (n := 24) Y ha (TX8_init_3.at 4 rfl) rfl (by decide) rfl rfl ?_
  clear Y ha h
  intro h Y ha
  refine z_dup rfl (TX8_init_3.at 5 rfl) ?_
  refine z_bipush (by decide) (TX8_init_3.at 6 rfl) ?_
  refine z_bipush (by decide) (TX8_init_3.at 7 rfl) ?_
  refine z_bastY (n := 25) Y ha (TX8_init_3.at 8 rfl) rfl (by decide) rfl rfl ?_
  clear Y ha h
  intro h Y ha
  refine z_dup rfl (TX8_init_3.at 9 rfl) ?_
  refine z_bipush (by decide) (TX8_init_3.at 10 rfl) ?_
  refine z_bipush (by decide) (TX8_init_3.at 11 rfl) ?_
  refine z_bastY (n := 26) Y ha (TX8_init_3.at 12 rfl) rfl (by decide) rfl rfl ?_
  clear Y ha h
  intro h Y ha
  refine z_dup rfl (TX8_init_3.at 13 rfl) ?_
  refine z_bipush (by decide) (TX8_init_3.at 14 rfl) ?_
  refine z_bipush (by decide) (TX8_init_3.at 15 rfl) ?_
  refine z_bastY (n := 27) Y ha (TX8_init_3.at 16 rfl) rfl (by decide) rfl rfl ?_
  clear Y ha h
  intro h Y ha
  refine z_dup rfl (TX8_init_3.at 17 rfl) ?_
  refine z_bipush (by decide) (TX8_init_3.at 18 rfl) ?_
  refine z_bipush (by decide) (TX8_init_3.at 19 rfl) ?_
  refine z_bastY (n := 28) Y ha (TX8_init_3.at 20 rfl) rfl (by decide) rfl rfl ?_
  clear Y ha h
  intro h Y ha
  refine z_dup rfl (TX8_init_3.at 21 rfl) ?_
  refine z_bipush (by decide) (TX8_init_3.at 22 rfl) ?_
  refine z_bipush (by decide) (TX8_init_3.at 23 rfl) ?_
  refine z_bastY (n := 29) Y ha (TX8_init_3.at 24 rfl) rfl (by decide) rfl rfl ?_
  clear Y ha h
  intro h Y ha
  refine z_dup rfl (TX8_init_3.at 25 rfl) ?_
  refine z_bipush (by decide) (TX8_init_3.at 26 rfl) ?_
  refine z_bipush (by decide) (TX8_init_3.at 27 rfl) ?_
  refine z_bastY (n := 30) Y ha (TX8_init_3.at 28 rfl) rfl (by decide) rfl rfl ?_
  clear Y ha h
  intro h Y ha
  refine z_dup rfl (TX8_init_3.at 29 rfl) ?_
  refine z_bipush (by decide) (TX8_init_3.at 30 rfl) ?_
  refine z_bipush (by decide) (TX8_init_3.at 31 rfl) ?_
  refine z_bastY (n := 31) Y ha (TX8_init_3.at 32 rfl) rfl (by decide) rfl rfl ?_
  clear Y ha h
  intro h Y ha
  refine z_dup rfl (TX8_init_3.at 33 rfl) ?_
  refine z_bipush (by decide) (TX8_init_3.at 34 rfl) ?_
  refine z_bipush (by decide) (TX8_init_3.at 35 rfl) ?_
  refine z_bastY (n := 32) Y ha (TX8_init_3.at 36 rfl) rfl (by decide) rfl rfl ?_
  clear Y ha h
  intro h Y ha
  refine z_dup rfl (TX8_init_3.at 37 rfl) ?_
  refine z_bipush (by decide) (TX8_init_3.at 38 rfl) ?_
  refine z_bipush (by decide) (TX8_init_3.at 39 rfl) ?_
  refine z_bastY (n := 33) Y ha (TX8_init_4.at 0 rfl) rfl (by decide) rfl rfl ?_
  clear Y ha h
  intro h Y ha
  refine z_dup rfl (TX8_init_4.at 1 rfl) ?_
  refine z_bipush (by decide) (TX8_init_4.at 2 rfl) ?_
  refine z_bipush (by decide) (TX8_init_4.at 3 rfl) ?_
  refine z_bastY (n := 34) Y ha (TX8_init_4.at 4 rfl) rfl (by decide) rfl rfl ?_
  clear Y ha h
  intro h Y ha
  refine z_dup rfl (TX8_init_4.at 5 rfl) ?_
  refine z_bipush (by decide) (TX8_init_4.at 6 rfl) ?_
  refine z_bipush (by decide) (TX8_init_4.at 7 rfl) ?_
  refine z_bastY (n := 35) Y ha (TX8_init_4.at 8 rfl) rfl (by decide) rfl rfl ?_
  clear Y ha h
  intro h Y ha
  refine z_dup rfl (TX8_init_4.at 9 rfl) ?_
  refine z_bipush (by decide) (TX8_init_4.at 10 rfl) ?_
  refine z_bipush (by decide) (TX8_init_4.at 11 rfl) ?_
  refine z_bastY (n := 36) Y ha (TX8_init_4.at 12 rfl) rfl (by decide) rfl rfl ?_
  clear Y ha h
  intro h Y ha
  refine z_dup rfl (TX8_init_4.at 13 rfl) ?_
  refine z_bipush (by decide) (TX8_init_4.at 14 rfl) ?_
  refine z_bipush (by decide) (TX8_init_4.at 15 rfl) ?_
  refine z_bastY (n := 37) Y ha (TX8_init_4.at 16 rfl) rfl (by decide) rfl rfl ?_
  clear Y ha h
  intro h Y ha
  refine z_dup rfl (TX8_init_4.at 17 rfl) ?_
  refine z_bipush (by decide) (TX8_init_4.at 18 rfl) ?_
  refine z_bipush (by decide) (TX8_init_4.at 19 rfl) ?_
  refine z_bastY (n := 38) Y ha (TX8_init_4.at 20 rfl) rfl (by decide) rfl rfl ?_
  clear Y ha h
  intro h Y ha
  refine z_dup rfl (TX8_init_4.at 21 rfl) ?_
  refine z_bipush (by decide) (TX8_init_4.at 22 rfl) ?_
  refine z_bipush (by decide) (TX8_init_4.at 23 rfl) ?_
  refine z_bastY (n := 39) Y ha (TX8_init_4.at 24 rfl) rfl (by decide) rfl rfl ?_
  clear Y ha h
  intro h Y ha
  refine z_dup rfl (TX8_init_4.at 25 rfl) ?_
  refine z_bipush (by decide) (TX8_init_4.at 26 rfl) ?_
  refine z_bipush (by decide) (TX8_init_4.at 27 rfl) ?_
  refine z_bastY (n := 40) Y ha (TX8_init_4.at 28 rfl) rfl (by decide) rfl rfl ?_
  clear Y ha h
  intro h Y ha
  refine z_dup rfl (TX8_init_4.at 29 rfl) ?_
  refine z_bipush (by decide) (TX8_init_4.at 30 rfl) ?_
  refine z_bipush (by decide) (TX8_init_4.at 31 rfl) ?_
  refine z_bastY (n := 41) Y ha (TX8_init_4.at 32 rfl) rfl (by decide) rfl rfl ?_
  clear Y ha h
  intro h Y ha
  refine z_dup rfl (TX8_init_4.at 33 rfl) ?_
  refine z_bipush (by decide) (TX8_init_4.at 34 rfl) ?_
  refine z_bipush (by decide) (TX8_init_4.at 35 rfl) ?_
  refine z_bastY (n := 42) Y ha (TX8_init_4.at 36 rfl) rfl (by decide) rfl rfl ?_
  clear Y ha h
  intro h Y ha
  refine z_dup rfl (TX8_init_4.at 37 rfl) ?_
  refine z_bipush (by decide) (TX8_init_4.at 38 rfl) ?_
  refine z_bipush (by decide) (TX8_init_4.at 39 rfl) ?_
  refine z_bastY (n := 43) Y ha (TX8_init_5.at 0 rfl) rfl (by decide) rfl rfl ?_
  clear Y ha h
  intro h Y ha
  refine z_dup rfl (TX8_init_5.at 1 rfl) ?_
  refine z_bipush (by decide) (TX8_init_5.at 2 rfl) ?_
  refine z_bipush (by decide) (TX8_init_5.at 3 rfl) ?_
  refine z_bastY (n := 44) Y ha (TX8_init_5.at 4 rfl) rfl (by decide) rfl rfl ?_
  clear Y ha h
  intro h Y ha
  refine z_dup rfl (TX8_init_5.at 5 rfl) ?_
  refine z_bipush (by decide) (TX8_init_5.at 6 rfl) ?_
  refine z_bipush (by decide) (TX8_init_5.at 7 rfl) ?_
  refine z_bastY (n := 45) Y ha (TX8_init_5.at 8 rfl) rfl (by decide) rfl rfl ?_
  clear Y ha h
  intro h Y ha
  refine z_dup rfl (TX8_init_5.at 9 rfl) ?_
  refine z_bipush (by decide) (TX8_init_5.at 10 rfl) ?_
  refine z_bipush (by decide) (TX8_init_5.at 11 rfl) ?_
  refine z_bastY (n := 46) Y ha (TX8_init_5.at 12 rfl) rfl (by decide) rfl rfl ?_
  clear Y ha h
  intro h Y ha
  refine z_dup rfl (TX8_init_5.at 13 rfl) ?_
  refine z_bipush (by decide) (TX8_init_5.at 14 rfl) ?_
  refine z_bipush (by decide) (TX8_init_5.at 15 rfl) ?_
  refine z_bastY (n := 47) Y ha (TX8_init_5.at 16 rfl) rfl (by decide) rfl rfl ?_
  clear Y ha h
  intro h Y ha
  refine z_dup rfl (TX8_init_5.at 17 rfl) ?_
  refine z_bipush (by decide) (TX8_init_5.at 18 rfl) ?_
  refine z_bipush (by decide) (TX8_init_5.at 19 rfl) ?_
  refine z_bastY (n := 48) Y ha (TX8_init_5.at 20 rfl) rfl (by decide) rfl rfl ?_
  clear Y ha h
  intro h Y ha
  refine z_dup rfl (TX8_init_5.at 21 rfl) ?_
  refine z_bipush (by decide) (TX8_init_5.at 22 rfl) ?_
  refine z_bipush (by decide) (TX8_init_5.at 23 rfl) ?_
  refine z_bastY (n := 49) Y ha (TX8_init_5.at 24 rfl) rfl (by decide) rfl rfl ?_
  clear Y ha h
  intro h Y ha
  refine z_dup rfl (TX8_init_5.at 25 rfl) ?_
  refine z_bipush (by decide) (TX8_init_5.at 26 rfl) ?_
  refine z_bipush (by decide) (TX8_init_5.at 27 rfl) ?_
  refine z_bastY (n := 50) Y ha (TX8_init_5.at 28 rfl) rfl (by decide) rfl rfl ?_
  clear Y ha h
  intro h Y ha
  refine z_dup rfl (TX8_init_5.at 29 rfl) ?_
  refine z_bipush (by decide) (TX8_init_5.at 30 rfl) ?_
  refine z_bipush (by decide) (TX8_init_5.at 31 rfl) ?_
  refine z_bastY (n := 51) Y ha (TX8_init_5.at 32 rfl) rfl (by decide) rfl rfl ?_
  clear Y ha h
  intro h Y ha
  refine z_dup rfl (TX8_init_5.at 33 rfl) ?_
  refine z_bipush (by decide) (TX8_init_5.at 34 rfl) ?_
  refine z_bipush (by decide) (TX8_init_5.at 35 rfl) ?_
  refine z_bastY (n := 52) Y ha (TX8_init_5.at 36 rfl) rfl (by decide) rfl rfl ?_
  clear Y ha h
  intro h Y ha
  refine z_dup rfl (TX8_init_5.at 37 rfl) ?_
  refine z_bipush (by decide) (TX8_init_5.at 38 rfl) ?_
  refine z_bipush (by decide) (TX8_init_5.at 39 rfl) ?_
  refine z_bastY (n := 53) Y ha (TX8_init_6.at 0 rfl) rfl (by decide) rfl rfl ?_
  clear Y ha h
  intro h Y ha
  refine z_dup rfl (TX8_init_6.at 1 rfl) ?_
  refine z_bipush (by decide) (TX8_init_6.at 2 rfl) ?_
  refine z_bipush (by decide) (TX8_init_6.at 3 rfl) ?_
  refine z_bastY (n := 54) Y ha (TX8_init_6.at 4 rfl) rfl (by decide) rfl rfl ?_
  clear Y ha h
  intro h Y ha
  refine z_dup rfl (TX8_init_6.at 5 rfl) ?_
  refine z_bipush (by decide) (TX8_init_6.at 6 rfl) ?_
  refine z_bipush (by decide) (TX8_init_6.at 7 rfl) ?_
  refine z_bastY (n := 55) Y ha (TX8_init_6.at 8 rfl) rfl (by decide) rfl rfl ?_
  clear Y ha h
  intro h Y ha
  refine z_dup rfl (TX8_init_6.at 9 rfl) ?_
  refine z_bipush (by decide) (TX8_init_6.at 10 rfl) ?_
  refine z_bipush (by decide) (TX8_init_6.at 11 rfl) ?_
  refine z_bastY (n := 56) Y ha (TX8_init_6.at 12 rfl) rfl (by decide) rfl rfl ?_
  clear Y ha h
  intro h Y ha
  refine z_dup rfl (TX8_init_6.at 13 rfl) ?_
  refine z_bipush (by decide) (TX8_init_6.at 14 rfl) ?_
  refine z_bipush (by decide) (TX8_init_6.at 15 rfl) ?_
  refine z_bastY (n := 57) Y ha (TX8_init_6.at 16 rfl) rfl (by decide) rfl rfl ?_
  clear Y ha h
  intro h Y ha
  refine z_dup rfl (TX8_init_6.at 17 rfl) ?_
  refine z_bipush (by decide) (TX8_init_6.at 18 rfl) ?_
  refine z_bipush (by decide) (TX8_init_6.at 19 rfl) ?_
  refine z_bastY (n := 58) Y ha (TX8_init_6.at 20 rfl) rfl (by decide) rfl rfl ?_
  clear Y ha h
  intro h Y ha
  refine z_dup rfl (TX8_init_6.at 21 rfl) ?_
  refine z_bipush (by decide) (TX8_init_6.at 22 rfl) ?_
  refine z_bipush (by decide) (TX8_init_6.at 23 rfl) ?_
  refine z_bastY (n := 59) Y ha (TX8_init_6.at 24 rfl) rfl (by decide) rfl rfl ?_
  clear Y ha h
  intro h Y ha
  refine z_dup rfl (TX8_init_6.at 25 rfl) ?_
  refine z_bipush (by decide) (TX8_init_6.at 26 rfl) ?_
  refine z_bipush (by decide) (TX8_init_6.at 27 rfl) ?_
  refine z_bastY (n := 60) Y ha (TX8_init_6.at 28 rfl) rfl (by decide) rfl rfl ?_
  clear Y ha h
  intro h Y ha
  refine z_dup rfl (TX8_init_6.at 29 rfl) ?_
  refine z_bipush (by decide) (TX8_init_6.at 30 rfl) ?_
  refine z_bipush (by decide) (TX8_init_6.at 31 rfl) ?_
  refine z_bastY (n := 61) Y ha (TX8_init_6.at 32 rfl) rfl (by decide) rfl rfl ?_
  clear Y ha h
  intro h Y ha
  refine z_dup rfl (TX8_init_6.at 33 rfl) ?_
  refine z_bipush (by decide) (TX8_init_6.at 34 rfl) ?_
  refine z_bipush (by decide) (TX8_init_6.at 35 rfl) ?_
  refine z_bastY (n := 62) Y ha (TX8_init_6.at 36 rfl) rfl (by decide) rfl rfl ?_
  clear Y ha h
  intro h Y ha
  refine z_dup rfl (TX8_init_6.at 37 rfl) ?_
  refine z_bipush (by decide) (TX8_init_6.at 38 rfl) ?_
  refine z_bipush (by decide) (TX8_init_6.at 39 rfl) ?_
  refine z_bastY (n := 63) Y ha (TX8_init_7.at 0 rfl) rfl (by decide) rfl rfl ?_
  clear Y ha h
  intro h Y ha
  refine z_dup rfl (TX8_init_7.at 1 rfl) ?_
  refine z_bipush (by decide) (TX8_init_7.at 2 rfl) ?_
  refine z_bipush (by decide) (TX8_init_7.at 3 rfl) ?_
  refine z_bastY (n := 64) Y ha (TX8_init_7.at 4 rfl) rfl (by decide) rfl rfl ?_
  clear Y ha h
  intro h Y ha
  refine z_dup rfl (TX8_init_7.at 5 rfl) ?_
  refine z_bipush (by decide) (TX8_init_7.at 6 rfl) ?_
  refine z_bipush (by decide) (TX8_init_7.at 7 rfl) ?_
  refine z_bastY (n := 65) Y ha (TX8_init_7.at 8 rfl) rfl (by decide) rfl rfl ?_
  clear Y ha h
  intro h Y ha
  refine z_dup rfl (TX8_init_7.at 9 rfl) ?_
  refine z_bipush (by decide) (TX8_init_7.at 10 rfl) ?_
  refine z_bipush (by decide) (TX8_init_7.at 11 rfl) ?_
  refine z_bastY (n := 66) Y ha (TX8_init_7.at 12 rfl) rfl (by decide) rfl rfl ?_
  clear Y ha h
  intro h Y ha
  refine z_dup rfl (TX8_init_7.at 13 rfl) ?_
  refine z_bipush (by decide) (TX8_init_7.at 14 rfl) ?_
  refine z_bipush (by decide) (TX8_init_7.at 15 rfl) ?_
  refine z_bastY (n := 67) Y ha (TX8_init_7.at 16 rfl) rfl (by decide) rfl rfl ?_
  clear Y ha h
  intro h Y ha
  refine z_dup rfl (TX8_init_7.at 17 rfl) ?_
  refine z_bipush (by decide) (TX8_init_7.at 18 rfl) ?_
  refine z_bipush (by decide) (TX8_init_7.at 19 rfl) ?_
  refine z_bastY (n := 68) Y ha (TX8_init_7.at 20 rfl) rfl (by decide) rfl rfl ?_
  clear Y ha h
  intro h Y ha
  refine z_dup rfl (TX8_init_7.at 21 rfl) ?_
  refine z_bipush (by decide) (TX8_init_7.at 22 rfl) ?_
  refine z_bipush (by decide) (TX8_init_7.at 23 rfl) ?_
  refine z_bastY (n := 69) Y ha (TX8_init_7.at 24 rfl) rfl (by decide) rfl rfl ?_
  clear Y ha h
  intro h Y ha
  refine z_dup rfl (TX8_init_7.at 25 rfl) ?_
  refine z_bipush (by decide) (TX8_init_7.at 26 rfl) ?_
  refine z_bipush (by decide) (TX8_init_7.at 27 rfl) ?_
  refine z_bastY (n := 70) Y ha (TX8_init_7.at 28 rfl) rfl (by decide) rfl rfl ?_
  clear Y ha h
  intro h Y ha
  refine z_dup rfl (TX8_init_7.at 29 rfl) ?_
  refine z_bipush (by decide) (TX8_init_7.at 30 rfl) ?_
  refine z_bipush (by decide) (TX8_init_7.at 31 rfl) ?_
  refine z_bastY (n := 71) Y ha (TX8_init_7.at 32 rfl) rfl (by decide) rfl rfl ?_
  clear Y ha h
  intro h Y ha
  refine z_dup rfl (TX8_init_7.at 33 rfl) ?_
  refine z_bipush (by decide) (TX8_init_7.at 34 rfl) ?_
  refine z_bipush (by decide) (TX8_init_7.at 35 rfl) ?_
  refine z_bastY (n := 72) Y ha (TX8_init_7.at 36 rfl) rfl (by decide) rfl rfl ?_
  clear Y ha h
  intro h Y ha
  refine z_dup rfl (TX8_init_7.at 37 rfl) ?_
  refine z_bipush (by decide) (TX8_init_7.at 38 rfl) ?_
  refine z_bipush (by decide) (TX8_init_7.at 39 rfl) ?_
  refine z_bastY (n := 73) Y ha (TX8_init_8.at 0 rfl) rfl (by decide) rfl rfl ?_
  clear Y ha h
  intro h Y ha
  refine z_dup rfl (TX8_init_8.at 1 rfl) ?_
  refine z_bipush (by decide) (TX8_init_8.at 2 rfl) ?_
  refine z_bipush (by decide) (TX8_init_8.at 3 rfl) ?_
  refine z_bastY (n := 74) Y ha (TX8_init_8.at 4 rfl) rfl (by decide) rfl rfl ?_
  clear Y ha h
  intro h Y ha
  refine z_dup rfl (TX8_init_8.at 5 rfl) ?_
  refine z_bipush (by decide) (TX8_init_8.at 6 rfl) ?_
  refine z_bipush (by decide) (TX8_init_8.at 7 rfl) ?_
  refine z_bastY (n := 75) Y ha (TX8_init_8.at 8 rfl) rfl (by decide) rfl rfl ?_
  clear Y ha h
  intro h Y ha
  refine z_dup rfl (TX8_init_8.at 9 rfl) ?_
  refine z_bipush (by decide) (TX8_init_8.at 10 rfl) ?_
  refine z_bipush (by decide) (TX8_init_8.at 11 rfl) ?_
  refine z_bastY (n := 76) Y ha (TX8_init_8.at 12 rfl) rfl (by decide) rfl rfl ?_
  clear Y ha h
  intro h Y ha
  refine z_dup rfl (TX8_init_8.at 13 rfl) ?_
  refine z_bipush (by decide) (TX8_init_8.at 14 rfl) ?_
  refine z_bipush (by decide) (TX8_init_8.at 15 rfl) ?_
  refine z_bastY (n := 77) Y ha (TX8_init_8.at 16 rfl) rfl (by decide) rfl rfl ?_
  clear Y ha h
  intro h Y ha
  refine z_dup rfl (TX8_init_8.at 17 rfl) ?_
  refine z_bipush (by decide) (TX8_init_8.at 18 rfl) ?_
  refine z_bipush (by decide) (TX8_init_8.at 19 rfl) ?_
  refine z_bastY (n := 78) Y ha (TX8_init_8.at 20 rfl) rfl (by decide) rfl rfl ?_
  clear Y ha h
  intro h Y ha
  refine z_dup rfl (TX8_init_8.at 21 rfl) ?_
  refine z_bipush (by decide) (TX8_init_8.at 22 rfl) ?_
  refine z_bipush (by decide) (TX8_init_8.at 23 rfl) ?_
  refine z_bastY (n := 79) Y ha (TX8_init_8.at 24 rfl) rfl (by decide) rfl rfl ?_
  clear Y ha h
  intro h Y ha
  refine z_dup rfl (TX8_init_8.at 25 rfl) ?_
  refine z_bipush (by decide) (TX8_init_8.at 26 rfl) ?_
  refine z_bipush (by decide) (TX8_init_8.at 27 rfl) ?_
  refine z_bastY (n := 80) Y ha (TX8_init_8.at 28 rfl) rfl (by decide) rfl rfl ?_
  clear Y ha h
  intro h Y ha
  refine z_dup rfl (TX8_init_8.at 29 rfl) ?_
  refine z_bipush (by decide) (TX8_init_8.at 30 rfl) ?_
  refine z_bipush (by decide) (TX8_init_8.at 31 rfl) ?_
  refine z_bastY (n := 81) Y ha (TX8_init_8.at 32 rfl) rfl (by decide) rfl rfl ?_
  clear Y ha h
  intro h Y ha
  refine z_dup rfl (TX8_init_8.at 33 rfl) ?_
  refine z_bipush (by decide) (TX8_init_8.at 34 rfl) ?_
  refine z_bipush (by decide) (TX8_init_8.at 35 rfl) ?_
  refine z_bastY (n := 82) Y ha (TX8_init_8.at 36 rfl) rfl (by decide) rfl rfl ?_
  clear Y ha h
  intro h Y ha
  refine z_dup rfl (TX8_init_8.at 37 rfl) ?_
  refine z_bipush (by decide) (TX8_init_8.at 38 rfl) ?_
  refine z_bipush (by decide) (TX8_init_8.at 39 rfl) ?_
  refine z_bastY (n := 83) Y ha (TX8_init_9.at 0 rfl) rfl (by decide) rfl rfl ?_
  clear Y ha h
  intro h Y ha
  refine z_dup rfl (TX8_init_9.at 1 rfl) ?_
  refine z_bipush (by decide) (TX8_init_9.at 2 rfl) ?_
  refine z_bipush (by decide) (TX8_init_9.at 3 rfl) ?_
  refine z_bastY (n := 84) Y ha (TX8_init_9.at 4 rfl) rfl (by decide) rfl rfl ?_
  clear Y ha h
  intro h Y ha
  refine z_dup rfl (TX8_init_9.at 5 rfl) ?_
  refine z_bipush (by decide) (TX8_init_9.at 6 rfl) ?_
  refine z_bipush (by decide) (TX8_init_9.at 7 rfl) ?_
  refine z_bastY (n := 85) Y ha (TX8_init_9.at 8 rfl) rfl (by decide) rfl rfl ?_
  clear Y ha h
  intro h Y ha
  refine z_dup rfl (TX8_init_9.at 9 rfl) ?_
  refine z_bipush (by decide) (TX8_init_9.at 10 rfl) ?_
  refine z_bipush (by decide) (TX8_init_9.at 11 rfl) ?_
  refine z_bastY (n := 86) Y ha (TX8_init_9.at 12 rfl) rfl (by decide) rfl rfl ?_
  clear Y ha h
  intro h Y ha
  refine z_dup rfl (TX8_init_9.at 13 rfl) ?_
  refine z_bipush (by decide) (TX8_init_9.at 14 rfl) ?_
  refine z_bipush (by decide) (TX8_init_9.at 15 rfl) ?_
  refine z_bastY (n := 87) Y ha (TX8_init_9.at 16 rfl) rfl (by decide) rfl rfl ?_
  clear Y ha h
  intro h Y ha
  refine z_dup rfl (TX8_init_9.at 17 rfl) ?_
  refine z_bipush (by decide) (TX8_init_9.at 18 rfl) ?_
  refine z_bipush (by decide) (TX8_init_9.at 19 rfl) ?_
  refine z_bastY (n := 88) Y ha (TX8_init_9.at 20 rfl) rfl (by decide) rfl rfl ?_
  clear Y ha h
  intro h Y ha
  refine z_dup rfl (TX8_init_9.at 21 rfl) ?_
  refine z_bipush (by decide) (TX8_init_9.at 22 rfl) ?_
  refine z_bipush (by decide) (TX8_init_9.at 23 rfl) ?_
  refine z_bastY (n := 89) Y ha (TX8_init_9.at 24 rfl) rfl (by decide) rfl rfl ?_
  clear Y ha h
  intro h Y ha
  refine z_dup rfl (TX8_init_9.at 25 rfl) ?_
  refine z_bipush (by decide) (TX8_init_9.at 26 rfl) ?_
  refine z_bipush (by decide) (TX8_init_9.at 27 rfl) ?_
  refine z_bastY (n := 90) Y ha (TX8_init_9.at 28 rfl) rfl (by decide) rfl rfl ?_
  clear Y ha h
  intro h Y ha
  refine z_dup rfl (TX8_init_9.at 29 rfl) ?_
  refine z_bipush (by decide) (TX8_init_9.at 30 rfl) ?_
  refine z_bipush (by decide) (TX8_init_9.at 31 rfl) ?_
  refine z_bastY (n := 91) Y ha (TX8_init_9.at 32 rfl) rfl (by decide) rfl rfl ?_
  clear Y ha h
  intro h Y ha
  refine z_dup rfl (TX8_init_9.at 33 rfl) ?_
  refine z_bipush (by decide) (TX8_init_9.at 34 rfl) ?_
  refine z_bipush (by decide) (TX8_init_9.at 35 rfl) ?_
  refine z_bastY (n := 92) Y ha (TX8_init_9.at 36 rfl) rfl (by decide) rfl rfl ?_
  clear Y ha h
  intro h Y ha
  refine z_dup rfl (TX8_init_9.at 37 rfl) ?_
  refine z_bipush (by decide) (TX8_init_9.at 38 rfl) ?_
  refine z_bipush (by decide) (TX8_init_9.at 39 rfl) ?_
  refine z_bastY (n := 93) Y ha (TX8_init_10.at 0 rfl) rfl (by decide) rfl rfl ?_
  clear Y ha h
  intro h Y ha
  refine z_dup rfl (TX8_init_10.at 1 rfl) ?_
  refine z_bipush (by decide) (TX8_init_10.at 2 rfl) ?_
  refine z_bipush (by decide) (TX8_init_10.at 3 rfl) ?_
  refine z_bastY (n := 94) Y ha (TX8_init_10.at 4 rfl) rfl (by decide) rfl rfl ?_
  clear Y ha h
  intro h Y ha
  refine z_dup rfl (TX8_init_10.at 5 rfl) ?_
  refine z_bipush (by decide) (TX8_init_10.at 6 rfl) ?_
  refine z_bipush (by decide) (TX8_init_10.at 7 rfl) ?_
  refine z_bastY (n := 95) Y ha (TX8_init_10.at 8 rfl) rfl (by decide) rfl rfl ?_
  clear Y ha h
  intro h Y ha
  refine z_dup rfl (TX8_init_10.at 9 rfl) ?_
  refine z_bipush (by decide) (TX8_init_10.at 10 rfl) ?_
  refine z_bipush (by decide) (TX8_init_10.at 11 rfl) ?_
  refine z_bastY (n := 96) Y ha (TX8_init_10.at 12 rfl) rfl (by decide) rfl rfl ?_
  clear Y ha h
  intro h Y ha
  refine z_dup rfl (TX8_init_10.at 13 rfl) ?_
  refine z_bipush (by decide) (TX8_init_10.at 14 rfl) ?_
  refine z_bipush (by decide) (TX8_init_10.at 15 rfl) ?_
  refine z_bastY (n := 97) Y ha (TX8_init_10.at 16 rfl) rfl (by decide) rfl rfl ?_
  clear Y ha h
  intro h Y ha
  refine z_dup rfl (TX8_init_10.at 17 rfl) ?_
  refine z_bipush (by decide) (TX8_init_10.at 18 rfl) ?_
  refine z_bipush (by decide) (TX8_init_10.at 19 rfl) ?_
  refine z_bastY (n := 98) Y ha (TX8_init_10.at 20 rfl) rfl (by decide) rfl rfl ?_
  clear Y ha h
  intro h Y ha
  refine z_dup rfl (TX8_init_10.at 21 rfl) ?_
  refine z_bipush (by decide) (TX8_init_10.at 22 rfl) ?_
  refine z_bipush (by decide) (TX8_init_10.at 23 rfl) ?_
  refine z_bastY (n := 99) Y ha (TX8_init_10.at 24 rfl) rfl (by decide) rfl rfl ?_
  clear Y ha h
  intro h Y ha
  refine z_dup rfl (TX8_init_10.at 25 rfl) ?_
  refine z_bipush (by decide) (TX8_init_10.at 26 rfl) ?_
  refine z_bipush (by decide) (TX8_init_10.at 27 rfl) ?_
  refine z_bastY (n := 100) Y ha (TX8_init_10.at 28 rfl) rfl (by decide) rfl rfl ?_
  clear Y ha h
  intro h Y ha
  refine z_dup rfl (TX8_init_10.at 29 rfl) ?_
  refine z_bipush (by decide) (TX8_init_10.at 30 rfl) ?_
  refine z_bipush (by decide) (TX8_init_10.at 31 rfl) ?_
  refine z_bastY (n := 101) Y ha (TX8_init_10.at 32 rfl) rfl (by decide) rfl rfl ?_
  clear Y ha h
  intro h Y ha
  refine z_dup rfl (TX8_init_10.at 33 rfl) ?_
  refine z_bipush (by decide) (TX8_init_10.at 34 rfl) ?_
  refine z_bipush (by decide) (TX8_init_10.at 35 rfl) ?_
  refine z_bastY (n := 102) Y ha (TX8_init_10.at 36 rfl) rfl (by decide) rfl rfl ?_
  clear Y ha h
  intro h Y ha
  refine z_dup rfl (TX8_init_10.at 37 rfl) ?_
  refine z_bipush (by decide) (TX8_init_10.at 38 rfl) ?_
  refine z_bipush (by decide) (TX8_init_10.at 39 rfl) ?_
  refine z_bastY (n := 103) Y ha (TX8_init_11.at 0 rfl) rfl (by decide) rfl rfl ?_
  clear Y ha h
  intro h Y ha
  refine z_dup rfl (TX8_init_11.at 1 rfl) ?_
  refine z_bipush (by decide) (TX8_init_11.at 2 rfl) ?_
  refine z_bipush (by decide) (TX8_init_11.at 3 rfl) ?_
  refine z_bastY (n := 104) Y ha (TX8_init_11.at 4 rfl) rfl (by decide) rfl rfl ?_
  clear Y ha h
  intro h Y ha
  refine z_dup rfl (TX8_init_11.at 5 rfl) ?_
  refine z_bipush (by decide) (TX8_init_11.at 6 rfl) ?_
  refine z_bipush (by decide) (TX8_init_11.at 7 rfl) ?_
  refine z_bastY (n := 105) Y ha (TX8_init_11.at 8 rfl) rfl (by decide) rfl rfl ?_
  clear Y ha h
  intro h Y ha
  refine z_dup rfl (TX8_init_11.at 9 rfl) ?_
  refine z_bipush (by decide) (TX8_init_11.at 10 rfl) ?_
  refine z_bipush (by decide) (TX8_init_11.at 11 rfl) ?_
  refine z_bastY (n := 106) Y ha (TX8_init_11.at 12 rfl) rfl (by decide) rfl rfl ?_
  clear Y ha h
  intro h Y ha
  refine z_dup rfl (TX8_init_11.at 13 rfl) ?_
  refine z_bipush (by decide) (TX8_init_11.at 14 rfl) ?_
  refine z_bipush (by decide) (TX8_init_11.at 15 rfl) ?_
  refine z_bastY (n := 107) Y ha (TX8_init_11.at 16 rfl) rfl (by decide) rfl rfl ?_
  clear Y ha h
  intro h Y ha
  refine z_dup rfl (TX8_init_11.at 17 rfl) ?_
  refine z_bipush (by decide) (TX8_init_11.at 18 rfl) ?_
  refine z_bipush (by decide) (TX8_init_11.at 19 rfl) ?_
  refine z_bastY (n := 108) Y ha (TX8_init_11.at 20 rfl) rfl (by decide) rfl rfl ?_
  clear Y ha h
  intro h Y ha
  refine z_dup rfl (TX8_init_11.at 21 rfl) ?_
  refine z_bipush (by decide) (TX8_init_11.at 22 rfl) ?_
  refine z_bipush (by decide) (TX8_init_11.at 23 rfl) ?_
  refine z_bastY (n := 109) Y ha (TX8_init_11.at 24 rfl) rfl (by decide) rfl rfl ?_
  clear Y ha h
  intro h Y ha
  refine z_dup rfl (TX8_init_11.at 25 rfl) ?_
  refine z_bipush (by decide) (TX8_init_11.at 26 rfl) ?_
  refine z_bipush (by decide) (TX8_init_11.at 27 rfl) ?_
  refine z_bastY (n := 110) Y ha (TX8_init_11.at 28 rfl) rfl (by decide) rfl rfl ?_
  clear Y ha h
  intro h Y ha
  refine z_dup rfl (TX8_init_11.at 29 rfl) ?_
  refine z_bipush (by decide) (TX8_init_11.at 30 rfl) ?_
  refine z_bipush (by decide) (TX8_init_11.at 31 rfl) ?_
  refine z_bastY (n := 111) Y ha (TX8_init_11.at 32 rfl) rfl (by decide) rfl rfl ?_
  clear Y ha h
  intro h Y ha
  refine z_dup rfl (TX8_init_11.at 33 rfl) ?_
  refine z_bipush (by decide) (TX8_init_11.at 34 rfl) ?_
  refine z_bipush (by decide) (TX8_init_11.at 35 rfl) ?_
  refine z_bastY (n := 112) Y ha (TX8_init_11.at 36 rfl) rfl (by decide) rfl rfl ?_
  clear Y ha h
  intro h Y ha
  refine z_dup rfl (TX8_init_11.at 37 rfl) ?_
  refine z_bipush (by decide) (TX8_init_11.at 38 rfl) ?_
  refine z_bipush (by decide) (TX8_init_11.at 39 rfl) ?_
  refine z_bastY (n := 113) Y ha (TX8_init_12.at 0 rfl) rfl (by decide) rfl rfl ?_
  clear Y ha h
  intro h Y ha
  refine z_dup rfl (TX8_init_12.at 1 rfl) ?_
  refine z_bipush (by decide) (TX8_init_12.at 2 rfl) ?_
  refine z_bipush (by decide) (TX8_init_12.at 3 rfl) ?_
  refine z_bastY (n := 114) Y ha (TX8_init_12.at 4 rfl) rfl (by decide) rfl rfl ?_
  clear Y ha h
  intro h Y ha
  refine z_dup rfl (TX8_init_12.at 5 rfl) ?_
  refine z_bipush (by decide) (TX8_init_12.at 6 rfl) ?_
  refine z_bipush (by decide) (TX8_init_12.at 7 rfl) ?_
  refine z_bastY (n := 115) Y ha (TX8_init_12.at 8 rfl) rfl (by decide) rfl rfl ?_
  clear Y ha h
  intro h Y ha
  refine z_dup rfl (TX8_init_12.at 9 rfl) ?_
  refine z_bipush (by decide) (TX8_init_12.at 10 rfl) ?_
  refine z_bipush (by decide) (TX8_init_12.at 11 rfl) ?_
  refine z_bastY (n := 116) Y ha (TX8_init_12.at 12 rfl) rfl (by decide) rfl rfl ?_
  clear Y ha h
  intro h Y ha
  refine z_dup rfl (TX8_init_12.at 13 rfl) ?_
  refine z_bipush (by decide) (TX8_init_12.at 14 rfl) ?_
  refine z_bipush (by decide) (TX8_init_12.at 15 rfl) ?_
  refine z_bastY (n := 117) Y ha (TX8_init_12.at 16 rfl) rfl (by decide) rfl rfl ?_
  clear Y ha h
  intro h Y ha
  refine z_dup rfl (TX8_init_12.at 17 rfl) ?_
  refine z_bipush (by decide) (TX8_init_12.at 18 rfl) ?_
  refine z_bipush (by decide) (TX8_init_12.at 19 rfl) ?_
  refine z_bastY (n := 118) Y ha (TX8_init_12.at 20 rfl) rfl (by decide) rfl rfl ?_
  clear Y ha h
  intro h Y ha
  refine z_dup rfl (TX8_init_12.at 21 rfl) ?_
  refine z_bipush (by decide) (TX8_init_12.at 22 rfl) ?_
  refine z_bipush (by decide) (TX8_init_12.at 23 rfl) ?_
  refine z_bastY (n := 119) Y ha (TX8_init_12.at 24 rfl) rfl (by decide) rfl rfl ?_
  clear Y ha h
  intro h Y ha
  refine z_dup rfl (TX8_init_12.at 25 rfl) ?_
  refine z_bipush (by decide) (TX8_init_12.at 26 rfl) ?_
  refine z_bipush (by decide) (TX8_init_12.at 27 rfl) ?_
  refine z_bastY (n := 120) Y ha (TX8_init_12.at 28 rfl) rfl (by decide) rfl rfl ?_
  clear Y ha h
  intro h Y ha
  refine z_dup rfl (TX8_init_12.at 29 rfl) ?_
  refine z_bipush (by decide) (TX8_init_12.at 30 rfl) ?_
  refine z_bipush (by decide) (TX8_init_12.at 31 rfl) ?_
  refine z_bastY (n := 121) Y ha (TX8_init_12.at 32 rfl) rfl (by decide) rfl rfl ?_
  clear Y ha h
  intro h Y ha
  refine z_dup rfl (TX8_init_12.at 33 rfl) ?_
  refine z_bipush (by decide) (TX8_init_12.at 34 rfl) ?_
  refine z_bipush (by decide) (TX8_init_12.at 35 rfl) ?_
  refine z_bastY (n := 122) Y ha (TX8_init_12.at 36 rfl) rfl (by decide) rfl rfl ?_
  clear Y ha h
  intro h Y ha
  refine z_dup rfl (TX8_init_12.at 37 rfl) ?_
  refine z_bipush (by decide) (TX8_init_12.at 38 rfl) ?_
  refine z_bipush (by decide) (TX8_init_12.at 39 rfl) ?_
  refine z_bastY (n := 123) Y ha (TX8_init_13.at 0 rfl) rfl (by decide) rfl rfl ?_
  clear Y ha h
  intro h Y ha
  refine z_dup rfl (TX8_init_13.at 1 rfl) ?_
  refine z_bipush (by decide) (TX8_init_13.at 2 rfl) ?_
  refine z_bipush (by decide) (TX8_init_13.at 3 rfl) ?_
  refine z_bastY (n := 124) Y ha (TX8_init_13.at 4 rfl) rfl (by decide) rfl rfl ?_
  clear Y ha h
  intro h Y ha
  refine z_dup rfl (TX8_init_13.at 5 rfl) ?_
  refine z_bipush (by decide) (TX8_init_13.at 6 rfl) ?_
  refine z_bipush (by decide) (TX8_init_13.at 7 rfl) ?_
  refine z_bastY (n := 125) Y ha (TX8_init_13.at 8 rfl) rfl (by decide) rfl rfl ?_
  clear Y ha h
  intro h Y ha
  refine z_dup rfl (TX8_init_13.at 9 rfl) ?_
  refine z_bipush (by decide) (TX8_init_13.at 10 rfl) ?_
  refine z_bipush (by decide) (TX8_init_13.at 11 rfl) ?_
  refine z_bastY (n := 126) Y ha (TX8_init_13.at 12 rfl) rfl (by decide) rfl rfl ?_
  clear Y ha h
  intro h Y ha
  refine z_dup rfl (TX8_init_13.at 13 rfl) ?_
  refine z_bipush (by decide) (TX8_init_13.at 14 rfl) ?_
  refine z_bipush (by decide) (TX8_init_13.at 15 rfl) ?_
  refine z_bastY (n := 127) Y ha (TX8_init_13.at 16 rfl) rfl (by decide) rfl rfl ?_
  clear Y ha h
  intro h Y ha
  refine z_dup rfl (TX8_init_13.at 17 rfl) ?_
  refine z_sipush (by decide) (TX8_init_13.at 18 rfl) ?_
  refine z_bipush (by decide) (TX8_init_13.at 19 rfl) ?_
  refine z_bastY (n := 128) Y ha (TX8_init_13.at 20 rfl) rfl (by decide) rfl rfl ?_
  clear Y ha h
  intro h Y ha
  refine z_dup rfl (TX8_init_13.at 21 rfl) ?_
  refine z_sipush (by decide) (TX8_init_13.at 22 rfl) ?_
  refine z_bipush (by decide) (TX8_init_13.at 23 rfl) ?_
  refine z_bastY (n := 129) Y ha (TX8_init_13.at 24 rfl) rfl (by decide) rfl rfl ?_
  clear Y ha h
  intro h Y ha
  refine z_dup rfl (TX8_init_13.at 25 rfl) ?_
  refine z_sipush (by decide) (TX8_init_13.at 26 rfl) ?_
  refine z_bipush (by decide) (TX8_init_13.at 27 rfl) ?_
  refine z_bastY (n := 130) Y ha (TX8_init_13.at 28 rfl) rfl (by decide) rfl rfl ?_
  clear Y ha h
  intro h Y ha
  refine z_dup rfl (TX8_init_13.at 29 rfl) ?_
  refine z_sipush (by decide) (TX8_init_13.at 30 rfl) ?_
  refine z_bipush (by decide) (TX8_init_13.at 31 rfl) ?_
  refine z_bastY (n := 131) Y ha (TX8_init_13.at 32 rfl) rfl (by decide) rfl rfl ?_
  clear Y ha h
  intro h Y ha
  refine z_dup rfl (TX8_init_13.at 33 rfl) ?_
  refine z_sipush (by decide) (TX8_init_13.at 34 rfl) ?_
  refine z_bipush (by decide) (TX8_init_13.at 35 rfl) ?_
  refine z_bastY (n := 132) Y ha (TX8_init_13.at 36 rfl) rfl (by decide) rfl rfl ?_
  clear Y ha h
  intro h Y ha
  refine z_dup rfl (TX8_init_13.at 37 rfl) ?_
  refine z_sipush (by decide) (TX8_init_13.at 38 rfl) ?_
  refine z_bipush (by decide) (TX8_init_13.at 39 rfl) ?_
  refine z_bastY (n := 133) Y ha (TX8_init_14.at 0 rfl) rfl (by decide) rfl rfl ?_
  clear Y ha h
  intro h Y ha
  refine z_pF (TX8_init_14.at 1 rfl) fp8_41 rfl ha (Nat.le_of_ble_eq_true rfl) rfl rfl (fun h1 e1 e2 => ?_)
  have Y1 := Y.put e2
  clear Y ha e2 h
  have Y := Y1; have ha := e1; clear Y1 e1
  revert h1
  intro h Y ha
  replace ha : h a = some (.inr (8, [vI 0, .ref q1, .ref q2, .ref q3, .ref q4, .ref q5, vI 0, .ref q7, vI 0, vI 0, vI 0, .null, .null, vI 0, vI 0, .null, .null, .null, vI 0, vI 0, vI 0, vI 0, vI 0, vI 0, vI 0, vI 0, .null, vI 0, vI 0, vI 0, .null, .null, .null, vI 0, .null, .null, vI 0, .null, .null, .null, vI 0, vI 0, vI 0, vI 0, vI 0, vI 0, .null, .null, vI 0, vI 0])) := ha
  refine z_ald_0 (TX8_init_14.at 2 rfl) ?_
  refine z_sipush (by decide) (TX8_init_14.at 3 rfl) ?_
  refine z_newB (TX8_init_14.at 4 rfl) ac2 (by decide) (by decide) (by omega) (by omega) (fun q11 h1 hn e1 e2 => ?_)
  have Y1 := Y.new (s := 11) (e := .inl (2, 400, .inl (fun _ => 0))) ha hn e1 e2
  have ha1 := (e2 a (ne_so ha hn).symm).trans ha
  clear Y ha hn e1 e2 h
  have Y := Y1; have ha := ha1; clear Y1 ha1
  revert h1
  intro h Y ha
  show Z l MX8_init d _ _ _ _ _ _ h _ (_ - 400)
  refine z_pF (TX8_init_14.at 5 rfl) fp8_45 rfl ha (Nat.le_of_ble_eq_true rfl) rfl rfl (fun h1 e1 e2 => ?_)
  have Y1 := Y.put e2
  clear Y ha e2 h
  have Y := Y1; have ha := e1; clear Y1 e1
  revert h1
  intro h Y ha
  replace ha : h a = some (.inr (8, [vI 0, .ref q1, .ref q2, .ref q3, .ref q4, .ref q5, vI 0, .ref q7, vI 0, vI 0, vI 0, .ref q11, .null, vI 0, vI 0, .null, .null, .null, vI 0, vI 0, vI 0, vI 0, vI 0, vI 0, vI 0, vI 0, .null, vI 0, vI 0, vI 0, .null, .null, .null, vI 0, .null, .null, vI 0, .null, .null, .null, vI 0, vI 0, vI 0, vI 0, vI 0, vI 0, .null, .null, vI 0, vI 0])) := ha
  refine z_ald_0 (TX8_init_14.at 6 rfl) ?_
  refine z_iconst (TX8_init_14.at 7 rfl) ?_
  refine z_newI (TX8_init_14.at 8 rfl) ac0 (by decide) (by decide) (by omega) (by omega) (fun q12 h1 hn e1 e2 => ?_)
  have Y1 := Y.new (s := 12) (e := .inl (0, 5, .inl (fun _ => 0))) ha hn e1 e2
  have ha1 := (e2 a (ne_so ha hn).symm).trans ha
  clear Y ha hn e1 e2 h
  have Y := Y1; have ha := ha1; clear Y1 ha1
  revert h1
  intro h Y ha
  show Z l MX8_init d _ _ _ _ _ _ h _ (_ - 5)
  refine z_pF (TX8_init_14.at 9 rfl) fp8_48 rfl ha (Nat.le_of_ble_eq_true rfl) rfl rfl (fun h1 e1 e2 => ?_)
  have Y1 := Y.put e2
  clear Y ha e2 h
  have Y := Y1; have ha := e1; clear Y1 e1
  revert h1
  intro h Y ha
  replace ha : h a = some (.inr (8, [vI 0, .ref q1, .ref q2, .ref q3, .ref q4, .ref q5, vI 0, .ref q7, vI 0, vI 0, vI 0, .ref q11, .ref q12, vI 0, vI 0, .null, .null, .null, vI 0, vI 0, vI 0, vI 0, vI 0, vI 0, vI 0, vI 0, .null, vI 0, vI 0, vI 0, .null, .null, .null, vI 0, .null, .null, vI 0, .null, .null, .null, vI 0, vI 0, vI 0, vI 0, vI 0, vI 0, .null, .null, vI 0, vI 0])) := ha
  refine z_ald_0 (TX8_init_14.at 10 rfl) ?_
  refine z_iconst (TX8_init_14.at 11 rfl) ?_
  refine z_pf (TX8_init_14.at 12 rfl) fp8_51 ha (Nat.le_of_ble_eq_true rfl) rfl rfl (fun h1 e1 e2 => ?_)
  have Y1 := Y.put e2
  clear Y ha e2 h
  have Y := Y1; have ha := e1; clear Y1 e1
  revert h1
  intro h Y ha
  replace ha : h a = some (.inr (8, [vI 0, .ref q1, .ref q2, .ref q3, .ref q4, .ref q5, vI 0, .ref q7, vI 0, vI 0, vI 0, .ref q11, .ref q12, vI 0, vI (-1), .null, .null, .null, vI 0, vI 0, vI 0, vI 0, vI 0, vI 0, vI 0, vI 0, .null, vI 0, vI 0, vI 0, .null, .null, .null, vI 0, .null, .null, vI 0, .null, .null, .null, vI 0, vI 0, vI 0, vI 0, vI 0, vI 0, .null, .null, vI 0, vI 0])) := ha
  refine z_ald_0 (TX8_init_14.at 13 rfl) ?_
  refine z_sipush (by decide) (TX8_init_14.at 14 rfl) ?_
  refine z_newI (TX8_init_14.at 15 rfl) ac0 (by decide) (by decide) (by omega) (by omega) (fun q15 h1 hn e1 e2 => ?_)
  have Y1 := Y.new (s := 15) (e := .inl (0, 401, .inl (fun _ => 0))) ha hn e1 e2
  have ha1 := (e2 a (ne_so ha hn).symm).trans ha
  clear Y ha hn e1 e2 h
  have Y := Y1; have ha := ha1; clear Y1 ha1
  revert h1
  intro h Y ha
  show Z l MX8_init d _ _ _ _ _ _ h _ (_ - 401)
  refine z_pF (TX8_init_14.at 16 rfl) fp8_54 rfl ha (Nat.le_of_ble_eq_true rfl) rfl rfl (fun h1 e1 e2 => ?_)
  have Y1 := Y.put e2
  clear Y ha e2 h
  have Y := Y1; have ha := e1; clear Y1 e1
  revert h1
  intro h Y ha
  replace ha : h a = some (.inr (8, [vI 0, .ref q1, .ref q2, .ref q3, .ref q4, .ref q5, vI 0, .ref q7, vI 0, vI 0, vI 0, .ref q11, .ref q12, vI 0, vI (-1), .ref q15, .null, .null, vI 0, vI 0, vI 0, vI 0, vI 0, vI 0, vI 0, vI 0, .null, vI 0, vI 0, vI 0, .null, .null, .null, vI 0, .null, .null, vI 0, .null, .null, .null, vI 0, vI 0, vI 0, vI 0, vI 0, vI 0, .null, .null, vI 0, vI 0])) := ha
  refine z_ald_0 (TX8_init_14.at 17 rfl) ?_
  refine z_sipush (by decide) (TX8_init_14.at 18 rfl) ?_
  refine z_newI (TX8_init_14.at 19 rfl) ac0 (by decide) (by decide) (by omega) (by omega) (fun q16 h1 hn e1 e2 => ?_)
  have Y1 := Y.new (s := 16) (e := .inl (0, 401, .inl (fun _ => 0))) ha hn e1 e2
  have ha1 := (e2 a (ne_so ha hn).symm).trans ha
  clear Y ha hn e1 e2 h
  have Y := Y1; have ha := ha1; clear Y1 ha1
  revert h1
  intro h Y ha
  show Z l MX8_init d _ _ _ _ _ _ h _ (_ - 401)
  refine z_pF (TX8_init_14.at 20 rfl) fp8_57 rfl ha (Nat.le_of_ble_eq_true rfl) rfl rfl (fun h1 e1 e2 => ?_)
  have Y1 := Y.put e2
  clear Y ha e2 h
  have Y := Y1; have ha := e1; clear Y1 e1
  revert h1
  intro h Y ha
  replace ha : h a = some (.inr (8, [vI 0, .ref q1, .ref q2, .ref q3, .ref q4, .ref q5, vI 0, .ref q7, vI 0, vI 0, vI 0, .ref q11, .ref q12, vI 0, vI (-1), .ref q15, .ref q16, .null, vI 0, vI 0, vI 0, vI 0, vI 0, vI 0, vI 0, vI 0, .null, vI 0, vI 0, vI 0, .null, .null, .null, vI 0, .null, .null, vI 0, .null, .null, .null, vI 0, vI 0, vI 0, vI 0, vI 0, vI 0, .null, .null, vI 0, vI 0])) := ha
  refine z_ald_0 (TX8_init_14.at 21 rfl) ?_
  refine z_sipush (by decide) (TX8_init_14.at 22 rfl) ?_
  refine z_newI (TX8_init_14.at 23 rfl) ac0 (by decide) (by decide) (by omega) (by omega) (fun q17 h1 hn e1 e2 => ?_)
  have Y1 := Y.new (s := 17) (e := .inl (0, 401, .inl (fun _ => 0))) ha hn e1 e2
  have ha1 := (e2 a (ne_so ha hn).symm).trans ha
  clear Y ha hn e1 e2 h
  have Y := Y1; have ha := ha1; clear Y1 ha1
  revert h1
  intro h Y ha
  show Z l MX8_init d _ _ _ _ _ _ h _ (_ - 401)
  refine z_pF (TX8_init_14.at 24 rfl) fp8_60 rfl ha (Nat.le_of_ble_eq_true rfl) rfl rfl (fun h1 e1 e2 => ?_)
  have Y1 := Y.put e2
  clear Y ha e2 h
  have Y := Y1; have ha := e1; clear Y1 e1
  revert h1
  intro h Y ha
  replace ha : h a = some (.inr (8, [vI 0, .ref q1, .ref q2, .ref q3, .ref q4, .ref q5, vI 0, .ref q7, vI 0, vI 0, vI 0, .ref q11, .ref q12, vI 0, vI (-1), .ref q15, .ref q16, .ref q17, vI 0, vI 0, vI 0, vI 0, vI 0, vI 0, vI 0, vI 0, .null, vI 0, vI 0, vI 0, .null, .null, .null, vI 0, .null, .null, vI 0, .null, .null, .null, vI 0, vI 0, vI 0, vI 0, vI 0, vI 0, .null, .null, vI 0, vI 0])) := ha
  refine z_ald_0 (TX8_init_14.at 25 rfl) ?_
  refine z_bipush (by decide) (TX8_init_14.at 26 rfl) ?_
  refine z_newI (TX8_init_14.at 27 rfl) ac0 (by decide) (by decide) (by omega) (by omega) (fun q26 h1 hn e1 e2 => ?_)
  have Y1 := Y.new (s := 26) (e := .inl (0, 9, .inl (fun _ => 0))) ha hn e1 e2
  have ha1 := (e2 a (ne_so ha hn).symm).trans ha
  clear Y ha hn e1 e2 h
  have Y := Y1; have ha := ha1; clear Y1 ha1
  revert h1
  intro h Y ha
  show Z l MX8_init d _ _ _ _ _ _ h _ (_ - 9)
  refine z_pF (TX8_init_14.at 28 rfl) fp8_63 rfl ha (Nat.le_of_ble_eq_true rfl) rfl rfl (fun h1 e1 e2 => ?_)
  have Y1 := Y.put e2
  clear Y ha e2 h
  have Y := Y1; have ha := e1; clear Y1 e1
  revert h1
  intro h Y ha
  replace ha : h a = some (.inr (8, [vI 0, .ref q1, .ref q2, .ref q3, .ref q4, .ref q5, vI 0, .ref q7, vI 0, vI 0, vI 0, .ref q11, .ref q12, vI 0, vI (-1), .ref q15, .ref q16, .ref q17, vI 0, vI 0, vI 0, vI 0, vI 0, vI 0, vI 0, vI 0, .ref q26, vI 0, vI 0, vI 0, .null, .null, .null, vI 0, .null, .null, vI 0, .null, .null, .null, vI 0, vI 0, vI 0, vI 0, vI 0, vI 0, .null, .null, vI 0, vI 0])) := ha
  refine z_ald_0 (TX8_init_14.at 29 rfl) ?_
  refine z_bipush (by decide) (TX8_init_14.at 30 rfl) ?_
  refine z_newI (TX8_init_14.at 31 rfl) ac0 (by decide) (by decide) (by omega) (by omega) (fun q30 h1 hn e1 e2 => ?_)
  have Y1 := Y.new (s := 30) (e := .inl (0, 10, .inl (fun _ => 0))) ha hn e1 e2
  have ha1 := (e2 a (ne_so ha hn).symm).trans ha
  clear Y ha hn e1 e2 h
  have Y := Y1; have ha := ha1; clear Y1 ha1
  revert h1
  intro h Y ha
  show Z l MX8_init d _ _ _ _ _ _ h _ (_ - 10)
  refine z_pF (TX8_init_14.at 32 rfl) fp8_66 rfl ha (Nat.le_of_ble_eq_true rfl) rfl rfl (fun h1 e1 e2 => ?_)
  have Y1 := Y.put e2
  clear Y ha e2 h
  have Y := Y1; have ha := e1; clear Y1 e1
  revert h1
  intro h Y ha
  replace ha : h a = some (.inr (8, [vI 0, .ref q1, .ref q2, .ref q3, .ref q4, .ref q5, vI 0, .ref q7, vI 0, vI 0, vI 0, .ref q11, .ref q12, vI 0, vI (-1), .ref q15, .ref q16, .ref q17, vI 0, vI 0, vI 0, vI 0, vI 0, vI 0, vI 0, vI 0, .ref q26, vI 0, vI 0, vI 0, .ref q30, .null, .null, vI 0, .null, .null, vI 0, .null, .null, .null, vI 0, vI 0, vI 0, vI 0, vI 0, vI 0, .null, .null, vI 0, vI 0])) := ha
  refine z_ald_0 (TX8_init_14.at 33 rfl) ?_
  refine z_bipush (by decide) (TX8_init_14.at 34 rfl) ?_
  refine z_newI (TX8_init_14.at 35 rfl) ac0 (by decide) (by decide) (by omega) (by omega) (fun q31 h1 hn e1 e2 => ?_)
  have Y1 := Y.new (s := 31) (e := .inl (0, 8, .inl (fun _ => 0))) ha hn e1 e2
  have ha1 := (e2 a (ne_so ha hn).symm).trans ha
  clear Y ha hn e1 e2 h
  have Y := Y1; have ha := ha1; clear Y1 ha1
  revert h1
  intro h Y ha
  show Z l MX8_init d _ _ _ _ _ _ h _ (_ - 8)
  refine z_pF (TX8_init_14.at 36 rfl) fp8_69 rfl ha (Nat.le_of_ble_eq_true rfl) rfl rfl (fun h1 e1 e2 => ?_)
  have Y1 := Y.put e2
  clear Y ha e2 h
  have Y := Y1; have ha := e1; clear Y1 e1
  revert h1
  intro h Y ha
  replace ha : h a = some (.inr (8, [vI 0, .ref q1, .ref q2, .ref q3, .ref q4, .ref q5, vI 0, .ref q7, vI 0, vI 0, vI 0, .ref q11, .ref q12, vI 0, vI (-1), .ref q15, .ref q16, .ref q17, vI 0, vI 0, vI 0, vI 0, vI 0, vI 0, vI 0, vI 0, .ref q26, vI 0, vI 0, vI 0, .ref q30, .ref q31, .null, vI 0, .null, .null, vI 0, .null, .null, .null, vI 0, vI 0, vI 0, vI 0, vI 0, vI 0, .null, .null, vI 0, vI 0])) := ha
  refine z_ald_0 (TX8_init_14.at 37 rfl) ?_
  refine z_bipush (by decide) (TX8_init_14.at 38 rfl) ?_
  refine z_newI (TX8_init_14.at 39 rfl) ac0 (by decide) (by decide) (by omega) (by omega) (fun q32 h1 hn e1 e2 => ?_)
  have Y1 := Y.new (s := 32) (e := .inl (0, 8, .inl (fun _ => 0))) ha hn e1 e2
  have ha1 := (e2 a (ne_so ha hn).symm).trans ha
  clear Y ha hn e1 e2 h
  have Y := Y1; have ha := ha1; clear Y1 ha1
  revert h1
  intro h Y ha
  show Z l MX8_init d _ _ _ _ _ _ h _ (_ - 8)
  refine z_pF (TX8_init_15.at 0 rfl) fp8_72 rfl ha (Nat.le_of_ble_eq_true rfl) rfl rfl (fun h1 e1 e2 => ?_)
  have Y1 := Y.put e2
  clear Y ha e2 h
  have Y := Y1; have ha := e1; clear Y1 e1
  revert h1
  intro h Y ha
  replace ha : h a = some (.inr (8, [vI 0, .ref q1, .ref q2, .ref q3, .ref q4, .ref q5, vI 0, .ref q7, vI 0, vI 0, vI 0, .ref q11, .ref q12, vI 0, vI (-1), .ref q15, .ref q16, .ref q17, vI 0, vI 0, vI 0, vI 0, vI 0, vI 0, vI 0, vI 0, .ref q26, vI 0, vI 0, vI 0, .ref q30, .ref q31, .ref q32, vI 0, .null, .null, vI 0, .null, .null, .null, vI 0, vI 0, vI 0, vI 0, vI 0, vI 0, .null, .null, vI 0, vI 0])) := ha
  refine z_ald_0 (TX8_init_15.at 1 rfl) ?_
  refine z_sipush (by decide) (TX8_init_15.at 2 rfl) ?_
  refine z_newI (TX8_init_15.at 3 rfl) ac0 (by decide) (by decide) (by omega) (by omega) (fun q34 h1 hn e1 e2 => ?_)
  have Y1 := Y.new (s := 34) (e := .inl (0, 480, .inl (fun _ => 0))) ha hn e1 e2
  have ha1 := (e2 a (ne_so ha hn).symm).trans ha
  clear Y ha hn e1 e2 h
  have Y := Y1; have ha := ha1; clear Y1 ha1
  revert h1
  intro h Y ha
  show Z l MX8_init d _ _ _ _ _ _ h _ (_ - 480)
  refine z_pF (TX8_init_15.at 4 rfl) fp8_75 rfl ha (Nat.le_of_ble_eq_true rfl) rfl rfl (fun h1 e1 e2 => ?_)
  have Y1 := Y.put e2
  clear Y ha e2 h
  have Y := Y1; have ha := e1; clear Y1 e1
  revert h1
  intro h Y ha
  replace ha : h a = some (.inr (8, [vI 0, .ref q1, .ref q2, .ref q3, .ref q4, .ref q5, vI 0, .ref q7, vI 0, vI 0, vI 0, .ref q11, .ref q12, vI 0, vI (-1), .ref q15, .ref q16, .ref q17, vI 0, vI 0, vI 0, vI 0, vI 0, vI 0, vI 0, vI 0, .ref q26, vI 0, vI 0, vI 0, .ref q30, .ref q31, .ref q32, vI 0, .ref q34, .null, vI 0, .null, .null, .null, vI 0, vI 0, vI 0, vI 0, vI 0, vI 0, .null, .null, vI 0, vI 0])) := ha
  refine z_ald_0 (TX8_init_15.at 5 rfl) ?_
  refine z_sipush (by decide) (TX8_init_15.at 6 rfl) ?_
  refine z_newI (TX8_init_15.at 7 rfl) ac0 (by decide) (by decide) (by omega) (by omega) (fun q35 h1 hn e1 e2 => ?_)
  have Y1 := Y.new (s := 35) (e := .inl (0, 480, .inl (fun _ => 0))) ha hn e1 e2
  have ha1 := (e2 a (ne_so ha hn).symm).trans ha
  clear Y ha hn e1 e2 h
  have Y := Y1; have ha := ha1; clear Y1 ha1
  revert h1
  intro h Y ha
  show Z l MX8_init d _ _ _ _ _ _ h _ (_ - 480)
  refine z_pF (TX8_init_15.at 8 rfl) fp8_78 rfl ha (Nat.le_of_ble_eq_true rfl) rfl rfl (fun h1 e1 e2 => ?_)
  have Y1 := Y.put e2
  clear Y ha e2 h
  have Y := Y1; have ha := e1; clear Y1 e1
  revert h1
  intro h Y ha
  replace ha : h a = some (.inr (8, [vI 0, .ref q1, .ref q2, .ref q3, .ref q4, .ref q5, vI 0, .ref q7, vI 0, vI 0, vI 0, .ref q11, .ref q12, vI 0, vI (-1), .ref q15, .ref q16, .ref q17, vI 0, vI 0, vI 0, vI 0, vI 0, vI 0, vI 0, vI 0, .ref q26, vI 0, vI 0, vI 0, .ref q30, .ref q31, .ref q32, vI 0, .ref q34, .ref q35, vI 0, .null, .null, .null, vI 0, vI 0, vI 0, vI 0, vI 0, vI 0, .null, .null, vI 0, vI 0])) := ha
  refine z_ald_0 (TX8_init_15.at 9 rfl) ?_
  refine z_bipush (by decide) (TX8_init_15.at 10 rfl) ?_
  refine z_newI (TX8_init_15.at 11 rfl) ac0 (by decide) (by decide) (by omega) (by omega) (fun q37 h1 hn e1 e2 => ?_)
  have Y1 := Y.new (s := 37) (e := .inl (0, 8, .inl (fun _ => 0))) ha hn e1 e2
  have ha1 := (e2 a (ne_so ha hn).symm).trans ha
  clear Y ha hn e1 e2 h
  have Y := Y1; have ha := ha1; clear Y1 ha1
  revert h1
  intro h Y ha
  show Z l MX8_init d _ _ _ _ _ _ h _ (_ - 8)
  refine z_pF (TX8_init_15.at 12 rfl) fp8_81 rfl ha (Nat.le_of_ble_eq_true rfl) rfl rfl (fun h1 e1 e2 => ?_)
  have Y1 := Y.put e2
  clear Y ha e2 h
  have Y := Y1; have ha := e1; clear Y1 e1
  revert h1
  intro h Y ha
  replace ha : h a = some (.inr (8, [vI 0, .ref q1, .ref q2, .ref q3, .ref q4, .ref q5, vI 0, .ref q7, vI 0, vI 0, vI 0, .ref q11, .ref q12, vI 0, vI (-1), .ref q15, .ref q16, .ref q17, vI 0, vI 0, vI 0, vI 0, vI 0, vI 0, vI 0, vI 0, .ref q26, vI 0, vI 0, vI 0, .ref q30, .ref q31, .ref q32, vI 0, .ref q34, .ref q35, vI 0, .ref q37, .null, .null, vI 0, vI 0, vI 0, vI 0, vI 0, vI 0, .null, .null, vI 0, vI 0])) := ha
  refine z_ald_0 (TX8_init_15.at 13 rfl) ?_
  refine z_bipush (by decide) (TX8_init_15.at 14 rfl) ?_
  refine z_newI (TX8_init_15.at 15 rfl) ac0 (by decide) (by decide) (by omega) (by omega) (fun q38 h1 hn e1 e2 => ?_)
  have Y1 := Y.new (s := 38) (e := .inl (0, 64, .inl (fun _ => 0))) ha hn e1 e2
  have ha1 := (e2 a (ne_so ha hn).symm).trans ha
  clear Y ha hn e1 e2 h
  have Y := Y1; have ha := ha1; clear Y1 ha1
  revert h1
  intro h Y ha
  show Z l MX8_init d _ _ _ _ _ _ h _ (_ - 64)
  refine z_pF (TX8_init_15.at 16 rfl) fp8_84 rfl ha (Nat.le_of_ble_eq_true rfl) rfl rfl (fun h1 e1 e2 => ?_)
  have Y1 := Y.put e2
  clear Y ha e2 h
  have Y := Y1; have ha := e1; clear Y1 e1
  revert h1
  intro h Y ha
  replace ha : h a = some (.inr (8, [vI 0, .ref q1, .ref q2, .ref q3, .ref q4, .ref q5, vI 0, .ref q7, vI 0, vI 0, vI 0, .ref q11, .ref q12, vI 0, vI (-1), .ref q15, .ref q16, .ref q17, vI 0, vI 0, vI 0, vI 0, vI 0, vI 0, vI 0, vI 0, .ref q26, vI 0, vI 0, vI 0, .ref q30, .ref q31, .ref q32, vI 0, .ref q34, .ref q35, vI 0, .ref q37, .ref q38, .null, vI 0, vI 0, vI 0, vI 0, vI 0, vI 0, .null, .null, vI 0, vI 0])) := ha
  refine z_ald_0 (TX8_init_15.at 17 rfl) ?_
  refine z_bipush (by decide) (TX8_init_15.at 18 rfl) ?_
  refine z_newL (TX8_init_15.at 19 rfl) ac1 (by decide) (by decide) (by omega) (by omega) (fun q39 h1 hn e1 e2 => ?_)
  have Y1 := Y.new (s := 39) (e := .inl (1, 21, .inr (.inl (fun _ => 0)))) ha hn e1 e2
  have ha1 := (e2 a (ne_so ha hn).symm).trans ha
  clear Y ha hn e1 e2 h
  have Y := Y1; have ha := ha1; clear Y1 ha1
  revert h1
  intro h Y ha
  show Z l MX8_init d _ _ _ _ _ _ h _ (_ - 21)
  refine z_pF (TX8_init_15.at 20 rfl) fp8_87 rfl ha (Nat.le_of_ble_eq_true rfl) rfl rfl (fun h1 e1 e2 => ?_)
  have Y1 := Y.put e2
  clear Y ha e2 h
  have Y := Y1; have ha := e1; clear Y1 e1
  revert h1
  intro h Y ha
  replace ha : h a = some (.inr (8, [vI 0, .ref q1, .ref q2, .ref q3, .ref q4, .ref q5, vI 0, .ref q7, vI 0, vI 0, vI 0, .ref q11, .ref q12, vI 0, vI (-1), .ref q15, .ref q16, .ref q17, vI 0, vI 0, vI 0, vI 0, vI 0, vI 0, vI 0, vI 0, .ref q26, vI 0, vI 0, vI 0, .ref q30, .ref q31, .ref q32, vI 0, .ref q34, .ref q35, vI 0, .ref q37, .ref q38, .ref q39, vI 0, vI 0, vI 0, vI 0, vI 0, vI 0, .null, .null, vI 0, vI 0])) := ha
  refine z_ald_0 (TX8_init_15.at 21 rfl) ?_
  refine z_iconst (TX8_init_15.at 22 rfl) ?_
  refine z_pf (TX8_init_15.at 23 rfl) fp8_91 ha (Nat.le_of_ble_eq_true rfl) rfl rfl (fun h1 e1 e2 => ?_)
  have Y1 := Y.put e2
  clear Y ha e2 h
  have Y := Y1; have ha := e1; clear Y1 e1
  revert h1
  intro h Y ha
  replace ha : h a = some (.inr (8, [vI 0, .ref q1, .ref q2, .ref q3, .ref q4, .ref q5, vI 0, .ref q7, vI 0, vI 0, vI 0, .ref q11, .ref q12, vI 0, vI (-1), .ref q15, .ref q16, .ref q17, vI 0, vI 0, vI 0, vI 0, vI 0, vI 0, vI 0, vI 0, .ref q26, vI 0, vI 0, vI 0, .ref q30, .ref q31, .ref q32, vI 0, .ref q34, .ref q35, vI 0, .ref q37, .ref q38, .ref q39, vI (-1), vI 0, vI 0, vI 0, vI 0, vI 0, .null, .null, vI 0, vI 0])) := ha
  refine z_ald_0 (TX8_init_15.at 24 rfl) ?_
  refine z_iconst (TX8_init_15.at 25 rfl) ?_
  refine z_newL (TX8_init_15.at 26 rfl) ac1 (by decide) (by decide) (by omega) (by omega) (fun q46 h1 hn e1 e2 => ?_)
  have Y1 := Y.new (s := 46) (e := .inl (1, 2, .inr (.inl (fun _ => 0)))) ha hn e1 e2
  have ha1 := (e2 a (ne_so ha hn).symm).trans ha
  clear Y ha hn e1 e2 h
  have Y := Y1; have ha := ha1; clear Y1 ha1
  revert h1
  intro h Y ha
  show Z l MX8_init d _ _ _ _ _ _ h _ (_ - 2)
  refine z_pF (TX8_init_15.at 27 rfl) fp8_94 rfl ha (Nat.le_of_ble_eq_true rfl) rfl rfl (fun h1 e1 e2 => ?_)
  have Y1 := Y.put e2
  clear Y ha e2 h
  have Y := Y1; have ha := e1; clear Y1 e1
  revert h1
  intro h Y ha
  replace ha : h a = some (.inr (8, [vI 0, .ref q1, .ref q2, .ref q3, .ref q4, .ref q5, vI 0, .ref q7, vI 0, vI 0, vI 0, .ref q11, .ref q12, vI 0, vI (-1), .ref q15, .ref q16, .ref q17, vI 0, vI 0, vI 0, vI 0, vI 0, vI 0, vI 0, vI 0, .ref q26, vI 0, vI 0, vI 0, .ref q30, .ref q31, .ref q32, vI 0, .ref q34, .ref q35, vI 0, .ref q37, .ref q38, .ref q39, vI (-1), vI 0, vI 0, vI 0, vI 0, vI 0, .ref q46, .null, vI 0, vI 0])) := ha
  refine z_ald_0 (TX8_init_15.at 28 rfl) ?_
  refine z_bipush (by decide) (TX8_init_15.at 29 rfl) ?_
  refine z_newI (TX8_init_15.at 30 rfl) ac0 (by decide) (by decide) (by omega) (by omega) (fun q47 h1 hn e1 e2 => ?_)
  have Y1 := Y.new (s := 47) (e := .inl (0, 29, .inl (fun _ => 0))) ha hn e1 e2
  have ha1 := (e2 a (ne_so ha hn).symm).trans ha
  clear Y ha hn e1 e2 h
  have Y := Y1; have ha := ha1; clear Y1 ha1
  revert h1
  intro h Y ha
  show Z l MX8_init d _ _ _ _ _ _ h _ (_ - 29)
  refine z_pF (TX8_init_15.at 31 rfl) fp8_97 rfl ha (Nat.le_of_ble_eq_true rfl) rfl rfl (fun h1 e1 e2 => ?_)
  have Y1 := Y.put e2
  clear Y ha e2 h
  have Y := Y1; have ha := e1; clear Y1 e1
  revert h1
  intro h Y ha
  replace ha : h a = some (.inr (8, [vI 0, .ref q1, .ref q2, .ref q3, .ref q4, .ref q5, vI 0, .ref q7, vI 0, vI 0, vI 0, .ref q11, .ref q12, vI 0, vI (-1), .ref q15, .ref q16, .ref q17, vI 0, vI 0, vI 0, vI 0, vI 0, vI 0, vI 0, vI 0, .ref q26, vI 0, vI 0, vI 0, .ref q30, .ref q31, .ref q32, vI 0, .ref q34, .ref q35, vI 0, .ref q37, .ref q38, .ref q39, vI (-1), vI 0, vI 0, vI 0, vI 0, vI 0, .ref q46, .ref q47, vI 0, vI 0])) := ha
  refine z_ald_0 (TX8_init_15.at 32 rfl) ?_
  refine z_iconst (TX8_init_15.at 33 rfl) ?_
  refine z_pf (TX8_init_15.at 34 rfl) fp8_100 ha (Nat.le_of_ble_eq_true rfl) rfl rfl (fun h1 e1 e2 => ?_)
  have Y1 := Y.put e2
  clear Y ha e2 h
  have Y := Y1; have ha := e1; clear Y1 e1
  revert h1
  intro h Y ha
  replace ha : h a = some (.inr (8, [vI 0, .ref q1, .ref q2, .ref q3, .ref q4, .ref q5, vI 0, .ref q7, vI 0, vI 0, vI 0, .ref q11, .ref q12, vI 0, vI (-1), .ref q15, .ref q16, .ref q17, vI 0, vI 0, vI 0, vI 0, vI 0, vI 0, vI 0, vI 0, .ref q26, vI 0, vI 0, vI 0, .ref q30, .ref q31, .ref q32, vI 0, .ref q34, .ref q35, vI 0, .ref q37, .ref q38, .ref q39, vI (-1), vI 0, vI 0, vI 0, vI 0, vI 0, .ref q46, .ref q47, vI (-1), vI 0])) := ha
  refine z_ald_0 (TX8_init_15.at 35 rfl) ?_
  have Y1 := Yr.up (R1 := [(47, q47, .inl (0, 29, .inl (fun _ => 0))), (46, q46, .inl (1, 2, .inr (.inl (fun _ => 0)))), (39, q39, .inl (1, 21, .inr (.inl (fun _ => 0)))), (38, q38, .inl (0, 64, .inl (fun _ => 0))), (37, q37, .inl (0, 8, .inl (fun _ => 0))), (35, q35, .inl (0, 480, .inl (fun _ => 0))), (34, q34, .inl (0, 480, .inl (fun _ => 0))), (32, q32, .inl (0, 8, .inl (fun _ => 0))), (31, q31, .inl (0, 8, .inl (fun _ => 0))), (30, q30, .inl (0, 10, .inl (fun _ => 0))), (26, q26, .inl (0, 9, .inl (fun _ => 0))), (17, q17, .inl (0, 401, .inl (fun _ => 0))), (16, q16, .inl (0, 401, .inl (fun _ => 0))), (15, q15, .inl (0, 401, .inl (fun _ => 0))), (12, q12, .inl (0, 5, .inl (fun _ => 0))), (11, q11, .inl (2, 400, .inl (fun _ => 0))), (7, q7, .inl (2, 134, .inl (wN 134))), (5, q5, .inl (0, 58, .inl (fun _ => 0))), (4, q4, .inl (3, 2, .inl (fun _ => 0))), (3, q3, .inl (0, 11376, .inl (fun _ => 0)))]) (p := (2, q2, .inl (0, 5688, .inl (fun _ => 0)))) (R2 := [(1, q1, .inl (0, 7, .inl (fun _ => 0)))]) Y
  clear Y
  have Y := Y1; clear Y1
  refine z_getf (v := .ref q2) (TX8_init_15.at 36 rfl) fl8_28 ha rfl ?_
  refine z_bipush (by decide) (TX8_init_15.at 37 rfl) ?_
  refine z_iconst (TX8_init_15.at 38 rfl) ?_
  refine z_iastY Y ha (TX8_init_15.at 39 rfl) (by decide) (by decide) (by decide) ?_
  clear Y ha h
  intro h Y ha
  refine z_ald_0 (TX8_init_16.at 0 rfl) ?_
  refine z_getf (v := .ref q2) (TX8_init_16.at 1 rfl) fl8_28 ha rfl ?_
  refine z_bipush (by decide) (TX8_init_16.at 2 rfl) ?_
  refine z_iconst (TX8_init_16.at 3 rfl) ?_
  refine z_iastY Y ha (TX8_init_16.at 4 rfl) (by decide) (by decide) (by decide) ?_
  clear Y ha h
  intro h Y ha
  have Y1 := Y; clear Y
  rw [show (74 : Int).toNat = 74 from rfl, show (80 : Int).toNat = 80 from rfl, gW_0] at Y1
  refine z_iconst (TX8_init_16.at 5 rfl) ?_
  refine z_ist_1 (TX8_init_16.at 6 rfl) (by decide) rfl ?_
  refine lp_ini rfl (fun i h Y ha => ?_) 9 0 h (by omega) (by omega) Y1 ha
  refine z_vret (TX8_init_16.at 19 rfl) rfl ?_
  exact kx0 q1 q2 q3 q4 q5 q7 q11 q12 q15 q16 q17 q26 q30 q31 q32 q34 q35 q37 q38 q39 q46 q47 h Y ha

theorem slM {k : Nat} (h : mTag k < 4) : k = 1 ∨ k = 2 ∨ k = 3 ∨ k = 4 ∨ k = 5 ∨ k = 7 ∨ k = 11 ∨ k = 12 ∨ k = 15 ∨ k = 16 ∨ k = 17 ∨ k = 26 ∨ k = 30 ∨ k = 31 ∨ k = 32 ∨ k = 34 ∨ k = 35 ∨ k = 37 ∨ k = 38 ∨ k = 39 ∨ k = 46 ∨ k = 47 := by
  unfold mTag at h
  split at h <;> first | omega | (exfalso; omega)
def iniA (q1 q2 q3 q4 q5 q7 q11 q12 q15 q16 q17 q26 q30 q31 q32 q34 q35 q37 q38 q39 q46 q47 : Nat) : Nat → Nat := fun k => match k with | 1 => q1 | 2 => q2 | 3 => q3 | 4 => q4 | 5 => q5 | 7 => q7 | 11 => q11 | 12 => q12 | 15 => q15 | 16 => q16 | 17 => q17 | 26 => q26 | 30 => q30 | 31 => q31 | 32 => q32 | 34 => q34 | 35 => q35 | 37 => q37 | 38 => q38 | 39 => q39 | 46 => q46 | 47 => q47 | _ => 0
set_option maxHeartbeats 4000000 in
set_option maxRecDepth 100000 in
theorem iniR_in {q1 q2 q3 q4 q5 q7 q11 q12 q15 q16 q17 q26 q30 q31 q32 q34 q35 q37 q38 q39 q46 q47 k : Nat} (h : mTag k < 4) : (k, iniA q1 q2 q3 q4 q5 q7 q11 q12 q15 q16 q17 q26 q30 q31 q32 q34 q35 q37 q38 q39 q46 q47 k, mCell gM (fun _ _ => 0) k) ∈ iniR q1 q2 q3 q4 q5 q7 q11 q12 q15 q16 q17 q26 q30 q31 q32 q34 q35 q37 q38 q39 q46 q47 := by
  unfold iniR
  rcases slM h with rfl | rfl | rfl | rfl | rfl | rfl | rfl | rfl | rfl | rfl | rfl | rfl | rfl | rfl | rfl | rfl | rfl | rfl | rfl | rfl | rfl | rfl

  · exact List.Mem.tail _ (List.Mem.tail _ (List.Mem.tail _ (List.Mem.tail _ (List.Mem.tail _ (List.Mem.tail _ (List.Mem.tail _ (List.Mem.tail _ (List.Mem.tail _ (List.Mem.tail _ (List.Mem.tail _ (List.Mem.tail _ (List.Mem.tail _ (List.Mem.tail _ (List.Mem.tail _ (List.Mem.tail _ (List.Mem.tail _ (List.Mem.tail _ (List.Mem.tail _ (List.Mem.tail _ (List.Mem.tail _ (List.Mem.head _)))))))))))))))))))))
  · exact List.Mem.head _
  · exact List.Mem.tail _ (List.Mem.tail _ (List.Mem.tail _ (List.Mem.tail _ (List.Mem.tail _ (List.Mem.tail _ (List.Mem.tail _ (List.Mem.tail _ (List.Mem.tail _ (List.Mem.tail _ (List.Mem.tail _ (List.Mem.tail _ (List.Mem.tail _ (List.Mem.tail _ (List.Mem.tail _ (List.Mem.tail _ (List.Mem.tail _ (List.Mem.tail _ (List.Mem.tail _ (List.Mem.tail _ (List.Mem.head _))))))))))))))))))))
  · exact List.Mem.tail _ (List.Mem.tail _ (List.Mem.tail _ (List.Mem.tail _ (List.Mem.tail _ (List.Mem.tail _ (List.Mem.tail _ (List.Mem.tail _ (List.Mem.tail _ (List.Mem.tail _ (List.Mem.tail _ (List.Mem.tail _ (List.Mem.tail _ (List.Mem.tail _ (List.Mem.tail _ (List.Mem.tail _ (List.Mem.tail _ (List.Mem.tail _ (List.Mem.tail _ (List.Mem.head _)))))))))))))))))))
  · exact List.Mem.tail _ (List.Mem.tail _ (List.Mem.tail _ (List.Mem.tail _ (List.Mem.tail _ (List.Mem.tail _ (List.Mem.tail _ (List.Mem.tail _ (List.Mem.tail _ (List.Mem.tail _ (List.Mem.tail _ (List.Mem.tail _ (List.Mem.tail _ (List.Mem.tail _ (List.Mem.tail _ (List.Mem.tail _ (List.Mem.tail _ (List.Mem.tail _ (List.Mem.head _))))))))))))))))))
  · rw [show mCell gM (fun _ _ => 0) 7 = (.inl (2, 134, .inl (wN 134)) : zE) from congrArg (fun f => (Sum.inl (2, 134, Sum.inl f) : zE)) (funext fun i => by show Int32.ofInt (if 0 ≤ (i : Int) ∧ (i : Int) < 134 then mWords.getD ((i : Int)).toNat 0 else 0) = wN 134 i; unfold wN; by_cases z : i < 134; rw [if_pos (by omega), if_pos z, show ((i : Int)).toNat = i by omega]; rw [if_neg (by omega), if_neg z]; rfl)]; exact List.Mem.tail _ (List.Mem.tail _ (List.Mem.tail _ (List.Mem.tail _ (List.Mem.tail _ (List.Mem.tail _ (List.Mem.tail _ (List.Mem.tail _ (List.Mem.tail _ (List.Mem.tail _ (List.Mem.tail _ (List.Mem.tail _ (List.Mem.tail _ (List.Mem.tail _ (List.Mem.tail _ (List.Mem.tail _ (List.Mem.tail _ (List.Mem.head _)))))))))))))))))
  · exact List.Mem.tail _ (List.Mem.tail _ (List.Mem.tail _ (List.Mem.tail _ (List.Mem.tail _ (List.Mem.tail _ (List.Mem.tail _ (List.Mem.tail _ (List.Mem.tail _ (List.Mem.tail _ (List.Mem.tail _ (List.Mem.tail _ (List.Mem.tail _ (List.Mem.tail _ (List.Mem.tail _ (List.Mem.tail _ (List.Mem.head _))))))))))))))))
  · exact List.Mem.tail _ (List.Mem.tail _ (List.Mem.tail _ (List.Mem.tail _ (List.Mem.tail _ (List.Mem.tail _ (List.Mem.tail _ (List.Mem.tail _ (List.Mem.tail _ (List.Mem.tail _ (List.Mem.tail _ (List.Mem.tail _ (List.Mem.tail _ (List.Mem.tail _ (List.Mem.tail _ (List.Mem.head _)))))))))))))))
  · exact List.Mem.tail _ (List.Mem.tail _ (List.Mem.tail _ (List.Mem.tail _ (List.Mem.tail _ (List.Mem.tail _ (List.Mem.tail _ (List.Mem.tail _ (List.Mem.tail _ (List.Mem.tail _ (List.Mem.tail _ (List.Mem.tail _ (List.Mem.tail _ (List.Mem.tail _ (List.Mem.head _))))))))))))))
  · exact List.Mem.tail _ (List.Mem.tail _ (List.Mem.tail _ (List.Mem.tail _ (List.Mem.tail _ (List.Mem.tail _ (List.Mem.tail _ (List.Mem.tail _ (List.Mem.tail _ (List.Mem.tail _ (List.Mem.tail _ (List.Mem.tail _ (List.Mem.tail _ (List.Mem.head _)))))))))))))
  · exact List.Mem.tail _ (List.Mem.tail _ (List.Mem.tail _ (List.Mem.tail _ (List.Mem.tail _ (List.Mem.tail _ (List.Mem.tail _ (List.Mem.tail _ (List.Mem.tail _ (List.Mem.tail _ (List.Mem.tail _ (List.Mem.tail _ (List.Mem.head _))))))))))))
  · exact List.Mem.tail _ (List.Mem.tail _ (List.Mem.tail _ (List.Mem.tail _ (List.Mem.tail _ (List.Mem.tail _ (List.Mem.tail _ (List.Mem.tail _ (List.Mem.tail _ (List.Mem.tail _ (List.Mem.tail _ (List.Mem.head _)))))))))))
  · exact List.Mem.tail _ (List.Mem.tail _ (List.Mem.tail _ (List.Mem.tail _ (List.Mem.tail _ (List.Mem.tail _ (List.Mem.tail _ (List.Mem.tail _ (List.Mem.tail _ (List.Mem.tail _ (List.Mem.head _))))))))))
  · exact List.Mem.tail _ (List.Mem.tail _ (List.Mem.tail _ (List.Mem.tail _ (List.Mem.tail _ (List.Mem.tail _ (List.Mem.tail _ (List.Mem.tail _ (List.Mem.tail _ (List.Mem.head _)))))))))
  · exact List.Mem.tail _ (List.Mem.tail _ (List.Mem.tail _ (List.Mem.tail _ (List.Mem.tail _ (List.Mem.tail _ (List.Mem.tail _ (List.Mem.tail _ (List.Mem.head _))))))))
  · exact List.Mem.tail _ (List.Mem.tail _ (List.Mem.tail _ (List.Mem.tail _ (List.Mem.tail _ (List.Mem.tail _ (List.Mem.tail _ (List.Mem.head _)))))))
  · exact List.Mem.tail _ (List.Mem.tail _ (List.Mem.tail _ (List.Mem.tail _ (List.Mem.tail _ (List.Mem.tail _ (List.Mem.head _))))))
  · exact List.Mem.tail _ (List.Mem.tail _ (List.Mem.tail _ (List.Mem.tail _ (List.Mem.tail _ (List.Mem.head _)))))
  · exact List.Mem.tail _ (List.Mem.tail _ (List.Mem.tail _ (List.Mem.tail _ (List.Mem.head _))))
  · exact List.Mem.tail _ (List.Mem.tail _ (List.Mem.tail _ (List.Mem.head _)))
  · exact List.Mem.tail _ (List.Mem.tail _ (List.Mem.head _))
  · exact List.Mem.tail _ (List.Mem.head _)
set_option maxHeartbeats 4000000 in
set_option maxRecDepth 100000 in
theorem i_X8 {l : Launch} {d a : Nat} {h0 : zH} (hd : 2 ≤ d) (ha : h0 a = some (.inr (8, [vI 0, .null, .null, .null, .null, .null, vI 0, .null, vI 0, vI 0, vI 0, .null, .null, vI 0, vI 0, .null, .null, .null, vI 0, vI 0, vI 0, vI 0, vI 0, vI 0, vI 0, vI 0, .null, vI 0, vI 0, vI 0, .null, .null, .null, vI 0, .null, .null, vI 0, .null, .null, .null, vI 0, vI 0, vI 0, vI 0, vI 0, vI 0, .null, .null, vI 0, vI 0]))) : MZ l MX8_init d 22 19992 [.ref a] h0 (fun v h => v = none ∧ ∃ ar, HM a ar fM gM (fun _ _ => 0) h ∧ (∀ k, mTag k < 4 → h0 (ar k) = none) ∧ ∀ x, x ≠ a → (∀ k, mTag k < 4 → x ≠ ar k) → h x = h0 x) := by
  refine MZ.intro [some (.ref a), none] (by decide) (Nat.le_of_ble_eq_true rfl) rfl ?_
  refine i_X8a hd (fun q1 q2 q3 q4 q5 q7 q11 q12 q15 q16 q17 q26 q30 q31 q32 q34 q35 q37 q38 q39 q46 q47 h Y ha => ?_) h0 ⟨fun p hp => (by cases hp), List.Pairwise.nil, fun _ _ _ => rfl⟩ ha
  have hin := fun k h => iniR_in (q1 := q1) (q2 := q2) (q3 := q3) (q4 := q4) (q5 := q5) (q7 := q7) (q11 := q11) (q12 := q12) (q15 := q15) (q16 := q16) (q17 := q17) (q26 := q26) (q30 := q30) (q31 := q31) (q32 := q32) (q34 := q34) (q35 := q35) (q37 := q37) (q38 := q38) (q39 := q39) (q46 := q46) (q47 := q47) (k := k) h
  refine ⟨rfl, iniA q1 q2 q3 q4 q5 q7 q11 q12 q15 q16 q17 q26 q30 q31 q32 q34 q35 q37 q38 q39 q46 q47, ⟨ha, fun k hk => (Y.1 _ (hin k hk)).1, fun k hk => (Y.1 _ (hin k hk)).2.2, fun k k' hk hk' e => Y.inj (hin k hk) (hin k' hk') e, fun k => ?_, fun k i => ?_, fun _ _ => (by show zInL 0; decide)⟩, fun k hk => (Y.1 _ (hin k hk)).2.1, fun x xa xk => Y.2.2 x xa (fun p hp => ?_)⟩
  · unfold fM; split <;> decide
  · unfold gM
    split
    · unfold gW; split; decide; split; decide; split <;> decide
    · split
      · split
        · rename_i z
          have hb : ∀ n : Nat, n < 134 → zIn (mWords.getD n 0) := by decide
          exact hb _ (by omega)
        · decide
      · decide
  · have key : ∀ p ∈ iniR q1 q2 q3 q4 q5 q7 q11 q12 q15 q16 q17 q26 q30 q31 q32 q34 q35 q37 q38 q39 q46 q47, ∃ k, mTag k < 4 ∧ p.2.1 = iniA q1 q2 q3 q4 q5 q7 q11 q12 q15 q16 q17 q26 q30 q31 q32 q34 q35 q37 q38 q39 q46 q47 k := by
      intro p hp
      unfold iniR at hp
      simp only [List.mem_cons, List.not_mem_nil, or_false] at hp
      rcases hp with rfl | rfl | rfl | rfl | rfl | rfl | rfl | rfl | rfl | rfl | rfl | rfl | rfl | rfl | rfl | rfl | rfl | rfl | rfl | rfl | rfl | rfl

      · exact ⟨2, by decide, rfl⟩
      · exact ⟨47, by decide, rfl⟩
      · exact ⟨46, by decide, rfl⟩
      · exact ⟨39, by decide, rfl⟩
      · exact ⟨38, by decide, rfl⟩
      · exact ⟨37, by decide, rfl⟩
      · exact ⟨35, by decide, rfl⟩
      · exact ⟨34, by decide, rfl⟩
      · exact ⟨32, by decide, rfl⟩
      · exact ⟨31, by decide, rfl⟩
      · exact ⟨30, by decide, rfl⟩
      · exact ⟨26, by decide, rfl⟩
      · exact ⟨17, by decide, rfl⟩
      · exact ⟨16, by decide, rfl⟩
      · exact ⟨15, by decide, rfl⟩
      · exact ⟨12, by decide, rfl⟩
      · exact ⟨11, by decide, rfl⟩
      · exact ⟨7, by decide, rfl⟩
      · exact ⟨5, by decide, rfl⟩
      · exact ⟨4, by decide, rfl⟩
      · exact ⟨3, by decide, rfl⟩
      · exact ⟨1, by decide, rfl⟩
    obtain ⟨k, k1, k2⟩ := key p hp
    rw [k2]
    exact xk k k1
