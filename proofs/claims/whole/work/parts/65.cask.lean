/-! ===== the class: a sum is asked ===== -/
/-- code C, from the place s with the stack st, answers r (the least such relation) -/
def AskCl (C : Int → Int) (N : Int) (φ : Int → Int) (R : Int → List Int → Int → Prop) : Prop :=
  (∀ (s x : Int), s < N → C s = 0 → R s [x] x) ∧
  (∀ (s a r : Int) (st : List Int), s < N → C s = 1 * 1024 + a → 0 ≤ a → a ≤ 1023 → st.length < 64 → R (s + 1) (a :: st) r → R s st r) ∧
  (∀ (s a r : Int) (st : List Int), s < N → C s = 2 * 1024 + a → 0 ≤ a → a < 31 → st.length < 64 → R (s + 1) (φ a :: st) r → R s st r) ∧
  (∀ (s x r : Int) (st : List Int), s < N → C s = 11 * 1024 → st.length < 64 → x = 0 ∨ x = 1 → R (s + 1) ((1 - x) :: st) r → R s (x :: st) r) ∧
  (∀ (s a o x r : Int) (st : List Int), s < N → o = 12 ∨ o = 13 → C s = o * 1024 + a → s < a → a ≤ 1023 → st.length < 64 → x = (if o = 12 then 1 else 0) → R a (x :: st) r → R s (x :: st) r) ∧
  (∀ (s a o x r : Int) (st : List Int), s < N → o = 12 ∨ o = 13 → C s = o * 1024 + a → 0 ≤ a → a ≤ 1023 → st.length < 64 → x ≠ (if o = 12 then 1 else 0) → R (s + 1) st r → R s (x :: st) r) ∧
  (∀ (s o x y z r : Int) (st : List Int), s < N → 3 ≤ o → o ≤ 10 → C s = o * 1024 → st.length < 63 → opV o x y = some z → R (s + 1) (z :: st) r → R s (y :: x :: st) r) ∧
  (∀ (s o x y : Int) (st : List Int), s < N → 3 ≤ o → o ≤ 10 → C s = o * 1024 → st.length < 63 → opV o x y = none → R s (y :: x :: st) (-2000000000))
def Ask (C : Int → Int) (N : Int) (φ : Int → Int) (s : Int) (st : List Int) (r : Int) : Prop := ∀ R : Int → List Int → Int → Prop, AskCl C N φ R → R s st r
theorem Ask.stop {C : Int → Int} {N : Int} {φ : Int → Int} {s x : Int} (hs : s < N) (hC : C s = 0) : Ask C N φ s [x] x :=
  fun R hR => hR.1 _ _ hs hC
theorem Ask.num {C : Int → Int} {N : Int} {φ : Int → Int} {s a r : Int} {st : List Int} (hs : s < N) (hC : C s = 1 * 1024 + a) (a0 : 0 ≤ a) (a1 : a ≤ 1023) (hl : st.length < 64) (k : Ask C N φ (s + 1) (a :: st) r) : Ask C N φ s st r :=
  fun R hR => hR.2.1 _ _ _ _ hs hC a0 a1 hl (k R hR)
theorem Ask.fact {C : Int → Int} {N : Int} {φ : Int → Int} {s a r : Int} {st : List Int} (hs : s < N) (hC : C s = 2 * 1024 + a) (a0 : 0 ≤ a) (a1 : a < 31) (hl : st.length < 64) (k : Ask C N φ (s + 1) (φ a :: st) r) : Ask C N φ s st r :=
  fun R hR => hR.2.2.1 _ _ _ _ hs hC a0 a1 hl (k R hR)
theorem Ask.neg {C : Int → Int} {N : Int} {φ : Int → Int} {s x r : Int} {st : List Int} (hs : s < N) (hC : C s = 11 * 1024) (hl : st.length < 64) (hx : x = 0 ∨ x = 1) (k : Ask C N φ (s + 1) ((1 - x) :: st) r) : Ask C N φ s (x :: st) r :=
  fun R hR => hR.2.2.2.1 _ _ _ _ hs hC hl hx (k R hR)
theorem Ask.leap {C : Int → Int} {N : Int} {φ : Int → Int} {s a o x r : Int} {st : List Int} (hs : s < N) (ho : o = 12 ∨ o = 13) (hC : C s = o * 1024 + a) (a0 : s < a) (a1 : a ≤ 1023) (hl : st.length < 64) (hx : x = if o = 12 then 1 else 0) (k : Ask C N φ a (x :: st) r) : Ask C N φ s (x :: st) r :=
  fun R hR => hR.2.2.2.2.1 _ _ _ _ _ _ hs ho hC a0 a1 hl hx (k R hR)
theorem Ask.on {C : Int → Int} {N : Int} {φ : Int → Int} {s a o x r : Int} {st : List Int} (hs : s < N) (ho : o = 12 ∨ o = 13) (hC : C s = o * 1024 + a) (a0 : 0 ≤ a) (a1 : a ≤ 1023) (hl : st.length < 64) (hx : x ≠ if o = 12 then 1 else 0) (k : Ask C N φ (s + 1) st r) : Ask C N φ s (x :: st) r :=
  fun R hR => hR.2.2.2.2.2.1 _ _ _ _ _ _ hs ho hC a0 a1 hl hx (k R hR)
theorem Ask.bin {C : Int → Int} {N : Int} {φ : Int → Int} {s o x y z r : Int} {st : List Int} (hs : s < N) (o0 : 3 ≤ o) (o1 : o ≤ 10) (hC : C s = o * 1024) (hl : st.length < 63) (hz : opV o x y = some z) (k : Ask C N φ (s + 1) (z :: st) r) : Ask C N φ s (y :: x :: st) r :=
  fun R hR => hR.2.2.2.2.2.2.1 _ _ _ _ _ _ _ hs o0 o1 hC hl hz (k R hR)
theorem Ask.bad {C : Int → Int} {N : Int} {φ : Int → Int} {s o x y : Int} {st : List Int} (hs : s < N) (o0 : 3 ≤ o) (o1 : o ≤ 10) (hC : C s = o * 1024) (hl : st.length < 63) (hz : opV o x y = none) : Ask C N φ s (y :: x :: st) (-2000000000) :=
  fun R hR => hR.2.2.2.2.2.2.2 _ _ _ _ _ hs o0 o1 hC hl hz
/-- the row A holds the stack -/
def stkR : List Int → (Int → Int) → Prop
  | [], _ => True
  | x :: st, A => A (st.length : Int) = x ∧ stkR st A
theorem stkR_iu {i z : Int} : ∀ {st : List Int} {A : Int → Int}, stkR st A → (st.length : Int) ≤ i → stkR st (iu A i z)
  | [], _, _, _ => trivial
  | x :: st, A, h, hi => by
    have e : ((x :: st).length : Int) = (st.length : Int) + 1 := by simp
    refine ⟨?_, stkR_iu h.2 (by omega)⟩
    unfold iu
    rw [if_neg (by omega)]
    exact h.1
theorem stkR_push {st : List Int} {A : Int → Int} {z : Int} (h : stkR st A) : stkR (z :: st) (iu A (st.length : Int) z) := by
  refine ⟨?_, stkR_iu h (by omega)⟩
  unfold iu
  rw [if_pos rfl]
theorem opV_lim {o x y z : Int} (h : opV o x y = some z) : z ≠ -2000000000 := by
  have h2 := opV_in h
  intro e
  subst e
  have h3 : ∀ q : Int, bnd q ≠ some (-2000000000) := by
    intro q e
    unfold bnd at e
    split at e
    · cases e
    · injection e with e; omega
  have h4 : ∀ (p : Prop) [Decidable p], some (b2i p) ≠ some (-2000000000 : Int) := by
    intro p _ e
    injection e with e
    have := b2i_01 p
    omega
  unfold opV at h
  split at h
  · exact h3 _ h
  split at h
  · exact h3 _ h
  split at h
  · exact h3 _ h
  split at h
  · split at h
    · cases h
    · exact h3 _ h
  split at h
  · split at h
    · cases h
    · exact h3 _ h
  split at h
  · exact h4 _ h
  split at h
  · exact h4 _ h
  · exact h4 _ h
set_option maxHeartbeats 4000000 in
set_option maxRecDepth 100000 in
theorem ask10_num {l : Launch} {E : cE} {d : Nat} {Pz : Option Value → zH → Prop} {h0 h : zH} {f0 f : mF} {g0 g j : mA} {m : Nat} {C φ A : Int → Int} {N t s dp : Int} {v6 v7 v8 : Option Value} {a : Int}  (hlm : E.2.1 m = true) (hcls : cCls m = 4) (hd : 1 ≤ d) (h16 : 13 ≤ m) (hNl : N ≤ E.2.2 (32 * m + 8)) (hN0 : N ≤ 400) (s0 : 0 ≤ s) (hs : s < N) (hC : C s = 1 * 1024 + a) (a0 : 0 ≤ a) (a1 : a ≤ 1023) (d0 : 0 ≤ dp) (d1 : dp < 64) (kx : ∀ (v6 v7 v8 : Option Value) (f : mF) (g : mA) (h : zH), g 320 = iu A dp a → g (32 * m + 8) = C → g 10 = φ → f (32 * m + 1) = N → eqx [] f0 f → eqx [320] g0 g → HC E f g j h → cAg E h0 h → Z l MX5_ask d 0 0 Pz 10 [some (.ref (E.1 351)), some (.ref (E.1 (32 * m + 31))), some (vI t), some (.ref (E.1 10)), some (vI (dp + 1)), some (vI (s + 1)), v6, v7, v8] [] h 0 0)  (eg320 : g 320 = A) (egm8 : g (32 * m + 8) = C) (eg10 : g 10 = φ) (efm1 : f (32 * m + 1) = N) (hfE : eqx [] f0 f) (hgE : eqx [320] g0 g) (hH : HC E f g j h) (hA : cAg E h0 h) : Z l MX5_ask d 0 0 Pz 10 [some (.ref (E.1 351)), some (.ref (E.1 (32 * m + 31))), some (vI t), some (.ref (E.1 10)), some (vI dp), some (vI s), v6, v7, v8] [] h 0 0 := by
  refine z_ild_5 (TX5_ask_0.at 6 rfl) ?_
  refine z_ald_1 (TX5_ask_0.at 7 rfl) ?_
  refine zc_getIE (m := m) (s := 1) (k := (32 * m + 1)) hlm efm1 (TX5_ask_0.at 8 rfl) fl5_21 hH hcls rfl (by decide) (by decide) (fun r13 => ?_)
  refine z_icmp_ge (tgt := 280) (TX5_ask_0.at 9 rfl) rfl (by omega) (by omega) (fun c1 => absurd c1 (by omega)) (fun c1 => ?_)
  refine z_ald_1 (TX5_ask_0.at 10 rfl) ?_
  refine zc_getA (m := m) (s := 8) (k := (32 * m + 8)) hlm (TX5_ask_0.at 11 rfl) fl5_27 hH hcls rfl (by decide) (by decide) ?_
  refine z_ild_5 (TX5_ask_0.at 12 rfl) ?_
  refine zcs_iald (m := m) (s := 8) hlm hcls egm8 (TX5_ask_0.at 13 rfl) hH (by decide) (by decide) (by omega) (by omega) (fun r25 => ?_)
  refine z_bipush (by decide) (TX5_ask_0.at 14 rfl) ?_
  refine z_ishr (TX5_ask_0.at 15 rfl) ?_
  rw [hC, pk_o (by omega) (by omega) (by omega) (by omega)]
  refine z_ist_6 (TX5_ask_0.at 16 rfl) (Nat.le_of_ble_eq_true rfl) rfl ?_
  refine z_ald_1 (TX5_ask_0.at 17 rfl) ?_
  refine zc_getA (m := m) (s := 8) (k := (32 * m + 8)) hlm (TX5_ask_0.at 18 rfl) fl5_27 hH hcls rfl (by decide) (by decide) ?_
  refine z_ild_5 (TX5_ask_0.at 19 rfl) ?_
  refine zcs_iald (m := m) (s := 8) hlm hcls egm8 (TX5_ask_0.at 20 rfl) hH (by decide) (by decide) (by omega) (by omega) (fun r37 => ?_)
  refine z_sipush (by decide) (TX5_ask_0.at 21 rfl) ?_
  refine z_iand (TX5_ask_0.at 22 rfl) ?_
  rw [hC, pk_a (by omega) (by omega) (by omega) (by omega)]
  refine z_ist_7 (TX5_ask_0.at 23 rfl) (Nat.le_of_ble_eq_true rfl) rfl ?_
  refine z_ild_6 (TX5_ask_0.at 24 rfl) ?_
  refine z_if_ne (tgt := 52) (TX5_ask_0.at 25 rfl) rfl (by omega) (fun c2 => ?_) (fun c2 => absurd c2 (by omega))
  refine z_ild_6 (TX5_ask_0.at 27 rfl) ?_
  refine z_iconst (TX5_ask_0.at 28 rfl) ?_
  refine z_icmp_eq (tgt := 64) (TX5_ask_0.at 29 rfl) rfl (by omega) (by omega) (fun c3 => ?_) (fun c3 => absurd c3 (by omega))
  refine z_ild_4 (TX5_ask_0.at 33 rfl) ?_
  refine z_bipush (by decide) (TX5_ask_0.at 34 rfl) ?_
  refine z_icmp_ge (tgt := 84) (TX5_ask_0.at 35 rfl) rfl (by omega) (by omega) (fun c4 => absurd c4 (by omega)) (fun c4 => ?_)
  refine z_ild_7 (TX5_ask_0.at 36 rfl) ?_
  refine z_ald_3 (TX5_ask_0.at 37 rfl) ?_
  refine zcf_alen (k := 10) (N := 31) (hH.lv (by decide)) (by decide) rfl (TX5_ask_0.at 38 rfl) hH (by decide) ?_
  refine z_icmp_lt (tgt := 87) (TX5_ask_0.at 39 rfl) rfl (by omega) (by omega) (fun c5 => ?_) (fun c5 => ?_)
  · skip
    refine z_ald_0 (TX5_ask_1.at 5 rfl) ?_
    refine zc_getA (m := 10) (s := 0) (k := 320) (hH.lv (by decide)) (TX5_ask_1.at 6 rfl) fl5_9 hH rfl rfl (by decide) (by decide) ?_
    refine z_ild_4 (TX5_ask_1.at 7 rfl) ?_
    refine z_ild_6 (TX5_ask_1.at 8 rfl) ?_
    refine z_iconst (TX5_ask_1.at 9 rfl) ?_
    refine z_icmp_ne (tgt := 104) (TX5_ask_1.at 10 rfl) rfl (by omega) (by omega) (fun c6 => absurd c6 (by omega)) (fun c6 => ?_)
    refine z_ild_7 (TX5_ask_1.at 11 rfl) ?_
    refine z_goto (tgt := 108) (TX5_ask_1.at 12 rfl) rfl ?_
    refine zcf_iast (k := 320) (N := 64) (hH.lv (by decide)) (by decide) rfl (TX5_ask_1.at 16 rfl) hH hA (by decide) (by omega) (show _ < ((64 : Nat) : Int) by omega) (by omega) (fun h g108 e1 e2 hH hA => ?_)
    rw [eg320] at e2; have eg320 := e2
    have egm8 := (e1 (32 * m + 8) (by omega)).trans egm8
    have eg10 := (e1 10 (by decide)).trans eg10
    have hgE := hgE.put e1 (by decide)
    refine z_iinc_4 (TX5_ask_1.at 17 rfl) (Nat.le_of_ble_eq_true rfl) rfl ?_
    refine z_goto (tgt := 274) (TX5_ask_1.at 18 rfl) rfl ?_
    refine z_iinc_5 (TX5_ask_3.at 25 rfl) (Nat.le_of_ble_eq_true rfl) rfl ?_
    refine z_goto (tgt := 10) (TX5_ask_3.at 26 rfl) rfl ?_
    exact kx _ _ _ _ _ _ eg320 egm8 eg10 efm1 hfE hgE hH hA
  · skip
    refine z_ild_6 (TX5_ask_1.at 0 rfl) ?_
    refine z_iconst (TX5_ask_1.at 1 rfl) ?_
    refine z_icmp_ne (tgt := 87) (TX5_ask_1.at 2 rfl) rfl (by omega) (by omega) (fun c7 => ?_) (fun c7 => absurd c7 (by omega))
    refine z_ald_0 (TX5_ask_1.at 5 rfl) ?_
    refine zc_getA (m := 10) (s := 0) (k := 320) (hH.lv (by decide)) (TX5_ask_1.at 6 rfl) fl5_9 hH rfl rfl (by decide) (by decide) ?_
    refine z_ild_4 (TX5_ask_1.at 7 rfl) ?_
    refine z_ild_6 (TX5_ask_1.at 8 rfl) ?_
    refine z_iconst (TX5_ask_1.at 9 rfl) ?_
    refine z_icmp_ne (tgt := 104) (TX5_ask_1.at 10 rfl) rfl (by omega) (by omega) (fun c8 => absurd c8 (by omega)) (fun c8 => ?_)
    refine z_ild_7 (TX5_ask_1.at 11 rfl) ?_
    refine z_goto (tgt := 108) (TX5_ask_1.at 12 rfl) rfl ?_
    refine zcf_iast (k := 320) (N := 64) (hH.lv (by decide)) (by decide) rfl (TX5_ask_1.at 16 rfl) hH hA (by decide) (by omega) (show _ < ((64 : Nat) : Int) by omega) (by omega) (fun h g108 e1 e2 hH hA => ?_)
    rw [eg320] at e2; have eg320 := e2
    have egm8 := (e1 (32 * m + 8) (by omega)).trans egm8
    have eg10 := (e1 10 (by decide)).trans eg10
    have hgE := hgE.put e1 (by decide)
    refine z_iinc_4 (TX5_ask_1.at 17 rfl) (Nat.le_of_ble_eq_true rfl) rfl ?_
    refine z_goto (tgt := 274) (TX5_ask_1.at 18 rfl) rfl ?_
    refine z_iinc_5 (TX5_ask_3.at 25 rfl) (Nat.le_of_ble_eq_true rfl) rfl ?_
    refine z_goto (tgt := 10) (TX5_ask_3.at 26 rfl) rfl ?_
    exact kx _ _ _ _ _ _ eg320 egm8 eg10 efm1 hfE hgE hH hA

set_option maxHeartbeats 4000000 in
set_option maxRecDepth 100000 in
theorem ask10_fact {l : Launch} {E : cE} {d : Nat} {Pz : Option Value → zH → Prop} {h0 h : zH} {f0 f : mF} {g0 g j : mA} {m : Nat} {C φ A : Int → Int} {N t s dp : Int} {v6 v7 v8 : Option Value} {a : Int}  (hlm : E.2.1 m = true) (hcls : cCls m = 4) (hd : 1 ≤ d) (h16 : 13 ≤ m) (hNl : N ≤ E.2.2 (32 * m + 8)) (hN0 : N ≤ 400) (s0 : 0 ≤ s) (hs : s < N) (hC : C s = 2 * 1024 + a) (a0 : 0 ≤ a) (a1 : a < 31) (d0 : 0 ≤ dp) (d1 : dp < 64) (kx : ∀ (v6 v7 v8 : Option Value) (f : mF) (g : mA) (h : zH), g 320 = iu A dp (φ a) → g (32 * m + 8) = C → g 10 = φ → f (32 * m + 1) = N → eqx [] f0 f → eqx [320] g0 g → HC E f g j h → cAg E h0 h → Z l MX5_ask d 0 0 Pz 10 [some (.ref (E.1 351)), some (.ref (E.1 (32 * m + 31))), some (vI t), some (.ref (E.1 10)), some (vI (dp + 1)), some (vI (s + 1)), v6, v7, v8] [] h 0 0)  (eg320 : g 320 = A) (egm8 : g (32 * m + 8) = C) (eg10 : g 10 = φ) (efm1 : f (32 * m + 1) = N) (hfE : eqx [] f0 f) (hgE : eqx [320] g0 g) (hH : HC E f g j h) (hA : cAg E h0 h) : Z l MX5_ask d 0 0 Pz 10 [some (.ref (E.1 351)), some (.ref (E.1 (32 * m + 31))), some (vI t), some (.ref (E.1 10)), some (vI dp), some (vI s), v6, v7, v8] [] h 0 0 := by
  refine z_ild_5 (TX5_ask_0.at 6 rfl) ?_
  refine z_ald_1 (TX5_ask_0.at 7 rfl) ?_
  refine zc_getIE (m := m) (s := 1) (k := (32 * m + 1)) hlm efm1 (TX5_ask_0.at 8 rfl) fl5_21 hH hcls rfl (by decide) (by decide) (fun r13 => ?_)
  refine z_icmp_ge (tgt := 280) (TX5_ask_0.at 9 rfl) rfl (by omega) (by omega) (fun c1 => absurd c1 (by omega)) (fun c1 => ?_)
  refine z_ald_1 (TX5_ask_0.at 10 rfl) ?_
  refine zc_getA (m := m) (s := 8) (k := (32 * m + 8)) hlm (TX5_ask_0.at 11 rfl) fl5_27 hH hcls rfl (by decide) (by decide) ?_
  refine z_ild_5 (TX5_ask_0.at 12 rfl) ?_
  refine zcs_iald (m := m) (s := 8) hlm hcls egm8 (TX5_ask_0.at 13 rfl) hH (by decide) (by decide) (by omega) (by omega) (fun r25 => ?_)
  refine z_bipush (by decide) (TX5_ask_0.at 14 rfl) ?_
  refine z_ishr (TX5_ask_0.at 15 rfl) ?_
  rw [hC, pk_o (by omega) (by omega) (by omega) (by omega)]
  refine z_ist_6 (TX5_ask_0.at 16 rfl) (Nat.le_of_ble_eq_true rfl) rfl ?_
  refine z_ald_1 (TX5_ask_0.at 17 rfl) ?_
  refine zc_getA (m := m) (s := 8) (k := (32 * m + 8)) hlm (TX5_ask_0.at 18 rfl) fl5_27 hH hcls rfl (by decide) (by decide) ?_
  refine z_ild_5 (TX5_ask_0.at 19 rfl) ?_
  refine zcs_iald (m := m) (s := 8) hlm hcls egm8 (TX5_ask_0.at 20 rfl) hH (by decide) (by decide) (by omega) (by omega) (fun r37 => ?_)
  refine z_sipush (by decide) (TX5_ask_0.at 21 rfl) ?_
  refine z_iand (TX5_ask_0.at 22 rfl) ?_
  rw [hC, pk_a (by omega) (by omega) (by omega) (by omega)]
  refine z_ist_7 (TX5_ask_0.at 23 rfl) (Nat.le_of_ble_eq_true rfl) rfl ?_
  refine z_ild_6 (TX5_ask_0.at 24 rfl) ?_
  refine z_if_ne (tgt := 52) (TX5_ask_0.at 25 rfl) rfl (by omega) (fun c2 => ?_) (fun c2 => absurd c2 (by omega))
  refine z_ild_6 (TX5_ask_0.at 27 rfl) ?_
  refine z_iconst (TX5_ask_0.at 28 rfl) ?_
  refine z_icmp_eq (tgt := 64) (TX5_ask_0.at 29 rfl) rfl (by omega) (by omega) (fun c3 => absurd c3 (by omega)) (fun c3 => ?_)
  refine z_ild_6 (TX5_ask_0.at 30 rfl) ?_
  refine z_iconst (TX5_ask_0.at 31 rfl) ?_
  refine z_icmp_ne (tgt := 115) (TX5_ask_0.at 32 rfl) rfl (by omega) (by omega) (fun c4 => absurd c4 (by omega)) (fun c4 => ?_)
  refine z_ild_4 (TX5_ask_0.at 33 rfl) ?_
  refine z_bipush (by decide) (TX5_ask_0.at 34 rfl) ?_
  refine z_icmp_ge (tgt := 84) (TX5_ask_0.at 35 rfl) rfl (by omega) (by omega) (fun c5 => absurd c5 (by omega)) (fun c5 => ?_)
  refine z_ild_7 (TX5_ask_0.at 36 rfl) ?_
  refine z_ald_3 (TX5_ask_0.at 37 rfl) ?_
  refine zcf_alen (k := 10) (N := 31) (hH.lv (by decide)) (by decide) rfl (TX5_ask_0.at 38 rfl) hH (by decide) ?_
  refine z_icmp_lt (tgt := 87) (TX5_ask_0.at 39 rfl) rfl (by omega) (by omega) (fun c6 => ?_) (fun c6 => absurd c6 (by omega))
  refine z_ald_0 (TX5_ask_1.at 5 rfl) ?_
  refine zc_getA (m := 10) (s := 0) (k := 320) (hH.lv (by decide)) (TX5_ask_1.at 6 rfl) fl5_9 hH rfl rfl (by decide) (by decide) ?_
  refine z_ild_4 (TX5_ask_1.at 7 rfl) ?_
  refine z_ild_6 (TX5_ask_1.at 8 rfl) ?_
  refine z_iconst (TX5_ask_1.at 9 rfl) ?_
  refine z_icmp_ne (tgt := 104) (TX5_ask_1.at 10 rfl) rfl (by omega) (by omega) (fun c7 => ?_) (fun c7 => absurd c7 (by omega))
  refine z_ald_3 (TX5_ask_1.at 13 rfl) ?_
  refine z_ild_7 (TX5_ask_1.at 14 rfl) ?_
  refine zcf_iald (k := 10) (N := 31) (hH.lv (by decide)) (by decide) rfl eg10 (TX5_ask_1.at 15 rfl) hH (by decide) (by omega) (show _ < ((31 : Nat) : Int) by omega) (fun r107 => ?_)
  refine zcf_iast (k := 320) (N := 64) (hH.lv (by decide)) (by decide) rfl (TX5_ask_1.at 16 rfl) hH hA (by decide) (by omega) (show _ < ((64 : Nat) : Int) by omega) (by omega) (fun h g108 e1 e2 hH hA => ?_)
  rw [eg320] at e2; have eg320 := e2
  have egm8 := (e1 (32 * m + 8) (by omega)).trans egm8
  have eg10 := (e1 10 (by decide)).trans eg10
  have hgE := hgE.put e1 (by decide)
  refine z_iinc_4 (TX5_ask_1.at 17 rfl) (Nat.le_of_ble_eq_true rfl) rfl ?_
  refine z_goto (tgt := 274) (TX5_ask_1.at 18 rfl) rfl ?_
  refine z_iinc_5 (TX5_ask_3.at 25 rfl) (Nat.le_of_ble_eq_true rfl) rfl ?_
  refine z_goto (tgt := 10) (TX5_ask_3.at 26 rfl) rfl ?_
  exact kx _ _ _ _ _ _ eg320 egm8 eg10 efm1 hfE hgE hH hA

set_option maxHeartbeats 4000000 in
set_option maxRecDepth 100000 in
theorem ask10_neg {l : Launch} {E : cE} {d : Nat} {Pz : Option Value → zH → Prop} {h0 h : zH} {f0 f : mF} {g0 g j : mA} {m : Nat} {C φ A : Int → Int} {N t s dp : Int} {v6 v7 v8 : Option Value}  (hlm : E.2.1 m = true) (hcls : cCls m = 4) (hd : 1 ≤ d) (h16 : 13 ≤ m) (hNl : N ≤ E.2.2 (32 * m + 8)) (hN0 : N ≤ 400) (s0 : 0 ≤ s) (hs : s < N) (hC : C s = 11 * 1024) (d0 : 1 ≤ dp) (d1 : dp ≤ 64) (hx : A (dp - 1) = 0 ∨ A (dp - 1) = 1) (kx : ∀ (v6 v7 v8 : Option Value) (f : mF) (g : mA) (h : zH), g 320 = iu A (dp - 1) (1 - A (dp - 1)) → g (32 * m + 8) = C → g 10 = φ → f (32 * m + 1) = N → eqx [] f0 f → eqx [320] g0 g → HC E f g j h → cAg E h0 h → Z l MX5_ask d 0 0 Pz 10 [some (.ref (E.1 351)), some (.ref (E.1 (32 * m + 31))), some (vI t), some (.ref (E.1 10)), some (vI dp), some (vI (s + 1)), v6, v7, v8] [] h 0 0)  (eg320 : g 320 = A) (egm8 : g (32 * m + 8) = C) (eg10 : g 10 = φ) (efm1 : f (32 * m + 1) = N) (hfE : eqx [] f0 f) (hgE : eqx [320] g0 g) (hH : HC E f g j h) (hA : cAg E h0 h) : Z l MX5_ask d 0 0 Pz 10 [some (.ref (E.1 351)), some (.ref (E.1 (32 * m + 31))), some (vI t), some (.ref (E.1 10)), some (vI dp), some (vI s), v6, v7, v8] [] h 0 0 := by
  refine z_ild_5 (TX5_ask_0.at 6 rfl) ?_
  refine z_ald_1 (TX5_ask_0.at 7 rfl) ?_
  refine zc_getIE (m := m) (s := 1) (k := (32 * m + 1)) hlm efm1 (TX5_ask_0.at 8 rfl) fl5_21 hH hcls rfl (by decide) (by decide) (fun r13 => ?_)
  refine z_icmp_ge (tgt := 280) (TX5_ask_0.at 9 rfl) rfl (by omega) (by omega) (fun c1 => absurd c1 (by omega)) (fun c1 => ?_)
  refine z_ald_1 (TX5_ask_0.at 10 rfl) ?_
  refine zc_getA (m := m) (s := 8) (k := (32 * m + 8)) hlm (TX5_ask_0.at 11 rfl) fl5_27 hH hcls rfl (by decide) (by decide) ?_
  refine z_ild_5 (TX5_ask_0.at 12 rfl) ?_
  refine zcs_iald (m := m) (s := 8) hlm hcls egm8 (TX5_ask_0.at 13 rfl) hH (by decide) (by decide) (by omega) (by omega) (fun r25 => ?_)
  refine z_bipush (by decide) (TX5_ask_0.at 14 rfl) ?_
  refine z_ishr (TX5_ask_0.at 15 rfl) ?_
  have hC0 : C s = 11 * 1024 + 0 := (by omega)
  rw [hC0, pk_o (by omega) (by omega) (by omega) (by omega)]
  refine z_ist_6 (TX5_ask_0.at 16 rfl) (Nat.le_of_ble_eq_true rfl) rfl ?_
  refine z_ald_1 (TX5_ask_0.at 17 rfl) ?_
  refine zc_getA (m := m) (s := 8) (k := (32 * m + 8)) hlm (TX5_ask_0.at 18 rfl) fl5_27 hH hcls rfl (by decide) (by decide) ?_
  refine z_ild_5 (TX5_ask_0.at 19 rfl) ?_
  refine zcs_iald (m := m) (s := 8) hlm hcls egm8 (TX5_ask_0.at 20 rfl) hH (by decide) (by decide) (by omega) (by omega) (fun r37 => ?_)
  refine z_sipush (by decide) (TX5_ask_0.at 21 rfl) ?_
  refine z_iand (TX5_ask_0.at 22 rfl) ?_
  have hC0 : C s = 11 * 1024 + 0 := (by omega)
  rw [hC0, pk_a (by omega) (by omega) (by omega) (by omega)]
  refine z_ist_7 (TX5_ask_0.at 23 rfl) (Nat.le_of_ble_eq_true rfl) rfl ?_
  refine z_ild_6 (TX5_ask_0.at 24 rfl) ?_
  refine z_if_ne (tgt := 52) (TX5_ask_0.at 25 rfl) rfl (by omega) (fun c2 => ?_) (fun c2 => absurd c2 (by omega))
  refine z_ild_6 (TX5_ask_0.at 27 rfl) ?_
  refine z_iconst (TX5_ask_0.at 28 rfl) ?_
  refine z_icmp_eq (tgt := 64) (TX5_ask_0.at 29 rfl) rfl (by omega) (by omega) (fun c3 => absurd c3 (by omega)) (fun c3 => ?_)
  refine z_ild_6 (TX5_ask_0.at 30 rfl) ?_
  refine z_iconst (TX5_ask_0.at 31 rfl) ?_
  refine z_icmp_ne (tgt := 115) (TX5_ask_0.at 32 rfl) rfl (by omega) (by omega) (fun c4 => ?_) (fun c4 => absurd c4 (by omega))
  refine z_ild_4 (TX5_ask_1.at 19 rfl) ?_
  refine z_iconst (TX5_ask_1.at 20 rfl) ?_
  refine z_icmp_ge (tgt := 124) (TX5_ask_1.at 21 rfl) rfl (by omega) (by omega) (fun c5 => ?_) (fun c5 => absurd c5 (by omega))
  refine z_ild_6 (TX5_ask_1.at 24 rfl) ?_
  refine z_bipush (by decide) (TX5_ask_1.at 25 rfl) ?_
  refine z_icmp_ne (tgt := 154) (TX5_ask_1.at 26 rfl) rfl (by omega) (by omega) (fun c6 => absurd c6 (by omega)) (fun c6 => ?_)
  refine z_ald_0 (TX5_ask_1.at 27 rfl) ?_
  refine zc_getA (m := 10) (s := 0) (k := 320) (hH.lv (by decide)) (TX5_ask_1.at 28 rfl) fl5_9 hH rfl rfl (by decide) (by decide) ?_
  refine z_ild_4 (TX5_ask_1.at 29 rfl) ?_
  refine z_iconst (TX5_ask_1.at 30 rfl) ?_
  refine z_isub (TX5_ask_1.at 31 rfl) ?_
  refine z_iconst (TX5_ask_1.at 32 rfl) ?_
  refine z_ald_0 (TX5_ask_1.at 33 rfl) ?_
  refine zc_getA (m := 10) (s := 0) (k := 320) (hH.lv (by decide)) (TX5_ask_1.at 34 rfl) fl5_9 hH rfl rfl (by decide) (by decide) ?_
  refine z_ild_4 (TX5_ask_1.at 35 rfl) ?_
  refine z_iconst (TX5_ask_1.at 36 rfl) ?_
  refine z_isub (TX5_ask_1.at 37 rfl) ?_
  refine zcf_iald (k := 320) (N := 64) (hH.lv (by decide)) (by decide) rfl eg320 (TX5_ask_1.at 38 rfl) hH (by decide) (by omega) (show _ < ((64 : Nat) : Int) by omega) (fun r148 => ?_)
  refine z_isub (TX5_ask_1.at 39 rfl) ?_
  refine zcf_iast (k := 320) (N := 64) (hH.lv (by decide)) (by decide) rfl (TX5_ask_2.at 0 rfl) hH hA (by decide) (by omega) (show _ < ((64 : Nat) : Int) by omega) (by omega) (fun h g150 e1 e2 hH hA => ?_)
  rw [eg320] at e2; have eg320 := e2
  have egm8 := (e1 (32 * m + 8) (by omega)).trans egm8
  have eg10 := (e1 10 (by decide)).trans eg10
  have hgE := hgE.put e1 (by decide)
  refine z_goto (tgt := 274) (TX5_ask_2.at 1 rfl) rfl ?_
  refine z_iinc_5 (TX5_ask_3.at 25 rfl) (Nat.le_of_ble_eq_true rfl) rfl ?_
  refine z_goto (tgt := 10) (TX5_ask_3.at 26 rfl) rfl ?_
  exact kx _ _ _ _ _ _ eg320 egm8 eg10 efm1 hfE hgE hH hA

set_option maxHeartbeats 4000000 in
set_option maxRecDepth 100000 in
theorem ask10_leap12 {l : Launch} {E : cE} {d : Nat} {Pz : Option Value → zH → Prop} {h0 h : zH} {f0 f : mF} {g0 g j : mA} {m : Nat} {C φ A : Int → Int} {N t s dp : Int} {v6 v7 v8 : Option Value} {a : Int}  (hlm : E.2.1 m = true) (hcls : cCls m = 4) (hd : 1 ≤ d) (h16 : 13 ≤ m) (hNl : N ≤ E.2.2 (32 * m + 8)) (hN0 : N ≤ 400) (s0 : 0 ≤ s) (hs : s < N) (hC : C s = 12 * 1024 + a) (a0 : s < a) (a1 : a ≤ 1023) (d0 : 1 ≤ dp) (d1 : dp ≤ 64) (hx : A (dp - 1) = 1) (kx : ∀ (v6 v7 v8 : Option Value) (f : mF) (g : mA) (h : zH), g 320 = A → g (32 * m + 8) = C → g 10 = φ → f (32 * m + 1) = N → eqx [] f0 f → eqx [320] g0 g → HC E f g j h → cAg E h0 h → Z l MX5_ask d 0 0 Pz 10 [some (.ref (E.1 351)), some (.ref (E.1 (32 * m + 31))), some (vI t), some (.ref (E.1 10)), some (vI dp), some (vI a), v6, v7, v8] [] h 0 0)  (eg320 : g 320 = A) (egm8 : g (32 * m + 8) = C) (eg10 : g 10 = φ) (efm1 : f (32 * m + 1) = N) (hfE : eqx [] f0 f) (hgE : eqx [320] g0 g) (hH : HC E f g j h) (hA : cAg E h0 h) : Z l MX5_ask d 0 0 Pz 10 [some (.ref (E.1 351)), some (.ref (E.1 (32 * m + 31))), some (vI t), some (.ref (E.1 10)), some (vI dp), some (vI s), v6, v7, v8] [] h 0 0 := by
  refine z_ild_5 (TX5_ask_0.at 6 rfl) ?_
  refine z_ald_1 (TX5_ask_0.at 7 rfl) ?_
  refine zc_getIE (m := m) (s := 1) (k := (32 * m + 1)) hlm efm1 (TX5_ask_0.at 8 rfl) fl5_21 hH hcls rfl (by decide) (by decide) (fun r13 => ?_)
  refine z_icmp_ge (tgt := 280) (TX5_ask_0.at 9 rfl) rfl (by omega) (by omega) (fun c1 => absurd c1 (by omega)) (fun c1 => ?_)
  refine z_ald_1 (TX5_ask_0.at 10 rfl) ?_
  refine zc_getA (m := m) (s := 8) (k := (32 * m + 8)) hlm (TX5_ask_0.at 11 rfl) fl5_27 hH hcls rfl (by decide) (by decide) ?_
  refine z_ild_5 (TX5_ask_0.at 12 rfl) ?_
  refine zcs_iald (m := m) (s := 8) hlm hcls egm8 (TX5_ask_0.at 13 rfl) hH (by decide) (by decide) (by omega) (by omega) (fun r25 => ?_)
  refine z_bipush (by decide) (TX5_ask_0.at 14 rfl) ?_
  refine z_ishr (TX5_ask_0.at 15 rfl) ?_
  rw [hC, pk_o (by omega) (by omega) (by omega) (by omega)]
  refine z_ist_6 (TX5_ask_0.at 16 rfl) (Nat.le_of_ble_eq_true rfl) rfl ?_
  refine z_ald_1 (TX5_ask_0.at 17 rfl) ?_
  refine zc_getA (m := m) (s := 8) (k := (32 * m + 8)) hlm (TX5_ask_0.at 18 rfl) fl5_27 hH hcls rfl (by decide) (by decide) ?_
  refine z_ild_5 (TX5_ask_0.at 19 rfl) ?_
  refine zcs_iald (m := m) (s := 8) hlm hcls egm8 (TX5_ask_0.at 20 rfl) hH (by decide) (by decide) (by omega) (by omega) (fun r37 => ?_)
  refine z_sipush (by decide) (TX5_ask_0.at 21 rfl) ?_
  refine z_iand (TX5_ask_0.at 22 rfl) ?_
  rw [hC, pk_a (by omega) (by omega) (by omega) (by omega)]
  refine z_ist_7 (TX5_ask_0.at 23 rfl) (Nat.le_of_ble_eq_true rfl) rfl ?_
  refine z_ild_6 (TX5_ask_0.at 24 rfl) ?_
  refine z_if_ne (tgt := 52) (TX5_ask_0.at 25 rfl) rfl (by omega) (fun c2 => ?_) (fun c2 => absurd c2 (by omega))
  refine z_ild_6 (TX5_ask_0.at 27 rfl) ?_
  refine z_iconst (TX5_ask_0.at 28 rfl) ?_
  refine z_icmp_eq (tgt := 64) (TX5_ask_0.at 29 rfl) rfl (by omega) (by omega) (fun c3 => absurd c3 (by omega)) (fun c3 => ?_)
  refine z_ild_6 (TX5_ask_0.at 30 rfl) ?_
  refine z_iconst (TX5_ask_0.at 31 rfl) ?_
  refine z_icmp_ne (tgt := 115) (TX5_ask_0.at 32 rfl) rfl (by omega) (by omega) (fun c4 => ?_) (fun c4 => absurd c4 (by omega))
  refine z_ild_4 (TX5_ask_1.at 19 rfl) ?_
  refine z_iconst (TX5_ask_1.at 20 rfl) ?_
  refine z_icmp_ge (tgt := 124) (TX5_ask_1.at 21 rfl) rfl (by omega) (by omega) (fun c5 => ?_) (fun c5 => absurd c5 (by omega))
  refine z_ild_6 (TX5_ask_1.at 24 rfl) ?_
  refine z_bipush (by decide) (TX5_ask_1.at 25 rfl) ?_
  refine z_icmp_ne (tgt := 154) (TX5_ask_1.at 26 rfl) rfl (by omega) (by omega) (fun c6 => ?_) (fun c6 => absurd c6 (by omega))
  refine z_ild_6 (TX5_ask_2.at 2 rfl) ?_
  refine z_bipush (by decide) (TX5_ask_2.at 3 rfl) ?_
  refine z_icmp_eq (tgt := 168) (TX5_ask_2.at 4 rfl) rfl (by omega) (by omega) (fun c7 => ?_) (fun c7 => absurd c7 (by omega))
  refine z_ald_0 (TX5_ask_2.at 8 rfl) ?_
  refine zc_getA (m := 10) (s := 0) (k := 320) (hH.lv (by decide)) (TX5_ask_2.at 9 rfl) fl5_9 hH rfl rfl (by decide) (by decide) ?_
  refine z_ild_4 (TX5_ask_2.at 10 rfl) ?_
  refine z_iconst (TX5_ask_2.at 11 rfl) ?_
  refine z_isub (TX5_ask_2.at 12 rfl) ?_
  refine zcf_iald (k := 320) (N := 64) (hH.lv (by decide)) (by decide) rfl eg320 (TX5_ask_2.at 13 rfl) hH (by decide) (by omega) (show _ < ((64 : Nat) : Int) by omega) (fun r176 => ?_)
  refine z_ild_6 (TX5_ask_2.at 14 rfl) ?_
  refine z_bipush (by decide) (TX5_ask_2.at 15 rfl) ?_
  refine z_icmp_ne (tgt := 188) (TX5_ask_2.at 16 rfl) rfl (by omega) (by omega) (fun c8 => absurd c8 (by omega)) (fun c8 => ?_)
  refine z_iconst (TX5_ask_2.at 17 rfl) ?_
  refine z_goto (tgt := 189) (TX5_ask_2.at 18 rfl) rfl ?_
  refine z_icmp_ne (tgt := 206) (TX5_ask_2.at 20 rfl) rfl (by omega) (by omega) (fun c9 => absurd c9 (by omega)) (fun c9 => ?_)
  refine z_ild_5 (TX5_ask_2.at 21 rfl) ?_
  refine z_ild_7 (TX5_ask_2.at 22 rfl) ?_
  refine z_iconst (TX5_ask_2.at 23 rfl) ?_
  refine z_isub (TX5_ask_2.at 24 rfl) ?_
  refine z_max (TX5_ask_2.at 25 rfl) cm5_15 (by omega) (by omega) (by omega) (Nat.le_of_ble_eq_true rfl) ?_
  refine z_ist_5 (TX5_ask_2.at 26 rfl) (Nat.le_of_ble_eq_true rfl) rfl ?_
  refine z_goto (tgt := 274) (TX5_ask_2.at 27 rfl) rfl ?_
  rw [show max s (a - 1) = a - 1 by omega]
  refine z_iinc_5 (TX5_ask_3.at 25 rfl) (Nat.le_of_ble_eq_true rfl) rfl ?_
  refine z_goto (tgt := 10) (TX5_ask_3.at 26 rfl) rfl ?_
  rw [show a - 1 + 1 = a by omega]
  exact kx _ _ _ _ _ _ eg320 egm8 eg10 efm1 hfE hgE hH hA

set_option maxHeartbeats 4000000 in
set_option maxRecDepth 100000 in
theorem ask10_on12 {l : Launch} {E : cE} {d : Nat} {Pz : Option Value → zH → Prop} {h0 h : zH} {f0 f : mF} {g0 g j : mA} {m : Nat} {C φ A : Int → Int} {N t s dp : Int} {v6 v7 v8 : Option Value} {a : Int}  (hlm : E.2.1 m = true) (hcls : cCls m = 4) (hd : 1 ≤ d) (h16 : 13 ≤ m) (hNl : N ≤ E.2.2 (32 * m + 8)) (hN0 : N ≤ 400) (s0 : 0 ≤ s) (hs : s < N) (hC : C s = 12 * 1024 + a) (a0 : 0 ≤ a) (a1 : a ≤ 1023) (d0 : 1 ≤ dp) (d1 : dp ≤ 64) (hx : A (dp - 1) ≠ 1) (kx : ∀ (v6 v7 v8 : Option Value) (f : mF) (g : mA) (h : zH), g 320 = A → g (32 * m + 8) = C → g 10 = φ → f (32 * m + 1) = N → eqx [] f0 f → eqx [320] g0 g → HC E f g j h → cAg E h0 h → Z l MX5_ask d 0 0 Pz 10 [some (.ref (E.1 351)), some (.ref (E.1 (32 * m + 31))), some (vI t), some (.ref (E.1 10)), some (vI (dp - 1)), some (vI (s + 1)), v6, v7, v8] [] h 0 0)  (eg320 : g 320 = A) (egm8 : g (32 * m + 8) = C) (eg10 : g 10 = φ) (efm1 : f (32 * m + 1) = N) (hfE : eqx [] f0 f) (hgE : eqx [320] g0 g) (hH : HC E f g j h) (hA : cAg E h0 h) : Z l MX5_ask d 0 0 Pz 10 [some (.ref (E.1 351)), some (.ref (E.1 (32 * m + 31))), some (vI t), some (.ref (E.1 10)), some (vI dp), some (vI s), v6, v7, v8] [] h 0 0 := by
  refine z_ild_5 (TX5_ask_0.at 6 rfl) ?_
  refine z_ald_1 (TX5_ask_0.at 7 rfl) ?_
  refine zc_getIE (m := m) (s := 1) (k := (32 * m + 1)) hlm efm1 (TX5_ask_0.at 8 rfl) fl5_21 hH hcls rfl (by decide) (by decide) (fun r13 => ?_)
  refine z_icmp_ge (tgt := 280) (TX5_ask_0.at 9 rfl) rfl (by omega) (by omega) (fun c1 => absurd c1 (by omega)) (fun c1 => ?_)
  refine z_ald_1 (TX5_ask_0.at 10 rfl) ?_
  refine zc_getA (m := m) (s := 8) (k := (32 * m + 8)) hlm (TX5_ask_0.at 11 rfl) fl5_27 hH hcls rfl (by decide) (by decide) ?_
  refine z_ild_5 (TX5_ask_0.at 12 rfl) ?_
  refine zcs_iald (m := m) (s := 8) hlm hcls egm8 (TX5_ask_0.at 13 rfl) hH (by decide) (by decide) (by omega) (by omega) (fun r25 => ?_)
  refine z_bipush (by decide) (TX5_ask_0.at 14 rfl) ?_
  refine z_ishr (TX5_ask_0.at 15 rfl) ?_
  rw [hC, pk_o (by omega) (by omega) (by omega) (by omega)]
  refine z_ist_6 (TX5_ask_0.at 16 rfl) (Nat.le_of_ble_eq_true rfl) rfl ?_
  refine z_ald_1 (TX5_ask_0.at 17 rfl) ?_
  refine zc_getA (m := m) (s := 8) (k := (32 * m + 8)) hlm (TX5_ask_0.at 18 rfl) fl5_27 hH hcls rfl (by decide) (by decide) ?_
  refine z_ild_5 (TX5_ask_0.at 19 rfl) ?_
  refine zcs_iald (m := m) (s := 8) hlm hcls egm8 (TX5_ask_0.at 20 rfl) hH (by decide) (by decide) (by omega) (by omega) (fun r37 => ?_)
  refine z_sipush (by decide) (TX5_ask_0.at 21 rfl) ?_
  refine z_iand (TX5_ask_0.at 22 rfl) ?_
  rw [hC, pk_a (by omega) (by omega) (by omega) (by omega)]
  refine z_ist_7 (TX5_ask_0.at 23 rfl) (Nat.le_of_ble_eq_true rfl) rfl ?_
  refine z_ild_6 (TX5_ask_0.at 24 rfl) ?_
  refine z_if_ne (tgt := 52) (TX5_ask_0.at 25 rfl) rfl (by omega) (fun c2 => ?_) (fun c2 => absurd c2 (by omega))
  refine z_ild_6 (TX5_ask_0.at 27 rfl) ?_
  refine z_iconst (TX5_ask_0.at 28 rfl) ?_
  refine z_icmp_eq (tgt := 64) (TX5_ask_0.at 29 rfl) rfl (by omega) (by omega) (fun c3 => absurd c3 (by omega)) (fun c3 => ?_)
  refine z_ild_6 (TX5_ask_0.at 30 rfl) ?_
  refine z_iconst (TX5_ask_0.at 31 rfl) ?_
  refine z_icmp_ne (tgt := 115) (TX5_ask_0.at 32 rfl) rfl (by omega) (by omega) (fun c4 => ?_) (fun c4 => absurd c4 (by omega))
  refine z_ild_4 (TX5_ask_1.at 19 rfl) ?_
  refine z_iconst (TX5_ask_1.at 20 rfl) ?_
  refine z_icmp_ge (tgt := 124) (TX5_ask_1.at 21 rfl) rfl (by omega) (by omega) (fun c5 => ?_) (fun c5 => absurd c5 (by omega))
  refine z_ild_6 (TX5_ask_1.at 24 rfl) ?_
  refine z_bipush (by decide) (TX5_ask_1.at 25 rfl) ?_
  refine z_icmp_ne (tgt := 154) (TX5_ask_1.at 26 rfl) rfl (by omega) (by omega) (fun c6 => ?_) (fun c6 => absurd c6 (by omega))
  refine z_ild_6 (TX5_ask_2.at 2 rfl) ?_
  refine z_bipush (by decide) (TX5_ask_2.at 3 rfl) ?_
  refine z_icmp_eq (tgt := 168) (TX5_ask_2.at 4 rfl) rfl (by omega) (by omega) (fun c7 => ?_) (fun c7 => absurd c7 (by omega))
  refine z_ald_0 (TX5_ask_2.at 8 rfl) ?_
  refine zc_getA (m := 10) (s := 0) (k := 320) (hH.lv (by decide)) (TX5_ask_2.at 9 rfl) fl5_9 hH rfl rfl (by decide) (by decide) ?_
  refine z_ild_4 (TX5_ask_2.at 10 rfl) ?_
  refine z_iconst (TX5_ask_2.at 11 rfl) ?_
  refine z_isub (TX5_ask_2.at 12 rfl) ?_
  refine zcf_iald (k := 320) (N := 64) (hH.lv (by decide)) (by decide) rfl eg320 (TX5_ask_2.at 13 rfl) hH (by decide) (by omega) (show _ < ((64 : Nat) : Int) by omega) (fun r176 => ?_)
  refine z_ild_6 (TX5_ask_2.at 14 rfl) ?_
  refine z_bipush (by decide) (TX5_ask_2.at 15 rfl) ?_
  refine z_icmp_ne (tgt := 188) (TX5_ask_2.at 16 rfl) rfl (by omega) (by omega) (fun c8 => absurd c8 (by omega)) (fun c8 => ?_)
  refine z_iconst (TX5_ask_2.at 17 rfl) ?_
  refine z_goto (tgt := 189) (TX5_ask_2.at 18 rfl) rfl ?_
  refine z_icmp_ne (tgt := 206) (TX5_ask_2.at 20 rfl) rfl (by omega) (by omega) (fun c9 => ?_) (fun c9 => absurd c9 (by omega))
  refine z_iinc_4 (TX5_ask_2.at 28 rfl) (Nat.le_of_ble_eq_true rfl) rfl ?_
  refine z_goto (tgt := 274) (TX5_ask_2.at 29 rfl) rfl ?_
  refine z_iinc_5 (TX5_ask_3.at 25 rfl) (Nat.le_of_ble_eq_true rfl) rfl ?_
  refine z_goto (tgt := 10) (TX5_ask_3.at 26 rfl) rfl ?_
  exact kx _ _ _ _ _ _ eg320 egm8 eg10 efm1 hfE hgE hH hA

set_option maxHeartbeats 4000000 in
set_option maxRecDepth 100000 in
theorem ask10_leap13 {l : Launch} {E : cE} {d : Nat} {Pz : Option Value → zH → Prop} {h0 h : zH} {f0 f : mF} {g0 g j : mA} {m : Nat} {C φ A : Int → Int} {N t s dp : Int} {v6 v7 v8 : Option Value} {a : Int}  (hlm : E.2.1 m = true) (hcls : cCls m = 4) (hd : 1 ≤ d) (h16 : 13 ≤ m) (hNl : N ≤ E.2.2 (32 * m + 8)) (hN0 : N ≤ 400) (s0 : 0 ≤ s) (hs : s < N) (hC : C s = 13 * 1024 + a) (a0 : s < a) (a1 : a ≤ 1023) (d0 : 1 ≤ dp) (d1 : dp ≤ 64) (hx : A (dp - 1) = 0) (kx : ∀ (v6 v7 v8 : Option Value) (f : mF) (g : mA) (h : zH), g 320 = A → g (32 * m + 8) = C → g 10 = φ → f (32 * m + 1) = N → eqx [] f0 f → eqx [320] g0 g → HC E f g j h → cAg E h0 h → Z l MX5_ask d 0 0 Pz 10 [some (.ref (E.1 351)), some (.ref (E.1 (32 * m + 31))), some (vI t), some (.ref (E.1 10)), some (vI dp), some (vI a), v6, v7, v8] [] h 0 0)  (eg320 : g 320 = A) (egm8 : g (32 * m + 8) = C) (eg10 : g 10 = φ) (efm1 : f (32 * m + 1) = N) (hfE : eqx [] f0 f) (hgE : eqx [320] g0 g) (hH : HC E f g j h) (hA : cAg E h0 h) : Z l MX5_ask d 0 0 Pz 10 [some (.ref (E.1 351)), some (.ref (E.1 (32 * m + 31))), some (vI t), some (.ref (E.1 10)), some (vI dp), some (vI s), v6, v7, v8] [] h 0 0 := by
  refine z_ild_5 (TX5_ask_0.at 6 rfl) ?_
  refine z_ald_1 (TX5_ask_0.at 7 rfl) ?_
  refine zc_getIE (m := m) (s := 1) (k := (32 * m + 1)) hlm efm1 (TX5_ask_0.at 8 rfl) fl5_21 hH hcls rfl (by decide) (by decide) (fun r13 => ?_)
  refine z_icmp_ge (tgt := 280) (TX5_ask_0.at 9 rfl) rfl (by omega) (by omega) (fun c1 => absurd c1 (by omega)) (fun c1 => ?_)
  refine z_ald_1 (TX5_ask_0.at 10 rfl) ?_
  refine zc_getA (m := m) (s := 8) (k := (32 * m + 8)) hlm (TX5_ask_0.at 11 rfl) fl5_27 hH hcls rfl (by decide) (by decide) ?_
  refine z_ild_5 (TX5_ask_0.at 12 rfl) ?_
  refine zcs_iald (m := m) (s := 8) hlm hcls egm8 (TX5_ask_0.at 13 rfl) hH (by decide) (by decide) (by omega) (by omega) (fun r25 => ?_)
  refine z_bipush (by decide) (TX5_ask_0.at 14 rfl) ?_
  refine z_ishr (TX5_ask_0.at 15 rfl) ?_
  rw [hC, pk_o (by omega) (by omega) (by omega) (by omega)]
  refine z_ist_6 (TX5_ask_0.at 16 rfl) (Nat.le_of_ble_eq_true rfl) rfl ?_
  refine z_ald_1 (TX5_ask_0.at 17 rfl) ?_
  refine zc_getA (m := m) (s := 8) (k := (32 * m + 8)) hlm (TX5_ask_0.at 18 rfl) fl5_27 hH hcls rfl (by decide) (by decide) ?_
  refine z_ild_5 (TX5_ask_0.at 19 rfl) ?_
  refine zcs_iald (m := m) (s := 8) hlm hcls egm8 (TX5_ask_0.at 20 rfl) hH (by decide) (by decide) (by omega) (by omega) (fun r37 => ?_)
  refine z_sipush (by decide) (TX5_ask_0.at 21 rfl) ?_
  refine z_iand (TX5_ask_0.at 22 rfl) ?_
  rw [hC, pk_a (by omega) (by omega) (by omega) (by omega)]
  refine z_ist_7 (TX5_ask_0.at 23 rfl) (Nat.le_of_ble_eq_true rfl) rfl ?_
  refine z_ild_6 (TX5_ask_0.at 24 rfl) ?_
  refine z_if_ne (tgt := 52) (TX5_ask_0.at 25 rfl) rfl (by omega) (fun c2 => ?_) (fun c2 => absurd c2 (by omega))
  refine z_ild_6 (TX5_ask_0.at 27 rfl) ?_
  refine z_iconst (TX5_ask_0.at 28 rfl) ?_
  refine z_icmp_eq (tgt := 64) (TX5_ask_0.at 29 rfl) rfl (by omega) (by omega) (fun c3 => absurd c3 (by omega)) (fun c3 => ?_)
  refine z_ild_6 (TX5_ask_0.at 30 rfl) ?_
  refine z_iconst (TX5_ask_0.at 31 rfl) ?_
  refine z_icmp_ne (tgt := 115) (TX5_ask_0.at 32 rfl) rfl (by omega) (by omega) (fun c4 => ?_) (fun c4 => absurd c4 (by omega))
  refine z_ild_4 (TX5_ask_1.at 19 rfl) ?_
  refine z_iconst (TX5_ask_1.at 20 rfl) ?_
  refine z_icmp_ge (tgt := 124) (TX5_ask_1.at 21 rfl) rfl (by omega) (by omega) (fun c5 => ?_) (fun c5 => absurd c5 (by omega))
  refine z_ild_6 (TX5_ask_1.at 24 rfl) ?_
  refine z_bipush (by decide) (TX5_ask_1.at 25 rfl) ?_
  refine z_icmp_ne (tgt := 154) (TX5_ask_1.at 26 rfl) rfl (by omega) (by omega) (fun c6 => ?_) (fun c6 => absurd c6 (by omega))
  refine z_ild_6 (TX5_ask_2.at 2 rfl) ?_
  refine z_bipush (by decide) (TX5_ask_2.at 3 rfl) ?_
  refine z_icmp_eq (tgt := 168) (TX5_ask_2.at 4 rfl) rfl (by omega) (by omega) (fun c7 => absurd c7 (by omega)) (fun c7 => ?_)
  refine z_ild_6 (TX5_ask_2.at 5 rfl) ?_
  refine z_bipush (by decide) (TX5_ask_2.at 6 rfl) ?_
  refine z_icmp_ne (tgt := 212) (TX5_ask_2.at 7 rfl) rfl (by omega) (by omega) (fun c8 => absurd c8 (by omega)) (fun c8 => ?_)
  refine z_ald_0 (TX5_ask_2.at 8 rfl) ?_
  refine zc_getA (m := 10) (s := 0) (k := 320) (hH.lv (by decide)) (TX5_ask_2.at 9 rfl) fl5_9 hH rfl rfl (by decide) (by decide) ?_
  refine z_ild_4 (TX5_ask_2.at 10 rfl) ?_
  refine z_iconst (TX5_ask_2.at 11 rfl) ?_
  refine z_isub (TX5_ask_2.at 12 rfl) ?_
  refine zcf_iald (k := 320) (N := 64) (hH.lv (by decide)) (by decide) rfl eg320 (TX5_ask_2.at 13 rfl) hH (by decide) (by omega) (show _ < ((64 : Nat) : Int) by omega) (fun r176 => ?_)
  refine z_ild_6 (TX5_ask_2.at 14 rfl) ?_
  refine z_bipush (by decide) (TX5_ask_2.at 15 rfl) ?_
  refine z_icmp_ne (tgt := 188) (TX5_ask_2.at 16 rfl) rfl (by omega) (by omega) (fun c9 => ?_) (fun c9 => absurd c9 (by omega))
  refine z_iconst (TX5_ask_2.at 19 rfl) ?_
  refine z_icmp_ne (tgt := 206) (TX5_ask_2.at 20 rfl) rfl (by omega) (by omega) (fun c10 => absurd c10 (by omega)) (fun c10 => ?_)
  refine z_ild_5 (TX5_ask_2.at 21 rfl) ?_
  refine z_ild_7 (TX5_ask_2.at 22 rfl) ?_
  refine z_iconst (TX5_ask_2.at 23 rfl) ?_
  refine z_isub (TX5_ask_2.at 24 rfl) ?_
  refine z_max (TX5_ask_2.at 25 rfl) cm5_15 (by omega) (by omega) (by omega) (Nat.le_of_ble_eq_true rfl) ?_
  refine z_ist_5 (TX5_ask_2.at 26 rfl) (Nat.le_of_ble_eq_true rfl) rfl ?_
  refine z_goto (tgt := 274) (TX5_ask_2.at 27 rfl) rfl ?_
  rw [show max s (a - 1) = a - 1 by omega]
  refine z_iinc_5 (TX5_ask_3.at 25 rfl) (Nat.le_of_ble_eq_true rfl) rfl ?_
  refine z_goto (tgt := 10) (TX5_ask_3.at 26 rfl) rfl ?_
  rw [show a - 1 + 1 = a by omega]
  exact kx _ _ _ _ _ _ eg320 egm8 eg10 efm1 hfE hgE hH hA

set_option maxHeartbeats 4000000 in
set_option maxRecDepth 100000 in
theorem ask10_on13 {l : Launch} {E : cE} {d : Nat} {Pz : Option Value → zH → Prop} {h0 h : zH} {f0 f : mF} {g0 g j : mA} {m : Nat} {C φ A : Int → Int} {N t s dp : Int} {v6 v7 v8 : Option Value} {a : Int}  (hlm : E.2.1 m = true) (hcls : cCls m = 4) (hd : 1 ≤ d) (h16 : 13 ≤ m) (hNl : N ≤ E.2.2 (32 * m + 8)) (hN0 : N ≤ 400) (s0 : 0 ≤ s) (hs : s < N) (hC : C s = 13 * 1024 + a) (a0 : 0 ≤ a) (a1 : a ≤ 1023) (d0 : 1 ≤ dp) (d1 : dp ≤ 64) (hx : A (dp - 1) ≠ 0) (kx : ∀ (v6 v7 v8 : Option Value) (f : mF) (g : mA) (h : zH), g 320 = A → g (32 * m + 8) = C → g 10 = φ → f (32 * m + 1) = N → eqx [] f0 f → eqx [320] g0 g → HC E f g j h → cAg E h0 h → Z l MX5_ask d 0 0 Pz 10 [some (.ref (E.1 351)), some (.ref (E.1 (32 * m + 31))), some (vI t), some (.ref (E.1 10)), some (vI (dp - 1)), some (vI (s + 1)), v6, v7, v8] [] h 0 0)  (eg320 : g 320 = A) (egm8 : g (32 * m + 8) = C) (eg10 : g 10 = φ) (efm1 : f (32 * m + 1) = N) (hfE : eqx [] f0 f) (hgE : eqx [320] g0 g) (hH : HC E f g j h) (hA : cAg E h0 h) : Z l MX5_ask d 0 0 Pz 10 [some (.ref (E.1 351)), some (.ref (E.1 (32 * m + 31))), some (vI t), some (.ref (E.1 10)), some (vI dp), some (vI s), v6, v7, v8] [] h 0 0 := by
  refine z_ild_5 (TX5_ask_0.at 6 rfl) ?_
  refine z_ald_1 (TX5_ask_0.at 7 rfl) ?_
  refine zc_getIE (m := m) (s := 1) (k := (32 * m + 1)) hlm efm1 (TX5_ask_0.at 8 rfl) fl5_21 hH hcls rfl (by decide) (by decide) (fun r13 => ?_)
  refine z_icmp_ge (tgt := 280) (TX5_ask_0.at 9 rfl) rfl (by omega) (by omega) (fun c1 => absurd c1 (by omega)) (fun c1 => ?_)
  refine z_ald_1 (TX5_ask_0.at 10 rfl) ?_
  refine zc_getA (m := m) (s := 8) (k := (32 * m + 8)) hlm (TX5_ask_0.at 11 rfl) fl5_27 hH hcls rfl (by decide) (by decide) ?_
  refine z_ild_5 (TX5_ask_0.at 12 rfl) ?_
  refine zcs_iald (m := m) (s := 8) hlm hcls egm8 (TX5_ask_0.at 13 rfl) hH (by decide) (by decide) (by omega) (by omega) (fun r25 => ?_)
  refine z_bipush (by decide) (TX5_ask_0.at 14 rfl) ?_
  refine z_ishr (TX5_ask_0.at 15 rfl) ?_
  rw [hC, pk_o (by omega) (by omega) (by omega) (by omega)]
  refine z_ist_6 (TX5_ask_0.at 16 rfl) (Nat.le_of_ble_eq_true rfl) rfl ?_
  refine z_ald_1 (TX5_ask_0.at 17 rfl) ?_
  refine zc_getA (m := m) (s := 8) (k := (32 * m + 8)) hlm (TX5_ask_0.at 18 rfl) fl5_27 hH hcls rfl (by decide) (by decide) ?_
  refine z_ild_5 (TX5_ask_0.at 19 rfl) ?_
  refine zcs_iald (m := m) (s := 8) hlm hcls egm8 (TX5_ask_0.at 20 rfl) hH (by decide) (by decide) (by omega) (by omega) (fun r37 => ?_)
  refine z_sipush (by decide) (TX5_ask_0.at 21 rfl) ?_
  refine z_iand (TX5_ask_0.at 22 rfl) ?_
  rw [hC, pk_a (by omega) (by omega) (by omega) (by omega)]
  refine z_ist_7 (TX5_ask_0.at 23 rfl) (Nat.le_of_ble_eq_true rfl) rfl ?_
  refine z_ild_6 (TX5_ask_0.at 24 rfl) ?_
  refine z_if_ne (tgt := 52) (TX5_ask_0.at 25 rfl) rfl (by omega) (fun c2 => ?_) (fun c2 => absurd c2 (by omega))
  refine z_ild_6 (TX5_ask_0.at 27 rfl) ?_
  refine z_iconst (TX5_ask_0.at 28 rfl) ?_
  refine z_icmp_eq (tgt := 64) (TX5_ask_0.at 29 rfl) rfl (by omega) (by omega) (fun c3 => absurd c3 (by omega)) (fun c3 => ?_)
  refine z_ild_6 (TX5_ask_0.at 30 rfl) ?_
  refine z_iconst (TX5_ask_0.at 31 rfl) ?_
  refine z_icmp_ne (tgt := 115) (TX5_ask_0.at 32 rfl) rfl (by omega) (by omega) (fun c4 => ?_) (fun c4 => absurd c4 (by omega))
  refine z_ild_4 (TX5_ask_1.at 19 rfl) ?_
  refine z_iconst (TX5_ask_1.at 20 rfl) ?_
  refine z_icmp_ge (tgt := 124) (TX5_ask_1.at 21 rfl) rfl (by omega) (by omega) (fun c5 => ?_) (fun c5 => absurd c5 (by omega))
  refine z_ild_6 (TX5_ask_1.at 24 rfl) ?_
  refine z_bipush (by decide) (TX5_ask_1.at 25 rfl) ?_
  refine z_icmp_ne (tgt := 154) (TX5_ask_1.at 26 rfl) rfl (by omega) (by omega) (fun c6 => ?_) (fun c6 => absurd c6 (by omega))
  refine z_ild_6 (TX5_ask_2.at 2 rfl) ?_
  refine z_bipush (by decide) (TX5_ask_2.at 3 rfl) ?_
  refine z_icmp_eq (tgt := 168) (TX5_ask_2.at 4 rfl) rfl (by omega) (by omega) (fun c7 => absurd c7 (by omega)) (fun c7 => ?_)
  refine z_ild_6 (TX5_ask_2.at 5 rfl) ?_
  refine z_bipush (by decide) (TX5_ask_2.at 6 rfl) ?_
  refine z_icmp_ne (tgt := 212) (TX5_ask_2.at 7 rfl) rfl (by omega) (by omega) (fun c8 => absurd c8 (by omega)) (fun c8 => ?_)
  refine z_ald_0 (TX5_ask_2.at 8 rfl) ?_
  refine zc_getA (m := 10) (s := 0) (k := 320) (hH.lv (by decide)) (TX5_ask_2.at 9 rfl) fl5_9 hH rfl rfl (by decide) (by decide) ?_
  refine z_ild_4 (TX5_ask_2.at 10 rfl) ?_
  refine z_iconst (TX5_ask_2.at 11 rfl) ?_
  refine z_isub (TX5_ask_2.at 12 rfl) ?_
  refine zcf_iald (k := 320) (N := 64) (hH.lv (by decide)) (by decide) rfl eg320 (TX5_ask_2.at 13 rfl) hH (by decide) (by omega) (show _ < ((64 : Nat) : Int) by omega) (fun r176 => ?_)
  refine z_ild_6 (TX5_ask_2.at 14 rfl) ?_
  refine z_bipush (by decide) (TX5_ask_2.at 15 rfl) ?_
  refine z_icmp_ne (tgt := 188) (TX5_ask_2.at 16 rfl) rfl (by omega) (by omega) (fun c9 => ?_) (fun c9 => absurd c9 (by omega))
  refine z_iconst (TX5_ask_2.at 19 rfl) ?_
  refine z_icmp_ne (tgt := 206) (TX5_ask_2.at 20 rfl) rfl (by omega) (by omega) (fun c10 => ?_) (fun c10 => absurd c10 (by omega))
  refine z_iinc_4 (TX5_ask_2.at 28 rfl) (Nat.le_of_ble_eq_true rfl) rfl ?_
  refine z_goto (tgt := 274) (TX5_ask_2.at 29 rfl) rfl ?_
  refine z_iinc_5 (TX5_ask_3.at 25 rfl) (Nat.le_of_ble_eq_true rfl) rfl ?_
  refine z_goto (tgt := 10) (TX5_ask_3.at 26 rfl) rfl ?_
  exact kx _ _ _ _ _ _ eg320 egm8 eg10 efm1 hfE hgE hH hA

set_option maxHeartbeats 4000000 in
set_option maxRecDepth 100000 in
theorem ask10_bin {l : Launch} {E : cE} {d : Nat} {Pz : Option Value → zH → Prop} {h0 h : zH} {f0 f : mF} {g0 g j : mA} {m : Nat} {C φ A : Int → Int} {N t s dp : Int} {v6 v7 v8 : Option Value} {o1 z : Int}  (hlm : E.2.1 m = true) (hcls : cCls m = 4) (hd : 1 ≤ d) (h16 : 13 ≤ m) (hNl : N ≤ E.2.2 (32 * m + 8)) (hN0 : N ≤ 400) (s0 : 0 ≤ s) (hs : s < N) (o0 : 3 ≤ o1) (o9 : o1 ≤ 10) (hC : C s = o1 * 1024) (d0 : 2 ≤ dp) (d1 : dp ≤ 64) (hz : opV o1 (A (dp - 2)) (A (dp - 1)) = some z) (kx : ∀ (v6 v7 v8 : Option Value) (f : mF) (g : mA) (h : zH), g 320 = iu A (dp - 2) z → g (32 * m + 8) = C → g 10 = φ → f (32 * m + 1) = N → eqx [] f0 f → eqx [320] g0 g → HC E f g j h → cAg E h0 h → Z l MX5_ask d 0 0 Pz 10 [some (.ref (E.1 351)), some (.ref (E.1 (32 * m + 31))), some (vI t), some (.ref (E.1 10)), some (vI (dp - 1)), some (vI (s + 1)), v6, v7, v8] [] h 0 0)  (eg320 : g 320 = A) (egm8 : g (32 * m + 8) = C) (eg10 : g 10 = φ) (efm1 : f (32 * m + 1) = N) (hfE : eqx [] f0 f) (hgE : eqx [320] g0 g) (hH : HC E f g j h) (hA : cAg E h0 h) : Z l MX5_ask d 0 0 Pz 10 [some (.ref (E.1 351)), some (.ref (E.1 (32 * m + 31))), some (vI t), some (.ref (E.1 10)), some (vI dp), some (vI s), v6, v7, v8] [] h 0 0 := by
  refine z_ild_5 (TX5_ask_0.at 6 rfl) ?_
  refine z_ald_1 (TX5_ask_0.at 7 rfl) ?_
  refine zc_getIE (m := m) (s := 1) (k := (32 * m + 1)) hlm efm1 (TX5_ask_0.at 8 rfl) fl5_21 hH hcls rfl (by decide) (by decide) (fun r13 => ?_)
  refine z_icmp_ge (tgt := 280) (TX5_ask_0.at 9 rfl) rfl (by omega) (by omega) (fun c1 => absurd c1 (by omega)) (fun c1 => ?_)
  refine z_ald_1 (TX5_ask_0.at 10 rfl) ?_
  refine zc_getA (m := m) (s := 8) (k := (32 * m + 8)) hlm (TX5_ask_0.at 11 rfl) fl5_27 hH hcls rfl (by decide) (by decide) ?_
  refine z_ild_5 (TX5_ask_0.at 12 rfl) ?_
  refine zcs_iald (m := m) (s := 8) hlm hcls egm8 (TX5_ask_0.at 13 rfl) hH (by decide) (by decide) (by omega) (by omega) (fun r25 => ?_)
  refine z_bipush (by decide) (TX5_ask_0.at 14 rfl) ?_
  refine z_ishr (TX5_ask_0.at 15 rfl) ?_
  have hC0 : C s = o1 * 1024 + 0 := (by omega)
  rw [hC0, pk_o (by omega) (by omega) (by omega) (by omega)]
  refine z_ist_6 (TX5_ask_0.at 16 rfl) (Nat.le_of_ble_eq_true rfl) rfl ?_
  refine z_ald_1 (TX5_ask_0.at 17 rfl) ?_
  refine zc_getA (m := m) (s := 8) (k := (32 * m + 8)) hlm (TX5_ask_0.at 18 rfl) fl5_27 hH hcls rfl (by decide) (by decide) ?_
  refine z_ild_5 (TX5_ask_0.at 19 rfl) ?_
  refine zcs_iald (m := m) (s := 8) hlm hcls egm8 (TX5_ask_0.at 20 rfl) hH (by decide) (by decide) (by omega) (by omega) (fun r37 => ?_)
  refine z_sipush (by decide) (TX5_ask_0.at 21 rfl) ?_
  refine z_iand (TX5_ask_0.at 22 rfl) ?_
  rw [hC0, pk_a (by omega) (by omega) (by omega) (by omega)]
  refine z_ist_7 (TX5_ask_0.at 23 rfl) (Nat.le_of_ble_eq_true rfl) rfl ?_
  refine z_ild_6 (TX5_ask_0.at 24 rfl) ?_
  refine z_if_ne (tgt := 52) (TX5_ask_0.at 25 rfl) rfl (by omega) (fun c2 => ?_) (fun c2 => absurd c2 (by omega))
  refine z_ild_6 (TX5_ask_0.at 27 rfl) ?_
  refine z_iconst (TX5_ask_0.at 28 rfl) ?_
  refine z_icmp_eq (tgt := 64) (TX5_ask_0.at 29 rfl) rfl (by omega) (by omega) (fun c3 => absurd c3 (by omega)) (fun c3 => ?_)
  refine z_ild_6 (TX5_ask_0.at 30 rfl) ?_
  refine z_iconst (TX5_ask_0.at 31 rfl) ?_
  refine z_icmp_ne (tgt := 115) (TX5_ask_0.at 32 rfl) rfl (by omega) (by omega) (fun c4 => ?_) (fun c4 => absurd c4 (by omega))
  refine z_ild_4 (TX5_ask_1.at 19 rfl) ?_
  refine z_iconst (TX5_ask_1.at 20 rfl) ?_
  refine z_icmp_ge (tgt := 124) (TX5_ask_1.at 21 rfl) rfl (by omega) (by omega) (fun c5 => ?_) (fun c5 => absurd c5 (by omega))
  refine z_ild_6 (TX5_ask_1.at 24 rfl) ?_
  refine z_bipush (by decide) (TX5_ask_1.at 25 rfl) ?_
  refine z_icmp_ne (tgt := 154) (TX5_ask_1.at 26 rfl) rfl (by omega) (by omega) (fun c6 => ?_) (fun c6 => absurd c6 (by omega))
  refine z_ild_6 (TX5_ask_2.at 2 rfl) ?_
  refine z_bipush (by decide) (TX5_ask_2.at 3 rfl) ?_
  refine z_icmp_eq (tgt := 168) (TX5_ask_2.at 4 rfl) rfl (by omega) (by omega) (fun c7 => absurd c7 (by omega)) (fun c7 => ?_)
  refine z_ild_6 (TX5_ask_2.at 5 rfl) ?_
  refine z_bipush (by decide) (TX5_ask_2.at 6 rfl) ?_
  refine z_icmp_ne (tgt := 212) (TX5_ask_2.at 7 rfl) rfl (by omega) (by omega) (fun c8 => ?_) (fun c8 => absurd c8 (by omega))
  refine z_ild_4 (TX5_ask_2.at 30 rfl) ?_
  refine z_iconst (TX5_ask_2.at 31 rfl) ?_
  refine z_icmp_ge (tgt := 223) (TX5_ask_2.at 32 rfl) rfl (by omega) (by omega) (fun c9 => ?_) (fun c9 => absurd c9 (by omega))
  refine z_ild_6 (TX5_ask_2.at 35 rfl) ?_
  refine z_ald_0 (TX5_ask_2.at 36 rfl) ?_
  refine zc_getA (m := 10) (s := 0) (k := 320) (hH.lv (by decide)) (TX5_ask_2.at 37 rfl) fl5_9 hH rfl rfl (by decide) (by decide) ?_
  refine z_ild_4 (TX5_ask_2.at 38 rfl) ?_
  refine z_iconst (TX5_ask_2.at 39 rfl) ?_
  refine z_isub (TX5_ask_3.at 0 rfl) ?_
  refine zcf_iald (k := 320) (N := 64) (hH.lv (by decide)) (by decide) rfl eg320 (TX5_ask_3.at 1 rfl) hH (by decide) (by omega) (show _ < ((64 : Nat) : Int) by omega) (fun r233 => ?_)
  refine z_i2l (by omega) (TX5_ask_3.at 2 rfl) ?_
  refine z_ald_0 (TX5_ask_3.at 3 rfl) ?_
  refine zc_getA (m := 10) (s := 0) (k := 320) (hH.lv (by decide)) (TX5_ask_3.at 4 rfl) fl5_9 hH rfl rfl (by decide) (by decide) ?_
  refine z_ild_4 (TX5_ask_3.at 5 rfl) ?_
  refine z_iconst (TX5_ask_3.at 6 rfl) ?_
  refine z_isub (TX5_ask_3.at 7 rfl) ?_
  refine zcf_iald (k := 320) (N := 64) (hH.lv (by decide)) (by decide) rfl eg320 (TX5_ask_3.at 8 rfl) hH (by decide) (by omega) (show _ < ((64 : Nat) : Int) by omega) (fun r243 => ?_)
  refine z_i2l (by omega) (TX5_ask_3.at 9 rfl) ?_
  refine zs_call3 (c_joined o0 o9 (by omega) (by omega)) (TX5_ask_3.at 10 rfl) c5_31 rfl (by omega) (Nat.le_of_ble_eq_true rfl) (fun r245 => ?_)
  rw [hz] at r245 ⊢
  have hzl := opV_lim hz
  have zz : zIn z := r245
  show Z _ _ _ _ _ _ _ _ (vI z :: _) _ _ _
  refine z_ist_8 (TX5_ask_3.at 11 rfl) (Nat.le_of_ble_eq_true rfl) rfl ?_
  refine z_ild_8 (TX5_ask_3.at 12 rfl) ?_
  refine z_ldc (v := -2000000000) (TX5_ask_3.at 13 rfl) k5_30 (by decide) ?_
  refine z_icmp_ne (tgt := 260) (TX5_ask_3.at 14 rfl) rfl (by omega) (by omega) (fun c10 => ?_) (fun c10 => absurd c10 (by omega))
  refine z_iinc_4 (TX5_ask_3.at 17 rfl) (Nat.le_of_ble_eq_true rfl) rfl ?_
  refine z_ald_0 (TX5_ask_3.at 18 rfl) ?_
  refine zc_getA (m := 10) (s := 0) (k := 320) (hH.lv (by decide)) (TX5_ask_3.at 19 rfl) fl5_9 hH rfl rfl (by decide) (by decide) ?_
  refine z_ild_4 (TX5_ask_3.at 20 rfl) ?_
  refine z_iconst (TX5_ask_3.at 21 rfl) ?_
  refine z_isub (TX5_ask_3.at 22 rfl) ?_
  refine z_ild_8 (TX5_ask_3.at 23 rfl) ?_
  refine zcf_iast (k := 320) (N := 64) (hH.lv (by decide)) (by decide) rfl (TX5_ask_3.at 24 rfl) hH hA (by decide) (by omega) (show _ < ((64 : Nat) : Int) by omega) (by omega) (fun h g273 e1 e2 hH hA => ?_)
  rw [eg320] at e2; have eg320 := e2
  have egm8 := (e1 (32 * m + 8) (by omega)).trans egm8
  have eg10 := (e1 10 (by decide)).trans eg10
  have hgE := hgE.put e1 (by decide)
  rw [show dp + -1 - 1 = dp - 2 by omega] at eg320
  refine z_iinc_5 (TX5_ask_3.at 25 rfl) (Nat.le_of_ble_eq_true rfl) rfl ?_
  refine z_goto (tgt := 10) (TX5_ask_3.at 26 rfl) rfl ?_
  exact kx _ _ _ _ _ _ eg320 egm8 eg10 efm1 hfE hgE hH hA

set_option maxHeartbeats 4000000 in
set_option maxRecDepth 100000 in
theorem ask10_bad {l : Launch} {E : cE} {d : Nat} {Pz : Option Value → zH → Prop} {h0 h : zH} {f0 f : mF} {g0 g j : mA} {m : Nat} {C φ A : Int → Int} {N t s dp : Int} {v6 v7 v8 : Option Value} {o1 : Int}  (hlm : E.2.1 m = true) (hcls : cCls m = 4) (hd : 1 ≤ d) (h16 : 13 ≤ m) (hNl : N ≤ E.2.2 (32 * m + 8)) (hN0 : N ≤ 400) (s0 : 0 ≤ s) (hs : s < N) (o0 : 3 ≤ o1) (o9 : o1 ≤ 10) (hC : C s = o1 * 1024) (d0 : 2 ≤ dp) (d1 : dp ≤ 64) (hz : opV o1 (A (dp - 2)) (A (dp - 1)) = none) (ePz : Pz = CP E h0 (PI (fun r f' g' j' => r = -2000000000 ∧ eqx [] f0 f' ∧ eqx [320] g0 g' ∧ j' = j)))  (eg320 : g 320 = A) (egm8 : g (32 * m + 8) = C) (eg10 : g 10 = φ) (efm1 : f (32 * m + 1) = N) (hfE : eqx [] f0 f) (hgE : eqx [320] g0 g) (hH : HC E f g j h) (hA : cAg E h0 h) : Z l MX5_ask d 0 0 Pz 10 [some (.ref (E.1 351)), some (.ref (E.1 (32 * m + 31))), some (vI t), some (.ref (E.1 10)), some (vI dp), some (vI s), v6, v7, v8] [] h 0 0 := by
  subst ePz
  refine z_ild_5 (TX5_ask_0.at 6 rfl) ?_
  refine z_ald_1 (TX5_ask_0.at 7 rfl) ?_
  refine zc_getIE (m := m) (s := 1) (k := (32 * m + 1)) hlm efm1 (TX5_ask_0.at 8 rfl) fl5_21 hH hcls rfl (by decide) (by decide) (fun r13 => ?_)
  refine z_icmp_ge (tgt := 280) (TX5_ask_0.at 9 rfl) rfl (by omega) (by omega) (fun c1 => absurd c1 (by omega)) (fun c1 => ?_)
  refine z_ald_1 (TX5_ask_0.at 10 rfl) ?_
  refine zc_getA (m := m) (s := 8) (k := (32 * m + 8)) hlm (TX5_ask_0.at 11 rfl) fl5_27 hH hcls rfl (by decide) (by decide) ?_
  refine z_ild_5 (TX5_ask_0.at 12 rfl) ?_
  refine zcs_iald (m := m) (s := 8) hlm hcls egm8 (TX5_ask_0.at 13 rfl) hH (by decide) (by decide) (by omega) (by omega) (fun r25 => ?_)
  refine z_bipush (by decide) (TX5_ask_0.at 14 rfl) ?_
  refine z_ishr (TX5_ask_0.at 15 rfl) ?_
  have hC0 : C s = o1 * 1024 + 0 := (by omega)
  rw [hC0, pk_o (by omega) (by omega) (by omega) (by omega)]
  refine z_ist_6 (TX5_ask_0.at 16 rfl) (Nat.le_of_ble_eq_true rfl) rfl ?_
  refine z_ald_1 (TX5_ask_0.at 17 rfl) ?_
  refine zc_getA (m := m) (s := 8) (k := (32 * m + 8)) hlm (TX5_ask_0.at 18 rfl) fl5_27 hH hcls rfl (by decide) (by decide) ?_
  refine z_ild_5 (TX5_ask_0.at 19 rfl) ?_
  refine zcs_iald (m := m) (s := 8) hlm hcls egm8 (TX5_ask_0.at 20 rfl) hH (by decide) (by decide) (by omega) (by omega) (fun r37 => ?_)
  refine z_sipush (by decide) (TX5_ask_0.at 21 rfl) ?_
  refine z_iand (TX5_ask_0.at 22 rfl) ?_
  rw [hC0, pk_a (by omega) (by omega) (by omega) (by omega)]
  refine z_ist_7 (TX5_ask_0.at 23 rfl) (Nat.le_of_ble_eq_true rfl) rfl ?_
  refine z_ild_6 (TX5_ask_0.at 24 rfl) ?_
  refine z_if_ne (tgt := 52) (TX5_ask_0.at 25 rfl) rfl (by omega) (fun c2 => ?_) (fun c2 => absurd c2 (by omega))
  refine z_ild_6 (TX5_ask_0.at 27 rfl) ?_
  refine z_iconst (TX5_ask_0.at 28 rfl) ?_
  refine z_icmp_eq (tgt := 64) (TX5_ask_0.at 29 rfl) rfl (by omega) (by omega) (fun c3 => absurd c3 (by omega)) (fun c3 => ?_)
  refine z_ild_6 (TX5_ask_0.at 30 rfl) ?_
  refine z_iconst (TX5_ask_0.at 31 rfl) ?_
  refine z_icmp_ne (tgt := 115) (TX5_ask_0.at 32 rfl) rfl (by omega) (by omega) (fun c4 => ?_) (fun c4 => absurd c4 (by omega))
  refine z_ild_4 (TX5_ask_1.at 19 rfl) ?_
  refine z_iconst (TX5_ask_1.at 20 rfl) ?_
  refine z_icmp_ge (tgt := 124) (TX5_ask_1.at 21 rfl) rfl (by omega) (by omega) (fun c5 => ?_) (fun c5 => absurd c5 (by omega))
  refine z_ild_6 (TX5_ask_1.at 24 rfl) ?_
  refine z_bipush (by decide) (TX5_ask_1.at 25 rfl) ?_
  refine z_icmp_ne (tgt := 154) (TX5_ask_1.at 26 rfl) rfl (by omega) (by omega) (fun c6 => ?_) (fun c6 => absurd c6 (by omega))
  refine z_ild_6 (TX5_ask_2.at 2 rfl) ?_
  refine z_bipush (by decide) (TX5_ask_2.at 3 rfl) ?_
  refine z_icmp_eq (tgt := 168) (TX5_ask_2.at 4 rfl) rfl (by omega) (by omega) (fun c7 => absurd c7 (by omega)) (fun c7 => ?_)
  refine z_ild_6 (TX5_ask_2.at 5 rfl) ?_
  refine z_bipush (by decide) (TX5_ask_2.at 6 rfl) ?_
  refine z_icmp_ne (tgt := 212) (TX5_ask_2.at 7 rfl) rfl (by omega) (by omega) (fun c8 => ?_) (fun c8 => absurd c8 (by omega))
  refine z_ild_4 (TX5_ask_2.at 30 rfl) ?_
  refine z_iconst (TX5_ask_2.at 31 rfl) ?_
  refine z_icmp_ge (tgt := 223) (TX5_ask_2.at 32 rfl) rfl (by omega) (by omega) (fun c9 => ?_) (fun c9 => absurd c9 (by omega))
  refine z_ild_6 (TX5_ask_2.at 35 rfl) ?_
  refine z_ald_0 (TX5_ask_2.at 36 rfl) ?_
  refine zc_getA (m := 10) (s := 0) (k := 320) (hH.lv (by decide)) (TX5_ask_2.at 37 rfl) fl5_9 hH rfl rfl (by decide) (by decide) ?_
  refine z_ild_4 (TX5_ask_2.at 38 rfl) ?_
  refine z_iconst (TX5_ask_2.at 39 rfl) ?_
  refine z_isub (TX5_ask_3.at 0 rfl) ?_
  refine zcf_iald (k := 320) (N := 64) (hH.lv (by decide)) (by decide) rfl eg320 (TX5_ask_3.at 1 rfl) hH (by decide) (by omega) (show _ < ((64 : Nat) : Int) by omega) (fun r233 => ?_)
  refine z_i2l (by omega) (TX5_ask_3.at 2 rfl) ?_
  refine z_ald_0 (TX5_ask_3.at 3 rfl) ?_
  refine zc_getA (m := 10) (s := 0) (k := 320) (hH.lv (by decide)) (TX5_ask_3.at 4 rfl) fl5_9 hH rfl rfl (by decide) (by decide) ?_
  refine z_ild_4 (TX5_ask_3.at 5 rfl) ?_
  refine z_iconst (TX5_ask_3.at 6 rfl) ?_
  refine z_isub (TX5_ask_3.at 7 rfl) ?_
  refine zcf_iald (k := 320) (N := 64) (hH.lv (by decide)) (by decide) rfl eg320 (TX5_ask_3.at 8 rfl) hH (by decide) (by omega) (show _ < ((64 : Nat) : Int) by omega) (fun r243 => ?_)
  refine z_i2l (by omega) (TX5_ask_3.at 9 rfl) ?_
  refine zs_call3 (c_joined o0 o9 (by omega) (by omega)) (TX5_ask_3.at 10 rfl) c5_31 rfl (by omega) (Nat.le_of_ble_eq_true rfl) (fun r245 => ?_)
  rw [hz]
  show Z _ _ _ _ _ _ _ _ (vI (-2000000000) :: _) _ _ _
  refine z_ist_8 (TX5_ask_3.at 11 rfl) (Nat.le_of_ble_eq_true rfl) rfl ?_
  refine z_ild_8 (TX5_ask_3.at 12 rfl) ?_
  refine z_ldc (v := -2000000000) (TX5_ask_3.at 13 rfl) k5_30 (by decide) ?_
  refine z_icmp_ne (tgt := 260) (TX5_ask_3.at 14 rfl) rfl (by omega) (by omega) (fun c10 => absurd c10 (by omega)) (fun c10 => ?_)
  refine z_ldc (v := -2000000000) (TX5_ask_3.at 15 rfl) k5_30 (by decide) ?_
  refine zc_iret (TX5_ask_3.at 16 rfl) rfl hH hA (by omega) ?_
  exact ⟨rfl, hfE, hgE, rfl⟩

set_option maxHeartbeats 4000000 in
set_option maxRecDepth 100000 in
theorem ask10_stop {l : Launch} {E : cE} {d : Nat} {Pz : Option Value → zH → Prop} {h0 h : zH} {f0 f : mF} {g0 g j : mA} {m : Nat} {C φ A : Int → Int} {N t s dp : Int} {v6 v7 v8 : Option Value} {x : Int}  (hlm : E.2.1 m = true) (hcls : cCls m = 4) (hd : 1 ≤ d) (h16 : 13 ≤ m) (hNl : N ≤ E.2.2 (32 * m + 8)) (hN0 : N ≤ 400) (s0 : 0 ≤ s) (hs : s < N) (hC : C s = 0) (d0 : dp = 1) (hx : A 0 = x) (ePz : Pz = CP E h0 (PI (fun r f' g' j' => r = x ∧ eqx [] f0 f' ∧ eqx [320] g0 g' ∧ j' = j)))  (eg320 : g 320 = A) (egm8 : g (32 * m + 8) = C) (eg10 : g 10 = φ) (efm1 : f (32 * m + 1) = N) (hfE : eqx [] f0 f) (hgE : eqx [320] g0 g) (hH : HC E f g j h) (hA : cAg E h0 h) : Z l MX5_ask d 0 0 Pz 10 [some (.ref (E.1 351)), some (.ref (E.1 (32 * m + 31))), some (vI t), some (.ref (E.1 10)), some (vI dp), some (vI s), v6, v7, v8] [] h 0 0 := by
  subst ePz
  refine z_ild_5 (TX5_ask_0.at 6 rfl) ?_
  refine z_ald_1 (TX5_ask_0.at 7 rfl) ?_
  refine zc_getIE (m := m) (s := 1) (k := (32 * m + 1)) hlm efm1 (TX5_ask_0.at 8 rfl) fl5_21 hH hcls rfl (by decide) (by decide) (fun r13 => ?_)
  refine z_icmp_ge (tgt := 280) (TX5_ask_0.at 9 rfl) rfl (by omega) (by omega) (fun c1 => absurd c1 (by omega)) (fun c1 => ?_)
  refine z_ald_1 (TX5_ask_0.at 10 rfl) ?_
  refine zc_getA (m := m) (s := 8) (k := (32 * m + 8)) hlm (TX5_ask_0.at 11 rfl) fl5_27 hH hcls rfl (by decide) (by decide) ?_
  refine z_ild_5 (TX5_ask_0.at 12 rfl) ?_
  refine zcs_iald (m := m) (s := 8) hlm hcls egm8 (TX5_ask_0.at 13 rfl) hH (by decide) (by decide) (by omega) (by omega) (fun r25 => ?_)
  refine z_bipush (by decide) (TX5_ask_0.at 14 rfl) ?_
  refine z_ishr (TX5_ask_0.at 15 rfl) ?_
  have hC0 : C s = 0 * 1024 + 0 := (by omega)
  rw [hC0, pk_o (by omega) (by omega) (by omega) (by omega)]
  refine z_ist_6 (TX5_ask_0.at 16 rfl) (Nat.le_of_ble_eq_true rfl) rfl ?_
  refine z_ald_1 (TX5_ask_0.at 17 rfl) ?_
  refine zc_getA (m := m) (s := 8) (k := (32 * m + 8)) hlm (TX5_ask_0.at 18 rfl) fl5_27 hH hcls rfl (by decide) (by decide) ?_
  refine z_ild_5 (TX5_ask_0.at 19 rfl) ?_
  refine zcs_iald (m := m) (s := 8) hlm hcls egm8 (TX5_ask_0.at 20 rfl) hH (by decide) (by decide) (by omega) (by omega) (fun r37 => ?_)
  refine z_sipush (by decide) (TX5_ask_0.at 21 rfl) ?_
  refine z_iand (TX5_ask_0.at 22 rfl) ?_
  have hC0 : C s = 0 * 1024 + 0 := (by omega)
  rw [hC0, pk_a (by omega) (by omega) (by omega) (by omega)]
  refine z_ist_7 (TX5_ask_0.at 23 rfl) (Nat.le_of_ble_eq_true rfl) rfl ?_
  refine z_ild_6 (TX5_ask_0.at 24 rfl) ?_
  refine z_if_ne (tgt := 52) (TX5_ask_0.at 25 rfl) rfl (by omega) (fun c2 => absurd c2 (by omega)) (fun c2 => ?_)
  refine z_goto (tgt := 280) (TX5_ask_0.at 26 rfl) rfl ?_
  refine z_ild_4 (TX5_ask_3.at 27 rfl) ?_
  refine z_iconst (TX5_ask_3.at 28 rfl) ?_
  refine z_icmp_ne (tgt := 295) (TX5_ask_3.at 29 rfl) rfl (by omega) (by omega) (fun c3 => absurd c3 (by omega)) (fun c3 => ?_)
  refine z_ald_0 (TX5_ask_3.at 30 rfl) ?_
  refine zc_getA (m := 10) (s := 0) (k := 320) (hH.lv (by decide)) (TX5_ask_3.at 31 rfl) fl5_9 hH rfl rfl (by decide) (by decide) ?_
  refine z_iconst (TX5_ask_3.at 32 rfl) ?_
  refine zcf_iald (k := 320) (N := 64) (hH.lv (by decide)) (by decide) rfl eg320 (TX5_ask_3.at 33 rfl) hH (by decide) (by omega) (show _ < ((64 : Nat) : Int) by omega) (fun r291 => ?_)
  refine z_goto (tgt := 297) (TX5_ask_3.at 34 rfl) rfl ?_
  refine zc_iret (TX5_ask_3.at 36 rfl) rfl hH hA (by omega) ?_
  exact ⟨hx, hfE, hgE, rfl⟩

set_option maxHeartbeats 4000000 in
set_option maxRecDepth 100000 in
theorem ask10_run {l : Launch} {E : cE} {d : Nat} {h0 : zH} {f0 : mF} {g0 j : mA} {m : Nat} {C φ : Int → Int} {N t : Int} (hlm : E.2.1 m = true) (hcls : cCls m = 4) (hd : 1 ≤ d) (h16 : 13 ≤ m) (hNl : N ≤ E.2.2 (32 * m + 8)) (hN0 : N ≤ 400) {s r : Int} {st : List Int} (ask : Ask C N φ s st r) : 0 ≤ s → ∀ (v6 v7 v8 : Option Value) (f : mF) (g : mA) (h : zH) (A : Int → Int), stkR st A → g 320 = A → g (32 * m + 8) = C → g 10 = φ → f (32 * m + 1) = N → eqx [] f0 f → eqx [320] g0 g → HC E f g j h → cAg E h0 h → Z l MX5_ask d 0 0 (CP E h0 (PI (fun r' f' g' j' => r' = r ∧ eqx [] f0 f' ∧ eqx [320] g0 g' ∧ j' = j))) 10 [some (.ref (E.1 351)), some (.ref (E.1 (32 * m + 31))), some (vI t), some (.ref (E.1 10)), some (vI (st.length : Int)), some (vI s), v6, v7, v8] [] h 0 0 := by
  have e : ∀ (x : Int) (st : List Int), ((x :: st).length : Int) = (st.length : Int) + 1 := fun x st => by simp
  refine ask (fun s st r => 0 ≤ s → ∀ (v6 v7 v8 : Option Value) (f : mF) (g : mA) (h : zH) (A : Int → Int), stkR st A → g 320 = A → g (32 * m + 8) = C → g 10 = φ → f (32 * m + 1) = N → eqx [] f0 f → eqx [320] g0 g → HC E f g j h → cAg E h0 h → Z l MX5_ask d 0 0 (CP E h0 (PI (fun r' f' g' j' => r' = r ∧ eqx [] f0 f' ∧ eqx [320] g0 g' ∧ j' = j))) 10 [some (.ref (E.1 351)), some (.ref (E.1 (32 * m + 31))), some (vI t), some (.ref (E.1 10)), some (vI (st.length : Int)), some (vI s), v6, v7, v8] [] h 0 0) ⟨?_, ?_, ?_, ?_, ?_, ?_, ?_, ?_⟩
  · intro s x hs hC s0 v6 v7 v8 f g h A hK y1 y2 y3 y4 xf xg hH hA
    exact ask10_stop hlm hcls hd h16 hNl hN0 s0 hs hC rfl hK.1 rfl y1 y2 y3 y4 xf xg hH hA
  · intro s a r st hs hC a0 a1 hl ih s0 v6 v7 v8 f g h A hK y1 y2 y3 y4 xf xg hH hA
    refine ask10_num hlm hcls hd h16 hNl hN0 s0 hs hC a0 a1 (by omega) (by omega) (fun v6 v7 v8 f g h z1 z2 z3 z4 xf xg hH hA => ?_) y1 y2 y3 y4 xf xg hH hA
    have w := ih (by omega) v6 v7 v8 f g h _ (stkR_push hK) z1 z2 z3 z4 xf xg hH hA
    rw [e] at w
    exact w
  · intro s a r st hs hC a0 a1 hl ih s0 v6 v7 v8 f g h A hK y1 y2 y3 y4 xf xg hH hA
    refine ask10_fact hlm hcls hd h16 hNl hN0 s0 hs hC a0 a1 (by omega) (by omega) (fun v6 v7 v8 f g h z1 z2 z3 z4 xf xg hH hA => ?_) y1 y2 y3 y4 xf xg hH hA
    have w := ih (by omega) v6 v7 v8 f g h _ (stkR_push hK) z1 z2 z3 z4 xf xg hH hA
    rw [e] at w
    exact w
  · intro s x r st hs hC hl hx ih s0 v6 v7 v8 f g h A hK y1 y2 y3 y4 xf xg hH hA
    rw [e]
    have e1 : (st.length : Int) + 1 - 1 = st.length := by omega
    refine ask10_neg hlm hcls hd h16 hNl hN0 s0 hs hC (by omega) (by omega) (by rw [e1, hK.1]; exact hx) (fun v6 v7 v8 f g h z1 z2 z3 z4 xf xg hH hA => ?_) y1 y2 y3 y4 xf xg hH hA
    rw [e1, hK.1] at z1
    have w := ih (by omega) v6 v7 v8 f g h _ (stkR_push hK.2) z1 z2 z3 z4 xf xg hH hA
    rw [e] at w
    exact w
  · intro s a o x r st hs ho hC a0 a1 hl hx ih s0 v6 v7 v8 f g h A hK y1 y2 y3 y4 xf xg hH hA
    rw [e]
    have e1 : (st.length : Int) + 1 - 1 = st.length := by omega
    rcases ho with rfl | rfl
    · refine ask10_leap12 hlm hcls hd h16 hNl hN0 s0 hs hC a0 a1 (by omega) (by omega) (by rw [e1, hK.1]; exact hx) (fun v6 v7 v8 f g h z1 z2 z3 z4 xf xg hH hA => ?_) y1 y2 y3 y4 xf xg hH hA
      have w := ih (by omega) v6 v7 v8 f g h _ hK z1 z2 z3 z4 xf xg hH hA
      rw [e] at w
      exact w
    · refine ask10_leap13 hlm hcls hd h16 hNl hN0 s0 hs hC a0 a1 (by omega) (by omega) (by rw [e1, hK.1]; exact hx) (fun v6 v7 v8 f g h z1 z2 z3 z4 xf xg hH hA => ?_) y1 y2 y3 y4 xf xg hH hA
      have w := ih (by omega) v6 v7 v8 f g h _ hK z1 z2 z3 z4 xf xg hH hA
      rw [e] at w
      exact w
  · intro s a o x r st hs ho hC a0 a1 hl hx ih s0 v6 v7 v8 f g h A hK y1 y2 y3 y4 xf xg hH hA
    rw [e]
    have e1 : (st.length : Int) + 1 - 1 = st.length := by omega
    rcases ho with rfl | rfl
    · refine ask10_on12 hlm hcls hd h16 hNl hN0 s0 hs hC a0 a1 (by omega) (by omega) (by rw [e1, hK.1]; exact hx) (fun v6 v7 v8 f g h z1 z2 z3 z4 xf xg hH hA => ?_) y1 y2 y3 y4 xf xg hH hA
      have w := ih (by omega) v6 v7 v8 f g h _ hK.2 z1 z2 z3 z4 xf xg hH hA
      rw [e1]
      exact w
    · refine ask10_on13 hlm hcls hd h16 hNl hN0 s0 hs hC a0 a1 (by omega) (by omega) (by rw [e1, hK.1]; exact hx) (fun v6 v7 v8 f g h z1 z2 z3 z4 xf xg hH hA => ?_) y1 y2 y3 y4 xf xg hH hA
      have w := ih (by omega) v6 v7 v8 f g h _ hK.2 z1 z2 z3 z4 xf xg hH hA
      rw [e1]
      exact w
  · intro s o x y z r st hs o0 o1 hC hl hz ih s0 v6 v7 v8 f g h A hK y1 y2 y3 y4 xf xg hH hA
    rw [e, e]
    have k1 := hK.1
    rw [e] at k1
    have e1 : (st.length : Int) + 1 + 1 - 1 = st.length + 1 := by omega
    have e2 : (st.length : Int) + 1 + 1 - 2 = st.length := by omega
    have k0 : A (x :: st).length = y := hK.1
    rw [e] at k0
    refine ask10_bin hlm hcls hd h16 hNl hN0 s0 hs o0 o1 hC (by omega) (by omega) (by rw [e1, e2, k0, hK.2.1]; exact hz) (fun v6 v7 v8 f g h z1 z2 z3 z4 xf xg hH hA => ?_) y1 y2 y3 y4 xf xg hH hA
    rw [e2] at z1
    have w := ih (by omega) v6 v7 v8 f g h _ (stkR_push hK.2.2) z1 z2 z3 z4 xf xg hH hA
    rw [e] at w
    rw [e1]
    exact w
  · intro s o x y st hs o0 o1 hC hl hz s0 v6 v7 v8 f g h A hK y1 y2 y3 y4 xf xg hH hA
    rw [e, e]
    have e1 : (st.length : Int) + 1 + 1 - 1 = st.length + 1 := by omega
    have e2 : (st.length : Int) + 1 + 1 - 2 = st.length := by omega
    have k0 : A (x :: st).length = y := hK.1
    rw [e] at k0
    exact ask10_bad hlm hcls hd h16 hNl hN0 s0 hs o0 o1 hC (by omega) (by omega) (by rw [e1, e2, k0, hK.2.1]; exact hz) rfl y1 y2 y3 y4 xf xg hH hA

set_option maxHeartbeats 4000000 in
set_option maxRecDepth 100000 in
theorem c_ask10 {l : Launch} {E : cE} {f : mF} {g j : mA} {m : Nat} {C φ : Int → Int} {N t r : Int} (hlm : E.2.1 m = true) (hcls : cCls m = 4) (h16 : 13 ≤ m) (hNl : N ≤ E.2.2 (32 * m + 8)) (hN0 : N ≤ 400) (egm8 : g (32 * m + 8) = C) (eg10 : g 10 = φ) (efm1 : f (32 * m + 1) = N) (t0 : 0 ≤ t) (t1 : t ≤ 400) (ask : Ask C N φ t [] r) : CM l E MX5_ask 1 [.ref (E.1 351), .ref (E.1 (32 * m + 31)), vI t, .ref (E.1 10)] f g j (PI (fun r' f' g' j' => r' = r ∧ eqx [] f f' ∧ eqx [320] g g' ∧ j' = j)) := by
  refine CM.intro [some (.ref (E.1 351)), some (.ref (E.1 (32 * m + 31))), some (vI t), some (.ref (E.1 10)), none, none, none, none, none] (by decide) (Nat.le_of_ble_eq_true rfl) rfl (fun d hd h0 h hH hA => ?_)
  refine z_iconst (TX5_ask_0.at 0 rfl) ?_
  refine z_ist_4 (TX5_ask_0.at 1 rfl) (Nat.le_of_ble_eq_true rfl) rfl ?_
  refine z_iconst (TX5_ask_0.at 2 rfl) ?_
  refine z_ild_2 (TX5_ask_0.at 3 rfl) ?_
  refine z_max (TX5_ask_0.at 4 rfl) cm5_15 (by omega) (by omega) (by omega) (Nat.le_of_ble_eq_true rfl) ?_
  rw [show max 0 t = t by omega]
  refine z_ist_5 (TX5_ask_0.at 5 rfl) (Nat.le_of_ble_eq_true rfl) rfl ?_
  exact ask10_run hlm hcls hd h16 hNl hN0 ask t0 none none none f g h (g 320) trivial rfl egm8 eg10 efm1 eqx.rf eqx.rf hH hA

set_option maxHeartbeats 4000000 in
set_option maxRecDepth 100000 in
theorem ask12_num {l : Launch} {E : cE} {d : Nat} {Pz : Option Value → zH → Prop} {h0 h : zH} {f0 f : mF} {g0 g j : mA} {m : Nat} {C φ A : Int → Int} {N t s dp : Int} {v6 v7 v8 : Option Value} {a : Int}  (hlm : E.2.1 m = true) (hcls : cCls m = 4) (hd : 1 ≤ d) (h16 : 13 ≤ m) (hNl : N ≤ E.2.2 (32 * m + 8)) (hN0 : N ≤ 400) (s0 : 0 ≤ s) (hs : s < N) (hC : C s = 1 * 1024 + a) (a0 : 0 ≤ a) (a1 : a ≤ 1023) (d0 : 0 ≤ dp) (d1 : dp < 64) (kx : ∀ (v6 v7 v8 : Option Value) (f : mF) (g : mA) (h : zH), g 384 = iu A dp a → g (32 * m + 8) = C → g 356 = φ → f (32 * m + 1) = N → eqx [] f0 f → eqx [384] g0 g → HC E f g j h → cAg E h0 h → Z l MX5_ask d 0 0 Pz 10 [some (.ref (E.1 415)), some (.ref (E.1 (32 * m + 31))), some (vI t), some (.ref (E.1 356)), some (vI (dp + 1)), some (vI (s + 1)), v6, v7, v8] [] h 0 0)  (eg384 : g 384 = A) (egm8 : g (32 * m + 8) = C) (eg356 : g 356 = φ) (efm1 : f (32 * m + 1) = N) (hfE : eqx [] f0 f) (hgE : eqx [384] g0 g) (hH : HC E f g j h) (hA : cAg E h0 h) : Z l MX5_ask d 0 0 Pz 10 [some (.ref (E.1 415)), some (.ref (E.1 (32 * m + 31))), some (vI t), some (.ref (E.1 356)), some (vI dp), some (vI s), v6, v7, v8] [] h 0 0 := by
  refine z_ild_5 (TX5_ask_0.at 6 rfl) ?_
  refine z_ald_1 (TX5_ask_0.at 7 rfl) ?_
  refine zc_getIE (m := m) (s := 1) (k := (32 * m + 1)) hlm efm1 (TX5_ask_0.at 8 rfl) fl5_21 hH hcls rfl (by decide) (by decide) (fun r13 => ?_)
  refine z_icmp_ge (tgt := 280) (TX5_ask_0.at 9 rfl) rfl (by omega) (by omega) (fun c1 => absurd c1 (by omega)) (fun c1 => ?_)
  refine z_ald_1 (TX5_ask_0.at 10 rfl) ?_
  refine zc_getA (m := m) (s := 8) (k := (32 * m + 8)) hlm (TX5_ask_0.at 11 rfl) fl5_27 hH hcls rfl (by decide) (by decide) ?_
  refine z_ild_5 (TX5_ask_0.at 12 rfl) ?_
  refine zcs_iald (m := m) (s := 8) hlm hcls egm8 (TX5_ask_0.at 13 rfl) hH (by decide) (by decide) (by omega) (by omega) (fun r25 => ?_)
  refine z_bipush (by decide) (TX5_ask_0.at 14 rfl) ?_
  refine z_ishr (TX5_ask_0.at 15 rfl) ?_
  rw [hC, pk_o (by omega) (by omega) (by omega) (by omega)]
  refine z_ist_6 (TX5_ask_0.at 16 rfl) (Nat.le_of_ble_eq_true rfl) rfl ?_
  refine z_ald_1 (TX5_ask_0.at 17 rfl) ?_
  refine zc_getA (m := m) (s := 8) (k := (32 * m + 8)) hlm (TX5_ask_0.at 18 rfl) fl5_27 hH hcls rfl (by decide) (by decide) ?_
  refine z_ild_5 (TX5_ask_0.at 19 rfl) ?_
  refine zcs_iald (m := m) (s := 8) hlm hcls egm8 (TX5_ask_0.at 20 rfl) hH (by decide) (by decide) (by omega) (by omega) (fun r37 => ?_)
  refine z_sipush (by decide) (TX5_ask_0.at 21 rfl) ?_
  refine z_iand (TX5_ask_0.at 22 rfl) ?_
  rw [hC, pk_a (by omega) (by omega) (by omega) (by omega)]
  refine z_ist_7 (TX5_ask_0.at 23 rfl) (Nat.le_of_ble_eq_true rfl) rfl ?_
  refine z_ild_6 (TX5_ask_0.at 24 rfl) ?_
  refine z_if_ne (tgt := 52) (TX5_ask_0.at 25 rfl) rfl (by omega) (fun c2 => ?_) (fun c2 => absurd c2 (by omega))
  refine z_ild_6 (TX5_ask_0.at 27 rfl) ?_
  refine z_iconst (TX5_ask_0.at 28 rfl) ?_
  refine z_icmp_eq (tgt := 64) (TX5_ask_0.at 29 rfl) rfl (by omega) (by omega) (fun c3 => ?_) (fun c3 => absurd c3 (by omega))
  refine z_ild_4 (TX5_ask_0.at 33 rfl) ?_
  refine z_bipush (by decide) (TX5_ask_0.at 34 rfl) ?_
  refine z_icmp_ge (tgt := 84) (TX5_ask_0.at 35 rfl) rfl (by omega) (by omega) (fun c4 => absurd c4 (by omega)) (fun c4 => ?_)
  refine z_ild_7 (TX5_ask_0.at 36 rfl) ?_
  refine z_ald_3 (TX5_ask_0.at 37 rfl) ?_
  refine zcf_alen (k := 356) (N := 31) (hH.lv (by decide)) (by decide) rfl (TX5_ask_0.at 38 rfl) hH (by decide) ?_
  refine z_icmp_lt (tgt := 87) (TX5_ask_0.at 39 rfl) rfl (by omega) (by omega) (fun c5 => ?_) (fun c5 => ?_)
  · skip
    refine z_ald_0 (TX5_ask_1.at 5 rfl) ?_
    refine zc_getA (m := 12) (s := 0) (k := 384) (hH.lv (by decide)) (TX5_ask_1.at 6 rfl) fl5_9 hH rfl rfl (by decide) (by decide) ?_
    refine z_ild_4 (TX5_ask_1.at 7 rfl) ?_
    refine z_ild_6 (TX5_ask_1.at 8 rfl) ?_
    refine z_iconst (TX5_ask_1.at 9 rfl) ?_
    refine z_icmp_ne (tgt := 104) (TX5_ask_1.at 10 rfl) rfl (by omega) (by omega) (fun c6 => absurd c6 (by omega)) (fun c6 => ?_)
    refine z_ild_7 (TX5_ask_1.at 11 rfl) ?_
    refine z_goto (tgt := 108) (TX5_ask_1.at 12 rfl) rfl ?_
    refine zcf_iast (k := 384) (N := 64) (hH.lv (by decide)) (by decide) rfl (TX5_ask_1.at 16 rfl) hH hA (by decide) (by omega) (show _ < ((64 : Nat) : Int) by omega) (by omega) (fun h g108 e1 e2 hH hA => ?_)
    rw [eg384] at e2; have eg384 := e2
    have egm8 := (e1 (32 * m + 8) (by omega)).trans egm8
    have eg356 := (e1 356 (by decide)).trans eg356
    have hgE := hgE.put e1 (by decide)
    refine z_iinc_4 (TX5_ask_1.at 17 rfl) (Nat.le_of_ble_eq_true rfl) rfl ?_
    refine z_goto (tgt := 274) (TX5_ask_1.at 18 rfl) rfl ?_
    refine z_iinc_5 (TX5_ask_3.at 25 rfl) (Nat.le_of_ble_eq_true rfl) rfl ?_
    refine z_goto (tgt := 10) (TX5_ask_3.at 26 rfl) rfl ?_
    exact kx _ _ _ _ _ _ eg384 egm8 eg356 efm1 hfE hgE hH hA
  · skip
    refine z_ild_6 (TX5_ask_1.at 0 rfl) ?_
    refine z_iconst (TX5_ask_1.at 1 rfl) ?_
    refine z_icmp_ne (tgt := 87) (TX5_ask_1.at 2 rfl) rfl (by omega) (by omega) (fun c7 => ?_) (fun c7 => absurd c7 (by omega))
    refine z_ald_0 (TX5_ask_1.at 5 rfl) ?_
    refine zc_getA (m := 12) (s := 0) (k := 384) (hH.lv (by decide)) (TX5_ask_1.at 6 rfl) fl5_9 hH rfl rfl (by decide) (by decide) ?_
    refine z_ild_4 (TX5_ask_1.at 7 rfl) ?_
    refine z_ild_6 (TX5_ask_1.at 8 rfl) ?_
    refine z_iconst (TX5_ask_1.at 9 rfl) ?_
    refine z_icmp_ne (tgt := 104) (TX5_ask_1.at 10 rfl) rfl (by omega) (by omega) (fun c8 => absurd c8 (by omega)) (fun c8 => ?_)
    refine z_ild_7 (TX5_ask_1.at 11 rfl) ?_
    refine z_goto (tgt := 108) (TX5_ask_1.at 12 rfl) rfl ?_
    refine zcf_iast (k := 384) (N := 64) (hH.lv (by decide)) (by decide) rfl (TX5_ask_1.at 16 rfl) hH hA (by decide) (by omega) (show _ < ((64 : Nat) : Int) by omega) (by omega) (fun h g108 e1 e2 hH hA => ?_)
    rw [eg384] at e2; have eg384 := e2
    have egm8 := (e1 (32 * m + 8) (by omega)).trans egm8
    have eg356 := (e1 356 (by decide)).trans eg356
    have hgE := hgE.put e1 (by decide)
    refine z_iinc_4 (TX5_ask_1.at 17 rfl) (Nat.le_of_ble_eq_true rfl) rfl ?_
    refine z_goto (tgt := 274) (TX5_ask_1.at 18 rfl) rfl ?_
    refine z_iinc_5 (TX5_ask_3.at 25 rfl) (Nat.le_of_ble_eq_true rfl) rfl ?_
    refine z_goto (tgt := 10) (TX5_ask_3.at 26 rfl) rfl ?_
    exact kx _ _ _ _ _ _ eg384 egm8 eg356 efm1 hfE hgE hH hA

set_option maxHeartbeats 4000000 in
set_option maxRecDepth 100000 in
theorem ask12_fact {l : Launch} {E : cE} {d : Nat} {Pz : Option Value → zH → Prop} {h0 h : zH} {f0 f : mF} {g0 g j : mA} {m : Nat} {C φ A : Int → Int} {N t s dp : Int} {v6 v7 v8 : Option Value} {a : Int}  (hlm : E.2.1 m = true) (hcls : cCls m = 4) (hd : 1 ≤ d) (h16 : 13 ≤ m) (hNl : N ≤ E.2.2 (32 * m + 8)) (hN0 : N ≤ 400) (s0 : 0 ≤ s) (hs : s < N) (hC : C s = 2 * 1024 + a) (a0 : 0 ≤ a) (a1 : a < 31) (d0 : 0 ≤ dp) (d1 : dp < 64) (kx : ∀ (v6 v7 v8 : Option Value) (f : mF) (g : mA) (h : zH), g 384 = iu A dp (φ a) → g (32 * m + 8) = C → g 356 = φ → f (32 * m + 1) = N → eqx [] f0 f → eqx [384] g0 g → HC E f g j h → cAg E h0 h → Z l MX5_ask d 0 0 Pz 10 [some (.ref (E.1 415)), some (.ref (E.1 (32 * m + 31))), some (vI t), some (.ref (E.1 356)), some (vI (dp + 1)), some (vI (s + 1)), v6, v7, v8] [] h 0 0)  (eg384 : g 384 = A) (egm8 : g (32 * m + 8) = C) (eg356 : g 356 = φ) (efm1 : f (32 * m + 1) = N) (hfE : eqx [] f0 f) (hgE : eqx [384] g0 g) (hH : HC E f g j h) (hA : cAg E h0 h) : Z l MX5_ask d 0 0 Pz 10 [some (.ref (E.1 415)), some (.ref (E.1 (32 * m + 31))), some (vI t), some (.ref (E.1 356)), some (vI dp), some (vI s), v6, v7, v8] [] h 0 0 := by
  refine z_ild_5 (TX5_ask_0.at 6 rfl) ?_
  refine z_ald_1 (TX5_ask_0.at 7 rfl) ?_
  refine zc_getIE (m := m) (s := 1) (k := (32 * m + 1)) hlm efm1 (TX5_ask_0.at 8 rfl) fl5_21 hH hcls rfl (by decide) (by decide) (fun r13 => ?_)
  refine z_icmp_ge (tgt := 280) (TX5_ask_0.at 9 rfl) rfl (by omega) (by omega) (fun c1 => absurd c1 (by omega)) (fun c1 => ?_)
  refine z_ald_1 (TX5_ask_0.at 10 rfl) ?_
  refine zc_getA (m := m) (s := 8) (k := (32 * m + 8)) hlm (TX5_ask_0.at 11 rfl) fl5_27 hH hcls rfl (by decide) (by decide) ?_
  refine z_ild_5 (TX5_ask_0.at 12 rfl) ?_
  refine zcs_iald (m := m) (s := 8) hlm hcls egm8 (TX5_ask_0.at 13 rfl) hH (by decide) (by decide) (by omega) (by omega) (fun r25 => ?_)
  refine z_bipush (by decide) (TX5_ask_0.at 14 rfl) ?_
  refine z_ishr (TX5_ask_0.at 15 rfl) ?_
  rw [hC, pk_o (by omega) (by omega) (by omega) (by omega)]
  refine z_ist_6 (TX5_ask_0.at 16 rfl) (Nat.le_of_ble_eq_true rfl) rfl ?_
  refine z_ald_1 (TX5_ask_0.at 17 rfl) ?_
  refine zc_getA (m := m) (s := 8) (k := (32 * m + 8)) hlm (TX5_ask_0.at 18 rfl) fl5_27 hH hcls rfl (by decide) (by decide) ?_
  refine z_ild_5 (TX5_ask_0.at 19 rfl) ?_
  refine zcs_iald (m := m) (s := 8) hlm hcls egm8 (TX5_ask_0.at 20 rfl) hH (by decide) (by decide) (by omega) (by omega) (fun r37 => ?_)
  refine z_sipush (by decide) (TX5_ask_0.at 21 rfl) ?_
  refine z_iand (TX5_ask_0.at 22 rfl) ?_
  rw [hC, pk_a (by omega) (by omega) (by omega) (by omega)]
  refine z_ist_7 (TX5_ask_0.at 23 rfl) (Nat.le_of_ble_eq_true rfl) rfl ?_
  refine z_ild_6 (TX5_ask_0.at 24 rfl) ?_
  refine z_if_ne (tgt := 52) (TX5_ask_0.at 25 rfl) rfl (by omega) (fun c2 => ?_) (fun c2 => absurd c2 (by omega))
  refine z_ild_6 (TX5_ask_0.at 27 rfl) ?_
  refine z_iconst (TX5_ask_0.at 28 rfl) ?_
  refine z_icmp_eq (tgt := 64) (TX5_ask_0.at 29 rfl) rfl (by omega) (by omega) (fun c3 => absurd c3 (by omega)) (fun c3 => ?_)
  refine z_ild_6 (TX5_ask_0.at 30 rfl) ?_
  refine z_iconst (TX5_ask_0.at 31 rfl) ?_
  refine z_icmp_ne (tgt := 115) (TX5_ask_0.at 32 rfl) rfl (by omega) (by omega) (fun c4 => absurd c4 (by omega)) (fun c4 => ?_)
  refine z_ild_4 (TX5_ask_0.at 33 rfl) ?_
  refine z_bipush (by decide) (TX5_ask_0.at 34 rfl) ?_
  refine z_icmp_ge (tgt := 84) (TX5_ask_0.at 35 rfl) rfl (by omega) (by omega) (fun c5 => absurd c5 (by omega)) (fun c5 => ?_)
  refine z_ild_7 (TX5_ask_0.at 36 rfl) ?_
  refine z_ald_3 (TX5_ask_0.at 37 rfl) ?_
  refine zcf_alen (k := 356) (N := 31) (hH.lv (by decide)) (by decide) rfl (TX5_ask_0.at 38 rfl) hH (by decide) ?_
  refine z_icmp_lt (tgt := 87) (TX5_ask_0.at 39 rfl) rfl (by omega) (by omega) (fun c6 => ?_) (fun c6 => absurd c6 (by omega))
  refine z_ald_0 (TX5_ask_1.at 5 rfl) ?_
  refine zc_getA (m := 12) (s := 0) (k := 384) (hH.lv (by decide)) (TX5_ask_1.at 6 rfl) fl5_9 hH rfl rfl (by decide) (by decide) ?_
  refine z_ild_4 (TX5_ask_1.at 7 rfl) ?_
  refine z_ild_6 (TX5_ask_1.at 8 rfl) ?_
  refine z_iconst (TX5_ask_1.at 9 rfl) ?_
  refine z_icmp_ne (tgt := 104) (TX5_ask_1.at 10 rfl) rfl (by omega) (by omega) (fun c7 => ?_) (fun c7 => absurd c7 (by omega))
  refine z_ald_3 (TX5_ask_1.at 13 rfl) ?_
  refine z_ild_7 (TX5_ask_1.at 14 rfl) ?_
  refine zcf_iald (k := 356) (N := 31) (hH.lv (by decide)) (by decide) rfl eg356 (TX5_ask_1.at 15 rfl) hH (by decide) (by omega) (show _ < ((31 : Nat) : Int) by omega) (fun r107 => ?_)
  refine zcf_iast (k := 384) (N := 64) (hH.lv (by decide)) (by decide) rfl (TX5_ask_1.at 16 rfl) hH hA (by decide) (by omega) (show _ < ((64 : Nat) : Int) by omega) (by omega) (fun h g108 e1 e2 hH hA => ?_)
  rw [eg384] at e2; have eg384 := e2
  have egm8 := (e1 (32 * m + 8) (by omega)).trans egm8
  have eg356 := (e1 356 (by decide)).trans eg356
  have hgE := hgE.put e1 (by decide)
  refine z_iinc_4 (TX5_ask_1.at 17 rfl) (Nat.le_of_ble_eq_true rfl) rfl ?_
  refine z_goto (tgt := 274) (TX5_ask_1.at 18 rfl) rfl ?_
  refine z_iinc_5 (TX5_ask_3.at 25 rfl) (Nat.le_of_ble_eq_true rfl) rfl ?_
  refine z_goto (tgt := 10) (TX5_ask_3.at 26 rfl) rfl ?_
  exact kx _ _ _ _ _ _ eg384 egm8 eg356 efm1 hfE hgE hH hA

set_option maxHeartbeats 4000000 in
set_option maxRecDepth 100000 in
theorem ask12_neg {l : Launch} {E : cE} {d : Nat} {Pz : Option Value → zH → Prop} {h0 h : zH} {f0 f : mF} {g0 g j : mA} {m : Nat} {C φ A : Int → Int} {N t s dp : Int} {v6 v7 v8 : Option Value}  (hlm : E.2.1 m = true) (hcls : cCls m = 4) (hd : 1 ≤ d) (h16 : 13 ≤ m) (hNl : N ≤ E.2.2 (32 * m + 8)) (hN0 : N ≤ 400) (s0 : 0 ≤ s) (hs : s < N) (hC : C s = 11 * 1024) (d0 : 1 ≤ dp) (d1 : dp ≤ 64) (hx : A (dp - 1) = 0 ∨ A (dp - 1) = 1) (kx : ∀ (v6 v7 v8 : Option Value) (f : mF) (g : mA) (h : zH), g 384 = iu A (dp - 1) (1 - A (dp - 1)) → g (32 * m + 8) = C → g 356 = φ → f (32 * m + 1) = N → eqx [] f0 f → eqx [384] g0 g → HC E f g j h → cAg E h0 h → Z l MX5_ask d 0 0 Pz 10 [some (.ref (E.1 415)), some (.ref (E.1 (32 * m + 31))), some (vI t), some (.ref (E.1 356)), some (vI dp), some (vI (s + 1)), v6, v7, v8] [] h 0 0)  (eg384 : g 384 = A) (egm8 : g (32 * m + 8) = C) (eg356 : g 356 = φ) (efm1 : f (32 * m + 1) = N) (hfE : eqx [] f0 f) (hgE : eqx [384] g0 g) (hH : HC E f g j h) (hA : cAg E h0 h) : Z l MX5_ask d 0 0 Pz 10 [some (.ref (E.1 415)), some (.ref (E.1 (32 * m + 31))), some (vI t), some (.ref (E.1 356)), some (vI dp), some (vI s), v6, v7, v8] [] h 0 0 := by
  refine z_ild_5 (TX5_ask_0.at 6 rfl) ?_
  refine z_ald_1 (TX5_ask_0.at 7 rfl) ?_
  refine zc_getIE (m := m) (s := 1) (k := (32 * m + 1)) hlm efm1 (TX5_ask_0.at 8 rfl) fl5_21 hH hcls rfl (by decide) (by decide) (fun r13 => ?_)
  refine z_icmp_ge (tgt := 280) (TX5_ask_0.at 9 rfl) rfl (by omega) (by omega) (fun c1 => absurd c1 (by omega)) (fun c1 => ?_)
  refine z_ald_1 (TX5_ask_0.at 10 rfl) ?_
  refine zc_getA (m := m) (s := 8) (k := (32 * m + 8)) hlm (TX5_ask_0.at 11 rfl) fl5_27 hH hcls rfl (by decide) (by decide) ?_
  refine z_ild_5 (TX5_ask_0.at 12 rfl) ?_
  refine zcs_iald (m := m) (s := 8) hlm hcls egm8 (TX5_ask_0.at 13 rfl) hH (by decide) (by decide) (by omega) (by omega) (fun r25 => ?_)
  refine z_bipush (by decide) (TX5_ask_0.at 14 rfl) ?_
  refine z_ishr (TX5_ask_0.at 15 rfl) ?_
  have hC0 : C s = 11 * 1024 + 0 := (by omega)
  rw [hC0, pk_o (by omega) (by omega) (by omega) (by omega)]
  refine z_ist_6 (TX5_ask_0.at 16 rfl) (Nat.le_of_ble_eq_true rfl) rfl ?_
  refine z_ald_1 (TX5_ask_0.at 17 rfl) ?_
  refine zc_getA (m := m) (s := 8) (k := (32 * m + 8)) hlm (TX5_ask_0.at 18 rfl) fl5_27 hH hcls rfl (by decide) (by decide) ?_
  refine z_ild_5 (TX5_ask_0.at 19 rfl) ?_
  refine zcs_iald (m := m) (s := 8) hlm hcls egm8 (TX5_ask_0.at 20 rfl) hH (by decide) (by decide) (by omega) (by omega) (fun r37 => ?_)
  refine z_sipush (by decide) (TX5_ask_0.at 21 rfl) ?_
  refine z_iand (TX5_ask_0.at 22 rfl) ?_
  have hC0 : C s = 11 * 1024 + 0 := (by omega)
  rw [hC0, pk_a (by omega) (by omega) (by omega) (by omega)]
  refine z_ist_7 (TX5_ask_0.at 23 rfl) (Nat.le_of_ble_eq_true rfl) rfl ?_
  refine z_ild_6 (TX5_ask_0.at 24 rfl) ?_
  refine z_if_ne (tgt := 52) (TX5_ask_0.at 25 rfl) rfl (by omega) (fun c2 => ?_) (fun c2 => absurd c2 (by omega))
  refine z_ild_6 (TX5_ask_0.at 27 rfl) ?_
  refine z_iconst (TX5_ask_0.at 28 rfl) ?_
  refine z_icmp_eq (tgt := 64) (TX5_ask_0.at 29 rfl) rfl (by omega) (by omega) (fun c3 => absurd c3 (by omega)) (fun c3 => ?_)
  refine z_ild_6 (TX5_ask_0.at 30 rfl) ?_
  refine z_iconst (TX5_ask_0.at 31 rfl) ?_
  refine z_icmp_ne (tgt := 115) (TX5_ask_0.at 32 rfl) rfl (by omega) (by omega) (fun c4 => ?_) (fun c4 => absurd c4 (by omega))
  refine z_ild_4 (TX5_ask_1.at 19 rfl) ?_
  refine z_iconst (TX5_ask_1.at 20 rfl) ?_
  refine z_icmp_ge (tgt := 124) (TX5_ask_1.at 21 rfl) rfl (by omega) (by omega) (fun c5 => ?_) (fun c5 => absurd c5 (by omega))
  refine z_ild_6 (TX5_ask_1.at 24 rfl) ?_
  refine z_bipush (by decide) (TX5_ask_1.at 25 rfl) ?_
  refine z_icmp_ne (tgt := 154) (TX5_ask_1.at 26 rfl) rfl (by omega) (by omega) (fun c6 => absurd c6 (by omega)) (fun c6 => ?_)
  refine z_ald_0 (TX5_ask_1.at 27 rfl) ?_
  refine zc_getA (m := 12) (s := 0) (k := 384) (hH.lv (by decide)) (TX5_ask_1.at 28 rfl) fl5_9 hH rfl rfl (by decide) (by decide) ?_
  refine z_ild_4 (TX5_ask_1.at 29 rfl) ?_
  refine z_iconst (TX5_ask_1.at 30 rfl) ?_
  refine z_isub (TX5_ask_1.at 31 rfl) ?_
  refine z_iconst (TX5_ask_1.at 32 rfl) ?_
  refine z_ald_0 (TX5_ask_1.at 33 rfl) ?_
  refine zc_getA (m := 12) (s := 0) (k := 384) (hH.lv (by decide)) (TX5_ask_1.at 34 rfl) fl5_9 hH rfl rfl (by decide) (by decide) ?_
  refine z_ild_4 (TX5_ask_1.at 35 rfl) ?_
  refine z_iconst (TX5_ask_1.at 36 rfl) ?_
  refine z_isub (TX5_ask_1.at 37 rfl) ?_
  refine zcf_iald (k := 384) (N := 64) (hH.lv (by decide)) (by decide) rfl eg384 (TX5_ask_1.at 38 rfl) hH (by decide) (by omega) (show _ < ((64 : Nat) : Int) by omega) (fun r148 => ?_)
  refine z_isub (TX5_ask_1.at 39 rfl) ?_
  refine zcf_iast (k := 384) (N := 64) (hH.lv (by decide)) (by decide) rfl (TX5_ask_2.at 0 rfl) hH hA (by decide) (by omega) (show _ < ((64 : Nat) : Int) by omega) (by omega) (fun h g150 e1 e2 hH hA => ?_)
  rw [eg384] at e2; have eg384 := e2
  have egm8 := (e1 (32 * m + 8) (by omega)).trans egm8
  have eg356 := (e1 356 (by decide)).trans eg356
  have hgE := hgE.put e1 (by decide)
  refine z_goto (tgt := 274) (TX5_ask_2.at 1 rfl) rfl ?_
  refine z_iinc_5 (TX5_ask_3.at 25 rfl) (Nat.le_of_ble_eq_true rfl) rfl ?_
  refine z_goto (tgt := 10) (TX5_ask_3.at 26 rfl) rfl ?_
  exact kx _ _ _ _ _ _ eg384 egm8 eg356 efm1 hfE hgE hH hA

set_option maxHeartbeats 4000000 in
set_option maxRecDepth 100000 in
theorem ask12_leap12 {l : Launch} {E : cE} {d : Nat} {Pz : Option Value → zH → Prop} {h0 h : zH} {f0 f : mF} {g0 g j : mA} {m : Nat} {C φ A : Int → Int} {N t s dp : Int} {v6 v7 v8 : Option Value} {a : Int}  (hlm : E.2.1 m = true) (hcls : cCls m = 4) (hd : 1 ≤ d) (h16 : 13 ≤ m) (hNl : N ≤ E.2.2 (32 * m + 8)) (hN0 : N ≤ 400) (s0 : 0 ≤ s) (hs : s < N) (hC : C s = 12 * 1024 + a) (a0 : s < a) (a1 : a ≤ 1023) (d0 : 1 ≤ dp) (d1 : dp ≤ 64) (hx : A (dp - 1) = 1) (kx : ∀ (v6 v7 v8 : Option Value) (f : mF) (g : mA) (h : zH), g 384 = A → g (32 * m + 8) = C → g 356 = φ → f (32 * m + 1) = N → eqx [] f0 f → eqx [384] g0 g → HC E f g j h → cAg E h0 h → Z l MX5_ask d 0 0 Pz 10 [some (.ref (E.1 415)), some (.ref (E.1 (32 * m + 31))), some (vI t), some (.ref (E.1 356)), some (vI dp), some (vI a), v6, v7, v8] [] h 0 0)  (eg384 : g 384 = A) (egm8 : g (32 * m + 8) = C) (eg356 : g 356 = φ) (efm1 : f (32 * m + 1) = N) (hfE : eqx [] f0 f) (hgE : eqx [384] g0 g) (hH : HC E f g j h) (hA : cAg E h0 h) : Z l MX5_ask d 0 0 Pz 10 [some (.ref (E.1 415)), some (.ref (E.1 (32 * m + 31))), some (vI t), some (.ref (E.1 356)), some (vI dp), some (vI s), v6, v7, v8] [] h 0 0 := by
  refine z_ild_5 (TX5_ask_0.at 6 rfl) ?_
  refine z_ald_1 (TX5_ask_0.at 7 rfl) ?_
  refine zc_getIE (m := m) (s := 1) (k := (32 * m + 1)) hlm efm1 (TX5_ask_0.at 8 rfl) fl5_21 hH hcls rfl (by decide) (by decide) (fun r13 => ?_)
  refine z_icmp_ge (tgt := 280) (TX5_ask_0.at 9 rfl) rfl (by omega) (by omega) (fun c1 => absurd c1 (by omega)) (fun c1 => ?_)
  refine z_ald_1 (TX5_ask_0.at 10 rfl) ?_
  refine zc_getA (m := m) (s := 8) (k := (32 * m + 8)) hlm (TX5_ask_0.at 11 rfl) fl5_27 hH hcls rfl (by decide) (by decide) ?_
  refine z_ild_5 (TX5_ask_0.at 12 rfl) ?_
  refine zcs_iald (m := m) (s := 8) hlm hcls egm8 (TX5_ask_0.at 13 rfl) hH (by decide) (by decide) (by omega) (by omega) (fun r25 => ?_)
  refine z_bipush (by decide) (TX5_ask_0.at 14 rfl) ?_
  refine z_ishr (TX5_ask_0.at 15 rfl) ?_
  rw [hC, pk_o (by omega) (by omega) (by omega) (by omega)]
  refine z_ist_6 (TX5_ask_0.at 16 rfl) (Nat.le_of_ble_eq_true rfl) rfl ?_
  refine z_ald_1 (TX5_ask_0.at 17 rfl) ?_
  refine zc_getA (m := m) (s := 8) (k := (32 * m + 8)) hlm (TX5_ask_0.at 18 rfl) fl5_27 hH hcls rfl (by decide) (by decide) ?_
  refine z_ild_5 (TX5_ask_0.at 19 rfl) ?_
  refine zcs_iald (m := m) (s := 8) hlm hcls egm8 (TX5_ask_0.at 20 rfl) hH (by decide) (by decide) (by omega) (by omega) (fun r37 => ?_)
  refine z_sipush (by decide) (TX5_ask_0.at 21 rfl) ?_
  refine z_iand (TX5_ask_0.at 22 rfl) ?_
  rw [hC, pk_a (by omega) (by omega) (by omega) (by omega)]
  refine z_ist_7 (TX5_ask_0.at 23 rfl) (Nat.le_of_ble_eq_true rfl) rfl ?_
  refine z_ild_6 (TX5_ask_0.at 24 rfl) ?_
  refine z_if_ne (tgt := 52) (TX5_ask_0.at 25 rfl) rfl (by omega) (fun c2 => ?_) (fun c2 => absurd c2 (by omega))
  refine z_ild_6 (TX5_ask_0.at 27 rfl) ?_
  refine z_iconst (TX5_ask_0.at 28 rfl) ?_
  refine z_icmp_eq (tgt := 64) (TX5_ask_0.at 29 rfl) rfl (by omega) (by omega) (fun c3 => absurd c3 (by omega)) (fun c3 => ?_)
  refine z_ild_6 (TX5_ask_0.at 30 rfl) ?_
  refine z_iconst (TX5_ask_0.at 31 rfl) ?_
  refine z_icmp_ne (tgt := 115) (TX5_ask_0.at 32 rfl) rfl (by omega) (by omega) (fun c4 => ?_) (fun c4 => absurd c4 (by omega))
  refine z_ild_4 (TX5_ask_1.at 19 rfl) ?_
  refine z_iconst (TX5_ask_1.at 20 rfl) ?_
  refine z_icmp_ge (tgt := 124) (TX5_ask_1.at 21 rfl) rfl (by omega) (by omega) (fun c5 => ?_) (fun c5 => absurd c5 (by omega))
  refine z_ild_6 (TX5_ask_1.at 24 rfl) ?_
  refine z_bipush (by decide) (TX5_ask_1.at 25 rfl) ?_
  refine z_icmp_ne (tgt := 154) (TX5_ask_1.at 26 rfl) rfl (by omega) (by omega) (fun c6 => ?_) (fun c6 => absurd c6 (by omega))
  refine z_ild_6 (TX5_ask_2.at 2 rfl) ?_
  refine z_bipush (by decide) (TX5_ask_2.at 3 rfl) ?_
  refine z_icmp_eq (tgt := 168) (TX5_ask_2.at 4 rfl) rfl (by omega) (by omega) (fun c7 => ?_) (fun c7 => absurd c7 (by omega))
  refine z_ald_0 (TX5_ask_2.at 8 rfl) ?_
  refine zc_getA (m := 12) (s := 0) (k := 384) (hH.lv (by decide)) (TX5_ask_2.at 9 rfl) fl5_9 hH rfl rfl (by decide) (by decide) ?_
  refine z_ild_4 (TX5_ask_2.at 10 rfl) ?_
  refine z_iconst (TX5_ask_2.at 11 rfl) ?_
  refine z_isub (TX5_ask_2.at 12 rfl) ?_
  refine zcf_iald (k := 384) (N := 64) (hH.lv (by decide)) (by decide) rfl eg384 (TX5_ask_2.at 13 rfl) hH (by decide) (by omega) (show _ < ((64 : Nat) : Int) by omega) (fun r176 => ?_)
  refine z_ild_6 (TX5_ask_2.at 14 rfl) ?_
  refine z_bipush (by decide) (TX5_ask_2.at 15 rfl) ?_
  refine z_icmp_ne (tgt := 188) (TX5_ask_2.at 16 rfl) rfl (by omega) (by omega) (fun c8 => absurd c8 (by omega)) (fun c8 => ?_)
  refine z_iconst (TX5_ask_2.at 17 rfl) ?_
  refine z_goto (tgt := 189) (TX5_ask_2.at 18 rfl) rfl ?_
  refine z_icmp_ne (tgt := 206) (TX5_ask_2.at 20 rfl) rfl (by omega) (by omega) (fun c9 => absurd c9 (by omega)) (fun c9 => ?_)
  refine z_ild_5 (TX5_ask_2.at 21 rfl) ?_
  refine z_ild_7 (TX5_ask_2.at 22 rfl) ?_
  refine z_iconst (TX5_ask_2.at 23 rfl) ?_
  refine z_isub (TX5_ask_2.at 24 rfl) ?_
  refine z_max (TX5_ask_2.at 25 rfl) cm5_15 (by omega) (by omega) (by omega) (Nat.le_of_ble_eq_true rfl) ?_
  refine z_ist_5 (TX5_ask_2.at 26 rfl) (Nat.le_of_ble_eq_true rfl) rfl ?_
  refine z_goto (tgt := 274) (TX5_ask_2.at 27 rfl) rfl ?_
  rw [show max s (a - 1) = a - 1 by omega]
  refine z_iinc_5 (TX5_ask_3.at 25 rfl) (Nat.le_of_ble_eq_true rfl) rfl ?_
  refine z_goto (tgt := 10) (TX5_ask_3.at 26 rfl) rfl ?_
  rw [show a - 1 + 1 = a by omega]
  exact kx _ _ _ _ _ _ eg384 egm8 eg356 efm1 hfE hgE hH hA

set_option maxHeartbeats 4000000 in
set_option maxRecDepth 100000 in
theorem ask12_on12 {l : Launch} {E : cE} {d : Nat} {Pz : Option Value → zH → Prop} {h0 h : zH} {f0 f : mF} {g0 g j : mA} {m : Nat} {C φ A : Int → Int} {N t s dp : Int} {v6 v7 v8 : Option Value} {a : Int}  (hlm : E.2.1 m = true) (hcls : cCls m = 4) (hd : 1 ≤ d) (h16 : 13 ≤ m) (hNl : N ≤ E.2.2 (32 * m + 8)) (hN0 : N ≤ 400) (s0 : 0 ≤ s) (hs : s < N) (hC : C s = 12 * 1024 + a) (a0 : 0 ≤ a) (a1 : a ≤ 1023) (d0 : 1 ≤ dp) (d1 : dp ≤ 64) (hx : A (dp - 1) ≠ 1) (kx : ∀ (v6 v7 v8 : Option Value) (f : mF) (g : mA) (h : zH), g 384 = A → g (32 * m + 8) = C → g 356 = φ → f (32 * m + 1) = N → eqx [] f0 f → eqx [384] g0 g → HC E f g j h → cAg E h0 h → Z l MX5_ask d 0 0 Pz 10 [some (.ref (E.1 415)), some (.ref (E.1 (32 * m + 31))), some (vI t), some (.ref (E.1 356)), some (vI (dp - 1)), some (vI (s + 1)), v6, v7, v8] [] h 0 0)  (eg384 : g 384 = A) (egm8 : g (32 * m + 8) = C) (eg356 : g 356 = φ) (efm1 : f (32 * m + 1) = N) (hfE : eqx [] f0 f) (hgE : eqx [384] g0 g) (hH : HC E f g j h) (hA : cAg E h0 h) : Z l MX5_ask d 0 0 Pz 10 [some (.ref (E.1 415)), some (.ref (E.1 (32 * m + 31))), some (vI t), some (.ref (E.1 356)), some (vI dp), some (vI s), v6, v7, v8] [] h 0 0 := by
  refine z_ild_5 (TX5_ask_0.at 6 rfl) ?_
  refine z_ald_1 (TX5_ask_0.at 7 rfl) ?_
  refine zc_getIE (m := m) (s := 1) (k := (32 * m + 1)) hlm efm1 (TX5_ask_0.at 8 rfl) fl5_21 hH hcls rfl (by decide) (by decide) (fun r13 => ?_)
  refine z_icmp_ge (tgt := 280) (TX5_ask_0.at 9 rfl) rfl (by omega) (by omega) (fun c1 => absurd c1 (by omega)) (fun c1 => ?_)
  refine z_ald_1 (TX5_ask_0.at 10 rfl) ?_
  refine zc_getA (m := m) (s := 8) (k := (32 * m + 8)) hlm (TX5_ask_0.at 11 rfl) fl5_27 hH hcls rfl (by decide) (by decide) ?_
  refine z_ild_5 (TX5_ask_0.at 12 rfl) ?_
  refine zcs_iald (m := m) (s := 8) hlm hcls egm8 (TX5_ask_0.at 13 rfl) hH (by decide) (by decide) (by omega) (by omega) (fun r25 => ?_)
  refine z_bipush (by decide) (TX5_ask_0.at 14 rfl) ?_
  refine z_ishr (TX5_ask_0.at 15 rfl) ?_
  rw [hC, pk_o (by omega) (by omega) (by omega) (by omega)]
  refine z_ist_6 (TX5_ask_0.at 16 rfl) (Nat.le_of_ble_eq_true rfl) rfl ?_
  refine z_ald_1 (TX5_ask_0.at 17 rfl) ?_
  refine zc_getA (m := m) (s := 8) (k := (32 * m + 8)) hlm (TX5_ask_0.at 18 rfl) fl5_27 hH hcls rfl (by decide) (by decide) ?_
  refine z_ild_5 (TX5_ask_0.at 19 rfl) ?_
  refine zcs_iald (m := m) (s := 8) hlm hcls egm8 (TX5_ask_0.at 20 rfl) hH (by decide) (by decide) (by omega) (by omega) (fun r37 => ?_)
  refine z_sipush (by decide) (TX5_ask_0.at 21 rfl) ?_
  refine z_iand (TX5_ask_0.at 22 rfl) ?_
  rw [hC, pk_a (by omega) (by omega) (by omega) (by omega)]
  refine z_ist_7 (TX5_ask_0.at 23 rfl) (Nat.le_of_ble_eq_true rfl) rfl ?_
  refine z_ild_6 (TX5_ask_0.at 24 rfl) ?_
  refine z_if_ne (tgt := 52) (TX5_ask_0.at 25 rfl) rfl (by omega) (fun c2 => ?_) (fun c2 => absurd c2 (by omega))
  refine z_ild_6 (TX5_ask_0.at 27 rfl) ?_
  refine z_iconst (TX5_ask_0.at 28 rfl) ?_
  refine z_icmp_eq (tgt := 64) (TX5_ask_0.at 29 rfl) rfl (by omega) (by omega) (fun c3 => absurd c3 (by omega)) (fun c3 => ?_)
  refine z_ild_6 (TX5_ask_0.at 30 rfl) ?_
  refine z_iconst (TX5_ask_0.at 31 rfl) ?_
  refine z_icmp_ne (tgt := 115) (TX5_ask_0.at 32 rfl) rfl (by omega) (by omega) (fun c4 => ?_) (fun c4 => absurd c4 (by omega))
  refine z_ild_4 (TX5_ask_1.at 19 rfl) ?_
  refine z_iconst (TX5_ask_1.at 20 rfl) ?_
  refine z_icmp_ge (tgt := 124) (TX5_ask_1.at 21 rfl) rfl (by omega) (by omega) (fun c5 => ?_) (fun c5 => absurd c5 (by omega))
  refine z_ild_6 (TX5_ask_1.at 24 rfl) ?_
  refine z_bipush (by decide) (TX5_ask_1.at 25 rfl) ?_
  refine z_icmp_ne (tgt := 154) (TX5_ask_1.at 26 rfl) rfl (by omega) (by omega) (fun c6 => ?_) (fun c6 => absurd c6 (by omega))
  refine z_ild_6 (TX5_ask_2.at 2 rfl) ?_
  refine z_bipush (by decide) (TX5_ask_2.at 3 rfl) ?_
  refine z_icmp_eq (tgt := 168) (TX5_ask_2.at 4 rfl) rfl (by omega) (by omega) (fun c7 => ?_) (fun c7 => absurd c7 (by omega))
  refine z_ald_0 (TX5_ask_2.at 8 rfl) ?_
  refine zc_getA (m := 12) (s := 0) (k := 384) (hH.lv (by decide)) (TX5_ask_2.at 9 rfl) fl5_9 hH rfl rfl (by decide) (by decide) ?_
  refine z_ild_4 (TX5_ask_2.at 10 rfl) ?_
  refine z_iconst (TX5_ask_2.at 11 rfl) ?_
  refine z_isub (TX5_ask_2.at 12 rfl) ?_
  refine zcf_iald (k := 384) (N := 64) (hH.lv (by decide)) (by decide) rfl eg384 (TX5_ask_2.at 13 rfl) hH (by decide) (by omega) (show _ < ((64 : Nat) : Int) by omega) (fun r176 => ?_)
  refine z_ild_6 (TX5_ask_2.at 14 rfl) ?_
  refine z_bipush (by decide) (TX5_ask_2.at 15 rfl) ?_
  refine z_icmp_ne (tgt := 188) (TX5_ask_2.at 16 rfl) rfl (by omega) (by omega) (fun c8 => absurd c8 (by omega)) (fun c8 => ?_)
  refine z_iconst (TX5_ask_2.at 17 rfl) ?_
  refine z_goto (tgt := 189) (TX5_ask_2.at 18 rfl) rfl ?_
  refine z_icmp_ne (tgt := 206) (TX5_ask_2.at 20 rfl) rfl (by omega) (by omega) (fun c9 => ?_) (fun c9 => absurd c9 (by omega))
  refine z_iinc_4 (TX5_ask_2.at 28 rfl) (Nat.le_of_ble_eq_true rfl) rfl ?_
  refine z_goto (tgt := 274) (TX5_ask_2.at 29 rfl) rfl ?_
  refine z_iinc_5 (TX5_ask_3.at 25 rfl) (Nat.le_of_ble_eq_true rfl) rfl ?_
  refine z_goto (tgt := 10) (TX5_ask_3.at 26 rfl) rfl ?_
  exact kx _ _ _ _ _ _ eg384 egm8 eg356 efm1 hfE hgE hH hA

set_option maxHeartbeats 4000000 in
set_option maxRecDepth 100000 in
theorem ask12_leap13 {l : Launch} {E : cE} {d : Nat} {Pz : Option Value → zH → Prop} {h0 h : zH} {f0 f : mF} {g0 g j : mA} {m : Nat} {C φ A : Int → Int} {N t s dp : Int} {v6 v7 v8 : Option Value} {a : Int}  (hlm : E.2.1 m = true) (hcls : cCls m = 4) (hd : 1 ≤ d) (h16 : 13 ≤ m) (hNl : N ≤ E.2.2 (32 * m + 8)) (hN0 : N ≤ 400) (s0 : 0 ≤ s) (hs : s < N) (hC : C s = 13 * 1024 + a) (a0 : s < a) (a1 : a ≤ 1023) (d0 : 1 ≤ dp) (d1 : dp ≤ 64) (hx : A (dp - 1) = 0) (kx : ∀ (v6 v7 v8 : Option Value) (f : mF) (g : mA) (h : zH), g 384 = A → g (32 * m + 8) = C → g 356 = φ → f (32 * m + 1) = N → eqx [] f0 f → eqx [384] g0 g → HC E f g j h → cAg E h0 h → Z l MX5_ask d 0 0 Pz 10 [some (.ref (E.1 415)), some (.ref (E.1 (32 * m + 31))), some (vI t), some (.ref (E.1 356)), some (vI dp), some (vI a), v6, v7, v8] [] h 0 0)  (eg384 : g 384 = A) (egm8 : g (32 * m + 8) = C) (eg356 : g 356 = φ) (efm1 : f (32 * m + 1) = N) (hfE : eqx [] f0 f) (hgE : eqx [384] g0 g) (hH : HC E f g j h) (hA : cAg E h0 h) : Z l MX5_ask d 0 0 Pz 10 [some (.ref (E.1 415)), some (.ref (E.1 (32 * m + 31))), some (vI t), some (.ref (E.1 356)), some (vI dp), some (vI s), v6, v7, v8] [] h 0 0 := by
  refine z_ild_5 (TX5_ask_0.at 6 rfl) ?_
  refine z_ald_1 (TX5_ask_0.at 7 rfl) ?_
  refine zc_getIE (m := m) (s := 1) (k := (32 * m + 1)) hlm efm1 (TX5_ask_0.at 8 rfl) fl5_21 hH hcls rfl (by decide) (by decide) (fun r13 => ?_)
  refine z_icmp_ge (tgt := 280) (TX5_ask_0.at 9 rfl) rfl (by omega) (by omega) (fun c1 => absurd c1 (by omega)) (fun c1 => ?_)
  refine z_ald_1 (TX5_ask_0.at 10 rfl) ?_
  refine zc_getA (m := m) (s := 8) (k := (32 * m + 8)) hlm (TX5_ask_0.at 11 rfl) fl5_27 hH hcls rfl (by decide) (by decide) ?_
  refine z_ild_5 (TX5_ask_0.at 12 rfl) ?_
  refine zcs_iald (m := m) (s := 8) hlm hcls egm8 (TX5_ask_0.at 13 rfl) hH (by decide) (by decide) (by omega) (by omega) (fun r25 => ?_)
  refine z_bipush (by decide) (TX5_ask_0.at 14 rfl) ?_
  refine z_ishr (TX5_ask_0.at 15 rfl) ?_
  rw [hC, pk_o (by omega) (by omega) (by omega) (by omega)]
  refine z_ist_6 (TX5_ask_0.at 16 rfl) (Nat.le_of_ble_eq_true rfl) rfl ?_
  refine z_ald_1 (TX5_ask_0.at 17 rfl) ?_
  refine zc_getA (m := m) (s := 8) (k := (32 * m + 8)) hlm (TX5_ask_0.at 18 rfl) fl5_27 hH hcls rfl (by decide) (by decide) ?_
  refine z_ild_5 (TX5_ask_0.at 19 rfl) ?_
  refine zcs_iald (m := m) (s := 8) hlm hcls egm8 (TX5_ask_0.at 20 rfl) hH (by decide) (by decide) (by omega) (by omega) (fun r37 => ?_)
  refine z_sipush (by decide) (TX5_ask_0.at 21 rfl) ?_
  refine z_iand (TX5_ask_0.at 22 rfl) ?_
  rw [hC, pk_a (by omega) (by omega) (by omega) (by omega)]
  refine z_ist_7 (TX5_ask_0.at 23 rfl) (Nat.le_of_ble_eq_true rfl) rfl ?_
  refine z_ild_6 (TX5_ask_0.at 24 rfl) ?_
  refine z_if_ne (tgt := 52) (TX5_ask_0.at 25 rfl) rfl (by omega) (fun c2 => ?_) (fun c2 => absurd c2 (by omega))
  refine z_ild_6 (TX5_ask_0.at 27 rfl) ?_
  refine z_iconst (TX5_ask_0.at 28 rfl) ?_
  refine z_icmp_eq (tgt := 64) (TX5_ask_0.at 29 rfl) rfl (by omega) (by omega) (fun c3 => absurd c3 (by omega)) (fun c3 => ?_)
  refine z_ild_6 (TX5_ask_0.at 30 rfl) ?_
  refine z_iconst (TX5_ask_0.at 31 rfl) ?_
  refine z_icmp_ne (tgt := 115) (TX5_ask_0.at 32 rfl) rfl (by omega) (by omega) (fun c4 => ?_) (fun c4 => absurd c4 (by omega))
  refine z_ild_4 (TX5_ask_1.at 19 rfl) ?_
  refine z_iconst (TX5_ask_1.at 20 rfl) ?_
  refine z_icmp_ge (tgt := 124) (TX5_ask_1.at 21 rfl) rfl (by omega) (by omega) (fun c5 => ?_) (fun c5 => absurd c5 (by omega))
  refine z_ild_6 (TX5_ask_1.at 24 rfl) ?_
  refine z_bipush (by decide) (TX5_ask_1.at 25 rfl) ?_
  refine z_icmp_ne (tgt := 154) (TX5_ask_1.at 26 rfl) rfl (by omega) (by omega) (fun c6 => ?_) (fun c6 => absurd c6 (by omega))
  refine z_ild_6 (TX5_ask_2.at 2 rfl) ?_
  refine z_bipush (by decide) (TX5_ask_2.at 3 rfl) ?_
  refine z_icmp_eq (tgt := 168) (TX5_ask_2.at 4 rfl) rfl (by omega) (by omega) (fun c7 => absurd c7 (by omega)) (fun c7 => ?_)
  refine z_ild_6 (TX5_ask_2.at 5 rfl) ?_
  refine z_bipush (by decide) (TX5_ask_2.at 6 rfl) ?_
  refine z_icmp_ne (tgt := 212) (TX5_ask_2.at 7 rfl) rfl (by omega) (by omega) (fun c8 => absurd c8 (by omega)) (fun c8 => ?_)
  refine z_ald_0 (TX5_ask_2.at 8 rfl) ?_
  refine zc_getA (m := 12) (s := 0) (k := 384) (hH.lv (by decide)) (TX5_ask_2.at 9 rfl) fl5_9 hH rfl rfl (by decide) (by decide) ?_
  refine z_ild_4 (TX5_ask_2.at 10 rfl) ?_
  refine z_iconst (TX5_ask_2.at 11 rfl) ?_
  refine z_isub (TX5_ask_2.at 12 rfl) ?_
  refine zcf_iald (k := 384) (N := 64) (hH.lv (by decide)) (by decide) rfl eg384 (TX5_ask_2.at 13 rfl) hH (by decide) (by omega) (show _ < ((64 : Nat) : Int) by omega) (fun r176 => ?_)
  refine z_ild_6 (TX5_ask_2.at 14 rfl) ?_
  refine z_bipush (by decide) (TX5_ask_2.at 15 rfl) ?_
  refine z_icmp_ne (tgt := 188) (TX5_ask_2.at 16 rfl) rfl (by omega) (by omega) (fun c9 => ?_) (fun c9 => absurd c9 (by omega))
  refine z_iconst (TX5_ask_2.at 19 rfl) ?_
  refine z_icmp_ne (tgt := 206) (TX5_ask_2.at 20 rfl) rfl (by omega) (by omega) (fun c10 => absurd c10 (by omega)) (fun c10 => ?_)
  refine z_ild_5 (TX5_ask_2.at 21 rfl) ?_
  refine z_ild_7 (TX5_ask_2.at 22 rfl) ?_
  refine z_iconst (TX5_ask_2.at 23 rfl) ?_
  refine z_isub (TX5_ask_2.at 24 rfl) ?_
  refine z_max (TX5_ask_2.at 25 rfl) cm5_15 (by omega) (by omega) (by omega) (Nat.le_of_ble_eq_true rfl) ?_
  refine z_ist_5 (TX5_ask_2.at 26 rfl) (Nat.le_of_ble_eq_true rfl) rfl ?_
  refine z_goto (tgt := 274) (TX5_ask_2.at 27 rfl) rfl ?_
  rw [show max s (a - 1) = a - 1 by omega]
  refine z_iinc_5 (TX5_ask_3.at 25 rfl) (Nat.le_of_ble_eq_true rfl) rfl ?_
  refine z_goto (tgt := 10) (TX5_ask_3.at 26 rfl) rfl ?_
  rw [show a - 1 + 1 = a by omega]
  exact kx _ _ _ _ _ _ eg384 egm8 eg356 efm1 hfE hgE hH hA

set_option maxHeartbeats 4000000 in
set_option maxRecDepth 100000 in
theorem ask12_on13 {l : Launch} {E : cE} {d : Nat} {Pz : Option Value → zH → Prop} {h0 h : zH} {f0 f : mF} {g0 g j : mA} {m : Nat} {C φ A : Int → Int} {N t s dp : Int} {v6 v7 v8 : Option Value} {a : Int}  (hlm : E.2.1 m = true) (hcls : cCls m = 4) (hd : 1 ≤ d) (h16 : 13 ≤ m) (hNl : N ≤ E.2.2 (32 * m + 8)) (hN0 : N ≤ 400) (s0 : 0 ≤ s) (hs : s < N) (hC : C s = 13 * 1024 + a) (a0 : 0 ≤ a) (a1 : a ≤ 1023) (d0 : 1 ≤ dp) (d1 : dp ≤ 64) (hx : A (dp - 1) ≠ 0) (kx : ∀ (v6 v7 v8 : Option Value) (f : mF) (g : mA) (h : zH), g 384 = A → g (32 * m + 8) = C → g 356 = φ → f (32 * m + 1) = N → eqx [] f0 f → eqx [384] g0 g → HC E f g j h → cAg E h0 h → Z l MX5_ask d 0 0 Pz 10 [some (.ref (E.1 415)), some (.ref (E.1 (32 * m + 31))), some (vI t), some (.ref (E.1 356)), some (vI (dp - 1)), some (vI (s + 1)), v6, v7, v8] [] h 0 0)  (eg384 : g 384 = A) (egm8 : g (32 * m + 8) = C) (eg356 : g 356 = φ) (efm1 : f (32 * m + 1) = N) (hfE : eqx [] f0 f) (hgE : eqx [384] g0 g) (hH : HC E f g j h) (hA : cAg E h0 h) : Z l MX5_ask d 0 0 Pz 10 [some (.ref (E.1 415)), some (.ref (E.1 (32 * m + 31))), some (vI t), some (.ref (E.1 356)), some (vI dp), some (vI s), v6, v7, v8] [] h 0 0 := by
  refine z_ild_5 (TX5_ask_0.at 6 rfl) ?_
  refine z_ald_1 (TX5_ask_0.at 7 rfl) ?_
  refine zc_getIE (m := m) (s := 1) (k := (32 * m + 1)) hlm efm1 (TX5_ask_0.at 8 rfl) fl5_21 hH hcls rfl (by decide) (by decide) (fun r13 => ?_)
  refine z_icmp_ge (tgt := 280) (TX5_ask_0.at 9 rfl) rfl (by omega) (by omega) (fun c1 => absurd c1 (by omega)) (fun c1 => ?_)
  refine z_ald_1 (TX5_ask_0.at 10 rfl) ?_
  refine zc_getA (m := m) (s := 8) (k := (32 * m + 8)) hlm (TX5_ask_0.at 11 rfl) fl5_27 hH hcls rfl (by decide) (by decide) ?_
  refine z_ild_5 (TX5_ask_0.at 12 rfl) ?_
  refine zcs_iald (m := m) (s := 8) hlm hcls egm8 (TX5_ask_0.at 13 rfl) hH (by decide) (by decide) (by omega) (by omega) (fun r25 => ?_)
  refine z_bipush (by decide) (TX5_ask_0.at 14 rfl) ?_
  refine z_ishr (TX5_ask_0.at 15 rfl) ?_
  rw [hC, pk_o (by omega) (by omega) (by omega) (by omega)]
  refine z_ist_6 (TX5_ask_0.at 16 rfl) (Nat.le_of_ble_eq_true rfl) rfl ?_
  refine z_ald_1 (TX5_ask_0.at 17 rfl) ?_
  refine zc_getA (m := m) (s := 8) (k := (32 * m + 8)) hlm (TX5_ask_0.at 18 rfl) fl5_27 hH hcls rfl (by decide) (by decide) ?_
  refine z_ild_5 (TX5_ask_0.at 19 rfl) ?_
  refine zcs_iald (m := m) (s := 8) hlm hcls egm8 (TX5_ask_0.at 20 rfl) hH (by decide) (by decide) (by omega) (by omega) (fun r37 => ?_)
  refine z_sipush (by decide) (TX5_ask_0.at 21 rfl) ?_
  refine z_iand (TX5_ask_0.at 22 rfl) ?_
  rw [hC, pk_a (by omega) (by omega) (by omega) (by omega)]
  refine z_ist_7 (TX5_ask_0.at 23 rfl) (Nat.le_of_ble_eq_true rfl) rfl ?_
  refine z_ild_6 (TX5_ask_0.at 24 rfl) ?_
  refine z_if_ne (tgt := 52) (TX5_ask_0.at 25 rfl) rfl (by omega) (fun c2 => ?_) (fun c2 => absurd c2 (by omega))
  refine z_ild_6 (TX5_ask_0.at 27 rfl) ?_
  refine z_iconst (TX5_ask_0.at 28 rfl) ?_
  refine z_icmp_eq (tgt := 64) (TX5_ask_0.at 29 rfl) rfl (by omega) (by omega) (fun c3 => absurd c3 (by omega)) (fun c3 => ?_)
  refine z_ild_6 (TX5_ask_0.at 30 rfl) ?_
  refine z_iconst (TX5_ask_0.at 31 rfl) ?_
  refine z_icmp_ne (tgt := 115) (TX5_ask_0.at 32 rfl) rfl (by omega) (by omega) (fun c4 => ?_) (fun c4 => absurd c4 (by omega))
  refine z_ild_4 (TX5_ask_1.at 19 rfl) ?_
  refine z_iconst (TX5_ask_1.at 20 rfl) ?_
  refine z_icmp_ge (tgt := 124) (TX5_ask_1.at 21 rfl) rfl (by omega) (by omega) (fun c5 => ?_) (fun c5 => absurd c5 (by omega))
  refine z_ild_6 (TX5_ask_1.at 24 rfl) ?_
  refine z_bipush (by decide) (TX5_ask_1.at 25 rfl) ?_
  refine z_icmp_ne (tgt := 154) (TX5_ask_1.at 26 rfl) rfl (by omega) (by omega) (fun c6 => ?_) (fun c6 => absurd c6 (by omega))
  refine z_ild_6 (TX5_ask_2.at 2 rfl) ?_
  refine z_bipush (by decide) (TX5_ask_2.at 3 rfl) ?_
  refine z_icmp_eq (tgt := 168) (TX5_ask_2.at 4 rfl) rfl (by omega) (by omega) (fun c7 => absurd c7 (by omega)) (fun c7 => ?_)
  refine z_ild_6 (TX5_ask_2.at 5 rfl) ?_
  refine z_bipush (by decide) (TX5_ask_2.at 6 rfl) ?_
  refine z_icmp_ne (tgt := 212) (TX5_ask_2.at 7 rfl) rfl (by omega) (by omega) (fun c8 => absurd c8 (by omega)) (fun c8 => ?_)
  refine z_ald_0 (TX5_ask_2.at 8 rfl) ?_
  refine zc_getA (m := 12) (s := 0) (k := 384) (hH.lv (by decide)) (TX5_ask_2.at 9 rfl) fl5_9 hH rfl rfl (by decide) (by decide) ?_
  refine z_ild_4 (TX5_ask_2.at 10 rfl) ?_
  refine z_iconst (TX5_ask_2.at 11 rfl) ?_
  refine z_isub (TX5_ask_2.at 12 rfl) ?_
  refine zcf_iald (k := 384) (N := 64) (hH.lv (by decide)) (by decide) rfl eg384 (TX5_ask_2.at 13 rfl) hH (by decide) (by omega) (show _ < ((64 : Nat) : Int) by omega) (fun r176 => ?_)
  refine z_ild_6 (TX5_ask_2.at 14 rfl) ?_
  refine z_bipush (by decide) (TX5_ask_2.at 15 rfl) ?_
  refine z_icmp_ne (tgt := 188) (TX5_ask_2.at 16 rfl) rfl (by omega) (by omega) (fun c9 => ?_) (fun c9 => absurd c9 (by omega))
  refine z_iconst (TX5_ask_2.at 19 rfl) ?_
  refine z_icmp_ne (tgt := 206) (TX5_ask_2.at 20 rfl) rfl (by omega) (by omega) (fun c10 => ?_) (fun c10 => absurd c10 (by omega))
  refine z_iinc_4 (TX5_ask_2.at 28 rfl) (Nat.le_of_ble_eq_true rfl) rfl ?_
  refine z_goto (tgt := 274) (TX5_ask_2.at 29 rfl) rfl ?_
  refine z_iinc_5 (TX5_ask_3.at 25 rfl) (Nat.le_of_ble_eq_true rfl) rfl ?_
  refine z_goto (tgt := 10) (TX5_ask_3.at 26 rfl) rfl ?_
  exact kx _ _ _ _ _ _ eg384 egm8 eg356 efm1 hfE hgE hH hA

set_option maxHeartbeats 4000000 in
set_option maxRecDepth 100000 in
theorem ask12_bin {l : Launch} {E : cE} {d : Nat} {Pz : Option Value → zH → Prop} {h0 h : zH} {f0 f : mF} {g0 g j : mA} {m : Nat} {C φ A : Int → Int} {N t s dp : Int} {v6 v7 v8 : Option Value} {o1 z : Int}  (hlm : E.2.1 m = true) (hcls : cCls m = 4) (hd : 1 ≤ d) (h16 : 13 ≤ m) (hNl : N ≤ E.2.2 (32 * m + 8)) (hN0 : N ≤ 400) (s0 : 0 ≤ s) (hs : s < N) (o0 : 3 ≤ o1) (o9 : o1 ≤ 10) (hC : C s = o1 * 1024) (d0 : 2 ≤ dp) (d1 : dp ≤ 64) (hz : opV o1 (A (dp - 2)) (A (dp - 1)) = some z) (kx : ∀ (v6 v7 v8 : Option Value) (f : mF) (g : mA) (h : zH), g 384 = iu A (dp - 2) z → g (32 * m + 8) = C → g 356 = φ → f (32 * m + 1) = N → eqx [] f0 f → eqx [384] g0 g → HC E f g j h → cAg E h0 h → Z l MX5_ask d 0 0 Pz 10 [some (.ref (E.1 415)), some (.ref (E.1 (32 * m + 31))), some (vI t), some (.ref (E.1 356)), some (vI (dp - 1)), some (vI (s + 1)), v6, v7, v8] [] h 0 0)  (eg384 : g 384 = A) (egm8 : g (32 * m + 8) = C) (eg356 : g 356 = φ) (efm1 : f (32 * m + 1) = N) (hfE : eqx [] f0 f) (hgE : eqx [384] g0 g) (hH : HC E f g j h) (hA : cAg E h0 h) : Z l MX5_ask d 0 0 Pz 10 [some (.ref (E.1 415)), some (.ref (E.1 (32 * m + 31))), some (vI t), some (.ref (E.1 356)), some (vI dp), some (vI s), v6, v7, v8] [] h 0 0 := by
  refine z_ild_5 (TX5_ask_0.at 6 rfl) ?_
  refine z_ald_1 (TX5_ask_0.at 7 rfl) ?_
  refine zc_getIE (m := m) (s := 1) (k := (32 * m + 1)) hlm efm1 (TX5_ask_0.at 8 rfl) fl5_21 hH hcls rfl (by decide) (by decide) (fun r13 => ?_)
  refine z_icmp_ge (tgt := 280) (TX5_ask_0.at 9 rfl) rfl (by omega) (by omega) (fun c1 => absurd c1 (by omega)) (fun c1 => ?_)
  refine z_ald_1 (TX5_ask_0.at 10 rfl) ?_
  refine zc_getA (m := m) (s := 8) (k := (32 * m + 8)) hlm (TX5_ask_0.at 11 rfl) fl5_27 hH hcls rfl (by decide) (by decide) ?_
  refine z_ild_5 (TX5_ask_0.at 12 rfl) ?_
  refine zcs_iald (m := m) (s := 8) hlm hcls egm8 (TX5_ask_0.at 13 rfl) hH (by decide) (by decide) (by omega) (by omega) (fun r25 => ?_)
  refine z_bipush (by decide) (TX5_ask_0.at 14 rfl) ?_
  refine z_ishr (TX5_ask_0.at 15 rfl) ?_
  have hC0 : C s = o1 * 1024 + 0 := (by omega)
  rw [hC0, pk_o (by omega) (by omega) (by omega) (by omega)]
  refine z_ist_6 (TX5_ask_0.at 16 rfl) (Nat.le_of_ble_eq_true rfl) rfl ?_
  refine z_ald_1 (TX5_ask_0.at 17 rfl) ?_
  refine zc_getA (m := m) (s := 8) (k := (32 * m + 8)) hlm (TX5_ask_0.at 18 rfl) fl5_27 hH hcls rfl (by decide) (by decide) ?_
  refine z_ild_5 (TX5_ask_0.at 19 rfl) ?_
  refine zcs_iald (m := m) (s := 8) hlm hcls egm8 (TX5_ask_0.at 20 rfl) hH (by decide) (by decide) (by omega) (by omega) (fun r37 => ?_)
  refine z_sipush (by decide) (TX5_ask_0.at 21 rfl) ?_
  refine z_iand (TX5_ask_0.at 22 rfl) ?_
  rw [hC0, pk_a (by omega) (by omega) (by omega) (by omega)]
  refine z_ist_7 (TX5_ask_0.at 23 rfl) (Nat.le_of_ble_eq_true rfl) rfl ?_
  refine z_ild_6 (TX5_ask_0.at 24 rfl) ?_
  refine z_if_ne (tgt := 52) (TX5_ask_0.at 25 rfl) rfl (by omega) (fun c2 => ?_) (fun c2 => absurd c2 (by omega))
  refine z_ild_6 (TX5_ask_0.at 27 rfl) ?_
  refine z_iconst (TX5_ask_0.at 28 rfl) ?_
  refine z_icmp_eq (tgt := 64) (TX5_ask_0.at 29 rfl) rfl (by omega) (by omega) (fun c3 => absurd c3 (by omega)) (fun c3 => ?_)
  refine z_ild_6 (TX5_ask_0.at 30 rfl) ?_
  refine z_iconst (TX5_ask_0.at 31 rfl) ?_
  refine z_icmp_ne (tgt := 115) (TX5_ask_0.at 32 rfl) rfl (by omega) (by omega) (fun c4 => ?_) (fun c4 => absurd c4 (by omega))
  refine z_ild_4 (TX5_ask_1.at 19 rfl) ?_
  refine z_iconst (TX5_ask_1.at 20 rfl) ?_
  refine z_icmp_ge (tgt := 124) (TX5_ask_1.at 21 rfl) rfl (by omega) (by omega) (fun c5 => ?_) (fun c5 => absurd c5 (by omega))
  refine z_ild_6 (TX5_ask_1.at 24 rfl) ?_
  refine z_bipush (by decide) (TX5_ask_1.at 25 rfl) ?_
  refine z_icmp_ne (tgt := 154) (TX5_ask_1.at 26 rfl) rfl (by omega) (by omega) (fun c6 => ?_) (fun c6 => absurd c6 (by omega))
  refine z_ild_6 (TX5_ask_2.at 2 rfl) ?_
  refine z_bipush (by decide) (TX5_ask_2.at 3 rfl) ?_
  refine z_icmp_eq (tgt := 168) (TX5_ask_2.at 4 rfl) rfl (by omega) (by omega) (fun c7 => absurd c7 (by omega)) (fun c7 => ?_)
  refine z_ild_6 (TX5_ask_2.at 5 rfl) ?_
  refine z_bipush (by decide) (TX5_ask_2.at 6 rfl) ?_
  refine z_icmp_ne (tgt := 212) (TX5_ask_2.at 7 rfl) rfl (by omega) (by omega) (fun c8 => ?_) (fun c8 => absurd c8 (by omega))
  refine z_ild_4 (TX5_ask_2.at 30 rfl) ?_
  refine z_iconst (TX5_ask_2.at 31 rfl) ?_
  refine z_icmp_ge (tgt := 223) (TX5_ask_2.at 32 rfl) rfl (by omega) (by omega) (fun c9 => ?_) (fun c9 => absurd c9 (by omega))
  refine z_ild_6 (TX5_ask_2.at 35 rfl) ?_
  refine z_ald_0 (TX5_ask_2.at 36 rfl) ?_
  refine zc_getA (m := 12) (s := 0) (k := 384) (hH.lv (by decide)) (TX5_ask_2.at 37 rfl) fl5_9 hH rfl rfl (by decide) (by decide) ?_
  refine z_ild_4 (TX5_ask_2.at 38 rfl) ?_
  refine z_iconst (TX5_ask_2.at 39 rfl) ?_
  refine z_isub (TX5_ask_3.at 0 rfl) ?_
  refine zcf_iald (k := 384) (N := 64) (hH.lv (by decide)) (by decide) rfl eg384 (TX5_ask_3.at 1 rfl) hH (by decide) (by omega) (show _ < ((64 : Nat) : Int) by omega) (fun r233 => ?_)
  refine z_i2l (by omega) (TX5_ask_3.at 2 rfl) ?_
  refine z_ald_0 (TX5_ask_3.at 3 rfl) ?_
  refine zc_getA (m := 12) (s := 0) (k := 384) (hH.lv (by decide)) (TX5_ask_3.at 4 rfl) fl5_9 hH rfl rfl (by decide) (by decide) ?_
  refine z_ild_4 (TX5_ask_3.at 5 rfl) ?_
  refine z_iconst (TX5_ask_3.at 6 rfl) ?_
  refine z_isub (TX5_ask_3.at 7 rfl) ?_
  refine zcf_iald (k := 384) (N := 64) (hH.lv (by decide)) (by decide) rfl eg384 (TX5_ask_3.at 8 rfl) hH (by decide) (by omega) (show _ < ((64 : Nat) : Int) by omega) (fun r243 => ?_)
  refine z_i2l (by omega) (TX5_ask_3.at 9 rfl) ?_
  refine zs_call3 (c_joined o0 o9 (by omega) (by omega)) (TX5_ask_3.at 10 rfl) c5_31 rfl (by omega) (Nat.le_of_ble_eq_true rfl) (fun r245 => ?_)
  rw [hz] at r245 ⊢
  have hzl := opV_lim hz
  have zz : zIn z := r245
  show Z _ _ _ _ _ _ _ _ (vI z :: _) _ _ _
  refine z_ist_8 (TX5_ask_3.at 11 rfl) (Nat.le_of_ble_eq_true rfl) rfl ?_
  refine z_ild_8 (TX5_ask_3.at 12 rfl) ?_
  refine z_ldc (v := -2000000000) (TX5_ask_3.at 13 rfl) k5_30 (by decide) ?_
  refine z_icmp_ne (tgt := 260) (TX5_ask_3.at 14 rfl) rfl (by omega) (by omega) (fun c10 => ?_) (fun c10 => absurd c10 (by omega))
  refine z_iinc_4 (TX5_ask_3.at 17 rfl) (Nat.le_of_ble_eq_true rfl) rfl ?_
  refine z_ald_0 (TX5_ask_3.at 18 rfl) ?_
  refine zc_getA (m := 12) (s := 0) (k := 384) (hH.lv (by decide)) (TX5_ask_3.at 19 rfl) fl5_9 hH rfl rfl (by decide) (by decide) ?_
  refine z_ild_4 (TX5_ask_3.at 20 rfl) ?_
  refine z_iconst (TX5_ask_3.at 21 rfl) ?_
  refine z_isub (TX5_ask_3.at 22 rfl) ?_
  refine z_ild_8 (TX5_ask_3.at 23 rfl) ?_
  refine zcf_iast (k := 384) (N := 64) (hH.lv (by decide)) (by decide) rfl (TX5_ask_3.at 24 rfl) hH hA (by decide) (by omega) (show _ < ((64 : Nat) : Int) by omega) (by omega) (fun h g273 e1 e2 hH hA => ?_)
  rw [eg384] at e2; have eg384 := e2
  have egm8 := (e1 (32 * m + 8) (by omega)).trans egm8
  have eg356 := (e1 356 (by decide)).trans eg356
  have hgE := hgE.put e1 (by decide)
  rw [show dp + -1 - 1 = dp - 2 by omega] at eg384
  refine z_iinc_5 (TX5_ask_3.at 25 rfl) (Nat.le_of_ble_eq_true rfl) rfl ?_
  refine z_goto (tgt := 10) (TX5_ask_3.at 26 rfl) rfl ?_
  exact kx _ _ _ _ _ _ eg384 egm8 eg356 efm1 hfE hgE hH hA

set_option maxHeartbeats 4000000 in
set_option maxRecDepth 100000 in
theorem ask12_bad {l : Launch} {E : cE} {d : Nat} {Pz : Option Value → zH → Prop} {h0 h : zH} {f0 f : mF} {g0 g j : mA} {m : Nat} {C φ A : Int → Int} {N t s dp : Int} {v6 v7 v8 : Option Value} {o1 : Int}  (hlm : E.2.1 m = true) (hcls : cCls m = 4) (hd : 1 ≤ d) (h16 : 13 ≤ m) (hNl : N ≤ E.2.2 (32 * m + 8)) (hN0 : N ≤ 400) (s0 : 0 ≤ s) (hs : s < N) (o0 : 3 ≤ o1) (o9 : o1 ≤ 10) (hC : C s = o1 * 1024) (d0 : 2 ≤ dp) (d1 : dp ≤ 64) (hz : opV o1 (A (dp - 2)) (A (dp - 1)) = none) (ePz : Pz = CP E h0 (PI (fun r f' g' j' => r = -2000000000 ∧ eqx [] f0 f' ∧ eqx [384] g0 g' ∧ j' = j)))  (eg384 : g 384 = A) (egm8 : g (32 * m + 8) = C) (eg356 : g 356 = φ) (efm1 : f (32 * m + 1) = N) (hfE : eqx [] f0 f) (hgE : eqx [384] g0 g) (hH : HC E f g j h) (hA : cAg E h0 h) : Z l MX5_ask d 0 0 Pz 10 [some (.ref (E.1 415)), some (.ref (E.1 (32 * m + 31))), some (vI t), some (.ref (E.1 356)), some (vI dp), some (vI s), v6, v7, v8] [] h 0 0 := by
  subst ePz
  refine z_ild_5 (TX5_ask_0.at 6 rfl) ?_
  refine z_ald_1 (TX5_ask_0.at 7 rfl) ?_
  refine zc_getIE (m := m) (s := 1) (k := (32 * m + 1)) hlm efm1 (TX5_ask_0.at 8 rfl) fl5_21 hH hcls rfl (by decide) (by decide) (fun r13 => ?_)
  refine z_icmp_ge (tgt := 280) (TX5_ask_0.at 9 rfl) rfl (by omega) (by omega) (fun c1 => absurd c1 (by omega)) (fun c1 => ?_)
  refine z_ald_1 (TX5_ask_0.at 10 rfl) ?_
  refine zc_getA (m := m) (s := 8) (k := (32 * m + 8)) hlm (TX5_ask_0.at 11 rfl) fl5_27 hH hcls rfl (by decide) (by decide) ?_
  refine z_ild_5 (TX5_ask_0.at 12 rfl) ?_
  refine zcs_iald (m := m) (s := 8) hlm hcls egm8 (TX5_ask_0.at 13 rfl) hH (by decide) (by decide) (by omega) (by omega) (fun r25 => ?_)
  refine z_bipush (by decide) (TX5_ask_0.at 14 rfl) ?_
  refine z_ishr (TX5_ask_0.at 15 rfl) ?_
  have hC0 : C s = o1 * 1024 + 0 := (by omega)
  rw [hC0, pk_o (by omega) (by omega) (by omega) (by omega)]
  refine z_ist_6 (TX5_ask_0.at 16 rfl) (Nat.le_of_ble_eq_true rfl) rfl ?_
  refine z_ald_1 (TX5_ask_0.at 17 rfl) ?_
  refine zc_getA (m := m) (s := 8) (k := (32 * m + 8)) hlm (TX5_ask_0.at 18 rfl) fl5_27 hH hcls rfl (by decide) (by decide) ?_
  refine z_ild_5 (TX5_ask_0.at 19 rfl) ?_
  refine zcs_iald (m := m) (s := 8) hlm hcls egm8 (TX5_ask_0.at 20 rfl) hH (by decide) (by decide) (by omega) (by omega) (fun r37 => ?_)
  refine z_sipush (by decide) (TX5_ask_0.at 21 rfl) ?_
  refine z_iand (TX5_ask_0.at 22 rfl) ?_
  rw [hC0, pk_a (by omega) (by omega) (by omega) (by omega)]
  refine z_ist_7 (TX5_ask_0.at 23 rfl) (Nat.le_of_ble_eq_true rfl) rfl ?_
  refine z_ild_6 (TX5_ask_0.at 24 rfl) ?_
  refine z_if_ne (tgt := 52) (TX5_ask_0.at 25 rfl) rfl (by omega) (fun c2 => ?_) (fun c2 => absurd c2 (by omega))
  refine z_ild_6 (TX5_ask_0.at 27 rfl) ?_
  refine z_iconst (TX5_ask_0.at 28 rfl) ?_
  refine z_icmp_eq (tgt := 64) (TX5_ask_0.at 29 rfl) rfl (by omega) (by omega) (fun c3 => absurd c3 (by omega)) (fun c3 => ?_)
  refine z_ild_6 (TX5_ask_0.at 30 rfl) ?_
  refine z_iconst (TX5_ask_0.at 31 rfl) ?_
  refine z_icmp_ne (tgt := 115) (TX5_ask_0.at 32 rfl) rfl (by omega) (by omega) (fun c4 => ?_) (fun c4 => absurd c4 (by omega))
  refine z_ild_4 (TX5_ask_1.at 19 rfl) ?_
  refine z_iconst (TX5_ask_1.at 20 rfl) ?_
  refine z_icmp_ge (tgt := 124) (TX5_ask_1.at 21 rfl) rfl (by omega) (by omega) (fun c5 => ?_) (fun c5 => absurd c5 (by omega))
  refine z_ild_6 (TX5_ask_1.at 24 rfl) ?_
  refine z_bipush (by decide) (TX5_ask_1.at 25 rfl) ?_
  refine z_icmp_ne (tgt := 154) (TX5_ask_1.at 26 rfl) rfl (by omega) (by omega) (fun c6 => ?_) (fun c6 => absurd c6 (by omega))
  refine z_ild_6 (TX5_ask_2.at 2 rfl) ?_
  refine z_bipush (by decide) (TX5_ask_2.at 3 rfl) ?_
  refine z_icmp_eq (tgt := 168) (TX5_ask_2.at 4 rfl) rfl (by omega) (by omega) (fun c7 => absurd c7 (by omega)) (fun c7 => ?_)
  refine z_ild_6 (TX5_ask_2.at 5 rfl) ?_
  refine z_bipush (by decide) (TX5_ask_2.at 6 rfl) ?_
  refine z_icmp_ne (tgt := 212) (TX5_ask_2.at 7 rfl) rfl (by omega) (by omega) (fun c8 => ?_) (fun c8 => absurd c8 (by omega))
  refine z_ild_4 (TX5_ask_2.at 30 rfl) ?_
  refine z_iconst (TX5_ask_2.at 31 rfl) ?_
  refine z_icmp_ge (tgt := 223) (TX5_ask_2.at 32 rfl) rfl (by omega) (by omega) (fun c9 => ?_) (fun c9 => absurd c9 (by omega))
  refine z_ild_6 (TX5_ask_2.at 35 rfl) ?_
  refine z_ald_0 (TX5_ask_2.at 36 rfl) ?_
  refine zc_getA (m := 12) (s := 0) (k := 384) (hH.lv (by decide)) (TX5_ask_2.at 37 rfl) fl5_9 hH rfl rfl (by decide) (by decide) ?_
  refine z_ild_4 (TX5_ask_2.at 38 rfl) ?_
  refine z_iconst (TX5_ask_2.at 39 rfl) ?_
  refine z_isub (TX5_ask_3.at 0 rfl) ?_
  refine zcf_iald (k := 384) (N := 64) (hH.lv (by decide)) (by decide) rfl eg384 (TX5_ask_3.at 1 rfl) hH (by decide) (by omega) (show _ < ((64 : Nat) : Int) by omega) (fun r233 => ?_)
  refine z_i2l (by omega) (TX5_ask_3.at 2 rfl) ?_
  refine z_ald_0 (TX5_ask_3.at 3 rfl) ?_
  refine zc_getA (m := 12) (s := 0) (k := 384) (hH.lv (by decide)) (TX5_ask_3.at 4 rfl) fl5_9 hH rfl rfl (by decide) (by decide) ?_
  refine z_ild_4 (TX5_ask_3.at 5 rfl) ?_
  refine z_iconst (TX5_ask_3.at 6 rfl) ?_
  refine z_isub (TX5_ask_3.at 7 rfl) ?_
  refine zcf_iald (k := 384) (N := 64) (hH.lv (by decide)) (by decide) rfl eg384 (TX5_ask_3.at 8 rfl) hH (by decide) (by omega) (show _ < ((64 : Nat) : Int) by omega) (fun r243 => ?_)
  refine z_i2l (by omega) (TX5_ask_3.at 9 rfl) ?_
  refine zs_call3 (c_joined o0 o9 (by omega) (by omega)) (TX5_ask_3.at 10 rfl) c5_31 rfl (by omega) (Nat.le_of_ble_eq_true rfl) (fun r245 => ?_)
  rw [hz]
  show Z _ _ _ _ _ _ _ _ (vI (-2000000000) :: _) _ _ _
  refine z_ist_8 (TX5_ask_3.at 11 rfl) (Nat.le_of_ble_eq_true rfl) rfl ?_
  refine z_ild_8 (TX5_ask_3.at 12 rfl) ?_
  refine z_ldc (v := -2000000000) (TX5_ask_3.at 13 rfl) k5_30 (by decide) ?_
  refine z_icmp_ne (tgt := 260) (TX5_ask_3.at 14 rfl) rfl (by omega) (by omega) (fun c10 => absurd c10 (by omega)) (fun c10 => ?_)
  refine z_ldc (v := -2000000000) (TX5_ask_3.at 15 rfl) k5_30 (by decide) ?_
  refine zc_iret (TX5_ask_3.at 16 rfl) rfl hH hA (by omega) ?_
  exact ⟨rfl, hfE, hgE, rfl⟩

set_option maxHeartbeats 4000000 in
set_option maxRecDepth 100000 in
theorem ask12_stop {l : Launch} {E : cE} {d : Nat} {Pz : Option Value → zH → Prop} {h0 h : zH} {f0 f : mF} {g0 g j : mA} {m : Nat} {C φ A : Int → Int} {N t s dp : Int} {v6 v7 v8 : Option Value} {x : Int}  (hlm : E.2.1 m = true) (hcls : cCls m = 4) (hd : 1 ≤ d) (h16 : 13 ≤ m) (hNl : N ≤ E.2.2 (32 * m + 8)) (hN0 : N ≤ 400) (s0 : 0 ≤ s) (hs : s < N) (hC : C s = 0) (d0 : dp = 1) (hx : A 0 = x) (ePz : Pz = CP E h0 (PI (fun r f' g' j' => r = x ∧ eqx [] f0 f' ∧ eqx [384] g0 g' ∧ j' = j)))  (eg384 : g 384 = A) (egm8 : g (32 * m + 8) = C) (eg356 : g 356 = φ) (efm1 : f (32 * m + 1) = N) (hfE : eqx [] f0 f) (hgE : eqx [384] g0 g) (hH : HC E f g j h) (hA : cAg E h0 h) : Z l MX5_ask d 0 0 Pz 10 [some (.ref (E.1 415)), some (.ref (E.1 (32 * m + 31))), some (vI t), some (.ref (E.1 356)), some (vI dp), some (vI s), v6, v7, v8] [] h 0 0 := by
  subst ePz
  refine z_ild_5 (TX5_ask_0.at 6 rfl) ?_
  refine z_ald_1 (TX5_ask_0.at 7 rfl) ?_
  refine zc_getIE (m := m) (s := 1) (k := (32 * m + 1)) hlm efm1 (TX5_ask_0.at 8 rfl) fl5_21 hH hcls rfl (by decide) (by decide) (fun r13 => ?_)
  refine z_icmp_ge (tgt := 280) (TX5_ask_0.at 9 rfl) rfl (by omega) (by omega) (fun c1 => absurd c1 (by omega)) (fun c1 => ?_)
  refine z_ald_1 (TX5_ask_0.at 10 rfl) ?_
  refine zc_getA (m := m) (s := 8) (k := (32 * m + 8)) hlm (TX5_ask_0.at 11 rfl) fl5_27 hH hcls rfl (by decide) (by decide) ?_
  refine z_ild_5 (TX5_ask_0.at 12 rfl) ?_
  refine zcs_iald (m := m) (s := 8) hlm hcls egm8 (TX5_ask_0.at 13 rfl) hH (by decide) (by decide) (by omega) (by omega) (fun r25 => ?_)
  refine z_bipush (by decide) (TX5_ask_0.at 14 rfl) ?_
  refine z_ishr (TX5_ask_0.at 15 rfl) ?_
  have hC0 : C s = 0 * 1024 + 0 := (by omega)
  rw [hC0, pk_o (by omega) (by omega) (by omega) (by omega)]
  refine z_ist_6 (TX5_ask_0.at 16 rfl) (Nat.le_of_ble_eq_true rfl) rfl ?_
  refine z_ald_1 (TX5_ask_0.at 17 rfl) ?_
  refine zc_getA (m := m) (s := 8) (k := (32 * m + 8)) hlm (TX5_ask_0.at 18 rfl) fl5_27 hH hcls rfl (by decide) (by decide) ?_
  refine z_ild_5 (TX5_ask_0.at 19 rfl) ?_
  refine zcs_iald (m := m) (s := 8) hlm hcls egm8 (TX5_ask_0.at 20 rfl) hH (by decide) (by decide) (by omega) (by omega) (fun r37 => ?_)
  refine z_sipush (by decide) (TX5_ask_0.at 21 rfl) ?_
  refine z_iand (TX5_ask_0.at 22 rfl) ?_
  have hC0 : C s = 0 * 1024 + 0 := (by omega)
  rw [hC0, pk_a (by omega) (by omega) (by omega) (by omega)]
  refine z_ist_7 (TX5_ask_0.at 23 rfl) (Nat.le_of_ble_eq_true rfl) rfl ?_
  refine z_ild_6 (TX5_ask_0.at 24 rfl) ?_
  refine z_if_ne (tgt := 52) (TX5_ask_0.at 25 rfl) rfl (by omega) (fun c2 => absurd c2 (by omega)) (fun c2 => ?_)
  refine z_goto (tgt := 280) (TX5_ask_0.at 26 rfl) rfl ?_
  refine z_ild_4 (TX5_ask_3.at 27 rfl) ?_
  refine z_iconst (TX5_ask_3.at 28 rfl) ?_
  refine z_icmp_ne (tgt := 295) (TX5_ask_3.at 29 rfl) rfl (by omega) (by omega) (fun c3 => absurd c3 (by omega)) (fun c3 => ?_)
  refine z_ald_0 (TX5_ask_3.at 30 rfl) ?_
  refine zc_getA (m := 12) (s := 0) (k := 384) (hH.lv (by decide)) (TX5_ask_3.at 31 rfl) fl5_9 hH rfl rfl (by decide) (by decide) ?_
  refine z_iconst (TX5_ask_3.at 32 rfl) ?_
  refine zcf_iald (k := 384) (N := 64) (hH.lv (by decide)) (by decide) rfl eg384 (TX5_ask_3.at 33 rfl) hH (by decide) (by omega) (show _ < ((64 : Nat) : Int) by omega) (fun r291 => ?_)
  refine z_goto (tgt := 297) (TX5_ask_3.at 34 rfl) rfl ?_
  refine zc_iret (TX5_ask_3.at 36 rfl) rfl hH hA (by omega) ?_
  exact ⟨hx, hfE, hgE, rfl⟩

set_option maxHeartbeats 4000000 in
set_option maxRecDepth 100000 in
theorem ask12_run {l : Launch} {E : cE} {d : Nat} {h0 : zH} {f0 : mF} {g0 j : mA} {m : Nat} {C φ : Int → Int} {N t : Int} (hlm : E.2.1 m = true) (hcls : cCls m = 4) (hd : 1 ≤ d) (h16 : 13 ≤ m) (hNl : N ≤ E.2.2 (32 * m + 8)) (hN0 : N ≤ 400) {s r : Int} {st : List Int} (ask : Ask C N φ s st r) : 0 ≤ s → ∀ (v6 v7 v8 : Option Value) (f : mF) (g : mA) (h : zH) (A : Int → Int), stkR st A → g 384 = A → g (32 * m + 8) = C → g 356 = φ → f (32 * m + 1) = N → eqx [] f0 f → eqx [384] g0 g → HC E f g j h → cAg E h0 h → Z l MX5_ask d 0 0 (CP E h0 (PI (fun r' f' g' j' => r' = r ∧ eqx [] f0 f' ∧ eqx [384] g0 g' ∧ j' = j))) 10 [some (.ref (E.1 415)), some (.ref (E.1 (32 * m + 31))), some (vI t), some (.ref (E.1 356)), some (vI (st.length : Int)), some (vI s), v6, v7, v8] [] h 0 0 := by
  have e : ∀ (x : Int) (st : List Int), ((x :: st).length : Int) = (st.length : Int) + 1 := fun x st => by simp
  refine ask (fun s st r => 0 ≤ s → ∀ (v6 v7 v8 : Option Value) (f : mF) (g : mA) (h : zH) (A : Int → Int), stkR st A → g 384 = A → g (32 * m + 8) = C → g 356 = φ → f (32 * m + 1) = N → eqx [] f0 f → eqx [384] g0 g → HC E f g j h → cAg E h0 h → Z l MX5_ask d 0 0 (CP E h0 (PI (fun r' f' g' j' => r' = r ∧ eqx [] f0 f' ∧ eqx [384] g0 g' ∧ j' = j))) 10 [some (.ref (E.1 415)), some (.ref (E.1 (32 * m + 31))), some (vI t), some (.ref (E.1 356)), some (vI (st.length : Int)), some (vI s), v6, v7, v8] [] h 0 0) ⟨?_, ?_, ?_, ?_, ?_, ?_, ?_, ?_⟩
  · intro s x hs hC s0 v6 v7 v8 f g h A hK y1 y2 y3 y4 xf xg hH hA
    exact ask12_stop hlm hcls hd h16 hNl hN0 s0 hs hC rfl hK.1 rfl y1 y2 y3 y4 xf xg hH hA
  · intro s a r st hs hC a0 a1 hl ih s0 v6 v7 v8 f g h A hK y1 y2 y3 y4 xf xg hH hA
    refine ask12_num hlm hcls hd h16 hNl hN0 s0 hs hC a0 a1 (by omega) (by omega) (fun v6 v7 v8 f g h z1 z2 z3 z4 xf xg hH hA => ?_) y1 y2 y3 y4 xf xg hH hA
    have w := ih (by omega) v6 v7 v8 f g h _ (stkR_push hK) z1 z2 z3 z4 xf xg hH hA
    rw [e] at w
    exact w
  · intro s a r st hs hC a0 a1 hl ih s0 v6 v7 v8 f g h A hK y1 y2 y3 y4 xf xg hH hA
    refine ask12_fact hlm hcls hd h16 hNl hN0 s0 hs hC a0 a1 (by omega) (by omega) (fun v6 v7 v8 f g h z1 z2 z3 z4 xf xg hH hA => ?_) y1 y2 y3 y4 xf xg hH hA
    have w := ih (by omega) v6 v7 v8 f g h _ (stkR_push hK) z1 z2 z3 z4 xf xg hH hA
    rw [e] at w
    exact w
  · intro s x r st hs hC hl hx ih s0 v6 v7 v8 f g h A hK y1 y2 y3 y4 xf xg hH hA
    rw [e]
    have e1 : (st.length : Int) + 1 - 1 = st.length := by omega
    refine ask12_neg hlm hcls hd h16 hNl hN0 s0 hs hC (by omega) (by omega) (by rw [e1, hK.1]; exact hx) (fun v6 v7 v8 f g h z1 z2 z3 z4 xf xg hH hA => ?_) y1 y2 y3 y4 xf xg hH hA
    rw [e1, hK.1] at z1
    have w := ih (by omega) v6 v7 v8 f g h _ (stkR_push hK.2) z1 z2 z3 z4 xf xg hH hA
    rw [e] at w
    exact w
  · intro s a o x r st hs ho hC a0 a1 hl hx ih s0 v6 v7 v8 f g h A hK y1 y2 y3 y4 xf xg hH hA
    rw [e]
    have e1 : (st.length : Int) + 1 - 1 = st.length := by omega
    rcases ho with rfl | rfl
    · refine ask12_leap12 hlm hcls hd h16 hNl hN0 s0 hs hC a0 a1 (by omega) (by omega) (by rw [e1, hK.1]; exact hx) (fun v6 v7 v8 f g h z1 z2 z3 z4 xf xg hH hA => ?_) y1 y2 y3 y4 xf xg hH hA
      have w := ih (by omega) v6 v7 v8 f g h _ hK z1 z2 z3 z4 xf xg hH hA
      rw [e] at w
      exact w
    · refine ask12_leap13 hlm hcls hd h16 hNl hN0 s0 hs hC a0 a1 (by omega) (by omega) (by rw [e1, hK.1]; exact hx) (fun v6 v7 v8 f g h z1 z2 z3 z4 xf xg hH hA => ?_) y1 y2 y3 y4 xf xg hH hA
      have w := ih (by omega) v6 v7 v8 f g h _ hK z1 z2 z3 z4 xf xg hH hA
      rw [e] at w
      exact w
  · intro s a o x r st hs ho hC a0 a1 hl hx ih s0 v6 v7 v8 f g h A hK y1 y2 y3 y4 xf xg hH hA
    rw [e]
    have e1 : (st.length : Int) + 1 - 1 = st.length := by omega
    rcases ho with rfl | rfl
    · refine ask12_on12 hlm hcls hd h16 hNl hN0 s0 hs hC a0 a1 (by omega) (by omega) (by rw [e1, hK.1]; exact hx) (fun v6 v7 v8 f g h z1 z2 z3 z4 xf xg hH hA => ?_) y1 y2 y3 y4 xf xg hH hA
      have w := ih (by omega) v6 v7 v8 f g h _ hK.2 z1 z2 z3 z4 xf xg hH hA
      rw [e1]
      exact w
    · refine ask12_on13 hlm hcls hd h16 hNl hN0 s0 hs hC a0 a1 (by omega) (by omega) (by rw [e1, hK.1]; exact hx) (fun v6 v7 v8 f g h z1 z2 z3 z4 xf xg hH hA => ?_) y1 y2 y3 y4 xf xg hH hA
      have w := ih (by omega) v6 v7 v8 f g h _ hK.2 z1 z2 z3 z4 xf xg hH hA
      rw [e1]
      exact w
  · intro s o x y z r st hs o0 o1 hC hl hz ih s0 v6 v7 v8 f g h A hK y1 y2 y3 y4 xf xg hH hA
    rw [e, e]
    have k1 := hK.1
    rw [e] at k1
    have e1 : (st.length : Int) + 1 + 1 - 1 = st.length + 1 := by omega
    have e2 : (st.length : Int) + 1 + 1 - 2 = st.length := by omega
    have k0 : A (x :: st).length = y := hK.1
    rw [e] at k0
    refine ask12_bin hlm hcls hd h16 hNl hN0 s0 hs o0 o1 hC (by omega) (by omega) (by rw [e1, e2, k0, hK.2.1]; exact hz) (fun v6 v7 v8 f g h z1 z2 z3 z4 xf xg hH hA => ?_) y1 y2 y3 y4 xf xg hH hA
    rw [e2] at z1
    have w := ih (by omega) v6 v7 v8 f g h _ (stkR_push hK.2.2) z1 z2 z3 z4 xf xg hH hA
    rw [e] at w
    rw [e1]
    exact w
  · intro s o x y st hs o0 o1 hC hl hz s0 v6 v7 v8 f g h A hK y1 y2 y3 y4 xf xg hH hA
    rw [e, e]
    have e1 : (st.length : Int) + 1 + 1 - 1 = st.length + 1 := by omega
    have e2 : (st.length : Int) + 1 + 1 - 2 = st.length := by omega
    have k0 : A (x :: st).length = y := hK.1
    rw [e] at k0
    exact ask12_bad hlm hcls hd h16 hNl hN0 s0 hs o0 o1 hC (by omega) (by omega) (by rw [e1, e2, k0, hK.2.1]; exact hz) rfl y1 y2 y3 y4 xf xg hH hA

set_option maxHeartbeats 4000000 in
set_option maxRecDepth 100000 in
theorem c_ask12 {l : Launch} {E : cE} {f : mF} {g j : mA} {m : Nat} {C φ : Int → Int} {N t r : Int} (hlm : E.2.1 m = true) (hcls : cCls m = 4) (h16 : 13 ≤ m) (hNl : N ≤ E.2.2 (32 * m + 8)) (hN0 : N ≤ 400) (egm8 : g (32 * m + 8) = C) (eg356 : g 356 = φ) (efm1 : f (32 * m + 1) = N) (t0 : 0 ≤ t) (t1 : t ≤ 400) (ask : Ask C N φ t [] r) : CM l E MX5_ask 1 [.ref (E.1 415), .ref (E.1 (32 * m + 31)), vI t, .ref (E.1 356)] f g j (PI (fun r' f' g' j' => r' = r ∧ eqx [] f f' ∧ eqx [384] g g' ∧ j' = j)) := by
  refine CM.intro [some (.ref (E.1 415)), some (.ref (E.1 (32 * m + 31))), some (vI t), some (.ref (E.1 356)), none, none, none, none, none] (by decide) (Nat.le_of_ble_eq_true rfl) rfl (fun d hd h0 h hH hA => ?_)
  refine z_iconst (TX5_ask_0.at 0 rfl) ?_
  refine z_ist_4 (TX5_ask_0.at 1 rfl) (Nat.le_of_ble_eq_true rfl) rfl ?_
  refine z_iconst (TX5_ask_0.at 2 rfl) ?_
  refine z_ild_2 (TX5_ask_0.at 3 rfl) ?_
  refine z_max (TX5_ask_0.at 4 rfl) cm5_15 (by omega) (by omega) (by omega) (Nat.le_of_ble_eq_true rfl) ?_
  rw [show max 0 t = t by omega]
  refine z_ist_5 (TX5_ask_0.at 5 rfl) (Nat.le_of_ble_eq_true rfl) rfl ?_
  exact ask12_run hlm hcls hd h16 hNl hN0 ask t0 none none none f g h (g 384) trivial rfl egm8 eg356 efm1 eqx.rf eqx.rf hH hA

