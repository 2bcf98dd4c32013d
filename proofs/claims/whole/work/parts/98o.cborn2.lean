/-! ===== the class: constructors with parts ===== -/
section ZI
variable {l : Launch} {M M' : zM} {d mc ms : Nat} {P : Option Value → zH → Prop} {pc pc' : Nat} {L : List (Option Value)} {S : List Value} {h : zH} {kc ks : Nat}
theorem z_invS2 {idx mc' ms' : Nat} {a0 a1 : Value} {P' : Option Value → zH → Prop} (hd : zAt M 3 pc pc' (.invokestatic idx)) (hc : zCS M.1.cls idx M' 2) (hdd : 1 ≤ d) (h1 : mc' ≤ kc) (h2 : ms' ≤ ks) (hW : (S.map fun v => v.category).sum ≤ 8) (hM : MZ l M' (d - 1) mc' ms' [a0, a1] h P') (k : ∀ (v : Option Value) (h' : zH), P' v h' → Z l M d mc ms P pc' L (v.toList ++ S) h' (kc - mc') (ks - ms')) : Z l M d mc ms P pc L (a1 :: a0 :: S) h kc ks := by
  obtain ⟨hd, rfl⟩ := hd
  exact z_invS (As := [a0, a1]) hd hc rfl (by omega) h1 h2 hW hM k
theorem z_invI0 {idx mc' ms' b : Nat} {P' : Option Value → zH → Prop} (hd : zAt M 3 pc pc' (.invokespecial idx)) (hc : zCI M.1.cls idx M' 0) (hdd : 1 ≤ d) (h1 : mc' ≤ kc) (h2 : ms' ≤ ks) (hW : (S.map fun v => v.category).sum ≤ 8) (hM : MZ l M' (d - 1) mc' ms' [.ref b] h P') (k : ∀ (v : Option Value) (h' : zH), P' v h' → Z l M d mc ms P pc' L (v.toList ++ S) h' (kc - mc') (ks - ms')) : Z l M d mc ms P pc L (.ref b :: S) h kc ks := by
  obtain ⟨hd, rfl⟩ := hd
  exact z_invI (As := []) hd hc rfl (by omega) h1 h2 hW hM k
theorem z_invIN0 {idx mc' ms' b : Nat} {P' : Option Value → zH → Prop} (hd : zAt M 3 pc pc' (.invokespecial idx)) (hc : zCIN M.1.cls idx M' 0) (hdd : 1 ≤ d) (h1 : mc' ≤ kc) (h2 : ms' ≤ ks) (hW : (S.map fun v => v.category).sum ≤ 8) (hM : MZ l M' (d - 1) mc' ms' [.ref b] h P') (k : ∀ (v : Option Value) (h' : zH), P' v h' → Z l M d mc ms P pc' L (v.toList ++ S) h' (kc - mc') (ks - ms')) : Z l M d mc ms P pc L (.ref b :: S) h kc ks := by
  obtain ⟨hd, rfl⟩ := hd
  exact z_invIN (As := []) hd hc rfl (by omega) h1 h2 hW hM k
theorem z_invI2 {idx mc' ms' b : Nat} {a0 a1 : Value} {P' : Option Value → zH → Prop} (hd : zAt M 3 pc pc' (.invokespecial idx)) (hc : zCI M.1.cls idx M' 2) (hdd : 1 ≤ d) (h1 : mc' ≤ kc) (h2 : ms' ≤ ks) (hW : (S.map fun v => v.category).sum ≤ 8) (hM : MZ l M' (d - 1) mc' ms' [.ref b, a0, a1] h P') (k : ∀ (v : Option Value) (h' : zH), P' v h' → Z l M d mc ms P pc' L (v.toList ++ S) h' (kc - mc') (ks - ms')) : Z l M d mc ms P pc L (a1 :: a0 :: .ref b :: S) h kc ks := by
  obtain ⟨hd, rfl⟩ := hd
  exact z_invI (As := [a0, a1]) hd hc rfl (by omega) h1 h2 hW hM k
end ZI
theorem Nd.mv {c b y : Nat} {ad : Nat → Nat} {ce : Nat → zE} {fv : Nat → Value} {h h' : zH} (H : Nd c b ad ce fv h) (e : ∀ x, x ≠ y → h' x = h x) (hb : b ≠ y) (hy : ∀ s, cTg c s < 6 → ad s ≠ y) : Nd c b ad ce fv h' :=
  ⟨(e b hb).trans H.1, fun s hs => (e _ (hy s hs)).trans (H.2.1 s hs), H.2.2⟩
def Bo2 (c a : Nat) (ad : Nat → Nat) (ce : Nat → zE) (fv : Nat → Value) (c2 b : Nat) (adb : Nat → Nat) (ce2 : Nat → zE) (fv2 : Nat → Value) (h0 h : zH) : Prop := Nd c a ad ce fv h ∧ Nd c2 b adb ce2 fv2 h ∧ (∀ s, cTg c s < 6 → h0 (ad s) = none) ∧ h0 b = none ∧ (∀ s, cTg c2 s < 6 → h0 (adb s) = none) ∧ (∀ s s', cTg c s < 6 → cTg c2 s' < 6 → ad s ≠ adb s') ∧ ∀ x, x ≠ a → (∀ s, cTg c s < 6 → x ≠ ad s) → x ≠ b → (∀ s, cTg c2 s < 6 → x ≠ adb s) → h x = h0 x
def fillN (f : Nat → Int32) (x : Int) (n : Nat) : Nat → Int32 := fun i => if i < n then Int32.ofInt x else f i
theorem fillN_s {f : Nat → Int32} {x : Int} {n : Nat} : upd (fillN f x n) n (Int32.ofInt x) = fillN f x (n + 1) := by
  funext i
  unfold upd fillN
  by_cases e : i = n
  · rw [if_pos e, if_pos (by omega)]
  · rw [if_neg e]
    by_cases q : i < n
    · rw [if_pos q, if_pos (by omega)]
    · rw [if_neg q, if_neg (by omega)]
set_option maxHeartbeats 4000000 in
set_option maxRecDepth 100000 in
theorem lp_zfill {l : Launch} {d q N : Nat} {x : Int} {f : Nat → Int32} {h0 : zH} (hx : zIn x) (hN : N ≤ 100000) : ∀ (n i : Nat) (h : zH), i ≤ N → N < i + n → h q = some (.inl (0, N, .inl (fillN f x i))) → (∀ y, y ≠ q → h y = h0 y) → Z l MJ7_fill_53178 d 0 0 (fun v h => v = none ∧ h q = some (.inl (0, N, .inl (fillN f x N))) ∧ ∀ y, y ≠ q → h y = h0 y) 5 [some (.ref q), some (vI x), some (vI (i : Int)), some (vI (N : Int))] [] h 0 0 := by
  intro n
  induction n with
  | zero => intro i h i1 i2; omega
  | succ n ih =>
    intro i h i1 i2 hq ho
    refine z_ild_2 (TJ7_fill_53178.at 5 rfl) ?_
    refine z_ild_3 (TJ7_fill_53178.at 6 rfl) ?_
    refine z_icmp_ge (tgt := 20) (TJ7_fill_53178.at 7 rfl) rfl (by omega) (by omega) (fun c7 => ?_) (fun c7 => ?_)
    · refine z_vret (TJ7_fill_53178.at 14 rfl) rfl ⟨rfl, ?_, ho⟩
      rw [show N = i by omega]
      rw [show N = i by omega] at hq
      exact hq
    · refine z_ald_0 (TJ7_fill_53178.at 8 rfl) ?_
      refine z_ild_2 (TJ7_fill_53178.at 9 rfl) ?_
      refine z_ild_1 (TJ7_fill_53178.at 10 rfl) ?_
      refine z_iast (TJ7_fill_53178.at 11 rfl) hq (by omega) (by omega) (by omega) ?_
      refine z_iinc_2 (TJ7_fill_53178.at 12 rfl) (by decide) rfl ?_
      refine z_goto (tgt := 5) (TJ7_fill_53178.at 13 rfl) rfl ?_
      rw [show ((i : Int)).toNat = i by omega, fillN_s]
      exact ih (i + 1) _ (by omega) (by omega) (if_pos rfl) (fun y hy => (if_neg hy).trans (ho y hy))
set_option maxHeartbeats 4000000 in
set_option maxRecDepth 100000 in
theorem z_fill {l : Launch} {d q N : Nat} {x : Int} {f : Nat → Int32} {h0 : zH} (hx : zIn x) (hN : N ≤ 100000) (hq : h0 q = some (.inl (0, N, .inl f))) : MZ l MJ7_fill_53178 d 0 0 [.ref q, vI x] h0 (fun v h => v = none ∧ h q = some (.inl (0, N, .inl (fillN f x N))) ∧ ∀ y, y ≠ q → h y = h0 y) := by
  refine MZ.intro [some (.ref q), some (vI x), none, none] (by decide) (Nat.le_of_ble_eq_true rfl) rfl ?_
  refine z_iconst (TJ7_fill_53178.at 0 rfl) ?_
  refine z_ist_2 (TJ7_fill_53178.at 1 rfl) (by decide) rfl ?_
  refine z_ald_0 (TJ7_fill_53178.at 2 rfl) ?_
  refine z_alen (TJ7_fill_53178.at 3 rfl) hq (by decide) ?_
  refine z_ist_3 (TJ7_fill_53178.at 4 rfl) (by decide) rfl ?_
  exact lp_zfill hx hN (N + 1) 0 h0 (by omega) (by omega) (by rw [hq]; congr 5) (fun _ _ => rfl)
theorem z_iastK {l : Launch} {M : zM} {d mc ms : Nat} {P : Option Value → zH → Prop} {pc pc' : Nat} {L : List (Option Value)} {S : List Value} {h : zH} {kc ks : Nat} {a n : Nat} {i x : Int} {f : Nat → Int32} (hd : zAt M 1 pc pc' .iastore) (ha : h a = some (.inl (0, n, .inl f))) (h0 : 0 ≤ i) (h1 : i < n) (hn : n < 2147483648) (K : ∀ h' : zH, h' a = some (.inl (0, n, .inl (upd f i.toNat (Int32.ofInt x)))) → (∀ y, y ≠ a → h' y = h y) → Z l M d mc ms P pc' L S h' kc ks) : Z l M d mc ms P pc L (vI x :: vI i :: .ref a :: S) h kc ks :=
  z_iast hd ha h0 h1 hn (K _ (if_pos rfl) (fun y hy => if_neg hy))
theorem cl1_55 : Cond.classLink RX1 55 "FuseFrames$Script" ∈ zTbl := zt1 32 (by decide +kernel) rfl
theorem cl7_9 : Cond.classLink RX7 9 "FuseFrames$Frame" ∈ zTbl := zt1 26 (by decide +kernel) rfl
def ceF (s : Nat) : zE := if s = 6 then .inl (0, 8, .inl (fillN (fun _ => 0) (-1) 8)) else if s = 12 then .inl (0, 3, .inl (upd (fun _ => 0) 1 1)) else zC (cTg 1 s) (cLn 1 s)
set_option maxHeartbeats 4000000 in
set_option maxRecDepth 100000 in
theorem i_X1 {l : Launch} {d a : Nat} {h0 : zH} (hd : 2 ≤ d) (ha : h0 a = some (.inr (1, [vI 0, .null, .null, .null, .null, vI 0, .null, vI 0, .null, vI 0, .null, .null, .null, vI 0, .null, vI 0]))) : MZ l MX1_init d 10 72 [.ref a] h0 (fun v h => v = none ∧ ∃ ad, Bo 1 a ad ceF (fun s => match s with | 0 => vI 0 | 5 => vI 0 | 7 => vI 0 | 9 => vI 0 | 13 => vI 0 | 15 => vI (-1) | _ => .null) h0 h) := by
  refine MZ.intro [some (.ref a)] (by decide) (Nat.le_of_ble_eq_true rfl) rfl ?_
  have ho : ∀ x, x ≠ a → h0 x = h0 x := fun _ _ => rfl
  refine z_ald_0 (TX1_init_0.at 0 rfl) ?_
  refine z_objI (TX1_init_0.at 1 rfl) oi1 (by omega) (Nat.le_of_ble_eq_true rfl) ?_
  refine z_ald_0 (TX1_init_0.at 2 rfl) ?_
  refine z_iconst (TX1_init_0.at 3 rfl) ?_
  refine z_pf (TX1_init_0.at 4 rfl) fp1_9 ha (Nat.le_of_ble_eq_true rfl) rfl rfl (fun h e1 e2 => ?_)
  have ha : h a = some (.inr (1, [vI 0, .null, .null, .null, .null, vI 0, .null, vI 0, .null, vI 0, .null, .null, .null, vI 0, .null, vI 0])) := e1
  have ho : ∀ x, x ≠ a → h x = h0 x := fun x xa => (e2 x xa).trans (ho x xa)
  refine z_ald_0 (TX1_init_0.at 5 rfl) ?_
  refine z_bipush (by decide) (TX1_init_0.at 6 rfl) ?_
  refine z_newI (TX1_init_0.at 7 rfl) ac0 (by omega) (by omega) (by omega) (by omega) (fun q1 h hn e1 e2 => ?_)
  have da1 : q1 ≠ a := ne_so ha hn
  have n1 : h0 q1 = none := (ho q1 da1).symm.trans hn
  have ha := (e2 a da1.symm).trans ha
  have k1 : h q1 = some (.inl (0, Int.toNat 10, .inl (fun _ => 0))) := e1
  have ho : ∀ x, x ≠ a → x ≠ q1 → h x = h0 x := fun x xa x1 => (e2 x x1).trans (ho x xa)
  refine z_pF (TX1_init_0.at 8 rfl) fp1_15 rfl ha (Nat.le_of_ble_eq_true rfl) rfl rfl (fun h e1 e2 => ?_)
  have ha : h a = some (.inr (1, [vI 0, .ref q1, .null, .null, .null, vI 0, .null, vI 0, .null, vI 0, .null, .null, .null, vI 0, .null, vI 0])) := e1
  have k1 := (e2 q1 da1).trans k1
  have ho : ∀ x, x ≠ a → x ≠ q1 → h x = h0 x := fun x xa x1 => (e2 x xa).trans (ho x xa x1)
  refine z_ald_0 (TX1_init_0.at 9 rfl) ?_
  refine z_bipush (by decide) (TX1_init_0.at 10 rfl) ?_
  refine z_newI (TX1_init_0.at 11 rfl) ac0 (by omega) (by omega) (by omega) (by omega) (fun q2 h hn e1 e2 => ?_)
  have da2 : q2 ≠ a := ne_so ha hn
  have d2_1 : q2 ≠ q1 := ne_so k1 hn
  have n2 : h0 q2 = none := (ho q2 da2 d2_1).symm.trans hn
  have ha := (e2 a da2.symm).trans ha
  have k1 := (e2 q1 d2_1.symm).trans k1
  have k2 : h q2 = some (.inl (0, Int.toNat 10, .inl (fun _ => 0))) := e1
  have ho : ∀ x, x ≠ a → x ≠ q1 → x ≠ q2 → h x = h0 x := fun x xa x1 x2 => (e2 x x2).trans (ho x xa x1)
  refine z_pF (TX1_init_0.at 12 rfl) fp1_19 rfl ha (Nat.le_of_ble_eq_true rfl) rfl rfl (fun h e1 e2 => ?_)
  have ha : h a = some (.inr (1, [vI 0, .ref q1, .ref q2, .null, .null, vI 0, .null, vI 0, .null, vI 0, .null, .null, .null, vI 0, .null, vI 0])) := e1
  have k1 := (e2 q1 da1).trans k1
  have k2 := (e2 q2 da2).trans k2
  have ho : ∀ x, x ≠ a → x ≠ q1 → x ≠ q2 → h x = h0 x := fun x xa x1 x2 => (e2 x xa).trans (ho x xa x1 x2)
  refine z_ald_0 (TX1_init_0.at 13 rfl) ?_
  refine z_bipush (by decide) (TX1_init_0.at 14 rfl) ?_
  refine z_newI (TX1_init_0.at 15 rfl) ac0 (by omega) (by omega) (by omega) (by omega) (fun q3 h hn e1 e2 => ?_)
  have da3 : q3 ≠ a := ne_so ha hn
  have d3_1 : q3 ≠ q1 := ne_so k1 hn
  have d3_2 : q3 ≠ q2 := ne_so k2 hn
  have n3 : h0 q3 = none := (ho q3 da3 d3_1 d3_2).symm.trans hn
  have ha := (e2 a da3.symm).trans ha
  have k1 := (e2 q1 d3_1.symm).trans k1
  have k2 := (e2 q2 d3_2.symm).trans k2
  have k3 : h q3 = some (.inl (0, Int.toNat 10, .inl (fun _ => 0))) := e1
  have ho : ∀ x, x ≠ a → x ≠ q1 → x ≠ q2 → x ≠ q3 → h x = h0 x := fun x xa x1 x2 x3 => (e2 x x3).trans (ho x xa x1 x2)
  refine z_pF (TX1_init_0.at 16 rfl) fp1_22 rfl ha (Nat.le_of_ble_eq_true rfl) rfl rfl (fun h e1 e2 => ?_)
  have ha : h a = some (.inr (1, [vI 0, .ref q1, .ref q2, .ref q3, .null, vI 0, .null, vI 0, .null, vI 0, .null, .null, .null, vI 0, .null, vI 0])) := e1
  have k1 := (e2 q1 da1).trans k1
  have k2 := (e2 q2 da2).trans k2
  have k3 := (e2 q3 da3).trans k3
  have ho : ∀ x, x ≠ a → x ≠ q1 → x ≠ q2 → x ≠ q3 → h x = h0 x := fun x xa x1 x2 x3 => (e2 x xa).trans (ho x xa x1 x2 x3)
  refine z_ald_0 (TX1_init_0.at 17 rfl) ?_
  refine z_bipush (by decide) (TX1_init_0.at 18 rfl) ?_
  refine z_newI (TX1_init_0.at 19 rfl) ac0 (by omega) (by omega) (by omega) (by omega) (fun q4 h hn e1 e2 => ?_)
  have da4 : q4 ≠ a := ne_so ha hn
  have d4_1 : q4 ≠ q1 := ne_so k1 hn
  have d4_2 : q4 ≠ q2 := ne_so k2 hn
  have d4_3 : q4 ≠ q3 := ne_so k3 hn
  have n4 : h0 q4 = none := (ho q4 da4 d4_1 d4_2 d4_3).symm.trans hn
  have ha := (e2 a da4.symm).trans ha
  have k1 := (e2 q1 d4_1.symm).trans k1
  have k2 := (e2 q2 d4_2.symm).trans k2
  have k3 := (e2 q3 d4_3.symm).trans k3
  have k4 : h q4 = some (.inl (0, Int.toNat 10, .inl (fun _ => 0))) := e1
  have ho : ∀ x, x ≠ a → x ≠ q1 → x ≠ q2 → x ≠ q3 → x ≠ q4 → h x = h0 x := fun x xa x1 x2 x3 x4 => (e2 x x4).trans (ho x xa x1 x2 x3)
  refine z_pF (TX1_init_0.at 20 rfl) fp1_25 rfl ha (Nat.le_of_ble_eq_true rfl) rfl rfl (fun h e1 e2 => ?_)
  have ha : h a = some (.inr (1, [vI 0, .ref q1, .ref q2, .ref q3, .ref q4, vI 0, .null, vI 0, .null, vI 0, .null, .null, .null, vI 0, .null, vI 0])) := e1
  have k1 := (e2 q1 da1).trans k1
  have k2 := (e2 q2 da2).trans k2
  have k3 := (e2 q3 da3).trans k3
  have k4 := (e2 q4 da4).trans k4
  have ho : ∀ x, x ≠ a → x ≠ q1 → x ≠ q2 → x ≠ q3 → x ≠ q4 → h x = h0 x := fun x xa x1 x2 x3 x4 => (e2 x xa).trans (ho x xa x1 x2 x3 x4)
  refine z_ald_0 (TX1_init_0.at 21 rfl) ?_
  refine z_iconst (TX1_init_0.at 22 rfl) ?_
  refine z_pf (TX1_init_0.at 23 rfl) fp1_28 ha (Nat.le_of_ble_eq_true rfl) rfl rfl (fun h e1 e2 => ?_)
  have ha : h a = some (.inr (1, [vI 0, .ref q1, .ref q2, .ref q3, .ref q4, vI 0, .null, vI 0, .null, vI 0, .null, .null, .null, vI 0, .null, vI 0])) := e1
  have k1 := (e2 q1 da1).trans k1
  have k2 := (e2 q2 da2).trans k2
  have k3 := (e2 q3 da3).trans k3
  have k4 := (e2 q4 da4).trans k4
  have ho : ∀ x, x ≠ a → x ≠ q1 → x ≠ q2 → x ≠ q3 → x ≠ q4 → h x = h0 x := fun x xa x1 x2 x3 x4 => (e2 x xa).trans (ho x xa x1 x2 x3 x4)
  refine z_ald_0 (TX1_init_0.at 24 rfl) ?_
  refine z_bipush (by decide) (TX1_init_0.at 25 rfl) ?_
  refine z_newI (TX1_init_0.at 26 rfl) ac0 (by omega) (by omega) (by omega) (by omega) (fun q6 h hn e1 e2 => ?_)
  have da6 : q6 ≠ a := ne_so ha hn
  have d6_1 : q6 ≠ q1 := ne_so k1 hn
  have d6_2 : q6 ≠ q2 := ne_so k2 hn
  have d6_3 : q6 ≠ q3 := ne_so k3 hn
  have d6_4 : q6 ≠ q4 := ne_so k4 hn
  have n6 : h0 q6 = none := (ho q6 da6 d6_1 d6_2 d6_3 d6_4).symm.trans hn
  have ha := (e2 a da6.symm).trans ha
  have k1 := (e2 q1 d6_1.symm).trans k1
  have k2 := (e2 q2 d6_2.symm).trans k2
  have k3 := (e2 q3 d6_3.symm).trans k3
  have k4 := (e2 q4 d6_4.symm).trans k4
  have k6 : h q6 = some (.inl (0, Int.toNat 8, .inl (fun _ => 0))) := e1
  have ho : ∀ x, x ≠ a → x ≠ q1 → x ≠ q2 → x ≠ q3 → x ≠ q4 → x ≠ q6 → h x = h0 x := fun x xa x1 x2 x3 x4 x6 => (e2 x x6).trans (ho x xa x1 x2 x3 x4)
  refine z_pF (TX1_init_0.at 27 rfl) fp1_31 rfl ha (Nat.le_of_ble_eq_true rfl) rfl rfl (fun h e1 e2 => ?_)
  have ha : h a = some (.inr (1, [vI 0, .ref q1, .ref q2, .ref q3, .ref q4, vI 0, .ref q6, vI 0, .null, vI 0, .null, .null, .null, vI 0, .null, vI 0])) := e1
  have k1 := (e2 q1 da1).trans k1
  have k2 := (e2 q2 da2).trans k2
  have k3 := (e2 q3 da3).trans k3
  have k4 := (e2 q4 da4).trans k4
  have k6 := (e2 q6 da6).trans k6
  have ho : ∀ x, x ≠ a → x ≠ q1 → x ≠ q2 → x ≠ q3 → x ≠ q4 → x ≠ q6 → h x = h0 x := fun x xa x1 x2 x3 x4 x6 => (e2 x xa).trans (ho x xa x1 x2 x3 x4 x6)
  refine z_ald_0 (TX1_init_0.at 28 rfl) ?_
  refine z_iconst (TX1_init_0.at 29 rfl) ?_
  refine z_pf (TX1_init_0.at 30 rfl) fp1_34 ha (Nat.le_of_ble_eq_true rfl) rfl rfl (fun h e1 e2 => ?_)
  have ha : h a = some (.inr (1, [vI 0, .ref q1, .ref q2, .ref q3, .ref q4, vI 0, .ref q6, vI 0, .null, vI 0, .null, .null, .null, vI 0, .null, vI 0])) := e1
  have k1 := (e2 q1 da1).trans k1
  have k2 := (e2 q2 da2).trans k2
  have k3 := (e2 q3 da3).trans k3
  have k4 := (e2 q4 da4).trans k4
  have k6 := (e2 q6 da6).trans k6
  have ho : ∀ x, x ≠ a → x ≠ q1 → x ≠ q2 → x ≠ q3 → x ≠ q4 → x ≠ q6 → h x = h0 x := fun x xa x1 x2 x3 x4 x6 => (e2 x xa).trans (ho x xa x1 x2 x3 x4 x6)
  refine z_ald_0 (TX1_init_0.at 31 rfl) ?_
  refine z_iconst (TX1_init_0.at 32 rfl) ?_
  refine z_newI (TX1_init_0.at 33 rfl) ac0 (by omega) (by omega) (by omega) (by omega) (fun q8 h hn e1 e2 => ?_)
  have da8 : q8 ≠ a := ne_so ha hn
  have d8_1 : q8 ≠ q1 := ne_so k1 hn
  have d8_2 : q8 ≠ q2 := ne_so k2 hn
  have d8_3 : q8 ≠ q3 := ne_so k3 hn
  have d8_4 : q8 ≠ q4 := ne_so k4 hn
  have d8_6 : q8 ≠ q6 := ne_so k6 hn
  have n8 : h0 q8 = none := (ho q8 da8 d8_1 d8_2 d8_3 d8_4 d8_6).symm.trans hn
  have ha := (e2 a da8.symm).trans ha
  have k1 := (e2 q1 d8_1.symm).trans k1
  have k2 := (e2 q2 d8_2.symm).trans k2
  have k3 := (e2 q3 d8_3.symm).trans k3
  have k4 := (e2 q4 d8_4.symm).trans k4
  have k6 := (e2 q6 d8_6.symm).trans k6
  have k8 : h q8 = some (.inl (0, Int.toNat 3, .inl (fun _ => 0))) := e1
  have ho : ∀ x, x ≠ a → x ≠ q1 → x ≠ q2 → x ≠ q3 → x ≠ q4 → x ≠ q6 → x ≠ q8 → h x = h0 x := fun x xa x1 x2 x3 x4 x6 x8 => (e2 x x8).trans (ho x xa x1 x2 x3 x4 x6)
  refine z_pF (TX1_init_0.at 34 rfl) fp1_37 rfl ha (Nat.le_of_ble_eq_true rfl) rfl rfl (fun h e1 e2 => ?_)
  have ha : h a = some (.inr (1, [vI 0, .ref q1, .ref q2, .ref q3, .ref q4, vI 0, .ref q6, vI 0, .ref q8, vI 0, .null, .null, .null, vI 0, .null, vI 0])) := e1
  have k1 := (e2 q1 da1).trans k1
  have k2 := (e2 q2 da2).trans k2
  have k3 := (e2 q3 da3).trans k3
  have k4 := (e2 q4 da4).trans k4
  have k6 := (e2 q6 da6).trans k6
  have k8 := (e2 q8 da8).trans k8
  have ho : ∀ x, x ≠ a → x ≠ q1 → x ≠ q2 → x ≠ q3 → x ≠ q4 → x ≠ q6 → x ≠ q8 → h x = h0 x := fun x xa x1 x2 x3 x4 x6 x8 => (e2 x xa).trans (ho x xa x1 x2 x3 x4 x6 x8)
  refine z_ald_0 (TX1_init_0.at 35 rfl) ?_
  refine z_iconst (TX1_init_0.at 36 rfl) ?_
  refine z_pf (TX1_init_0.at 37 rfl) fp1_40 ha (Nat.le_of_ble_eq_true rfl) rfl rfl (fun h e1 e2 => ?_)
  have ha : h a = some (.inr (1, [vI 0, .ref q1, .ref q2, .ref q3, .ref q4, vI 0, .ref q6, vI 0, .ref q8, vI 0, .null, .null, .null, vI 0, .null, vI 0])) := e1
  have k1 := (e2 q1 da1).trans k1
  have k2 := (e2 q2 da2).trans k2
  have k3 := (e2 q3 da3).trans k3
  have k4 := (e2 q4 da4).trans k4
  have k6 := (e2 q6 da6).trans k6
  have k8 := (e2 q8 da8).trans k8
  have ho : ∀ x, x ≠ a → x ≠ q1 → x ≠ q2 → x ≠ q3 → x ≠ q4 → x ≠ q6 → x ≠ q8 → h x = h0 x := fun x xa x1 x2 x3 x4 x6 x8 => (e2 x xa).trans (ho x xa x1 x2 x3 x4 x6 x8)
  refine z_ald_0 (TX1_init_0.at 38 rfl) ?_
  refine z_bipush (by decide) (TX1_init_0.at 39 rfl) ?_
  refine z_newI (TX1_init_1.at 0 rfl) ac0 (by omega) (by omega) (by omega) (by omega) (fun q10 h hn e1 e2 => ?_)
  have da10 : q10 ≠ a := ne_so ha hn
  have d10_1 : q10 ≠ q1 := ne_so k1 hn
  have d10_2 : q10 ≠ q2 := ne_so k2 hn
  have d10_3 : q10 ≠ q3 := ne_so k3 hn
  have d10_4 : q10 ≠ q4 := ne_so k4 hn
  have d10_6 : q10 ≠ q6 := ne_so k6 hn
  have d10_8 : q10 ≠ q8 := ne_so k8 hn
  have n10 : h0 q10 = none := (ho q10 da10 d10_1 d10_2 d10_3 d10_4 d10_6 d10_8).symm.trans hn
  have ha := (e2 a da10.symm).trans ha
  have k1 := (e2 q1 d10_1.symm).trans k1
  have k2 := (e2 q2 d10_2.symm).trans k2
  have k3 := (e2 q3 d10_3.symm).trans k3
  have k4 := (e2 q4 d10_4.symm).trans k4
  have k6 := (e2 q6 d10_6.symm).trans k6
  have k8 := (e2 q8 d10_8.symm).trans k8
  have k10 : h q10 = some (.inl (0, Int.toNat 6, .inl (fun _ => 0))) := e1
  have ho : ∀ x, x ≠ a → x ≠ q1 → x ≠ q2 → x ≠ q3 → x ≠ q4 → x ≠ q6 → x ≠ q8 → x ≠ q10 → h x = h0 x := fun x xa x1 x2 x3 x4 x6 x8 x10 => (e2 x x10).trans (ho x xa x1 x2 x3 x4 x6 x8)
  refine z_pF (TX1_init_1.at 1 rfl) fp1_43 rfl ha (Nat.le_of_ble_eq_true rfl) rfl rfl (fun h e1 e2 => ?_)
  have ha : h a = some (.inr (1, [vI 0, .ref q1, .ref q2, .ref q3, .ref q4, vI 0, .ref q6, vI 0, .ref q8, vI 0, .ref q10, .null, .null, vI 0, .null, vI 0])) := e1
  have k1 := (e2 q1 da1).trans k1
  have k2 := (e2 q2 da2).trans k2
  have k3 := (e2 q3 da3).trans k3
  have k4 := (e2 q4 da4).trans k4
  have k6 := (e2 q6 da6).trans k6
  have k8 := (e2 q8 da8).trans k8
  have k10 := (e2 q10 da10).trans k10
  have ho : ∀ x, x ≠ a → x ≠ q1 → x ≠ q2 → x ≠ q3 → x ≠ q4 → x ≠ q6 → x ≠ q8 → x ≠ q10 → h x = h0 x := fun x xa x1 x2 x3 x4 x6 x8 x10 => (e2 x xa).trans (ho x xa x1 x2 x3 x4 x6 x8 x10)
  refine z_ald_0 (TX1_init_1.at 2 rfl) ?_
  refine z_bipush (by decide) (TX1_init_1.at 3 rfl) ?_
  refine z_newI (TX1_init_1.at 4 rfl) ac0 (by omega) (by omega) (by omega) (by omega) (fun q11 h hn e1 e2 => ?_)
  have da11 : q11 ≠ a := ne_so ha hn
  have d11_1 : q11 ≠ q1 := ne_so k1 hn
  have d11_2 : q11 ≠ q2 := ne_so k2 hn
  have d11_3 : q11 ≠ q3 := ne_so k3 hn
  have d11_4 : q11 ≠ q4 := ne_so k4 hn
  have d11_6 : q11 ≠ q6 := ne_so k6 hn
  have d11_8 : q11 ≠ q8 := ne_so k8 hn
  have d11_10 : q11 ≠ q10 := ne_so k10 hn
  have n11 : h0 q11 = none := (ho q11 da11 d11_1 d11_2 d11_3 d11_4 d11_6 d11_8 d11_10).symm.trans hn
  have ha := (e2 a da11.symm).trans ha
  have k1 := (e2 q1 d11_1.symm).trans k1
  have k2 := (e2 q2 d11_2.symm).trans k2
  have k3 := (e2 q3 d11_3.symm).trans k3
  have k4 := (e2 q4 d11_4.symm).trans k4
  have k6 := (e2 q6 d11_6.symm).trans k6
  have k8 := (e2 q8 d11_8.symm).trans k8
  have k10 := (e2 q10 d11_10.symm).trans k10
  have k11 : h q11 = some (.inl (0, Int.toNat 6, .inl (fun _ => 0))) := e1
  have ho : ∀ x, x ≠ a → x ≠ q1 → x ≠ q2 → x ≠ q3 → x ≠ q4 → x ≠ q6 → x ≠ q8 → x ≠ q10 → x ≠ q11 → h x = h0 x := fun x xa x1 x2 x3 x4 x6 x8 x10 x11 => (e2 x x11).trans (ho x xa x1 x2 x3 x4 x6 x8 x10)
  refine z_pF (TX1_init_1.at 5 rfl) fp1_46 rfl ha (Nat.le_of_ble_eq_true rfl) rfl rfl (fun h e1 e2 => ?_)
  have ha : h a = some (.inr (1, [vI 0, .ref q1, .ref q2, .ref q3, .ref q4, vI 0, .ref q6, vI 0, .ref q8, vI 0, .ref q10, .ref q11, .null, vI 0, .null, vI 0])) := e1
  have k1 := (e2 q1 da1).trans k1
  have k2 := (e2 q2 da2).trans k2
  have k3 := (e2 q3 da3).trans k3
  have k4 := (e2 q4 da4).trans k4
  have k6 := (e2 q6 da6).trans k6
  have k8 := (e2 q8 da8).trans k8
  have k10 := (e2 q10 da10).trans k10
  have k11 := (e2 q11 da11).trans k11
  have ho : ∀ x, x ≠ a → x ≠ q1 → x ≠ q2 → x ≠ q3 → x ≠ q4 → x ≠ q6 → x ≠ q8 → x ≠ q10 → x ≠ q11 → h x = h0 x := fun x xa x1 x2 x3 x4 x6 x8 x10 x11 => (e2 x xa).trans (ho x xa x1 x2 x3 x4 x6 x8 x10 x11)
  refine z_ald_0 (TX1_init_1.at 6 rfl) ?_
  refine z_iconst (TX1_init_1.at 7 rfl) ?_
  refine z_newI (TX1_init_1.at 8 rfl) ac0 (by omega) (by omega) (by omega) (by omega) (fun q12 h hn e1 e2 => ?_)
  have da12 : q12 ≠ a := ne_so ha hn
  have d12_1 : q12 ≠ q1 := ne_so k1 hn
  have d12_2 : q12 ≠ q2 := ne_so k2 hn
  have d12_3 : q12 ≠ q3 := ne_so k3 hn
  have d12_4 : q12 ≠ q4 := ne_so k4 hn
  have d12_6 : q12 ≠ q6 := ne_so k6 hn
  have d12_8 : q12 ≠ q8 := ne_so k8 hn
  have d12_10 : q12 ≠ q10 := ne_so k10 hn
  have d12_11 : q12 ≠ q11 := ne_so k11 hn
  have n12 : h0 q12 = none := (ho q12 da12 d12_1 d12_2 d12_3 d12_4 d12_6 d12_8 d12_10 d12_11).symm.trans hn
  have ha := (e2 a da12.symm).trans ha
  have k1 := (e2 q1 d12_1.symm).trans k1
  have k2 := (e2 q2 d12_2.symm).trans k2
  have k3 := (e2 q3 d12_3.symm).trans k3
  have k4 := (e2 q4 d12_4.symm).trans k4
  have k6 := (e2 q6 d12_6.symm).trans k6
  have k8 := (e2 q8 d12_8.symm).trans k8
  have k10 := (e2 q10 d12_10.symm).trans k10
  have k11 := (e2 q11 d12_11.symm).trans k11
  have k12 : h q12 = some (.inl (0, Int.toNat 3, .inl (fun _ => 0))) := e1
  have ho : ∀ x, x ≠ a → x ≠ q1 → x ≠ q2 → x ≠ q3 → x ≠ q4 → x ≠ q6 → x ≠ q8 → x ≠ q10 → x ≠ q11 → x ≠ q12 → h x = h0 x := fun x xa x1 x2 x3 x4 x6 x8 x10 x11 x12 => (e2 x x12).trans (ho x xa x1 x2 x3 x4 x6 x8 x10 x11)
  refine z_pF (TX1_init_1.at 9 rfl) fp1_49 rfl ha (Nat.le_of_ble_eq_true rfl) rfl rfl (fun h e1 e2 => ?_)
  have ha : h a = some (.inr (1, [vI 0, .ref q1, .ref q2, .ref q3, .ref q4, vI 0, .ref q6, vI 0, .ref q8, vI 0, .ref q10, .ref q11, .ref q12, vI 0, .null, vI 0])) := e1
  have k1 := (e2 q1 da1).trans k1
  have k2 := (e2 q2 da2).trans k2
  have k3 := (e2 q3 da3).trans k3
  have k4 := (e2 q4 da4).trans k4
  have k6 := (e2 q6 da6).trans k6
  have k8 := (e2 q8 da8).trans k8
  have k10 := (e2 q10 da10).trans k10
  have k11 := (e2 q11 da11).trans k11
  have k12 := (e2 q12 da12).trans k12
  have ho : ∀ x, x ≠ a → x ≠ q1 → x ≠ q2 → x ≠ q3 → x ≠ q4 → x ≠ q6 → x ≠ q8 → x ≠ q10 → x ≠ q11 → x ≠ q12 → h x = h0 x := fun x xa x1 x2 x3 x4 x6 x8 x10 x11 x12 => (e2 x xa).trans (ho x xa x1 x2 x3 x4 x6 x8 x10 x11 x12)
  refine z_ald_0 (TX1_init_1.at 10 rfl) ?_
  refine z_iconst (TX1_init_1.at 11 rfl) ?_
  refine z_pf (TX1_init_1.at 12 rfl) fp1_52 ha (Nat.le_of_ble_eq_true rfl) rfl rfl (fun h e1 e2 => ?_)
  have ha : h a = some (.inr (1, [vI 0, .ref q1, .ref q2, .ref q3, .ref q4, vI 0, .ref q6, vI 0, .ref q8, vI 0, .ref q10, .ref q11, .ref q12, vI 0, .null, vI 0])) := e1
  have k1 := (e2 q1 da1).trans k1
  have k2 := (e2 q2 da2).trans k2
  have k3 := (e2 q3 da3).trans k3
  have k4 := (e2 q4 da4).trans k4
  have k6 := (e2 q6 da6).trans k6
  have k8 := (e2 q8 da8).trans k8
  have k10 := (e2 q10 da10).trans k10
  have k11 := (e2 q11 da11).trans k11
  have k12 := (e2 q12 da12).trans k12
  have ho : ∀ x, x ≠ a → x ≠ q1 → x ≠ q2 → x ≠ q3 → x ≠ q4 → x ≠ q6 → x ≠ q8 → x ≠ q10 → x ≠ q11 → x ≠ q12 → h x = h0 x := fun x xa x1 x2 x3 x4 x6 x8 x10 x11 x12 => (e2 x xa).trans (ho x xa x1 x2 x3 x4 x6 x8 x10 x11 x12)
  refine z_ald_0 (TX1_init_1.at 13 rfl) ?_
  refine z_bipush (by decide) (TX1_init_1.at 14 rfl) ?_
  refine z_newQ (t := 4) (TX1_init_1.at 15 rfl) (by decide) rfl cl1_55 ao4 (by omega) (by omega) (by omega) (by omega) (fun q14 h hn e1 e2 => ?_)
  have da14 : q14 ≠ a := ne_so ha hn
  have d14_1 : q14 ≠ q1 := ne_so k1 hn
  have d14_2 : q14 ≠ q2 := ne_so k2 hn
  have d14_3 : q14 ≠ q3 := ne_so k3 hn
  have d14_4 : q14 ≠ q4 := ne_so k4 hn
  have d14_6 : q14 ≠ q6 := ne_so k6 hn
  have d14_8 : q14 ≠ q8 := ne_so k8 hn
  have d14_10 : q14 ≠ q10 := ne_so k10 hn
  have d14_11 : q14 ≠ q11 := ne_so k11 hn
  have d14_12 : q14 ≠ q12 := ne_so k12 hn
  have n14 : h0 q14 = none := (ho q14 da14 d14_1 d14_2 d14_3 d14_4 d14_6 d14_8 d14_10 d14_11 d14_12).symm.trans hn
  have ha := (e2 a da14.symm).trans ha
  have k1 := (e2 q1 d14_1.symm).trans k1
  have k2 := (e2 q2 d14_2.symm).trans k2
  have k3 := (e2 q3 d14_3.symm).trans k3
  have k4 := (e2 q4 d14_4.symm).trans k4
  have k6 := (e2 q6 d14_6.symm).trans k6
  have k8 := (e2 q8 d14_8.symm).trans k8
  have k10 := (e2 q10 d14_10.symm).trans k10
  have k11 := (e2 q11 d14_11.symm).trans k11
  have k12 := (e2 q12 d14_12.symm).trans k12
  have k14 : h q14 = some (.inl (4, Int.toNat 6, .inr (.inr (.inr (.inr (fun _ => none)))))) := e1
  have ho : ∀ x, x ≠ a → x ≠ q1 → x ≠ q2 → x ≠ q3 → x ≠ q4 → x ≠ q6 → x ≠ q8 → x ≠ q10 → x ≠ q11 → x ≠ q12 → x ≠ q14 → h x = h0 x := fun x xa x1 x2 x3 x4 x6 x8 x10 x11 x12 x14 => (e2 x x14).trans (ho x xa x1 x2 x3 x4 x6 x8 x10 x11 x12)
  refine z_pF (TX1_init_1.at 16 rfl) fp1_57 rfl ha (Nat.le_of_ble_eq_true rfl) rfl rfl (fun h e1 e2 => ?_)
  have ha : h a = some (.inr (1, [vI 0, .ref q1, .ref q2, .ref q3, .ref q4, vI 0, .ref q6, vI 0, .ref q8, vI 0, .ref q10, .ref q11, .ref q12, vI 0, .ref q14, vI 0])) := e1
  have k1 := (e2 q1 da1).trans k1
  have k2 := (e2 q2 da2).trans k2
  have k3 := (e2 q3 da3).trans k3
  have k4 := (e2 q4 da4).trans k4
  have k6 := (e2 q6 da6).trans k6
  have k8 := (e2 q8 da8).trans k8
  have k10 := (e2 q10 da10).trans k10
  have k11 := (e2 q11 da11).trans k11
  have k12 := (e2 q12 da12).trans k12
  have k14 := (e2 q14 da14).trans k14
  have ho : ∀ x, x ≠ a → x ≠ q1 → x ≠ q2 → x ≠ q3 → x ≠ q4 → x ≠ q6 → x ≠ q8 → x ≠ q10 → x ≠ q11 → x ≠ q12 → x ≠ q14 → h x = h0 x := fun x xa x1 x2 x3 x4 x6 x8 x10 x11 x12 x14 => (e2 x xa).trans (ho x xa x1 x2 x3 x4 x6 x8 x10 x11 x12 x14)
  refine z_ald_0 (TX1_init_1.at 17 rfl) ?_
  refine z_iconst (TX1_init_1.at 18 rfl) ?_
  refine z_pf (TX1_init_1.at 19 rfl) fp1_61 ha (Nat.le_of_ble_eq_true rfl) rfl rfl (fun h e1 e2 => ?_)
  have ha : h a = some (.inr (1, [vI 0, .ref q1, .ref q2, .ref q3, .ref q4, vI 0, .ref q6, vI 0, .ref q8, vI 0, .ref q10, .ref q11, .ref q12, vI 0, .ref q14, vI (-1)])) := e1
  have k1 := (e2 q1 da1).trans k1
  have k2 := (e2 q2 da2).trans k2
  have k3 := (e2 q3 da3).trans k3
  have k4 := (e2 q4 da4).trans k4
  have k6 := (e2 q6 da6).trans k6
  have k8 := (e2 q8 da8).trans k8
  have k10 := (e2 q10 da10).trans k10
  have k11 := (e2 q11 da11).trans k11
  have k12 := (e2 q12 da12).trans k12
  have k14 := (e2 q14 da14).trans k14
  have ho : ∀ x, x ≠ a → x ≠ q1 → x ≠ q2 → x ≠ q3 → x ≠ q4 → x ≠ q6 → x ≠ q8 → x ≠ q10 → x ≠ q11 → x ≠ q12 → x ≠ q14 → h x = h0 x := fun x xa x1 x2 x3 x4 x6 x8 x10 x11 x12 x14 => (e2 x xa).trans (ho x xa x1 x2 x3 x4 x6 x8 x10 x11 x12 x14)
  refine z_ald_0 (TX1_init_1.at 20 rfl) ?_
  refine z_getf (v := .ref q6) (TX1_init_1.at 21 rfl) fl1_31 ha rfl ?_
  refine z_iconst (TX1_init_1.at 22 rfl) ?_
  refine z_invS2 (TX1_init_1.at 23 rfl) c1_64 (by omega) (Nat.zero_le _) (Nat.zero_le _) (Nat.le_of_ble_eq_true rfl) (z_fill (by decide) (by decide) k6) (fun v h hp => ?_)
  obtain ⟨rfl, e1, e2⟩ := hp
  have ha := (e2 a da6.symm).trans ha
  have k1 := (e2 q1 d6_1.symm).trans k1
  have k2 := (e2 q2 d6_2.symm).trans k2
  have k3 := (e2 q3 d6_3.symm).trans k3
  have k4 := (e2 q4 d6_4.symm).trans k4
  have k8 := (e2 q8 d8_6).trans k8
  have k10 := (e2 q10 d10_6).trans k10
  have k11 := (e2 q11 d11_6).trans k11
  have k12 := (e2 q12 d12_6).trans k12
  have k14 := (e2 q14 d14_6).trans k14
  have k6 := e1
  have ho : ∀ x, x ≠ a → x ≠ q1 → x ≠ q2 → x ≠ q3 → x ≠ q4 → x ≠ q6 → x ≠ q8 → x ≠ q10 → x ≠ q11 → x ≠ q12 → x ≠ q14 → h x = h0 x := fun x xa x1 x2 x3 x4 x6 x8 x10 x11 x12 x14 => (e2 x x6).trans (ho x xa x1 x2 x3 x4 x6 x8 x10 x11 x12 x14)
  refine z_ald_0 (TX1_init_1.at 24 rfl) ?_
  refine z_getf (v := .ref q12) (TX1_init_1.at 25 rfl) fl1_49 ha rfl ?_
  refine z_iconst (TX1_init_1.at 26 rfl) ?_
  refine z_iconst (TX1_init_1.at 27 rfl) ?_
  refine z_iastK (TX1_init_1.at 28 rfl) k12 (by decide) (by decide) (by decide) (fun h e1 e2 => ?_)
  have ha := (e2 a da12.symm).trans ha
  have k1 := (e2 q1 d12_1.symm).trans k1
  have k2 := (e2 q2 d12_2.symm).trans k2
  have k3 := (e2 q3 d12_3.symm).trans k3
  have k4 := (e2 q4 d12_4.symm).trans k4
  have k6 := (e2 q6 d12_6.symm).trans k6
  have k8 := (e2 q8 d12_8.symm).trans k8
  have k10 := (e2 q10 d12_10.symm).trans k10
  have k11 := (e2 q11 d12_11.symm).trans k11
  have k14 := (e2 q14 d14_12).trans k14
  have k12 := e1
  have ho : ∀ x, x ≠ a → x ≠ q1 → x ≠ q2 → x ≠ q3 → x ≠ q4 → x ≠ q6 → x ≠ q8 → x ≠ q10 → x ≠ q11 → x ≠ q12 → x ≠ q14 → h x = h0 x := fun x xa x1 x2 x3 x4 x6 x8 x10 x11 x12 x14 => (e2 x x12).trans (ho x xa x1 x2 x3 x4 x6 x8 x10 x11 x12 x14)
  refine z_vret (TX1_init_1.at 29 rfl) rfl ⟨rfl, (fun s => match s with | 1 => q1 | 2 => q2 | 3 => q3 | 4 => q4 | 6 => q6 | 8 => q8 | 10 => q10 | 11 => q11 | 12 => q12 | 14 => q14 | _ => 0), ⟨ha, fun s hs => ?_, fun s t hs ht e => ?_, fun s hs => ?_⟩, fun s hs => ?_, fun x xa xs => ?_⟩
  · rcases sl1 hs with rfl | rfl | rfl | rfl | rfl | rfl | rfl | rfl | rfl | rfl
    · exact k1
    · exact k2
    · exact k3
    · exact k4
    · exact k6
    · exact k8
    · exact k10
    · exact k11
    · exact k12
    · exact k14
  · rcases sl1 hs with rfl | rfl | rfl | rfl | rfl | rfl | rfl | rfl | rfl | rfl
    · rcases sl1 ht with rfl | rfl | rfl | rfl | rfl | rfl | rfl | rfl | rfl | rfl
      · rfl
      · exact absurd e d2_1.symm
      · exact absurd e d3_1.symm
      · exact absurd e d4_1.symm
      · exact absurd e d6_1.symm
      · exact absurd e d8_1.symm
      · exact absurd e d10_1.symm
      · exact absurd e d11_1.symm
      · exact absurd e d12_1.symm
      · exact absurd e d14_1.symm
    · rcases sl1 ht with rfl | rfl | rfl | rfl | rfl | rfl | rfl | rfl | rfl | rfl
      · exact absurd e d2_1
      · rfl
      · exact absurd e d3_2.symm
      · exact absurd e d4_2.symm
      · exact absurd e d6_2.symm
      · exact absurd e d8_2.symm
      · exact absurd e d10_2.symm
      · exact absurd e d11_2.symm
      · exact absurd e d12_2.symm
      · exact absurd e d14_2.symm
    · rcases sl1 ht with rfl | rfl | rfl | rfl | rfl | rfl | rfl | rfl | rfl | rfl
      · exact absurd e d3_1
      · exact absurd e d3_2
      · rfl
      · exact absurd e d4_3.symm
      · exact absurd e d6_3.symm
      · exact absurd e d8_3.symm
      · exact absurd e d10_3.symm
      · exact absurd e d11_3.symm
      · exact absurd e d12_3.symm
      · exact absurd e d14_3.symm
    · rcases sl1 ht with rfl | rfl | rfl | rfl | rfl | rfl | rfl | rfl | rfl | rfl
      · exact absurd e d4_1
      · exact absurd e d4_2
      · exact absurd e d4_3
      · rfl
      · exact absurd e d6_4.symm
      · exact absurd e d8_4.symm
      · exact absurd e d10_4.symm
      · exact absurd e d11_4.symm
      · exact absurd e d12_4.symm
      · exact absurd e d14_4.symm
    · rcases sl1 ht with rfl | rfl | rfl | rfl | rfl | rfl | rfl | rfl | rfl | rfl
      · exact absurd e d6_1
      · exact absurd e d6_2
      · exact absurd e d6_3
      · exact absurd e d6_4
      · rfl
      · exact absurd e d8_6.symm
      · exact absurd e d10_6.symm
      · exact absurd e d11_6.symm
      · exact absurd e d12_6.symm
      · exact absurd e d14_6.symm
    · rcases sl1 ht with rfl | rfl | rfl | rfl | rfl | rfl | rfl | rfl | rfl | rfl
      · exact absurd e d8_1
      · exact absurd e d8_2
      · exact absurd e d8_3
      · exact absurd e d8_4
      · exact absurd e d8_6
      · rfl
      · exact absurd e d10_8.symm
      · exact absurd e d11_8.symm
      · exact absurd e d12_8.symm
      · exact absurd e d14_8.symm
    · rcases sl1 ht with rfl | rfl | rfl | rfl | rfl | rfl | rfl | rfl | rfl | rfl
      · exact absurd e d10_1
      · exact absurd e d10_2
      · exact absurd e d10_3
      · exact absurd e d10_4
      · exact absurd e d10_6
      · exact absurd e d10_8
      · rfl
      · exact absurd e d11_10.symm
      · exact absurd e d12_10.symm
      · exact absurd e d14_10.symm
    · rcases sl1 ht with rfl | rfl | rfl | rfl | rfl | rfl | rfl | rfl | rfl | rfl
      · exact absurd e d11_1
      · exact absurd e d11_2
      · exact absurd e d11_3
      · exact absurd e d11_4
      · exact absurd e d11_6
      · exact absurd e d11_8
      · exact absurd e d11_10
      · rfl
      · exact absurd e d12_11.symm
      · exact absurd e d14_11.symm
    · rcases sl1 ht with rfl | rfl | rfl | rfl | rfl | rfl | rfl | rfl | rfl | rfl
      · exact absurd e d12_1
      · exact absurd e d12_2
      · exact absurd e d12_3
      · exact absurd e d12_4
      · exact absurd e d12_6
      · exact absurd e d12_8
      · exact absurd e d12_10
      · exact absurd e d12_11
      · rfl
      · exact absurd e d14_12.symm
    · rcases sl1 ht with rfl | rfl | rfl | rfl | rfl | rfl | rfl | rfl | rfl | rfl
      · exact absurd e d14_1
      · exact absurd e d14_2
      · exact absurd e d14_3
      · exact absurd e d14_4
      · exact absurd e d14_6
      · exact absurd e d14_8
      · exact absurd e d14_10
      · exact absurd e d14_11
      · exact absurd e d14_12
      · rfl
  · rcases sl1 hs with rfl | rfl | rfl | rfl | rfl | rfl | rfl | rfl | rfl | rfl
    · exact da1
    · exact da2
    · exact da3
    · exact da4
    · exact da6
    · exact da8
    · exact da10
    · exact da11
    · exact da12
    · exact da14
  · rcases sl1 hs with rfl | rfl | rfl | rfl | rfl | rfl | rfl | rfl | rfl | rfl
    · exact n1
    · exact n2
    · exact n3
    · exact n4
    · exact n6
    · exact n8
    · exact n10
    · exact n11
    · exact n12
    · exact n14
  · exact ho x xa (xs 1 (by decide)) (xs 2 (by decide)) (xs 3 (by decide)) (xs 4 (by decide)) (xs 6 (by decide)) (xs 8 (by decide)) (xs 10 (by decide)) (xs 11 (by decide)) (xs 12 (by decide)) (xs 14 (by decide))

set_option maxHeartbeats 4000000 in
set_option maxRecDepth 100000 in
theorem i_X3 {l : Launch} {d a : Nat} {h0 : zH} (hd : 2 ≤ d) (ha : h0 a = some (.inr (3, [.null, vI 0, .null, .null, .null, vI 0, vI 0, vI 0, vI 0]))) : MZ l MX3_init d 10 1672 [.ref a] h0 (fun v h => v = none ∧ ∃ ad b adb, Bo2 3 a ad (fun s => zC (cTg 3 s) (cLn 3 s)) (fun s => match s with | 0 => .ref b | 1 => vI (-1) | 5 => vI 0 | 6 => vI 0 | 7 => vI 0 | 8 => vI 0 | _ => .null) 4 b adb (fun s => zC 0 (if s = 8 then Int.toNat 400 else Int.toNat 12)) (fun s => match s with | 0 => vI 0 | 1 => vI 0 | 2 => vI 0 | _ => .null) h0 h) := by
  refine MZ.intro [some (.ref a)] (by decide) (Nat.le_of_ble_eq_true rfl) rfl ?_
  have ho : ∀ x, x ≠ a → h0 x = h0 x := fun _ _ => rfl
  refine z_ald_0 (TX3_init.at 0 rfl) ?_
  refine z_objI (TX3_init.at 1 rfl) oi3 (by omega) (Nat.le_of_ble_eq_true rfl) ?_
  refine z_ald_0 (TX3_init.at 2 rfl) ?_
  refine z_newO (TX3_init.at 3 rfl) nw3_9 (by omega) (by show 9 ≤ _; omega) (fun b h hn e1 e2 => ?_)
  show Z l MX3_init d _ _ _ _ _ _ h _ (_ - 9)
  have db : b ≠ a := ne_so ha hn
  have nb : h0 b = none := (ho b db).symm.trans hn
  have ha := (e2 a db.symm).trans ha
  have kb := e1
  have ho : ∀ x, x ≠ a → x ≠ b → h x = h0 x := fun x xa xb => (e2 x xb).trans (ho x xa)
  refine z_dup rfl (TX3_init.at 4 rfl) ?_
  refine z_bipush (by decide) (TX3_init.at 5 rfl) ?_
  refine z_sipush (by decide) (TX3_init.at 6 rfl) ?_
  refine z_invI2 (TX3_init.at 7 rfl) c3_11 (by omega) (by omega) (by omega) (Nat.le_of_ble_eq_true rfl) (i_X4 (n := 12) (k := 400) (by omega) (by decide) (by decide) (by decide) (by decide) kb) (fun v h hp => ?_)
  obtain ⟨rfl, adb, B⟩ := hp
  have wa : ∀ s, cTg 4 s < 6 → adb s ≠ a := fun s hs => ne_so ha (B.2.1 s hs)
  have nw : ∀ s, cTg 4 s < 6 → h0 (adb s) = none := fun s hs => (ho (adb s) (wa s hs) (B.1.2.2.2 s hs)).symm.trans (B.2.1 s hs)
  have ha := B.keep ha db.symm
  have hN := B.1
  have ho : ∀ x, x ≠ a → x ≠ b → (∀ s, cTg 4 s < 6 → x ≠ adb s) → h x = h0 x := fun x xa xb xw => (B.2.2 x xb xw).trans (ho x xa xb)
  clear B kb
  refine z_pF (TX3_init.at 8 rfl) fp3_14 rfl ha (Nat.le_of_ble_eq_true rfl) rfl rfl (fun h e1 e2 => ?_)
  have ha : h a = some (.inr (3, [.ref b, vI 0, .null, .null, .null, vI 0, vI 0, vI 0, vI 0])) := e1
  have hN := hN.mv e2 db wa
  have ho : ∀ x, x ≠ a → x ≠ b → (∀ s, cTg 4 s < 6 → x ≠ adb s) → h x = h0 x := fun x xa xb xw => (e2 x xa).trans (ho x xa xb xw)
  refine z_ald_0 (TX3_init.at 9 rfl) ?_
  refine z_iconst (TX3_init.at 10 rfl) ?_
  refine z_pf (TX3_init.at 11 rfl) fp3_20 ha (Nat.le_of_ble_eq_true rfl) rfl rfl (fun h e1 e2 => ?_)
  have ha : h a = some (.inr (3, [.ref b, vI (-1), .null, .null, .null, vI 0, vI 0, vI 0, vI 0])) := e1
  have hN := hN.mv e2 db wa
  have ho : ∀ x, x ≠ a → x ≠ b → (∀ s, cTg 4 s < 6 → x ≠ adb s) → h x = h0 x := fun x xa xb xw => (e2 x xa).trans (ho x xa xb xw)
  refine z_ald_0 (TX3_init.at 12 rfl) ?_
  refine z_sipush (by decide) (TX3_init.at 13 rfl) ?_
  refine z_newI (TX3_init.at 14 rfl) ac0 (by omega) (by omega) (by omega) (by omega) (fun q2 h hn e1 e2 => ?_)
  have da2 : q2 ≠ a := ne_so ha hn
  have db2 : b ≠ q2 := (ne_so hN.1 hn).symm
  have w2 : ∀ s, cTg 4 s < 6 → adb s ≠ q2 := fun s hs => (ne_so (hN.2.1 s hs) hn).symm
  have n2 : h0 q2 = none := (ho q2 da2 db2.symm (fun s hs => (w2 s hs).symm)).symm.trans hn
  have ha := (e2 a da2.symm).trans ha
  have hN := hN.mv e2 db2 w2
  have k2 : h q2 = some (.inl (0, Int.toNat 401, .inl (fun _ => 0))) := e1
  have ho : ∀ x, x ≠ a → x ≠ q2 → x ≠ b → (∀ s, cTg 4 s < 6 → x ≠ adb s) → h x = h0 x := fun x xa x2 xb xw => (e2 x x2).trans (ho x xa xb xw)
  refine z_pF (TX3_init.at 15 rfl) fp3_24 rfl ha (Nat.le_of_ble_eq_true rfl) rfl rfl (fun h e1 e2 => ?_)
  have ha : h a = some (.inr (3, [.ref b, vI (-1), .ref q2, .null, .null, vI 0, vI 0, vI 0, vI 0])) := e1
  have k2 := (e2 q2 da2).trans k2
  have hN := hN.mv e2 db wa
  have ho : ∀ x, x ≠ a → x ≠ q2 → x ≠ b → (∀ s, cTg 4 s < 6 → x ≠ adb s) → h x = h0 x := fun x xa x2 xb xw => (e2 x xa).trans (ho x xa x2 xb xw)
  refine z_ald_0 (TX3_init.at 16 rfl) ?_
  refine z_sipush (by decide) (TX3_init.at 17 rfl) ?_
  refine z_newI (TX3_init.at 18 rfl) ac0 (by omega) (by omega) (by omega) (by omega) (fun q3 h hn e1 e2 => ?_)
  have da3 : q3 ≠ a := ne_so ha hn
  have d3_2 : q3 ≠ q2 := ne_so k2 hn
  have db3 : b ≠ q3 := (ne_so hN.1 hn).symm
  have w3 : ∀ s, cTg 4 s < 6 → adb s ≠ q3 := fun s hs => (ne_so (hN.2.1 s hs) hn).symm
  have n3 : h0 q3 = none := (ho q3 da3 d3_2 db3.symm (fun s hs => (w3 s hs).symm)).symm.trans hn
  have ha := (e2 a da3.symm).trans ha
  have k2 := (e2 q2 d3_2.symm).trans k2
  have hN := hN.mv e2 db3 w3
  have k3 : h q3 = some (.inl (0, Int.toNat 401, .inl (fun _ => 0))) := e1
  have ho : ∀ x, x ≠ a → x ≠ q2 → x ≠ q3 → x ≠ b → (∀ s, cTg 4 s < 6 → x ≠ adb s) → h x = h0 x := fun x xa x2 x3 xb xw => (e2 x x3).trans (ho x xa x2 xb xw)
  refine z_pF (TX3_init.at 19 rfl) fp3_28 rfl ha (Nat.le_of_ble_eq_true rfl) rfl rfl (fun h e1 e2 => ?_)
  have ha : h a = some (.inr (3, [.ref b, vI (-1), .ref q2, .ref q3, .null, vI 0, vI 0, vI 0, vI 0])) := e1
  have k2 := (e2 q2 da2).trans k2
  have k3 := (e2 q3 da3).trans k3
  have hN := hN.mv e2 db wa
  have ho : ∀ x, x ≠ a → x ≠ q2 → x ≠ q3 → x ≠ b → (∀ s, cTg 4 s < 6 → x ≠ adb s) → h x = h0 x := fun x xa x2 x3 xb xw => (e2 x xa).trans (ho x xa x2 x3 xb xw)
  refine z_ald_0 (TX3_init.at 20 rfl) ?_
  refine z_sipush (by decide) (TX3_init.at 21 rfl) ?_
  refine z_newI (TX3_init.at 22 rfl) ac0 (by omega) (by omega) (by omega) (by omega) (fun q4 h hn e1 e2 => ?_)
  have da4 : q4 ≠ a := ne_so ha hn
  have d4_2 : q4 ≠ q2 := ne_so k2 hn
  have d4_3 : q4 ≠ q3 := ne_so k3 hn
  have db4 : b ≠ q4 := (ne_so hN.1 hn).symm
  have w4 : ∀ s, cTg 4 s < 6 → adb s ≠ q4 := fun s hs => (ne_so (hN.2.1 s hs) hn).symm
  have n4 : h0 q4 = none := (ho q4 da4 d4_2 d4_3 db4.symm (fun s hs => (w4 s hs).symm)).symm.trans hn
  have ha := (e2 a da4.symm).trans ha
  have k2 := (e2 q2 d4_2.symm).trans k2
  have k3 := (e2 q3 d4_3.symm).trans k3
  have hN := hN.mv e2 db4 w4
  have k4 : h q4 = some (.inl (0, Int.toNat 401, .inl (fun _ => 0))) := e1
  have ho : ∀ x, x ≠ a → x ≠ q2 → x ≠ q3 → x ≠ q4 → x ≠ b → (∀ s, cTg 4 s < 6 → x ≠ adb s) → h x = h0 x := fun x xa x2 x3 x4 xb xw => (e2 x x4).trans (ho x xa x2 x3 xb xw)
  refine z_pF (TX3_init.at 23 rfl) fp3_31 rfl ha (Nat.le_of_ble_eq_true rfl) rfl rfl (fun h e1 e2 => ?_)
  have ha : h a = some (.inr (3, [.ref b, vI (-1), .ref q2, .ref q3, .ref q4, vI 0, vI 0, vI 0, vI 0])) := e1
  have k2 := (e2 q2 da2).trans k2
  have k3 := (e2 q3 da3).trans k3
  have k4 := (e2 q4 da4).trans k4
  have hN := hN.mv e2 db wa
  have ho : ∀ x, x ≠ a → x ≠ q2 → x ≠ q3 → x ≠ q4 → x ≠ b → (∀ s, cTg 4 s < 6 → x ≠ adb s) → h x = h0 x := fun x xa x2 x3 x4 xb xw => (e2 x xa).trans (ho x xa x2 x3 x4 xb xw)
  refine z_ald_0 (TX3_init.at 24 rfl) ?_
  refine z_iconst (TX3_init.at 25 rfl) ?_
  refine z_pf (TX3_init.at 26 rfl) fp3_34 ha (Nat.le_of_ble_eq_true rfl) rfl rfl (fun h e1 e2 => ?_)
  have ha : h a = some (.inr (3, [.ref b, vI (-1), .ref q2, .ref q3, .ref q4, vI 0, vI 0, vI 0, vI 0])) := e1
  have k2 := (e2 q2 da2).trans k2
  have k3 := (e2 q3 da3).trans k3
  have k4 := (e2 q4 da4).trans k4
  have hN := hN.mv e2 db wa
  have ho : ∀ x, x ≠ a → x ≠ q2 → x ≠ q3 → x ≠ q4 → x ≠ b → (∀ s, cTg 4 s < 6 → x ≠ adb s) → h x = h0 x := fun x xa x2 x3 x4 xb xw => (e2 x xa).trans (ho x xa x2 x3 x4 xb xw)
  refine z_ald_0 (TX3_init.at 27 rfl) ?_
  refine z_iconst (TX3_init.at 28 rfl) ?_
  refine z_pf (TX3_init.at 29 rfl) fp3_37 ha (Nat.le_of_ble_eq_true rfl) rfl rfl (fun h e1 e2 => ?_)
  have ha : h a = some (.inr (3, [.ref b, vI (-1), .ref q2, .ref q3, .ref q4, vI 0, vI 0, vI 0, vI 0])) := e1
  have k2 := (e2 q2 da2).trans k2
  have k3 := (e2 q3 da3).trans k3
  have k4 := (e2 q4 da4).trans k4
  have hN := hN.mv e2 db wa
  have ho : ∀ x, x ≠ a → x ≠ q2 → x ≠ q3 → x ≠ q4 → x ≠ b → (∀ s, cTg 4 s < 6 → x ≠ adb s) → h x = h0 x := fun x xa x2 x3 x4 xb xw => (e2 x xa).trans (ho x xa x2 x3 x4 xb xw)
  refine z_ald_0 (TX3_init.at 30 rfl) ?_
  refine z_iconst (TX3_init.at 31 rfl) ?_
  refine z_pf (TX3_init.at 32 rfl) fp3_40 ha (Nat.le_of_ble_eq_true rfl) rfl rfl (fun h e1 e2 => ?_)
  have ha : h a = some (.inr (3, [.ref b, vI (-1), .ref q2, .ref q3, .ref q4, vI 0, vI 0, vI 0, vI 0])) := e1
  have k2 := (e2 q2 da2).trans k2
  have k3 := (e2 q3 da3).trans k3
  have k4 := (e2 q4 da4).trans k4
  have hN := hN.mv e2 db wa
  have ho : ∀ x, x ≠ a → x ≠ q2 → x ≠ q3 → x ≠ q4 → x ≠ b → (∀ s, cTg 4 s < 6 → x ≠ adb s) → h x = h0 x := fun x xa x2 x3 x4 xb xw => (e2 x xa).trans (ho x xa x2 x3 x4 xb xw)
  refine z_ald_0 (TX3_init.at 33 rfl) ?_
  refine z_iconst (TX3_init.at 34 rfl) ?_
  refine z_pf (TX3_init.at 35 rfl) fp3_43 ha (Nat.le_of_ble_eq_true rfl) rfl rfl (fun h e1 e2 => ?_)
  have ha : h a = some (.inr (3, [.ref b, vI (-1), .ref q2, .ref q3, .ref q4, vI 0, vI 0, vI 0, vI 0])) := e1
  have k2 := (e2 q2 da2).trans k2
  have k3 := (e2 q3 da3).trans k3
  have k4 := (e2 q4 da4).trans k4
  have hN := hN.mv e2 db wa
  have ho : ∀ x, x ≠ a → x ≠ q2 → x ≠ q3 → x ≠ q4 → x ≠ b → (∀ s, cTg 4 s < 6 → x ≠ adb s) → h x = h0 x := fun x xa x2 x3 x4 xb xw => (e2 x xa).trans (ho x xa x2 x3 x4 xb xw)
  refine z_vret (TX3_init.at 36 rfl) rfl ⟨rfl, (fun s => match s with | 2 => q2 | 3 => q3 | 4 => q4 | _ => 0), b, adb, ⟨ha, fun s hs => ?_, fun s t hs ht e => ?_, fun s hs => ?_⟩, hN, fun s hs => ?_, nb, nw, fun s t hs ht => ?_, fun x xa xs xb xw => ?_⟩
  · rcases sl3 hs with rfl | rfl | rfl
    · exact k2
    · exact k3
    · exact k4
  · rcases sl3 hs with rfl | rfl | rfl
    · rcases sl3 ht with rfl | rfl | rfl
      · rfl
      · exact absurd e d3_2.symm
      · exact absurd e d4_2.symm
    · rcases sl3 ht with rfl | rfl | rfl
      · exact absurd e d3_2
      · rfl
      · exact absurd e d4_3.symm
    · rcases sl3 ht with rfl | rfl | rfl
      · exact absurd e d4_2
      · exact absurd e d4_3
      · rfl
  · rcases sl3 hs with rfl | rfl | rfl
    · exact da2
    · exact da3
    · exact da4
  · rcases sl3 hs with rfl | rfl | rfl
    · exact n2
    · exact n3
    · exact n4
  · rcases sl3 hs with rfl | rfl | rfl
    · exact (w2 t ht).symm
    · exact (w3 t ht).symm
    · exact (w4 t ht).symm
  · exact ho x xa (xs 2 (by decide)) (xs 3 (by decide)) (xs 4 (by decide)) xb xw

set_option maxHeartbeats 4000000 in
set_option maxRecDepth 100000 in
theorem i_X0 {l : Launch} {d a : Nat} {h0 : zH} (hd : 2 ≤ d) (ha : h0 a = some (.inr (0, [.null, .null, vI 0, .null, .null, .null, .null]))) : MZ l MX0_init d 7 130 [.ref a] h0 (fun v h => v = none ∧ ∃ ad b adb, Bo2 0 a ad (fun s => zC (cTg 0 s) (cLn 0 s)) (fun s => match s with | 2 => vI 0 | 6 => .ref b | _ => .null) 5 b adb (fun s => zC (cTg 5 s) (cLn 5 s)) (fun _ => .null) h0 h) := by
  refine MZ.intro [some (.ref a)] (by decide) (Nat.le_of_ble_eq_true rfl) rfl ?_
  have ho : ∀ x, x ≠ a → h0 x = h0 x := fun _ _ => rfl
  refine z_ald_0 (TX0_init.at 0 rfl) ?_
  refine z_objI (TX0_init.at 1 rfl) oi0 (by omega) (Nat.le_of_ble_eq_true rfl) ?_
  refine z_ald_0 (TX0_init.at 2 rfl) ?_
  refine z_bipush (by decide) (TX0_init.at 3 rfl) ?_
  refine z_newI (TX0_init.at 4 rfl) ac0 (by omega) (by omega) (by omega) (by omega) (fun q0 h hn e1 e2 => ?_)
  have da0 : q0 ≠ a := ne_so ha hn
  have n0 : h0 q0 = none := (ho q0 da0).symm.trans hn
  have ha := (e2 a da0.symm).trans ha
  have k0 : h q0 = some (.inl (0, Int.toNat 10, .inl (fun _ => 0))) := e1
  have ho : ∀ x, x ≠ a → x ≠ q0 → h x = h0 x := fun x xa x0 => (e2 x x0).trans (ho x xa)
  refine z_pF (TX0_init.at 5 rfl) fp0_9 rfl ha (Nat.le_of_ble_eq_true rfl) rfl rfl (fun h e1 e2 => ?_)
  have ha : h a = some (.inr (0, [.ref q0, .null, vI 0, .null, .null, .null, .null])) := e1
  have k0 := (e2 q0 da0).trans k0
  have ho : ∀ x, x ≠ a → x ≠ q0 → h x = h0 x := fun x xa x0 => (e2 x xa).trans (ho x xa x0)
  refine z_ald_0 (TX0_init.at 6 rfl) ?_
  refine z_bipush (by decide) (TX0_init.at 7 rfl) ?_
  refine z_newI (TX0_init.at 8 rfl) ac0 (by omega) (by omega) (by omega) (by omega) (fun q1 h hn e1 e2 => ?_)
  have da1 : q1 ≠ a := ne_so ha hn
  have d1_0 : q1 ≠ q0 := ne_so k0 hn
  have n1 : h0 q1 = none := (ho q1 da1 d1_0).symm.trans hn
  have ha := (e2 a da1.symm).trans ha
  have k0 := (e2 q0 d1_0.symm).trans k0
  have k1 : h q1 = some (.inl (0, Int.toNat 8, .inl (fun _ => 0))) := e1
  have ho : ∀ x, x ≠ a → x ≠ q0 → x ≠ q1 → h x = h0 x := fun x xa x0 x1 => (e2 x x1).trans (ho x xa x0)
  refine z_pF (TX0_init.at 9 rfl) fp0_15 rfl ha (Nat.le_of_ble_eq_true rfl) rfl rfl (fun h e1 e2 => ?_)
  have ha : h a = some (.inr (0, [.ref q0, .ref q1, vI 0, .null, .null, .null, .null])) := e1
  have k0 := (e2 q0 da0).trans k0
  have k1 := (e2 q1 da1).trans k1
  have ho : ∀ x, x ≠ a → x ≠ q0 → x ≠ q1 → h x = h0 x := fun x xa x0 x1 => (e2 x xa).trans (ho x xa x0 x1)
  refine z_ald_0 (TX0_init.at 10 rfl) ?_
  refine z_iconst (TX0_init.at 11 rfl) ?_
  refine z_pf (TX0_init.at 12 rfl) fp0_18 ha (Nat.le_of_ble_eq_true rfl) rfl rfl (fun h e1 e2 => ?_)
  have ha : h a = some (.inr (0, [.ref q0, .ref q1, vI 0, .null, .null, .null, .null])) := e1
  have k0 := (e2 q0 da0).trans k0
  have k1 := (e2 q1 da1).trans k1
  have ho : ∀ x, x ≠ a → x ≠ q0 → x ≠ q1 → h x = h0 x := fun x xa x0 x1 => (e2 x xa).trans (ho x xa x0 x1)
  refine z_ald_0 (TX0_init.at 13 rfl) ?_
  refine z_bipush (by decide) (TX0_init.at 14 rfl) ?_
  refine z_newI (TX0_init.at 15 rfl) ac0 (by omega) (by omega) (by omega) (by omega) (fun q3 h hn e1 e2 => ?_)
  have da3 : q3 ≠ a := ne_so ha hn
  have d3_0 : q3 ≠ q0 := ne_so k0 hn
  have d3_1 : q3 ≠ q1 := ne_so k1 hn
  have n3 : h0 q3 = none := (ho q3 da3 d3_0 d3_1).symm.trans hn
  have ha := (e2 a da3.symm).trans ha
  have k0 := (e2 q0 d3_0.symm).trans k0
  have k1 := (e2 q1 d3_1.symm).trans k1
  have k3 : h q3 = some (.inl (0, Int.toNat 8, .inl (fun _ => 0))) := e1
  have ho : ∀ x, x ≠ a → x ≠ q0 → x ≠ q1 → x ≠ q3 → h x = h0 x := fun x xa x0 x1 x3 => (e2 x x3).trans (ho x xa x0 x1)
  refine z_pF (TX0_init.at 16 rfl) fp0_22 rfl ha (Nat.le_of_ble_eq_true rfl) rfl rfl (fun h e1 e2 => ?_)
  have ha : h a = some (.inr (0, [.ref q0, .ref q1, vI 0, .ref q3, .null, .null, .null])) := e1
  have k0 := (e2 q0 da0).trans k0
  have k1 := (e2 q1 da1).trans k1
  have k3 := (e2 q3 da3).trans k3
  have ho : ∀ x, x ≠ a → x ≠ q0 → x ≠ q1 → x ≠ q3 → h x = h0 x := fun x xa x0 x1 x3 => (e2 x xa).trans (ho x xa x0 x1 x3)
  refine z_ald_0 (TX0_init.at 17 rfl) ?_
  refine z_bipush (by decide) (TX0_init.at 18 rfl) ?_
  refine z_newI (TX0_init.at 19 rfl) ac0 (by omega) (by omega) (by omega) (by omega) (fun q4 h hn e1 e2 => ?_)
  have da4 : q4 ≠ a := ne_so ha hn
  have d4_0 : q4 ≠ q0 := ne_so k0 hn
  have d4_1 : q4 ≠ q1 := ne_so k1 hn
  have d4_3 : q4 ≠ q3 := ne_so k3 hn
  have n4 : h0 q4 = none := (ho q4 da4 d4_0 d4_1 d4_3).symm.trans hn
  have ha := (e2 a da4.symm).trans ha
  have k0 := (e2 q0 d4_0.symm).trans k0
  have k1 := (e2 q1 d4_1.symm).trans k1
  have k3 := (e2 q3 d4_3.symm).trans k3
  have k4 : h q4 = some (.inl (0, Int.toNat 31, .inl (fun _ => 0))) := e1
  have ho : ∀ x, x ≠ a → x ≠ q0 → x ≠ q1 → x ≠ q3 → x ≠ q4 → h x = h0 x := fun x xa x0 x1 x3 x4 => (e2 x x4).trans (ho x xa x0 x1 x3)
  refine z_pF (TX0_init.at 20 rfl) fp0_25 rfl ha (Nat.le_of_ble_eq_true rfl) rfl rfl (fun h e1 e2 => ?_)
  have ha : h a = some (.inr (0, [.ref q0, .ref q1, vI 0, .ref q3, .ref q4, .null, .null])) := e1
  have k0 := (e2 q0 da0).trans k0
  have k1 := (e2 q1 da1).trans k1
  have k3 := (e2 q3 da3).trans k3
  have k4 := (e2 q4 da4).trans k4
  have ho : ∀ x, x ≠ a → x ≠ q0 → x ≠ q1 → x ≠ q3 → x ≠ q4 → h x = h0 x := fun x xa x0 x1 x3 x4 => (e2 x xa).trans (ho x xa x0 x1 x3 x4)
  refine z_ald_0 (TX0_init.at 21 rfl) ?_
  refine z_bipush (by decide) (TX0_init.at 22 rfl) ?_
  refine z_newI (TX0_init.at 23 rfl) ac0 (by omega) (by omega) (by omega) (by omega) (fun q5 h hn e1 e2 => ?_)
  have da5 : q5 ≠ a := ne_so ha hn
  have d5_0 : q5 ≠ q0 := ne_so k0 hn
  have d5_1 : q5 ≠ q1 := ne_so k1 hn
  have d5_3 : q5 ≠ q3 := ne_so k3 hn
  have d5_4 : q5 ≠ q4 := ne_so k4 hn
  have n5 : h0 q5 = none := (ho q5 da5 d5_0 d5_1 d5_3 d5_4).symm.trans hn
  have ha := (e2 a da5.symm).trans ha
  have k0 := (e2 q0 d5_0.symm).trans k0
  have k1 := (e2 q1 d5_1.symm).trans k1
  have k3 := (e2 q3 d5_3.symm).trans k3
  have k4 := (e2 q4 d5_4.symm).trans k4
  have k5 : h q5 = some (.inl (0, Int.toNat 8, .inl (fun _ => 0))) := e1
  have ho : ∀ x, x ≠ a → x ≠ q0 → x ≠ q1 → x ≠ q3 → x ≠ q4 → x ≠ q5 → h x = h0 x := fun x xa x0 x1 x3 x4 x5 => (e2 x x5).trans (ho x xa x0 x1 x3 x4)
  refine z_pF (TX0_init.at 24 rfl) fp0_28 rfl ha (Nat.le_of_ble_eq_true rfl) rfl rfl (fun h e1 e2 => ?_)
  have ha : h a = some (.inr (0, [.ref q0, .ref q1, vI 0, .ref q3, .ref q4, .ref q5, .null])) := e1
  have k0 := (e2 q0 da0).trans k0
  have k1 := (e2 q1 da1).trans k1
  have k3 := (e2 q3 da3).trans k3
  have k4 := (e2 q4 da4).trans k4
  have k5 := (e2 q5 da5).trans k5
  have ho : ∀ x, x ≠ a → x ≠ q0 → x ≠ q1 → x ≠ q3 → x ≠ q4 → x ≠ q5 → h x = h0 x := fun x xa x0 x1 x3 x4 x5 => (e2 x xa).trans (ho x xa x0 x1 x3 x4 x5)
  refine z_ald_0 (TX0_init.at 25 rfl) ?_
  refine z_newO (TX0_init.at 26 rfl) nw0_31 (by omega) (by show 1 ≤ _; omega) (fun b h hn e1 e2 => ?_)
  show Z l MX0_init d _ _ _ _ _ _ h _ (_ - 1)
  have db : b ≠ a := ne_so ha hn
  have db0 : b ≠ q0 := ne_so k0 hn
  have db1 : b ≠ q1 := ne_so k1 hn
  have db3 : b ≠ q3 := ne_so k3 hn
  have db4 : b ≠ q4 := ne_so k4 hn
  have db5 : b ≠ q5 := ne_so k5 hn
  have nb : h0 b = none := (ho b db db0 db1 db3 db4 db5).symm.trans hn
  have ha := (e2 a db.symm).trans ha
  have k0 := (e2 q0 db0.symm).trans k0
  have k1 := (e2 q1 db1.symm).trans k1
  have k3 := (e2 q3 db3.symm).trans k3
  have k4 := (e2 q4 db4.symm).trans k4
  have k5 := (e2 q5 db5.symm).trans k5
  have kb := e1
  have ho : ∀ x, x ≠ a → x ≠ q0 → x ≠ q1 → x ≠ q3 → x ≠ q4 → x ≠ q5 → x ≠ b → h x = h0 x := fun x xa x0 x1 x3 x4 x5 xb => (e2 x xb).trans (ho x xa x0 x1 x3 x4 x5)
  refine z_dup rfl (TX0_init.at 27 rfl) ?_
  refine z_invIN0 (TX0_init.at 28 rfl) c0_33 (by omega) (by omega) (by omega) (Nat.le_of_ble_eq_true rfl) (i_X5 (by omega) kb) (fun v h hp => ?_)
  obtain ⟨rfl, adb, B⟩ := hp
  have wa : ∀ s, cTg 5 s < 6 → adb s ≠ a := fun s hs => ne_so ha (B.2.1 s hs)
  have w0 : ∀ s, cTg 5 s < 6 → adb s ≠ q0 := fun s hs => ne_so k0 (B.2.1 s hs)
  have w1 : ∀ s, cTg 5 s < 6 → adb s ≠ q1 := fun s hs => ne_so k1 (B.2.1 s hs)
  have w3 : ∀ s, cTg 5 s < 6 → adb s ≠ q3 := fun s hs => ne_so k3 (B.2.1 s hs)
  have w4 : ∀ s, cTg 5 s < 6 → adb s ≠ q4 := fun s hs => ne_so k4 (B.2.1 s hs)
  have w5 : ∀ s, cTg 5 s < 6 → adb s ≠ q5 := fun s hs => ne_so k5 (B.2.1 s hs)
  have nw : ∀ s, cTg 5 s < 6 → h0 (adb s) = none := fun s hs => (ho (adb s) (wa s hs) (w0 s hs) (w1 s hs) (w3 s hs) (w4 s hs) (w5 s hs) (B.1.2.2.2 s hs)).symm.trans (B.2.1 s hs)
  have ha := B.keep ha db.symm
  have k0 := B.keep k0 db0.symm
  have k1 := B.keep k1 db1.symm
  have k3 := B.keep k3 db3.symm
  have k4 := B.keep k4 db4.symm
  have k5 := B.keep k5 db5.symm
  have hN := B.1
  have ho : ∀ x, x ≠ a → x ≠ q0 → x ≠ q1 → x ≠ q3 → x ≠ q4 → x ≠ q5 → x ≠ b → (∀ s, cTg 5 s < 6 → x ≠ adb s) → h x = h0 x := fun x xa x0 x1 x3 x4 x5 xb xw => (B.2.2 x xb xw).trans (ho x xa x0 x1 x3 x4 x5 xb)
  clear B kb
  refine z_pF (TX0_init.at 29 rfl) fp0_34 rfl ha (Nat.le_of_ble_eq_true rfl) rfl rfl (fun h e1 e2 => ?_)
  have ha : h a = some (.inr (0, [.ref q0, .ref q1, vI 0, .ref q3, .ref q4, .ref q5, .ref b])) := e1
  have k0 := (e2 q0 da0).trans k0
  have k1 := (e2 q1 da1).trans k1
  have k3 := (e2 q3 da3).trans k3
  have k4 := (e2 q4 da4).trans k4
  have k5 := (e2 q5 da5).trans k5
  have hN := hN.mv e2 db wa
  have ho : ∀ x, x ≠ a → x ≠ q0 → x ≠ q1 → x ≠ q3 → x ≠ q4 → x ≠ q5 → x ≠ b → (∀ s, cTg 5 s < 6 → x ≠ adb s) → h x = h0 x := fun x xa x0 x1 x3 x4 x5 xb xw => (e2 x xa).trans (ho x xa x0 x1 x3 x4 x5 xb xw)
  refine z_vret (TX0_init.at 30 rfl) rfl ⟨rfl, (fun s => match s with | 0 => q0 | 1 => q1 | 3 => q3 | 4 => q4 | 5 => q5 | _ => 0), b, adb, ⟨ha, fun s hs => ?_, fun s t hs ht e => ?_, fun s hs => ?_⟩, hN, fun s hs => ?_, nb, nw, fun s t hs ht => ?_, fun x xa xs xb xw => ?_⟩
  · rcases sl0 hs with rfl | rfl | rfl | rfl | rfl
    · exact k0
    · exact k1
    · exact k3
    · exact k4
    · exact k5
  · rcases sl0 hs with rfl | rfl | rfl | rfl | rfl
    · rcases sl0 ht with rfl | rfl | rfl | rfl | rfl
      · rfl
      · exact absurd e d1_0.symm
      · exact absurd e d3_0.symm
      · exact absurd e d4_0.symm
      · exact absurd e d5_0.symm
    · rcases sl0 ht with rfl | rfl | rfl | rfl | rfl
      · exact absurd e d1_0
      · rfl
      · exact absurd e d3_1.symm
      · exact absurd e d4_1.symm
      · exact absurd e d5_1.symm
    · rcases sl0 ht with rfl | rfl | rfl | rfl | rfl
      · exact absurd e d3_0
      · exact absurd e d3_1
      · rfl
      · exact absurd e d4_3.symm
      · exact absurd e d5_3.symm
    · rcases sl0 ht with rfl | rfl | rfl | rfl | rfl
      · exact absurd e d4_0
      · exact absurd e d4_1
      · exact absurd e d4_3
      · rfl
      · exact absurd e d5_4.symm
    · rcases sl0 ht with rfl | rfl | rfl | rfl | rfl
      · exact absurd e d5_0
      · exact absurd e d5_1
      · exact absurd e d5_3
      · exact absurd e d5_4
      · rfl
  · rcases sl0 hs with rfl | rfl | rfl | rfl | rfl
    · exact da0
    · exact da1
    · exact da3
    · exact da4
    · exact da5
  · rcases sl0 hs with rfl | rfl | rfl | rfl | rfl
    · exact n0
    · exact n1
    · exact n3
    · exact n4
    · exact n5
  · rcases sl0 hs with rfl | rfl | rfl | rfl | rfl
    · exact (w0 t ht).symm
    · exact (w1 t ht).symm
    · exact (w3 t ht).symm
    · exact (w4 t ht).symm
    · exact (w5 t ht).symm
  · exact ho x xa (xs 0 (by decide)) (xs 1 (by decide)) (xs 3 (by decide)) (xs 4 (by decide)) (xs 5 (by decide)) xb xw

