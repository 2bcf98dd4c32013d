/-! ===== clauses and texts; what a law tells ===== -/
/-- verb, its sum, its other sum, times, its test -/
abbrev Cla : Type := Int × Den × Den × Int × Option Den
def dOne : Den := fun _ => some 1
/-- "if" and its test, or nothing -/
def pIf (lw : Bool) (c v : Int → Int) (t p : Nat) : Except Nat (Nat × Nat × Option Den) :=
  if c t = 4 then (match pTestD lw c v 8 (t + 1) p with
    | .error e => .error e
    | .ok (t', p', k) => .ok (t', p', some k)) else .ok (t, p, none)
def pCla (lw : Bool) (c v : Int → Int) (t p : Nat) : Except Nat (Nat × Nat × Cla) :=
  let fin (vb : Int) (d1 d2 : Den) (tm : Int) (t p : Nat) : Except Nat (Nat × Nat × Cla) := match pIf lw c v t p with
    | .error e => .error e
    | .ok (t', p', q) => .ok (t', p', (vb, d1, d2, tm, q))
  let tim (vb : Int) (d1 d2 : Den) (t p : Nat) : Except Nat (Nat × Nat × Cla) := if c t = 27 then (if c (t + 1) = 50 ∧ 1 ≤ v (t + 1) ∧ v (t + 1) ≤ 20 then fin vb d1 d2 (v (t + 1)) (t + 2) p else .error (t + 1)) else fin vb d1 d2 1 t p
  if lw = true then
    if c t = 1 ∨ c t = 2 then (match pSumD lw c v 8 (t + 1) p with
      | .error e => .error e
      | .ok (t', p', k) => fin (c t) k dOne 1 t' p')
    else if c t = 3 then fin 3 dOne dOne 1 (t + 1) p else .error t
  else
    if c t = 24 then (match pSumD lw c v 8 (t + 1) p with
      | .error e => .error e
      | .ok (t', p', k) => if c t' = 25 then (match pSumD lw c v 8 (t' + 1) p' with
        | .error e => .error e
        | .ok (t2, p2, k2) => tim 24 k k2 t2 p2) else .error t')
    else if c t = 22 ∨ c t = 23 then (match pSumD lw c v 8 (t + 1) p with
      | .error e => .error e
      | .ok (t', p', k) => tim (c t) k dOne t' p')
    else if c t = 26 then tim 26 dOne dOne (t + 1) p else .error t
def pText (lw : Bool) (c v : Int → Int) (n : Nat) : Nat → Nat → Nat → Except Nat (List Cla)
  | 0, t, _ => .error t
  | m + 1, t, p => match pCla lw c v t p with
    | .error e => .error e
    | .ok (t', p', k) => if c t' = 159 then (match pText lw c v n m (t' + 1) p' with
        | .error e => .error e
        | .ok l => .ok (k :: l)) else if t' < n then .error t' else .ok [k]
/-- a test is so -/
def isSo (q : Option Den) (φ : Int → Int) : Prop := match q with
  | none => True
  | some k => k φ = some 1
/-- what a law's clauses tell of a verb -/
def tellF (head lo hi : Int) (φ : Int → Int) : List Cla → Int → Int
  | [], w => w
  | (vb, d1, _, _, q) :: l, w => tellF head lo hi φ l (if vb = head ∧ isSoB q φ then (match d1 φ with
      | none => w
      | some z => if z < lo then lo else if z > hi then hi else z) else w)
where isSoB (q : Option Den) (φ : Int → Int) : Bool := match q with
  | none => true
  | some k => k φ == some 1
def askF (K : Int → Int) (x a : Int) : Int := if a = 0 then x else if a = 1 then K (49 + x) else if a = 2 then K (29 + x) else if a = 3 then K (39 + x) else if a = 4 then -1 else if a = 5 then -1 else if a = 6 then K 75 else if a = 7 then K (10 + x) else K 28
def ends (K : Int → Int) (k : Int) : Int := sm (fun i => b2i (K (29 + i) = k ∨ K (39 + i) = k)) (K 76)
def askN (K : Int → Int) (k a : Int) : Int := if a = 4 then k else if a = 5 then ends K k else if a = 6 then K 75 else if a = 8 then K 28 else -1
set_option maxHeartbeats 4000000 in
set_option maxRecDepth 100000 in
theorem m_setsFuse {l : Launch} {o : Nat} {ar : Nat → Nat} {f : mF} {g j : mA} {K : Int → Int} {X26 : Int → Int} {x : Int}  (eg2 : g 2 = K) (eg26 : g 26 = X26) (hx : zIn x) (x0 : 0 ≤ x) (x1 : x ≤ 9) : MM l o ar MX8_setsFuse 0 [.ref o, vI x] f g j (PV (fun f' g' j' => (∀ a, 0 ≤ a → a ≤ 8 → g' 26 a = askF K x a) ∧ eqx [] f f' ∧ eqx [26] g g' ∧ j' = j)) := by
  refine MM.intro [some (.ref o), some (vI x)] (by decide) (Nat.le_of_ble_eq_true rfl) rfl (fun d hd h0 h hH hA => ?_)
  have hfE : eqx [] f f := eqx.rf
  have hgE : eqx [26] g g := eqx.rf
  refine z_ald_0 (TX8_setsFuse_0.at 0 rfl) ?_
  refine zm_getA (TX8_setsFuse_0.at 1 rfl) fl8_63 hH (by decide) (by decide) ?_
  refine z_iconst (TX8_setsFuse_0.at 2 rfl) ?_
  refine z_ild_1 (TX8_setsFuse_0.at 3 rfl) ?_
  refine zm_iastE (TX8_setsFuse_0.at 4 rfl) hH hA rfl (by omega) (show _ < ((9 : Nat) : Int) by omega) (by omega) (fun h g6 e1 e2 hH hA => ?_)
  have eg2 := (e1 2 (by decide)).trans eg2
  rw [eg26] at e2; have eg26 := e2
  have hgE := hgE.put e1 (by decide)
  refine z_ald_0 (TX8_setsFuse_0.at 5 rfl) ?_
  refine zm_getA (TX8_setsFuse_0.at 6 rfl) fl8_63 hH (by decide) (by decide) ?_
  refine z_iconst (TX8_setsFuse_0.at 7 rfl) ?_
  refine z_ald_0 (TX8_setsFuse_0.at 8 rfl) ?_
  refine zm_getA (TX8_setsFuse_0.at 9 rfl) fl8_28 hH (by decide) (by decide) ?_
  refine z_bipush (by decide) (TX8_setsFuse_0.at 10 rfl) ?_
  refine z_ild_1 (TX8_setsFuse_0.at 11 rfl) ?_
  refine z_iadd (TX8_setsFuse_0.at 12 rfl) ?_
  refine zm_ialdE eg2 (TX8_setsFuse_0.at 13 rfl) hH rfl (by omega) (show _ < ((5688 : Nat) : Int) by omega) (fun r20 => ?_)
  refine zm_iastE (TX8_setsFuse_0.at 14 rfl) hH hA rfl (by omega) (show _ < ((9 : Nat) : Int) by omega) (by omega) (fun h g21 e1 e2 hH hA => ?_)
  have eg2 := (e1 2 (by decide)).trans eg2
  rw [eg26] at e2; have eg26 := e2
  have hgE := hgE.put e1 (by decide)
  refine z_ald_0 (TX8_setsFuse_0.at 15 rfl) ?_
  refine zm_getA (TX8_setsFuse_0.at 16 rfl) fl8_63 hH (by decide) (by decide) ?_
  refine z_iconst (TX8_setsFuse_0.at 17 rfl) ?_
  refine z_ald_0 (TX8_setsFuse_0.at 18 rfl) ?_
  refine zm_getA (TX8_setsFuse_0.at 19 rfl) fl8_28 hH (by decide) (by decide) ?_
  refine z_bipush (by decide) (TX8_setsFuse_0.at 20 rfl) ?_
  refine z_ild_1 (TX8_setsFuse_0.at 21 rfl) ?_
  refine z_iadd (TX8_setsFuse_0.at 22 rfl) ?_
  refine zm_ialdE eg2 (TX8_setsFuse_0.at 23 rfl) hH rfl (by omega) (show _ < ((5688 : Nat) : Int) by omega) (fun r35 => ?_)
  refine zm_iastE (TX8_setsFuse_0.at 24 rfl) hH hA rfl (by omega) (show _ < ((9 : Nat) : Int) by omega) (by omega) (fun h g36 e1 e2 hH hA => ?_)
  have eg2 := (e1 2 (by decide)).trans eg2
  rw [eg26] at e2; have eg26 := e2
  have hgE := hgE.put e1 (by decide)
  refine z_ald_0 (TX8_setsFuse_0.at 25 rfl) ?_
  refine zm_getA (TX8_setsFuse_0.at 26 rfl) fl8_63 hH (by decide) (by decide) ?_
  refine z_iconst (TX8_setsFuse_0.at 27 rfl) ?_
  refine z_ald_0 (TX8_setsFuse_0.at 28 rfl) ?_
  refine zm_getA (TX8_setsFuse_0.at 29 rfl) fl8_28 hH (by decide) (by decide) ?_
  refine z_bipush (by decide) (TX8_setsFuse_0.at 30 rfl) ?_
  refine z_ild_1 (TX8_setsFuse_0.at 31 rfl) ?_
  refine z_iadd (TX8_setsFuse_0.at 32 rfl) ?_
  refine zm_ialdE eg2 (TX8_setsFuse_0.at 33 rfl) hH rfl (by omega) (show _ < ((5688 : Nat) : Int) by omega) (fun r50 => ?_)
  refine zm_iastE (TX8_setsFuse_0.at 34 rfl) hH hA rfl (by omega) (show _ < ((9 : Nat) : Int) by omega) (by omega) (fun h g51 e1 e2 hH hA => ?_)
  have eg2 := (e1 2 (by decide)).trans eg2
  rw [eg26] at e2; have eg26 := e2
  have hgE := hgE.put e1 (by decide)
  refine z_ald_0 (TX8_setsFuse_0.at 35 rfl) ?_
  refine zm_getA (TX8_setsFuse_0.at 36 rfl) fl8_63 hH (by decide) (by decide) ?_
  refine z_iconst (TX8_setsFuse_0.at 37 rfl) ?_
  refine z_iconst (TX8_setsFuse_0.at 38 rfl) ?_
  refine zm_iastE (TX8_setsFuse_0.at 39 rfl) hH hA rfl (by omega) (show _ < ((9 : Nat) : Int) by omega) (by omega) (fun h g58 e1 e2 hH hA => ?_)
  have eg2 := (e1 2 (by decide)).trans eg2
  rw [eg26] at e2; have eg26 := e2
  have hgE := hgE.put e1 (by decide)
  refine z_ald_0 (TX8_setsFuse_1.at 0 rfl) ?_
  refine zm_getA (TX8_setsFuse_1.at 1 rfl) fl8_63 hH (by decide) (by decide) ?_
  refine z_iconst (TX8_setsFuse_1.at 2 rfl) ?_
  refine z_iconst (TX8_setsFuse_1.at 3 rfl) ?_
  refine zm_iastE (TX8_setsFuse_1.at 4 rfl) hH hA rfl (by omega) (show _ < ((9 : Nat) : Int) by omega) (by omega) (fun h g65 e1 e2 hH hA => ?_)
  have eg2 := (e1 2 (by decide)).trans eg2
  rw [eg26] at e2; have eg26 := e2
  have hgE := hgE.put e1 (by decide)
  refine z_ald_0 (TX8_setsFuse_1.at 5 rfl) ?_
  refine zm_getA (TX8_setsFuse_1.at 6 rfl) fl8_63 hH (by decide) (by decide) ?_
  refine z_bipush (by decide) (TX8_setsFuse_1.at 7 rfl) ?_
  refine z_ald_0 (TX8_setsFuse_1.at 8 rfl) ?_
  refine zm_getA (TX8_setsFuse_1.at 9 rfl) fl8_28 hH (by decide) (by decide) ?_
  refine z_bipush (by decide) (TX8_setsFuse_1.at 10 rfl) ?_
  refine zm_ialdE eg2 (TX8_setsFuse_1.at 11 rfl) hH rfl (by omega) (show _ < ((5688 : Nat) : Int) by omega) (fun r78 => ?_)
  refine zm_iastE (TX8_setsFuse_1.at 12 rfl) hH hA rfl (by omega) (show _ < ((9 : Nat) : Int) by omega) (by omega) (fun h g79 e1 e2 hH hA => ?_)
  have eg2 := (e1 2 (by decide)).trans eg2
  rw [eg26] at e2; have eg26 := e2
  have hgE := hgE.put e1 (by decide)
  refine z_ald_0 (TX8_setsFuse_1.at 13 rfl) ?_
  refine zm_getA (TX8_setsFuse_1.at 14 rfl) fl8_63 hH (by decide) (by decide) ?_
  refine z_bipush (by decide) (TX8_setsFuse_1.at 15 rfl) ?_
  refine z_ald_0 (TX8_setsFuse_1.at 16 rfl) ?_
  refine zm_getA (TX8_setsFuse_1.at 17 rfl) fl8_28 hH (by decide) (by decide) ?_
  refine z_bipush (by decide) (TX8_setsFuse_1.at 18 rfl) ?_
  refine z_ild_1 (TX8_setsFuse_1.at 19 rfl) ?_
  refine z_iadd (TX8_setsFuse_1.at 20 rfl) ?_
  refine zm_ialdE eg2 (TX8_setsFuse_1.at 21 rfl) hH rfl (by omega) (show _ < ((5688 : Nat) : Int) by omega) (fun r94 => ?_)
  refine zm_iastE (TX8_setsFuse_1.at 22 rfl) hH hA rfl (by omega) (show _ < ((9 : Nat) : Int) by omega) (by omega) (fun h g95 e1 e2 hH hA => ?_)
  have eg2 := (e1 2 (by decide)).trans eg2
  rw [eg26] at e2; have eg26 := e2
  have hgE := hgE.put e1 (by decide)
  refine z_ald_0 (TX8_setsFuse_1.at 23 rfl) ?_
  refine zm_getA (TX8_setsFuse_1.at 24 rfl) fl8_63 hH (by decide) (by decide) ?_
  refine z_bipush (by decide) (TX8_setsFuse_1.at 25 rfl) ?_
  refine z_ald_0 (TX8_setsFuse_1.at 26 rfl) ?_
  refine zm_getA (TX8_setsFuse_1.at 27 rfl) fl8_28 hH (by decide) (by decide) ?_
  refine z_bipush (by decide) (TX8_setsFuse_1.at 28 rfl) ?_
  refine zm_ialdE eg2 (TX8_setsFuse_1.at 29 rfl) hH rfl (by omega) (show _ < ((5688 : Nat) : Int) by omega) (fun r108 => ?_)
  refine zm_iastE (TX8_setsFuse_1.at 30 rfl) hH hA rfl (by omega) (show _ < ((9 : Nat) : Int) by omega) (by omega) (fun h g109 e1 e2 hH hA => ?_)
  have eg2 := (e1 2 (by decide)).trans eg2
  rw [eg26] at e2; have eg26 := e2
  have hgE := hgE.put e1 (by decide)
  refine zm_vret (TX8_setsFuse_1.at 31 rfl) rfl hH hA ?_
  exact ⟨fun a h0 h8 => by rw [eg26]; rcases (show a = 0 ∨ a = 1 ∨ a = 2 ∨ a = 3 ∨ a = 4 ∨ a = 5 ∨ a = 6 ∨ a = 7 ∨ a = 8 by omega) with rfl | rfl | rfl | rfl | rfl | rfl | rfl | rfl | rfl <;> rfl, hfE, hgE, rfl⟩

set_option maxHeartbeats 4000000 in
set_option maxRecDepth 100000 in
theorem lp_endsOf {l : Launch} {o : Nat} {ar : Nat → Nat} {d : Nat} {Pz : Option Value → zH → Prop} {h0 : zH} {f0 : mF} {g0 : mA} {j : mA} (hd : 1 ≤ d) {K : Int → Int} {k : Int} (hk : zIn k) (n1 : K 76 ≤ 10) (kx : ∀ (f : mF) (g : mA) (h : zH), g 2 = K → eqx [] f0 f → eqx [] g0 g → HM o ar f g j h → zAg o ar h0 h → Z l MX8_endsOf d 0 0 Pz 52 [some (.ref o), some (vI k), some (vI (ends K k)), some (vI (K 76))] [] h 0 0)  : ∀ (n : Nat) (i : Int) (s : Int) (f : mF) (g : mA) (h : zH) (i0 : 0 ≤ i) (i1 : i ≤ K 76) (i2 : K 76 < i + n) (is : s = sm (fun i => b2i (K (29 + i) = k ∨ K (39 + i) = k)) i) (eg2 : g 2 = K) (hfE : eqx [] f0 f) (hgE : eqx [] g0 g) (hH : HM o ar f g j h) (hA : zAg o ar h0 h), Z l MX8_endsOf d 0 0 Pz 4 [some (.ref o), some (vI k), some (vI s), some (vI i)] [] h 0 0 := by
  intro n
  induction n with
  | zero => intro i s f g h i0 i1 i2 is eg2 hfE hgE hH hA; exfalso; omega
  | succ n ih =>
    intro i s f g h i0 i1 i2 is eg2 hfE hgE hH hA
    have hs := sm_in (p := fun i => b2i (K (29 + i) = k ∨ K (39 + i) = k)) i0 (fun t h1 h2 => by have := b2i_01 (K (29 + t) = k ∨ K (39 + t) = k); omega)
    refine z_ild_3 (TX8_endsOf.at 4 rfl) ?_
    refine z_ald_0 (TX8_endsOf.at 5 rfl) ?_
    refine zm_callP0 (m_fuseMany) (TX8_endsOf.at 6 rfl) c8_109 rfl rfl hH hA (by omega) (Nat.le_of_ble_eq_true rfl) (fun h r6 hH hA => ?_)
    rw [eg2] at r6 ⊢
    refine z_icmp_ge (tgt := 52) (TX8_endsOf.at 7 rfl) rfl (by omega) (by omega) (fun c1 => ?_) (fun c1 => ?_)
    · skip
      obtain rfl : i = K 76 := by omega
      rw [is]
      exact kx _ _ _ eg2 hfE hgE hH hA
    · skip
      refine z_ild_2 (TX8_endsOf.at 8 rfl) ?_
      refine z_ald_0 (TX8_endsOf.at 9 rfl) ?_
      refine zm_getA (TX8_endsOf.at 10 rfl) fl8_28 hH (by decide) (by decide) ?_
      refine z_bipush (by decide) (TX8_endsOf.at 11 rfl) ?_
      refine z_ild_3 (TX8_endsOf.at 12 rfl) ?_
      refine z_iadd (TX8_endsOf.at 13 rfl) ?_
      refine zm_ialdE eg2 (TX8_endsOf.at 14 rfl) hH rfl (by omega) (show _ < ((5688 : Nat) : Int) by omega) (fun r21 => ?_)
      refine z_ild_1 (TX8_endsOf.at 15 rfl) ?_
      refine z_icmp_eq (tgt := 39) (TX8_endsOf.at 16 rfl) rfl (by omega) (by omega) (fun c2 => ?_) (fun c2 => ?_)
      · skip
        refine z_iconst (TX8_endsOf.at 25 rfl) ?_
        refine z_goto (tgt := 44) (TX8_endsOf.at 26 rfl) rfl ?_
        refine z_iadd (TX8_endsOf.at 28 rfl) ?_
        refine z_ist_2 (TX8_endsOf.at 29 rfl) (Nat.le_of_ble_eq_true rfl) rfl ?_
        refine z_iinc_3 (TX8_endsOf.at 30 rfl) (Nat.le_of_ble_eq_true rfl) rfl ?_
        refine z_goto (tgt := 4) (TX8_endsOf.at 31 rfl) rfl ?_
        exact ih (i + 1) _ _ _ _ (by omega) (by omega) (by omega) (by rw [is, sm_s i0]; first | rw [b2i_t (by omega)] | rw [b2i_f (by omega)]) eg2 hfE hgE hH hA
      · skip
        refine z_ald_0 (TX8_endsOf.at 17 rfl) ?_
        refine zm_getA (TX8_endsOf.at 18 rfl) fl8_28 hH (by decide) (by decide) ?_
        refine z_bipush (by decide) (TX8_endsOf.at 19 rfl) ?_
        refine z_ild_3 (TX8_endsOf.at 20 rfl) ?_
        refine z_iadd (TX8_endsOf.at 21 rfl) ?_
        refine zm_ialdE eg2 (TX8_endsOf.at 22 rfl) hH rfl (by omega) (show _ < ((5688 : Nat) : Int) by omega) (fun r34 => ?_)
        refine z_ild_1 (TX8_endsOf.at 23 rfl) ?_
        refine z_icmp_ne (tgt := 43) (TX8_endsOf.at 24 rfl) rfl (by omega) (by omega) (fun c3 => ?_) (fun c3 => ?_)
        · skip
          refine z_iconst (TX8_endsOf.at 27 rfl) ?_
          refine z_iadd (TX8_endsOf.at 28 rfl) ?_
          refine z_ist_2 (TX8_endsOf.at 29 rfl) (Nat.le_of_ble_eq_true rfl) rfl ?_
          refine z_iinc_3 (TX8_endsOf.at 30 rfl) (Nat.le_of_ble_eq_true rfl) rfl ?_
          refine z_goto (tgt := 4) (TX8_endsOf.at 31 rfl) rfl ?_
          exact ih (i + 1) _ _ _ _ (by omega) (by omega) (by omega) (by rw [is, sm_s i0]; first | rw [b2i_t (by omega)] | rw [b2i_f (by omega)]) eg2 hfE hgE hH hA
        · skip
          refine z_iconst (TX8_endsOf.at 25 rfl) ?_
          refine z_goto (tgt := 44) (TX8_endsOf.at 26 rfl) rfl ?_
          refine z_iadd (TX8_endsOf.at 28 rfl) ?_
          refine z_ist_2 (TX8_endsOf.at 29 rfl) (Nat.le_of_ble_eq_true rfl) rfl ?_
          refine z_iinc_3 (TX8_endsOf.at 30 rfl) (Nat.le_of_ble_eq_true rfl) rfl ?_
          refine z_goto (tgt := 4) (TX8_endsOf.at 31 rfl) rfl ?_
          exact ih (i + 1) _ _ _ _ (by omega) (by omega) (by omega) (by rw [is, sm_s i0]; first | rw [b2i_t (by omega)] | rw [b2i_f (by omega)]) eg2 hfE hgE hH hA

theorem ends_in {K : Int → Int} {k : Int} (n0 : 0 ≤ K 76) : 0 ≤ ends K k ∧ ends K k ≤ K 76 := sm_in n0 (fun t h1 h2 => by have := b2i_01 (K (29 + t) = k ∨ K (39 + t) = k); omega)
set_option maxHeartbeats 4000000 in
set_option maxRecDepth 100000 in
theorem m_endsOf {l : Launch} {o : Nat} {ar : Nat → Nat} {f : mF} {g j : mA} {K : Int → Int} {k : Int}  (eg2 : g 2 = K) (hk : zIn k) (n0 : 0 ≤ K 76) (n1 : K 76 ≤ 10) : MM l o ar MX8_endsOf 1 [.ref o, vI k] f g j (PI (fun r f' g' j' => (r = ends K k) ∧ eqx [] f f' ∧ eqx [] g g' ∧ j' = j)) := by
  refine MM.intro [some (.ref o), some (vI k), none, none] (by decide) (Nat.le_of_ble_eq_true rfl) rfl (fun d hd h0 h hH hA => ?_)
  have hfE : eqx [] f f := eqx.rf
  have hgE : eqx [] g g := eqx.rf
  have he := ends_in (k := k) n0
  refine z_iconst (TX8_endsOf.at 0 rfl) ?_
  refine z_ist_2 (TX8_endsOf.at 1 rfl) (Nat.le_of_ble_eq_true rfl) rfl ?_
  refine z_iconst (TX8_endsOf.at 2 rfl) ?_
  refine z_ist_3 (TX8_endsOf.at 3 rfl) (Nat.le_of_ble_eq_true rfl) rfl ?_
  refine lp_endsOf (by omega) hk n1 (fun f4 g4 h eg2 xf xg hH hA => ?_) 12 0 0 _ _ _ (by omega) (by omega) (by omega) (sm_0 _).symm eg2 eqx.rf eqx.rf hH hA
  have hfE := hfE.trans xf (by decide)
  have hgE := hgE.trans xg (by decide)
  refine z_ild_2 (TX8_endsOf.at 32 rfl) ?_
  refine zm_iret (TX8_endsOf.at 33 rfl) rfl hH hA (by omega) ?_
  exact ⟨rfl, hfE, hgE, rfl⟩

set_option maxHeartbeats 4000000 in
set_option maxRecDepth 100000 in
theorem lp_setsKnot {l : Launch} {o : Nat} {ar : Nat → Nat} {d : Nat} {Pz : Option Value → zH → Prop} {h0 : zH} {f0 : mF} {g0 : mA} {j : mA}  {X26 : Int → Int} {k : Int} (kx : ∀ (f : mF) (g : mA) (h : zH), g 26 = cpF X26 (fun _ => -1) 0 8 → eqx [] f0 f → eqx [26] g0 g → HM o ar f g j h → zAg o ar h0 h → Z l MX8_setsKnot d 0 0 Pz 21 [some (.ref o), some (vI k), some (vI 8)] [] h 0 0)  : ∀ (n : Nat) (i : Int) (f : mF) (g : mA) (h : zH) (i0 : 0 ≤ i) (i1 : i ≤ 8) (i2 : 8 < i + n) (eg26 : g 26 = cpF X26 (fun _ => -1) 0 i) (hfE : eqx [] f0 f) (hgE : eqx [26] g0 g) (hH : HM o ar f g j h) (hA : zAg o ar h0 h), Z l MX8_setsKnot d 0 0 Pz 2 [some (.ref o), some (vI k), some (vI i)] [] h 0 0 := by
  intro n
  induction n with
  | zero => intro i f g h i0 i1 i2 eg26 hfE hgE hH hA; exfalso; omega
  | succ n ih =>
    intro i f g h i0 i1 i2 eg26 hfE hgE hH hA
    refine z_ild_2 (TX8_setsKnot.at 2 rfl) ?_
    refine z_bipush (by decide) (TX8_setsKnot.at 3 rfl) ?_
    refine z_icmp_ge (tgt := 21) (TX8_setsKnot.at 4 rfl) rfl (by omega) (by omega) (fun c1 => ?_) (fun c1 => ?_)
    · skip
      obtain rfl : i = 8 := by omega
      exact kx _ _ _ eg26 hfE hgE hH hA
    · skip
      refine z_ald_0 (TX8_setsKnot.at 5 rfl) ?_
      refine zm_getA (TX8_setsKnot.at 6 rfl) fl8_63 hH (by decide) (by decide) ?_
      refine z_ild_2 (TX8_setsKnot.at 7 rfl) ?_
      refine z_iconst (TX8_setsKnot.at 8 rfl) ?_
      refine zm_iastE (TX8_setsKnot.at 9 rfl) hH hA rfl (by omega) (show _ < ((9 : Nat) : Int) by omega) (by omega) (fun h g14 e1 e2 hH hA => ?_)
      rw [eg26] at e2; have eg26 := e2
      have hgE := hgE.put e1 (by decide)
      refine z_iinc_2 (TX8_setsKnot.at 10 rfl) (Nat.le_of_ble_eq_true rfl) rfl ?_
      refine z_goto (tgt := 2) (TX8_setsKnot.at 11 rfl) rfl ?_
      exact ih (i + 1) _ _ _ (by omega) (by omega) (by omega) (eg26.trans (cpF_s i0 (by omega) rfl)) hfE hgE hH hA

set_option maxHeartbeats 4000000 in
set_option maxRecDepth 100000 in
theorem m_setsKnot {l : Launch} {o : Nat} {ar : Nat → Nat} {f : mF} {g j : mA} {K : Int → Int} {X26 : Int → Int} {k : Int}  (eg2 : g 2 = K) (eg26 : g 26 = X26) (hk : zIn k) (n0 : 0 ≤ K 76) (n1 : K 76 ≤ 10) : MM l o ar MX8_setsKnot 2 [.ref o, vI k] f g j (PV (fun f' g' j' => (∀ a, 0 ≤ a → a ≤ 8 → g' 26 a = askN K k a) ∧ eqx [] f f' ∧ eqx [26] g g' ∧ j' = j)) := by
  refine MM.intro [some (.ref o), some (vI k), none] (by decide) (Nat.le_of_ble_eq_true rfl) rfl (fun d hd h0 h hH hA => ?_)
  have hfE : eqx [] f f := eqx.rf
  have hgE : eqx [26] g g := eqx.rf
  have he := ends_in (k := k) n0
  refine z_iconst (TX8_setsKnot.at 0 rfl) ?_
  refine z_ist_2 (TX8_setsKnot.at 1 rfl) (Nat.le_of_ble_eq_true rfl) rfl ?_
  refine lp_setsKnot (fun f2 g2 h eg26 xf xg hH hA => ?_) 9 0 _ _ _ (by omega) (by omega) (by omega) (eg26.trans (cpF_0 _ _ _).symm) eqx.rf eqx.rf hH hA
  have hfE := hfE.trans xf (by decide)
  have eg2 := (xg 2 (by decide)).trans eg2
  have hgE := hgE.trans xg (by decide)
  refine z_ald_0 (TX8_setsKnot.at 12 rfl) ?_
  refine zm_getA (TX8_setsKnot.at 13 rfl) fl8_63 hH (by decide) (by decide) ?_
  refine z_iconst (TX8_setsKnot.at 14 rfl) ?_
  refine z_ild_1 (TX8_setsKnot.at 15 rfl) ?_
  refine zm_iastE (TX8_setsKnot.at 16 rfl) hH hA rfl (by omega) (show _ < ((9 : Nat) : Int) by omega) (by omega) (fun h g27 e1 e2 hH hA => ?_)
  have eg2 := (e1 2 (by decide)).trans eg2
  rw [eg26] at e2; have eg26 := e2
  have hgE := hgE.put e1 (by decide)
  refine z_ald_0 (TX8_setsKnot.at 17 rfl) ?_
  refine zm_getA (TX8_setsKnot.at 18 rfl) fl8_63 hH (by decide) (by decide) ?_
  refine z_iconst (TX8_setsKnot.at 19 rfl) ?_
  refine z_ald_0 (TX8_setsKnot.at 20 rfl) ?_
  refine z_ild_1 (TX8_setsKnot.at 21 rfl) ?_
  refine zm_callI1 (m_endsOf eg2 (by omega) n0 n1) (TX8_setsKnot.at 22 rfl) c8_320 rfl rfl hH hA (by omega) (Nat.le_of_ble_eq_true rfl) (fun x35 f35 g35 j35 h r35 q35 hH hA => ?_)
  obtain ⟨q35, xf, xg, xj⟩ := q35
  rw [xj] at hH
  have hfE := hfE.trans xf (by decide)
  have eg2 := (xg 2 (by decide)).trans eg2
  have eg26 := (xg 26 (by decide)).trans eg26
  have hgE := hgE.trans xg (by decide)
  have qL := q35
  obtain rfl := qL
  refine zm_iastE (TX8_setsKnot.at 23 rfl) hH hA rfl (by omega) (show _ < ((9 : Nat) : Int) by omega) (by omega) (fun h g38 e1 e2 hH hA => ?_)
  have eg2 := (e1 2 (by decide)).trans eg2
  rw [eg26] at e2; have eg26 := e2
  have hgE := hgE.put e1 (by decide)
  refine z_ald_0 (TX8_setsKnot.at 24 rfl) ?_
  refine zm_getA (TX8_setsKnot.at 25 rfl) fl8_63 hH (by decide) (by decide) ?_
  refine z_bipush (by decide) (TX8_setsKnot.at 26 rfl) ?_
  refine z_ald_0 (TX8_setsKnot.at 27 rfl) ?_
  refine zm_getA (TX8_setsKnot.at 28 rfl) fl8_28 hH (by decide) (by decide) ?_
  refine z_bipush (by decide) (TX8_setsKnot.at 29 rfl) ?_
  refine zm_ialdE eg2 (TX8_setsKnot.at 30 rfl) hH rfl (by omega) (show _ < ((5688 : Nat) : Int) by omega) (fun r51 => ?_)
  refine zm_iastE (TX8_setsKnot.at 31 rfl) hH hA rfl (by omega) (show _ < ((9 : Nat) : Int) by omega) (by omega) (fun h g52 e1 e2 hH hA => ?_)
  have eg2 := (e1 2 (by decide)).trans eg2
  rw [eg26] at e2; have eg26 := e2
  have hgE := hgE.put e1 (by decide)
  refine z_ald_0 (TX8_setsKnot.at 32 rfl) ?_
  refine zm_getA (TX8_setsKnot.at 33 rfl) fl8_63 hH (by decide) (by decide) ?_
  refine z_bipush (by decide) (TX8_setsKnot.at 34 rfl) ?_
  refine z_ald_0 (TX8_setsKnot.at 35 rfl) ?_
  refine zm_getA (TX8_setsKnot.at 36 rfl) fl8_28 hH (by decide) (by decide) ?_
  refine z_bipush (by decide) (TX8_setsKnot.at 37 rfl) ?_
  refine zm_ialdE eg2 (TX8_setsKnot.at 38 rfl) hH rfl (by omega) (show _ < ((5688 : Nat) : Int) by omega) (fun r65 => ?_)
  refine zm_iastE (TX8_setsKnot.at 39 rfl) hH hA rfl (by omega) (show _ < ((9 : Nat) : Int) by omega) (by omega) (fun h g66 e1 e2 hH hA => ?_)
  have eg2 := (e1 2 (by decide)).trans eg2
  rw [eg26] at e2; have eg26 := e2
  have hgE := hgE.put e1 (by decide)
  refine zm_vret (TX8_setsKnot.at 40 rfl) rfl hH hA ?_
  exact ⟨fun a h0 h8 => by rw [eg26]; rcases (show a = 0 ∨ a = 1 ∨ a = 2 ∨ a = 3 ∨ a = 4 ∨ a = 5 ∨ a = 6 ∨ a = 7 ∨ a = 8 by omega) with rfl | rfl | rfl | rfl | rfl | rfl | rfl | rfl | rfl <;> rfl, hfE, hgE, rfl⟩

