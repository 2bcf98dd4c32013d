/-! ===== the law: from the entry ===== -/
abbrev zsM (i : Nat) : Term := .string RX3 (zsK.getD i 0)
theorem w_ex : ∀ i : Nat, i < 28 → Cond.exactly (zsM i) "java/lang/String" ∈ flatC (Jvm.Cond.and given_1 narrow_1) := by decide +kernel
theorem w_co : ∀ i : Nat, i < 28 → Cond.eq (.field (zsM i) "java/lang/String" "coder" "B") (.int 0) ∈ flatC (Jvm.Cond.and given_1 narrow_1) := by decide +kernel
theorem w_ar : ∀ i : Nat, i < 28 → Cond.arrayOf (.field (zsM i) "java/lang/String" "value" "[B") .byte ∈ flatC (Jvm.Cond.and given_1 narrow_1) := by decide +kernel
theorem w_le : ∀ i : Nat, i < 28 → Cond.eq (.length (.field (zsM i) "java/lang/String" "value" "[B")) (.int (Int32.ofNat (zsLen.getD i 0))) ∈ flatC (Jvm.Cond.and given_1 narrow_1) := by decide +kernel
theorem w_el : ∀ i : Nat, i < 28 → ∀ j : Nat, j < zsLen.getD i 0 → Cond.eq (.elem (.field (zsM i) "java/lang/String" "value" "[B") (.int (Int32.ofNat j))) (.int ((zsByt.getD i []).getD j 0)) ∈ flatC (Jvm.Cond.and given_1 narrow_1) := by decide +kernel
theorem w_sr : ∀ i : Nat, i < 28 → Cond.stringRef RX3 (zsK.getD i 0) (zsT.getD i "") ∈ tables_1 := by decide +kernel
theorem w_ne : ∀ i : Nat, i < 28 → ∀ j : Nat, j < 28 → i ≠ j → Int32.ofNat (zsLen.getD i 0) ≠ Int32.ofNat (zsLen.getD j 0) ∨ ∃ k : Nat, k < 6 ∧ (k < zsLen.getD i 0 ∧ k < zsLen.getD j 0 ∧ (zsByt.getD i []).getD k 0 ≠ (zsByt.getD j []).getD k 0) := by decide +kernel
theorem w_31 : ∀ i : Nat, i < 28 → zsLen.getD i 0 < 2 ^ 31 := by decide +kernel
theorem OF_un {o n d : String} {x y t : Nat} {A : Nat → Prop} {U : State} {H : Heap} (h : va_OF o n d (.ref x) t A U H) (g : va_OF o n d (.ref y) t A U H) : x = y := by
  obtain ⟨cf, k, i, f, cell, h1, h2, h3, h4, h5, h6⟩ := h
  obtain ⟨cf', k', i', f', cell', g1, g2, g3, g4, g5, g6⟩ := g
  rw [h1] at g1
  cases g1
  rw [h3] at g3
  cases g3
  rw [h5] at g5
  cases g5
  rfl
theorem z_strs {args : Array Value} {s : State} {A : Nat → Prop} (hs : ∀ w ∈ flatC (Jvm.Cond.and given_1 narrow_1), w.before args s = true) (hA : ∀ a : Nat, a < s.heap.size → ¬ A a) : ∃ adK adV : Nat → Nat, vk_S 28 zsLen zsByt adK adV A s s.heap ∧ ∀ i : Nat, i < 28 → (zsM i).eval args s none [] s = some (.ref (adK i)) := by
  have h0 : ∀ i : Nat, ∃ q : Nat × Nat, i < 28 → (zsM i).eval args s none [] s = some (.ref q.1) ∧ va_O "java/lang/String" q.1 A s s.heap ∧ va_OF "java/lang/String" "coder" "B" (.int 0) q.1 A s s.heap ∧ va_OF "java/lang/String" "value" "[B" (.ref q.2) q.1 A s s.heap ∧ va_T .byte q.2 (zsLen.getD i 0) (fun j => .int ((zsByt.getD i []).getD j 0)) A s s.heap := by
    intro i
    by_cases hi : i < 28
    · obtain ⟨a, c, cA, kA, q1, q2, q3, q4, q5, q6, -⟩ := Cond.exactly_spec (args := args) (first := s) (o := none) (s := s) (idx := []) (t := zsM i) (cls := "java/lang/String") (hs _ (w_ex i hi))
      obtain ⟨t, ht, hT⟩ := va_Tof (f := fun j => .int ((zsByt.getD i []).getD j 0)) (A := A) (w_31 i hi) (hs _ (w_ar i hi)) (va_eqt (hs _ (w_le i hi))) (fun j hj => va_eqt (hs _ (w_el i hi j hj))) hA
      exact ⟨(a, t), fun _ => ⟨q1, ⟨cA, q3, q5, by rw [q6]; exact q2, hA a (Array.getElem?_eq_some_iff.mp q3).1⟩, vk_OFof q1 (va_eqt (hs _ (w_co i hi))) hA, vk_OFof q1 ht hA, hT⟩⟩
    · exact ⟨(0, 0), fun h => absurd h hi⟩
  obtain ⟨ad, had⟩ := Classical.axiomOfChoice h0
  refine ⟨fun i => (ad i).1, fun i => (ad i).2, ⟨fun i hi => (had i hi).2, fun i j hi hj e => ?_⟩, fun i hi => (had i hi).1⟩
  by_cases hij : i = j
  · exact hij
  · exfalso
    have e : (ad i).1 = (ad j).1 := e
    obtain ⟨-, -, -, v1, t1⟩ := had i hi
    obtain ⟨-, -, -, v2, t2⟩ := had j hj
    rw [e] at v1
    have e2 := OF_un v1 v2
    rw [e2] at t1
    obtain ⟨c1, a1, -, -, -, a2, a3, -⟩ := t1
    obtain ⟨c2, b1, -, -, -, b2, b3, -⟩ := t2
    rw [a1] at b1
    cases b1
    rcases w_ne i hi j hj hij with z | ⟨k, k6, k1, k2, k3⟩
    · exact z (a2.symm.trans b2)
    · have x1 := a3 k k1
      have x2 := b3 k k2
      rw [x1] at x2
      have x3 := Option.some.inj x2
      simp only [Value.int.injEq] at x3
      exact k3 x3
theorem z_known {args : Array Value} {s : State} {own : String} {idx ci : Nat} {fs : List Value} (hz : ∀ w ∈ zTbl, w.before args s = true) (hc : zNw own idx ci fs) : ∃ d : ClassId × (Nat → Nat), ∀ q : vw_C, vwCl[ci]? = some q → u_Kn s q.1 q.2.1 q.2.2 d.1 d.2 := by
  obtain ⟨C, T, N, ty0, c1, c2, c3, c4, c5, c6, -⟩ := hc
  obtain ⟨cC, iS, hk⟩ := u_known (n := N) hz c2 (hz _ c5)
  refine ⟨(cC, iS), fun q hq => ?_⟩
  rw [c1] at hq
  cases hq
  exact hk
theorem z_cls {args : Array Value} {s : State} (hz : ∀ w ∈ zTbl, w.before args s = true) : ∃ (dC : Nat → ClassId) (dI : Nat → Nat → Nat), ∀ (k : Nat) (q : vw_C), vwCl[k]? = some q → u_Kn s q.1 q.2.1 q.2.2 (dC k) (dI k) := by
  have h0 : ∀ k : Nat, ∃ d : ClassId × (Nat → Nat), ∀ q : vw_C, vwCl[k]? = some q → u_Kn s q.1 q.2.1 q.2.2 d.1 d.2 := by
    intro k
    match k with
    | 0 => exact z_known hz nw7_57
    | 1 => exact z_known hz nw7_9
    | 2 => exact z_known hz nw7_26
    | 3 => exact z_known hz nw7_43
    | 4 => exact z_known hz nw3_9
    | 5 => exact z_known hz nw7_50
    | 6 => exact z_known hz nw7_36
    | 7 => exact z_known hz nwL_7
    | 8 => exact z_known hz nwL_10
    | k + 9 =>
      obtain ⟨d, -⟩ := z_known (s := s) hz nw7_57
      exact ⟨d, fun q hq => by simp [vwCl] at hq⟩
  obtain ⟨d, hd⟩ := Classical.axiomOfChoice h0
  exact ⟨fun k => (d k).1, fun k => (d k).2, hd⟩
theorem z_arr {args : Array Value} {s : State} (hz : ∀ w ∈ zTbl, w.before args s = true) : ∃ aA : Nat → ClassId, ∀ k : Nat, k < 6 → ArrOfT s (aA k) (zTy k) ∧ va_RA s (aA k) (zTy k) := by
  have h0 : ∀ k : Nat, ∃ cA : ClassId, k < 6 → ArrOfT s cA (zTy k) ∧ va_RA s cA (zTy k) := by
    intro k
    match k with
    | 0 =>
      obtain ⟨c, kA, comp, h1, h2, h3⟩ := Cond.arrayClass_spec (hz _ ac0)
      exact ⟨c, fun _ => ⟨fun n z => ⟨fun k h => (by cases h), kA, h2, comp, h3⟩, h1⟩⟩
    | 1 =>
      obtain ⟨c, kA, comp, h1, h2, h3⟩ := Cond.arrayClass_spec (hz _ ac1)
      exact ⟨c, fun _ => ⟨fun n z => ⟨fun k h => (by cases h), kA, h2, comp, h3⟩, h1⟩⟩
    | 2 =>
      obtain ⟨c, kA, comp, h1, h2, h3⟩ := Cond.arrayClass_spec (hz _ ac2)
      exact ⟨c, fun _ => ⟨fun n z => ⟨fun k h => (by cases h), kA, h2, comp, h3⟩, h1⟩⟩
    | 3 =>
      obtain ⟨c, kA, comp, h1, h2, h3⟩ := Cond.arrayClass_spec (hz _ ac3)
      exact ⟨c, fun _ => ⟨fun n z => ⟨fun k h => (by cases h), kA, h2, comp, h3⟩, h1⟩⟩
    | 4 =>
      obtain ⟨comp, c, kA, h1, -, h2, h3, h4⟩ := Cond.arrayOver_spec (hz _ ao4)
      exact ⟨c, fun _ => ⟨fun n z => ⟨fun k h => (by cases h), kA, h2, comp, h3⟩, kA, comp, h2, h3, h1, h4⟩⟩
    | 5 =>
      obtain ⟨comp, c, kA, h1, -, h2, h3, h4⟩ := Cond.arrayOver_spec (hz _ ao5)
      exact ⟨c, fun _ => ⟨fun n z => ⟨fun k h => (by cases h), kA, h2, comp, h3⟩, kA, comp, h2, h3, h1, h4⟩⟩
    | k + 6 =>
      obtain ⟨c, kA, comp, h1, h2, h3⟩ := Cond.arrayClass_spec (hz _ ac0)
      exact ⟨c, fun h => absurd h (by omega)⟩
  exact Classical.axiomOfChoice h0
/-- from the entry, for every script of at most 384 ints, the law comes to its end with true -/
theorem whole_start {p : Program} {e : Env} {s : State} {m : MethodId} {below : List Frame} {meth : Method} {c : Code} (l : Launch) {b L : Nat} {xs : Nat → Int32} (hL : L ≤ 384) (C0 : lw_At p s m meth c b L xs) : W p l e room_1 s m #[Value.ref b] below meth c s.heap [] 0 0 (lw_Z below #[Value.ref b] s) (entryFrame m ([Value.ref b] : List Value).toArray 4) := by
  obtain ⟨hx, hb, hr, hml, hown, hts, hX, hbl, hlocks, hgv⟩ := id C0
  have hz : ∀ w ∈ zTbl, w.before #[Value.ref b] s = true := fun w hw => hts w (List.mem_filter.mp hw).1
  have ht1 : ∀ w ∈ tables_1, w.before #[Value.ref b] s = true := fun w hw => hts w (List.mem_append_right _ hw)
  have hs := flat_of_before _ hgv
  have hA0 : ∀ a : Nat, a < s.heap.size → ¬ (fun q : Nat => s.heap.size ≤ q) a := fun a h => Nat.not_le.mpr h
  obtain ⟨adK, adV, hvS, hev⟩ := z_strs hs hA0
  obtain ⟨dC, dI, hKc⟩ := z_cls hz
  obtain ⟨aA, hAr⟩ := z_arr hz
  have hzX : zX (dC, dI, aA, adK, adV) (fun q : Nat => s.heap.size ≤ q) s s.heap := ⟨zW_warm hz (State.WarmedH.refl s), fun i hi => vk_R.of (ht1 _ (w_sr i hi)) (hev i hi), hvS, va_Zof (ht1 (.laysStatic "java/lang/String" "COMPACT_STRINGS" "Z") (by decide +kernel)) (ht1 (.initialized "java/lang/String") (by decide +kernel)) (va_eqt (hs (.eq (.static "java/lang/String" "COMPACT_STRINGS" "Z") (.int 1)) (by decide +kernel))) hA0, va_Zqof (ht1 (.laysStatic "jdk/internal/util/Preconditions" "SIOOBE_FORMATTER" "Ljava/util/function/BiFunction;") (by decide +kernel)) (ht1 (.initialized "jdk/internal/util/Preconditions") (by decide +kernel)) (hs (.isRef (.static "jdk/internal/util/Preconditions" "SIOOBE_FORMATTER" "Ljava/util/function/BiFunction;")) (by decide +kernel)) hA0⟩
  have hK : va_K (zD (dC, dI, aA, adK, adV)) vwCl (zTys (dC, dI, aA, adK, adV)) s := by
    refine ⟨hKc, fun k q hq => ?_⟩
    match k, hq with
    | 0, hq => cases hq; exact hAr 0 (by decide)
    | 1, hq => cases hq; exact hAr 1 (by decide)
    | 2, hq => cases hq; exact hAr 2 (by decide)
    | 3, hq => cases hq; exact hAr 3 (by decide)
    | 4, hq => cases hq; exact hAr 4 (by decide)
    | 5, hq => cases hq; exact hAr 5 (by decide)
    | k + 6, hq => simp [zTys] at hq
  have hl := lv_entry ([.ref b]) (n := 4) (Nat.le_of_ble_eq_true rfl)
  rw [lg_entry_eq]
  generalize (lg_sl ([.ref b]) ++ List.replicate (4 - (lg_sl ([.ref b])).length) Slot.unset).toArray = ls at hl ⊢
  have hl : lv_has ls 4 [(0, .ref b)] := hl
  exact lw_begin (l := l) (b := b) (Ln := L) (xs := xs) (G := (dC, dI, aA, adK, adV)) hL p e s m below meth c s.heap [] 0 0 ls ⟨hx, hb, hr, hml, hown, hzX, hlocks, hK, hX, hbl⟩ (by decide) (by decide) hl ⟨[], fun k q h => by simp at h, ⟨fun i j p q h => by simp at h, fun k q h => by simp at h⟩, va_S.rf, fun a e he => by cases he⟩

