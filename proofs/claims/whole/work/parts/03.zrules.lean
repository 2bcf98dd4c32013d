/-! ===== rules of Z for the instructions that touch no cell; ints are integers, taken modulo 2^32 ===== -/
def vI (z : Int) : Value := .int (Int32.ofInt z)
def vL (z : Int) : Value := .long (Int64.ofInt z)
abbrev zIn (z : Int) : Prop := -2147483648 ≤ z ∧ z ≤ 2147483647
abbrev zInL (z : Int) : Prop := -9223372036854775808 ≤ z ∧ z ≤ 9223372036854775807
theorem zI_toInt {z : Int} (h : zIn z) : (Int32.ofInt z).toInt = z := Int32.toInt_ofInt_of_le h.1 (Int.lt_of_le_of_lt h.2 (by decide))
theorem zL_toInt {z : Int} (h : zInL z) : (Int64.ofInt z).toInt = z := Int64.toInt_ofInt_of_le h.1 (Int.lt_of_le_of_lt h.2 (by decide))
theorem zI_lt {x y : Int} (hx : zIn x) (hy : zIn y) : Int32.ofInt x < Int32.ofInt y ↔ x < y := by rw [Int32.lt_iff_toInt_lt, zI_toInt hx, zI_toInt hy]
theorem zI_le {x y : Int} (hx : zIn x) (hy : zIn y) : Int32.ofInt x ≤ Int32.ofInt y ↔ x ≤ y := by rw [Int32.le_iff_toInt_le, zI_toInt hx, zI_toInt hy]
theorem zI_eq {x y : Int} (hx : zIn x) (hy : zIn y) : Int32.ofInt x = Int32.ofInt y ↔ x = y := by rw [← Int32.toInt_inj, zI_toInt hx, zI_toInt hy]
theorem zI_eq0 {x : Int} (hx : zIn x) : Int32.ofInt x = 0 ↔ x = 0 := zI_eq (y := 0) hx (by decide)
theorem zI_lt0 {x : Int} (hx : zIn x) : Int32.ofInt x < 0 ↔ x < 0 := zI_lt (y := 0) hx (by decide)
theorem zI_0lt {x : Int} (hx : zIn x) : 0 < Int32.ofInt x ↔ 0 < x := zI_lt (x := 0) (by decide) hx
theorem zI_le0 {x : Int} (hx : zIn x) : Int32.ofInt x ≤ 0 ↔ x ≤ 0 := zI_le (y := 0) hx (by decide)
theorem zI_0le {x : Int} (hx : zIn x) : 0 ≤ Int32.ofInt x ↔ 0 ≤ x := zI_le (x := 0) (by decide) hx
theorem vI_inj {x y : Int} (hx : zIn x) (hy : zIn y) (h : vI x = vI y) : x = y := (zI_eq hx hy).mp (Value.int.inj h)
theorem zI_clamp {x : Int} (hx : zIn x) : (Int32.ofInt x).toNatClampNeg = x.toNat := by rw [← Int32.toNat_toInt, zI_toInt hx]
/-- what the machine's own operators make of two ints -/
def zand (x y : Int) : Int := (Int32.ofInt x &&& Int32.ofInt y).toInt
def zor (x y : Int) : Int := (Int32.ofInt x ||| Int32.ofInt y).toInt
def zxor (x y : Int) : Int := (Int32.ofInt x ^^^ Int32.ofInt y).toInt
def zshl (x y : Int) : Int := (Int32.ofInt x <<< (Int32.ofInt y &&& 31)).toInt
def zshr (x y : Int) : Int := (Int32.ofInt x >>> (Int32.ofInt y &&& 31)).toInt
def zdiv (x y : Int) : Int := (Int32.ofInt x / Int32.ofInt y).toInt
def zrem (x y : Int) : Int := (Int32.ofInt x - Int32.ofInt x / Int32.ofInt y * Int32.ofInt y).toInt
def zldiv (x y : Int) : Int := (Int64.ofInt x / Int64.ofInt y).toInt
def zlrem (x y : Int) : Int := (Int64.ofInt x - Int64.ofInt x / Int64.ofInt y * Int64.ofInt y).toInt
def zi2b (x : Int) : Int := (Int32.ofInt x).toInt8.toInt32.toInt
def zl2i (x : Int) : Int := (Int64.ofInt x).toInt32.toInt
def zlcmp (x y : Int) : Int := if x < y then -1 else if x = y then 0 else 1
def zAt (M : zM) (n pc pc' : Nat) (i : Instr) : Prop := decode M.2.1 pc = .ok (i, n) ∧ pc + n = pc'
def zTab (M : zM) (tb : List (Nat × Nat × Nat × Instr)) : Prop := ∀ q ∈ tb, zAt M q.1 q.2.1 q.2.2.1 q.2.2.2
theorem zTab.at {M : zM} {tb : List (Nat × Nat × Nat × Instr)} (t : zTab M tb) (i : Nat) {n pc pc' : Nat} {ins : Instr} (h : tb[i]? = some (n, pc, pc', ins)) : zAt M n pc pc' ins := t (n, pc, pc', ins) (List.mem_of_getElem? h)
theorem zTab_of {M : zM} {tb : List (Nat × Nat × Nat × Instr)} (h : (tb.all fun q => decide (decode M.2.1 q.2.1 = .ok (q.2.2.2, q.1)) && decide (q.2.1 + q.1 = q.2.2.1)) = true) : zTab M tb := by
  intro q hq
  have h1 := List.all_eq_true.mp h q hq
  rw [Bool.and_eq_true] at h1
  exact ⟨of_decide_eq_true h1.1, of_decide_eq_true h1.2⟩
theorem zst_ok (pre : List (Option Value)) (o : Option Value) (post : List (Option Value)) (v : Value) (hc : ∀ w : Value, pre.getLast? = some (some w) → w.category ≠ 2) : ∀ (j : Nat) (w : Value), (pre ++ some v :: post)[j]? = some (some w) → (j = pre.length ∧ w = v) ∨ ((pre ++ o :: post)[j]? = some (some w) ∧ j ≠ pre.length ∧ ¬ (j + 1 = pre.length ∧ w.category = 2)) := by
  intro j w hj
  rcases Nat.lt_trichotomy j pre.length with h | h | h
  · rw [List.getElem?_append_left h] at hj
    refine Or.inr ⟨by rw [List.getElem?_append_left h]; exact hj, by omega, fun hh => hc w ?_ hh.2⟩
    rw [List.getLast?_eq_getElem?, show pre.length - 1 = j by omega]
    exact hj
  · subst h
    rw [List.getElem?_append_right (Nat.le_refl _)] at hj
    simp at hj
    exact Or.inl ⟨rfl, hj.symm⟩
  · rw [List.getElem?_append_right (by omega)] at hj
    obtain ⟨k, hk⟩ : ∃ k, j - pre.length = k + 1 := ⟨j - pre.length - 1, by omega⟩
    refine Or.inr ⟨by rw [List.getElem?_append_right (by omega), hk]; rw [hk] at hj; simpa using hj, by omega, by omega⟩
theorem zst_ok2 (pre : List (Option Value)) (o1 o2 : Option Value) (post : List (Option Value)) (v : Value) (hc : ∀ w : Value, pre.getLast? = some (some w) → w.category ≠ 2) : ∀ (j : Nat) (w : Value), (pre ++ some v :: none :: post)[j]? = some (some w) → (j = pre.length ∧ w = v) ∨ ((pre ++ o1 :: o2 :: post)[j]? = some (some w) ∧ j ≠ pre.length ∧ j ≠ pre.length + 1 ∧ ¬ (j + 1 = pre.length ∧ w.category = 2)) := by
  intro j w hj
  rcases zst_ok pre o1 (none :: post) v hc j w hj with h | ⟨h1, h2, h3⟩
  · exact Or.inl h
  · have hne : j ≠ pre.length + 1 := by
      intro e
      subst e
      rw [List.getElem?_append_right (by omega)] at h1
      simp at h1
    refine Or.inr ⟨?_, h2, hne, h3⟩
    rcases Nat.lt_or_ge j pre.length with h | h
    · rw [List.getElem?_append_left h] at h1 ⊢
      exact h1
    · rw [List.getElem?_append_right h] at h1 ⊢
      obtain ⟨k, hk⟩ : ∃ k, j - pre.length = k + 2 := ⟨j - pre.length - 2, by omega⟩
      rw [hk] at h1 ⊢
      simpa using h1
def zn (o : Option Value) : Bool := match o with
  | some (.long _) => false
  | some (.double _) => false
  | _ => true
theorem zn_ok {o : Option Value} {w : Value} (h : zn o = true) (e : o = some w) : w.category ≠ 2 := by
  subst e
  cases w <;> simp_all [zn, Value.category]
section ZP
variable {l : Launch} {M : zM} {d mc ms : Nat} {P : Option Value → zH → Prop} {pc pc' : Nat} {L : List (Option Value)} {S : List Value} {h : zH} {kc ks : Nat}
theorem z_pure {S' : List Value} (step : ∀ {p : Program} {e : Env} {R : Room} {s : State} {m : MethodId} {args : Array Value} {below : List Frame} {meth : Method} {c : Code} {H : Heap} {locs : List Loc} {cells slots : Nat} {Q : State → Prop} {ls : Array Slot}, p.tables.exec = Jvm.exec → c.code = M.2.1 → W p l e R s m args below meth c H locs cells slots Q (F0 m pc' ls S') → W p l e R s m args below meth c H locs cells slots Q (F0 m pc ls S))
    (k : Z l M d mc ms P pc' L S' h kc ks) : Z l M d mc ms P pc L S h kc ks := by
  intro G p e s m args below meth c A H locs cells slots ls hCx hcc hss hl hR
  exact step hCx.1 hCx.2.1 (k G p e s m args below meth c A H locs cells slots ls hCx hcc hss hl hR)
theorem z_br {c1 : Prop} {pt pf : Nat} {St Sf : List Value} (step : ∀ {p : Program} {e : Env} {R : Room} {s : State} {m : MethodId} {args : Array Value} {below : List Frame} {meth : Method} {c : Code} {H : Heap} {locs : List Loc} {cells slots : Nat} {Q : State → Prop} {ls : Array Slot}, p.tables.exec = Jvm.exec → c.code = M.2.1 → (c1 → W p l e R s m args below meth c H locs cells slots Q (F0 m pt ls St)) → (¬ c1 → W p l e R s m args below meth c H locs cells slots Q (F0 m pf ls Sf)) → W p l e R s m args below meth c H locs cells slots Q (F0 m pc ls S))
    (kt : c1 → Z l M d mc ms P pt L St h kc ks) (kf : ¬ c1 → Z l M d mc ms P pf L Sf h kc ks) : Z l M d mc ms P pc L S h kc ks := by
  intro G p e s m args below meth c A H locs cells slots ls hCx hcc hss hl hR
  exact step hCx.1 hCx.2.1 (fun q => kt q G p e s m args below meth c A H locs cells slots ls hCx hcc hss hl hR) (fun q => kf q G p e s m args below meth c A H locs cells slots ls hCx hcc hss hl hR)
/-- fewer known locals -/
theorem z_weak {L' : List (Option Value)} (hw : ∀ (i : Nat) (v : Value), L'[i]? = some (some v) → L[i]? = some (some v)) (k : Z l M d mc ms P pc L' S h kc ks) : Z l M d mc ms P pc L S h kc ks := by
  intro G p e s m args below meth c A H locs cells slots ls hCx hcc hss hl hR
  refine k G p e s m args below meth c A H locs cells slots ls hCx hcc hss ⟨hl.1, hl.2.1, fun q hq => ?_⟩ hR
  obtain ⟨k, hk, hv⟩ := (zp_mem L' 0).mp (show (q.1, q.2) ∈ zp 0 L' from hq)
  exact hl.2.2 q ((zp_mem L 0).mpr ⟨k, hk, hw k _ hv⟩)
theorem z_ls {ls : Array Slot} {n i : Nat} {v : Value} (hl : lv_has ls n (zp 0 L)) (hi : L[i]? = some (some v)) : ls[i]? = some (.val v) := hl.2.2 (i, v) ((zp_mem L 0).mpr ⟨i, by omega, hi⟩)
theorem z_has1 {ls' : Array Slot} {n i : Nat} {v : Value} {L' : List (Option Value)} (hn : ∀ (j : Nat) (w : Value), L'[j]? = some (some w) → (j = i ∧ w = v) ∨ (L[j]? = some (some w) ∧ j ≠ i ∧ ¬ (j + 1 = i ∧ w.category = 2))) (h' : lv_has ls' n ((i, v) :: (zp 0 L).filter (fun q => !(q.1 == i) && !(q.1 + 1 == i && q.2.category == 2)))) : lv_has ls' n (zp 0 L') := by
  refine ⟨h'.1, h'.2.1, fun q hq => ?_⟩
  obtain ⟨k, hk, hv⟩ := (zp_mem L' 0).mp (show (q.1, q.2) ∈ zp 0 L' from hq)
  rcases hn k q.2 hv with ⟨h1, h2⟩ | ⟨h1, h2, h3⟩
  · refine h'.2.2 q (List.mem_cons.mpr (Or.inl ?_))
    exact Prod.ext (by simp only; omega) h2
  · refine h'.2.2 q (List.mem_cons.mpr (Or.inr (List.mem_filter.mpr ⟨(zp_mem L 0).mpr ⟨k, hk, h1⟩, ?_⟩)))
    have e1 : q.1 = k := by omega
    rw [e1]
    simp only [Bool.and_eq_true, Bool.not_eq_true', beq_eq_false_iff_ne, Bool.and_eq_false_iff]
    refine ⟨h2, ?_⟩
    by_cases e2 : k + 1 = i
    · exact Or.inr (fun e3 => h3 ⟨e2, e3⟩)
    · exact Or.inl e2
theorem z_has2 {ls' : Array Slot} {n i : Nat} {v : Value} {L' : List (Option Value)} (hn : ∀ (j : Nat) (w : Value), L'[j]? = some (some w) → (j = i ∧ w = v) ∨ (L[j]? = some (some w) ∧ j ≠ i ∧ j ≠ i + 1 ∧ ¬ (j + 1 = i ∧ w.category = 2))) (h' : lv_has ls' n ((i, v) :: (zp 0 L).filter (fun q => !(q.1 == i) && (!(q.1 == i + 1) && !(q.1 + 1 == i && q.2.category == 2))))) : lv_has ls' n (zp 0 L') := by
  refine ⟨h'.1, h'.2.1, fun q hq => ?_⟩
  obtain ⟨k, hk, hv⟩ := (zp_mem L' 0).mp (show (q.1, q.2) ∈ zp 0 L' from hq)
  rcases hn k q.2 hv with ⟨h1, h2⟩ | ⟨h1, h2, h4, h3⟩
  · refine h'.2.2 q (List.mem_cons.mpr (Or.inl ?_))
    exact Prod.ext (by simp only; omega) h2
  · refine h'.2.2 q (List.mem_cons.mpr (Or.inr (List.mem_filter.mpr ⟨(zp_mem L 0).mpr ⟨k, hk, h1⟩, ?_⟩)))
    have e1 : q.1 = k := by omega
    rw [e1]
    simp only [Bool.and_eq_true, Bool.not_eq_true', beq_eq_false_iff_ne, Bool.and_eq_false_iff]
    refine ⟨h2, h4, ?_⟩
    by_cases e2 : k + 1 = i
    · exact Or.inr (fun e3 => h3 ⟨e2, e3⟩)
    · exact Or.inl e2

theorem z_iconst {n : Int} (hd : zAt M 1 pc pc' (.iconst n)) (k : Z l M d mc ms P pc' L (vI n :: S) h kc ks) : Z l M d mc ms P pc L (S) h kc ks := by
  obtain ⟨hd, rfl⟩ := hd
  refine z_pure (fun hx hb w => ?_) k
  exact lv_iconst hx hb hd rfl w
theorem z_bipush {n : Int} (hn : (Int8.ofInt n).toInt32 = Int32.ofInt n) (hd : zAt M 2 pc pc' (.bipush n)) (k : Z l M d mc ms P pc' L (vI n :: S) h kc ks) : Z l M d mc ms P pc L (S) h kc ks := by
  obtain ⟨hd, rfl⟩ := hd
  refine z_pure (fun hx hb w => ?_) k
  exact lv_bipush hx hb hd hn w
theorem z_sipush {n : Int} (hn : (Int16.ofInt n).toInt32 = Int32.ofInt n) (hd : zAt M 3 pc pc' (.sipush n)) (k : Z l M d mc ms P pc' L (vI n :: S) h kc ks) : Z l M d mc ms P pc L (S) h kc ks := by
  obtain ⟨hd, rfl⟩ := hd
  refine z_pure (fun hx hb w => ?_) k
  exact lv_sipush hx hb hd hn w
theorem z_lconst {n : Fin 2} {v : Int} (hn : Int64.ofNat (n : Nat) = Int64.ofInt v) (hd : zAt M 1 pc pc' (.lconst n)) (k : Z l M d mc ms P pc' L (vL v :: S) h kc ks) : Z l M d mc ms P pc L (S) h kc ks := by
  obtain ⟨hd, rfl⟩ := hd
  refine z_pure (fun hx hb w => ?_) k
  exact lv_lconst hx hb hd hn w
theorem z_ldc {idx : Nat} {v : Int} {x : Int32} (hd : zAt M 2 pc pc' (.ldc idx)) (hc : Cond.constant M.1.cls idx x ∈ zTbl) (hx : x = Int32.ofInt v) (k : Z l M d mc ms P pc' L (vI v :: S) h kc ks) : Z l M d mc ms P pc L S h kc ks := by
  obtain ⟨hd, rfl⟩ := hd
  subst hx
  intro G p e s m args below meth c A H locs cells slots ls hCx hcc hss hl hR
  exact lv_ldc hCx.1 hCx.2.1 hCx.2.2.2.2.1 (zW_warm hCx.2.2.2.2.2.1.1 (State.WarmedH.refl s) _ hc) hd (k G p e s m args below meth c A H locs cells slots ls hCx hcc hss hl hR)
theorem z_ldcw {idx : Nat} {v : Int} {x : Int32} (hd : zAt M 3 pc pc' (.ldc_w idx)) (hc : Cond.constant M.1.cls idx x ∈ zTbl) (hx : x = Int32.ofInt v) (k : Z l M d mc ms P pc' L (vI v :: S) h kc ks) : Z l M d mc ms P pc L S h kc ks := by
  obtain ⟨hd, rfl⟩ := hd
  subst hx
  intro G p e s m args below meth c A H locs cells slots ls hCx hcc hss hl hR
  exact lv_ldcw hCx.1 hCx.2.1 hCx.2.2.2.2.1 (zW_warm hCx.2.2.2.2.2.1.1 (State.WarmedH.refl s) _ hc) hd (k G p e s m args below meth c A H locs cells slots ls hCx hcc hss hl hR)
theorem z_ldc2 {idx : Nat} {v : Int} {x : Int64} (hd : zAt M 3 pc pc' (.ldc2_w idx)) (hc : Cond.constantLong M.1.cls idx x ∈ zTbl) (hx : x = Int64.ofInt v) (k : Z l M d mc ms P pc' L (vL v :: S) h kc ks) : Z l M d mc ms P pc L S h kc ks := by
  obtain ⟨hd, rfl⟩ := hd
  subst hx
  intro G p e s m args below meth c A H locs cells slots ls hCx hcc hss hl hR
  exact lv_ldc2 hCx.1 hCx.2.1 hCx.2.2.2.2.1 (zW_warm hCx.2.2.2.2.2.1.1 (State.WarmedH.refl s) _ hc) hd (k G p e s m args below meth c A H locs cells slots ls hCx hcc hss hl hR)
theorem z_iadd {x y : Int} (hd : zAt M 1 pc pc' (.iadd)) (k : Z l M d mc ms P pc' L (vI (x + y) :: S) h kc ks) : Z l M d mc ms P pc L (vI y :: vI x :: S) h kc ks := by
  obtain ⟨hd, rfl⟩ := hd
  refine z_pure (fun hx hb w => ?_) k
  rw [show vI (x + y) = .int (Int32.ofInt x + Int32.ofInt y) from by rw [vI, Int32.ofInt_add]] at w
  exact lv_iadd hx hb hd w
theorem z_isub {x y : Int} (hd : zAt M 1 pc pc' (.isub)) (k : Z l M d mc ms P pc' L (vI (x - y) :: S) h kc ks) : Z l M d mc ms P pc L (vI y :: vI x :: S) h kc ks := by
  obtain ⟨hd, rfl⟩ := hd
  refine z_pure (fun hx hb w => ?_) k
  rw [show vI (x - y) = .int (Int32.ofInt x - Int32.ofInt y) from by rw [vI, Int32.ofInt_sub]] at w
  exact lv_isub hx hb hd w
theorem z_imul {x y : Int} (hd : zAt M 1 pc pc' (.imul)) (k : Z l M d mc ms P pc' L (vI (x * y) :: S) h kc ks) : Z l M d mc ms P pc L (vI y :: vI x :: S) h kc ks := by
  obtain ⟨hd, rfl⟩ := hd
  refine z_pure (fun hx hb w => ?_) k
  rw [show vI (x * y) = .int (Int32.ofInt x * Int32.ofInt y) from by rw [vI, Int32.ofInt_mul]] at w
  exact lv_imul hx hb hd w
theorem z_ladd {x y : Int} (hd : zAt M 1 pc pc' (.ladd)) (k : Z l M d mc ms P pc' L (vL (x + y) :: S) h kc ks) : Z l M d mc ms P pc L (vL y :: vL x :: S) h kc ks := by
  obtain ⟨hd, rfl⟩ := hd
  refine z_pure (fun hx hb w => ?_) k
  rw [show vL (x + y) = .long (Int64.ofInt x + Int64.ofInt y) from by rw [vL, Int64.ofInt_add]] at w
  exact lv_ladd hx hb hd w
theorem z_lsub {x y : Int} (hd : zAt M 1 pc pc' (.lsub)) (k : Z l M d mc ms P pc' L (vL (x - y) :: S) h kc ks) : Z l M d mc ms P pc L (vL y :: vL x :: S) h kc ks := by
  obtain ⟨hd, rfl⟩ := hd
  refine z_pure (fun hx hb w => ?_) k
  rw [show vL (x - y) = .long (Int64.ofInt x - Int64.ofInt y) from by rw [vL, Int64.ofInt_sub]] at w
  exact lv_lsub hx hb hd w
theorem z_lmul {x y : Int} (hd : zAt M 1 pc pc' (.lmul)) (k : Z l M d mc ms P pc' L (vL (x * y) :: S) h kc ks) : Z l M d mc ms P pc L (vL y :: vL x :: S) h kc ks := by
  obtain ⟨hd, rfl⟩ := hd
  refine z_pure (fun hx hb w => ?_) k
  rw [show vL (x * y) = .long (Int64.ofInt x * Int64.ofInt y) from by rw [vL, Int64.ofInt_mul]] at w
  exact lv_lmul hx hb hd w
theorem z_ineg {x : Int} (hd : zAt M 1 pc pc' (.ineg)) (k : Z l M d mc ms P pc' L (vI (-x) :: S) h kc ks) : Z l M d mc ms P pc L (vI x :: S) h kc ks := by
  obtain ⟨hd, rfl⟩ := hd
  refine z_pure (fun hx hb w => ?_) k
  rw [show vI (-x) = .int (-Int32.ofInt x) from by rw [vI, Int32.neg_ofInt]] at w
  exact lv_ineg hx hb hd w
theorem z_iand {x y : Int} (hd : zAt M 1 pc pc' (.iand)) (k : Z l M d mc ms P pc' L (vI (zand x y) :: S) h kc ks) : Z l M d mc ms P pc L (vI y :: vI x :: S) h kc ks := by
  obtain ⟨hd, rfl⟩ := hd
  refine z_pure (fun hx hb w => ?_) k
  unfold vI zand at w
  rw [Int32.ofInt_toInt] at w
  exact lv_iand hx hb hd w
theorem z_ior {x y : Int} (hd : zAt M 1 pc pc' (.ior)) (k : Z l M d mc ms P pc' L (vI (zor x y) :: S) h kc ks) : Z l M d mc ms P pc L (vI y :: vI x :: S) h kc ks := by
  obtain ⟨hd, rfl⟩ := hd
  refine z_pure (fun hx hb w => ?_) k
  unfold vI zor at w
  rw [Int32.ofInt_toInt] at w
  exact lv_ior hx hb hd w
theorem z_ixor {x y : Int} (hd : zAt M 1 pc pc' (.ixor)) (k : Z l M d mc ms P pc' L (vI (zxor x y) :: S) h kc ks) : Z l M d mc ms P pc L (vI y :: vI x :: S) h kc ks := by
  obtain ⟨hd, rfl⟩ := hd
  refine z_pure (fun hx hb w => ?_) k
  unfold vI zxor at w
  rw [Int32.ofInt_toInt] at w
  exact lv_ixor hx hb hd w
theorem z_ishl {x y : Int} (hd : zAt M 1 pc pc' (.ishl)) (k : Z l M d mc ms P pc' L (vI (zshl x y) :: S) h kc ks) : Z l M d mc ms P pc L (vI y :: vI x :: S) h kc ks := by
  obtain ⟨hd, rfl⟩ := hd
  refine z_pure (fun hx hb w => ?_) k
  unfold vI zshl at w
  rw [Int32.ofInt_toInt] at w
  exact lv_ishl hx hb hd w
theorem z_ishr {x y : Int} (hd : zAt M 1 pc pc' (.ishr)) (k : Z l M d mc ms P pc' L (vI (zshr x y) :: S) h kc ks) : Z l M d mc ms P pc L (vI y :: vI x :: S) h kc ks := by
  obtain ⟨hd, rfl⟩ := hd
  refine z_pure (fun hx hb w => ?_) k
  unfold vI zshr at w
  rw [Int32.ofInt_toInt] at w
  exact lv_ishr hx hb hd w
theorem z_idiv {x y : Int} (hy : zIn y) (h0 : y ≠ 0) (hd : zAt M 1 pc pc' (.idiv)) (k : Z l M d mc ms P pc' L (vI (zdiv x y) :: S) h kc ks) : Z l M d mc ms P pc L (vI y :: vI x :: S) h kc ks := by
  obtain ⟨hd, rfl⟩ := hd
  refine z_pure (fun hx hb w => ?_) k
  unfold vI zdiv at w
  rw [Int32.ofInt_toInt] at w
  exact lv_idiv hx hb hd (fun q => h0 ((zI_eq0 hy).mp q)) w
theorem z_irem {x y : Int} (hy : zIn y) (h0 : y ≠ 0) (hd : zAt M 1 pc pc' (.irem)) (k : Z l M d mc ms P pc' L (vI (zrem x y) :: S) h kc ks) : Z l M d mc ms P pc L (vI y :: vI x :: S) h kc ks := by
  obtain ⟨hd, rfl⟩ := hd
  refine z_pure (fun hx hb w => ?_) k
  unfold vI zrem at w
  rw [Int32.ofInt_toInt] at w
  exact lv_irem hx hb hd (fun q => h0 ((zI_eq0 hy).mp q)) w
theorem z_ldiv {x y : Int} (hy : zInL y) (h0 : y ≠ 0) (hd : zAt M 1 pc pc' (.ldiv)) (k : Z l M d mc ms P pc' L (vL (zldiv x y) :: S) h kc ks) : Z l M d mc ms P pc L (vL y :: vL x :: S) h kc ks := by
  obtain ⟨hd, rfl⟩ := hd
  refine z_pure (fun hx hb w => ?_) k
  unfold vL zldiv at w
  rw [Int64.ofInt_toInt] at w
  exact lv_ldiv hx hb hd (fun q => h0 (by have q2 := congrArg Int64.toInt q; rw [zL_toInt hy] at q2; exact q2)) w
theorem z_lrem {x y : Int} (hy : zInL y) (h0 : y ≠ 0) (hd : zAt M 1 pc pc' (.lrem)) (k : Z l M d mc ms P pc' L (vL (zlrem x y) :: S) h kc ks) : Z l M d mc ms P pc L (vL y :: vL x :: S) h kc ks := by
  obtain ⟨hd, rfl⟩ := hd
  refine z_pure (fun hx hb w => ?_) k
  unfold vL zlrem at w
  rw [Int64.ofInt_toInt] at w
  exact lv_lrem hx hb hd (fun q => h0 (by have q2 := congrArg Int64.toInt q; rw [zL_toInt hy] at q2; exact q2)) w
theorem z_i2l {x : Int} (hx0 : zIn x) (hd : zAt M 1 pc pc' (.i2l)) (k : Z l M d mc ms P pc' L (vL x :: S) h kc ks) : Z l M d mc ms P pc L (vI x :: S) h kc ks := by
  obtain ⟨hd, rfl⟩ := hd
  refine z_pure (fun hx hb w => ?_) k
  exact lv_i2l hx hb hd (Int64.toInt.inj (by rw [Int32.toInt_toInt64, zI_toInt hx0, zL_toInt (by omega)])) w
theorem z_l2i {x : Int} (hd : zAt M 1 pc pc' (.l2i)) (k : Z l M d mc ms P pc' L (vI (zl2i x) :: S) h kc ks) : Z l M d mc ms P pc L (vL x :: S) h kc ks := by
  obtain ⟨hd, rfl⟩ := hd
  refine z_pure (fun hx hb w => ?_) k
  unfold vI zl2i at w
  rw [Int32.ofInt_toInt] at w
  exact lv_l2i hx hb hd rfl w
theorem z_i2b {x : Int} (hd : zAt M 1 pc pc' (.i2b)) (k : Z l M d mc ms P pc' L (vI (zi2b x) :: S) h kc ks) : Z l M d mc ms P pc L (vI x :: S) h kc ks := by
  obtain ⟨hd, rfl⟩ := hd
  refine z_pure (fun hx hb w => ?_) k
  unfold vI zi2b at w
  rw [Int32.ofInt_toInt] at w
  exact lv_i2b hx hb hd rfl w
theorem z_lg {x y : Int} (hx : zInL x) (hy : zInL y) : Int32.ofInt (zlcmp x y) = lg_cmp (Int64.ofInt x) (Int64.ofInt y) := by
  have h1 : Int64.ofInt x < Int64.ofInt y ↔ x < y := by rw [Int64.lt_iff_toInt_lt, zL_toInt hx, zL_toInt hy]
  have h2 : Int64.ofInt x = Int64.ofInt y ↔ x = y := by rw [← Int64.toInt_inj, zL_toInt hx, zL_toInt hy]
  have h3 : Int64.ofInt y < Int64.ofInt x ↔ y < x := by rw [Int64.lt_iff_toInt_lt, zL_toInt hx, zL_toInt hy]
  unfold zlcmp lg_cmp
  rcases Int.lt_trichotomy x y with a | a | a
  · have b : ¬ Int64.ofInt y < Int64.ofInt x := fun q => by have := h3.mp q; omega
    have c : ¬ Int64.ofInt x = Int64.ofInt y := fun q => by have := h2.mp q; omega
    rw [if_pos a, if_neg b, if_neg c]; rfl
  · subst a
    simp
  · have b : Int64.ofInt y < Int64.ofInt x := h3.mpr a
    rw [if_neg (by omega), if_neg (by omega), if_pos b]; rfl
theorem z_lcmp {x y : Int} (hx0 : zInL x) (hy0 : zInL y) (hd : zAt M 1 pc pc' (.lcmp)) (k : Z l M d mc ms P pc' L (vI (zlcmp x y) :: S) h kc ks) : Z l M d mc ms P pc L (vL y :: vL x :: S) h kc ks := by
  obtain ⟨hd, rfl⟩ := hd
  refine z_pure (fun hx hb w => ?_) k
  rw [show vI (zlcmp x y) = .int (lg_cmp (Int64.ofInt x) (Int64.ofInt y)) from by rw [vI, z_lg hx0 hy0]] at w
  exact W.lcmp hx hb hd w
theorem z_dup {v : Value} (hv : v.category = 1) (hd : zAt M 1 pc pc' (.dup)) (k : Z l M d mc ms P pc' L (v :: v :: S) h kc ks) : Z l M d mc ms P pc L (v :: S) h kc ks := by
  obtain ⟨hd, rfl⟩ := hd
  refine z_pure (fun hx hb w => ?_) k
  exact lv_dup hx hb hd hv w
theorem z_pop {v : Value} (hv : v.category = 1) (hd : zAt M 1 pc pc' (.pop)) (k : Z l M d mc ms P pc' L (S) h kc ks) : Z l M d mc ms P pc L (v :: S) h kc ks := by
  obtain ⟨hd, rfl⟩ := hd
  refine z_pure (fun hx hb w => ?_) k
  exact lv_pop hx hb hd hv w
theorem z_dup2 {v w1 : Value} (hv : v.category = 1) (hw : w1.category = 1) (hd : zAt M 1 pc pc' (.dup2)) (k : Z l M d mc ms P pc' L (v :: w1 :: v :: w1 :: S) h kc ks) : Z l M d mc ms P pc L (v :: w1 :: S) h kc ks := by
  obtain ⟨hd, rfl⟩ := hd
  refine z_pure (fun hx hb w => ?_) k
  exact lv_dup2_11 hx hb hd hv hw w
theorem z_dup2L {x : Int} (hd : zAt M 1 pc pc' (.dup2)) (k : Z l M d mc ms P pc' L (vL x :: vL x :: S) h kc ks) : Z l M d mc ms P pc L (vL x :: S) h kc ks := by
  obtain ⟨hd, rfl⟩ := hd
  refine z_pure (fun hx hb w => ?_) k
  exact lv_dup2_2 hx hb hd rfl w
theorem z_null  (hd : zAt M 1 pc pc' (.aconst_null)) (k : Z l M d mc ms P pc' L (.null :: S) h kc ks) : Z l M d mc ms P pc L (S) h kc ks := by
  obtain ⟨hd, rfl⟩ := hd
  refine z_pure (fun hx hb w => ?_) k
  exact lv_null hx hb hd w
theorem z_goto {off : Int} {tgt : Nat} (hd : zAt M 3 pc pc' (.goto off)) (ht : (pc : Int) + off = (tgt : Int)) (k : Z l M d mc ms P tgt L S h kc ks) : Z l M d mc ms P pc L S h kc ks := z_pure (fun hx hb w => lv_goto hx hb hd.1 ht w) k
theorem z_icmp_eq {x y : Int} {off : Int} {tgt : Nat} (hd : zAt M 3 pc pc' (.if_icmp .eq off)) (ht : (pc : Int) + off = (tgt : Int)) (hx0 : zIn x) (hy0 : zIn y) (kt : x = y → Z l M d mc ms P tgt L S h kc ks) (kf : x ≠ y → Z l M d mc ms P pc' L S h kc ks) : Z l M d mc ms P pc L (vI y :: vI x :: S) h kc ks := by
  obtain ⟨hd, rfl⟩ := hd
  exact z_br (fun hx hb wt wf => lv_icmp_eq hx hb hd ht wt wf) (fun q => kt ((zI_eq hx0 hy0).mp q)) (fun q => kf (fun e => q ((zI_eq hx0 hy0).mpr e)))
theorem z_icmp_ne {x y : Int} {off : Int} {tgt : Nat} (hd : zAt M 3 pc pc' (.if_icmp .ne off)) (ht : (pc : Int) + off = (tgt : Int)) (hx0 : zIn x) (hy0 : zIn y) (kt : x ≠ y → Z l M d mc ms P tgt L S h kc ks) (kf : x = y → Z l M d mc ms P pc' L S h kc ks) : Z l M d mc ms P pc L (vI y :: vI x :: S) h kc ks := by
  obtain ⟨hd, rfl⟩ := hd
  exact z_br (fun hx hb wt wf => lv_icmp_ne hx hb hd ht wf wt) (fun q => kf ((zI_eq hx0 hy0).mp q)) (fun q => kt (fun e => q ((zI_eq hx0 hy0).mpr e)))
theorem z_icmp_lt {x y : Int} {off : Int} {tgt : Nat} (hd : zAt M 3 pc pc' (.if_icmp .lt off)) (ht : (pc : Int) + off = (tgt : Int)) (hx0 : zIn x) (hy0 : zIn y) (kt : x < y → Z l M d mc ms P tgt L S h kc ks) (kf : y ≤ x → Z l M d mc ms P pc' L S h kc ks) : Z l M d mc ms P pc L (vI y :: vI x :: S) h kc ks := by
  obtain ⟨hd, rfl⟩ := hd
  exact z_br (fun hx hb wt wf => lv_icmp_lt hx hb hd ht wt wf) (fun q => kt ((zI_lt hx0 hy0).mp q)) (fun q => kf (Int.not_lt.mp (fun e => q ((zI_lt hx0 hy0).mpr e))))
theorem z_icmp_ge {x y : Int} {off : Int} {tgt : Nat} (hd : zAt M 3 pc pc' (.if_icmp .ge off)) (ht : (pc : Int) + off = (tgt : Int)) (hx0 : zIn x) (hy0 : zIn y) (kt : y ≤ x → Z l M d mc ms P tgt L S h kc ks) (kf : x < y → Z l M d mc ms P pc' L S h kc ks) : Z l M d mc ms P pc L (vI y :: vI x :: S) h kc ks := by
  obtain ⟨hd, rfl⟩ := hd
  exact z_br (fun hx hb wt wf => lv_icmp_ge hx hb hd ht wt wf) (fun q => kt ((zI_le hy0 hx0).mp q)) (fun q => kf (Int.not_le.mp (fun e => q ((zI_le hy0 hx0).mpr e))))
theorem z_icmp_gt {x y : Int} {off : Int} {tgt : Nat} (hd : zAt M 3 pc pc' (.if_icmp .gt off)) (ht : (pc : Int) + off = (tgt : Int)) (hx0 : zIn x) (hy0 : zIn y) (kt : y < x → Z l M d mc ms P tgt L S h kc ks) (kf : x ≤ y → Z l M d mc ms P pc' L S h kc ks) : Z l M d mc ms P pc L (vI y :: vI x :: S) h kc ks := by
  obtain ⟨hd, rfl⟩ := hd
  exact z_br (fun hx hb wt wf => lv_icmp_gt hx hb hd ht wt wf) (fun q => kt ((zI_lt hy0 hx0).mp q)) (fun q => kf (Int.not_lt.mp (fun e => q ((zI_lt hy0 hx0).mpr e))))
theorem z_icmp_le {x y : Int} {off : Int} {tgt : Nat} (hd : zAt M 3 pc pc' (.if_icmp .le off)) (ht : (pc : Int) + off = (tgt : Int)) (hx0 : zIn x) (hy0 : zIn y) (kt : x ≤ y → Z l M d mc ms P tgt L S h kc ks) (kf : y < x → Z l M d mc ms P pc' L S h kc ks) : Z l M d mc ms P pc L (vI y :: vI x :: S) h kc ks := by
  obtain ⟨hd, rfl⟩ := hd
  exact z_br (fun hx hb wt wf => lv_icmp_le hx hb hd ht wt wf) (fun q => kt ((zI_le hx0 hy0).mp q)) (fun q => kf (Int.not_le.mp (fun e => q ((zI_le hx0 hy0).mpr e))))
theorem z_if_eq {x : Int} {off : Int} {tgt : Nat} (hd : zAt M 3 pc pc' (.ifCond .eq off)) (ht : (pc : Int) + off = (tgt : Int)) (hx0 : zIn x) (kt : x = 0 → Z l M d mc ms P tgt L S h kc ks) (kf : x ≠ 0 → Z l M d mc ms P pc' L S h kc ks) : Z l M d mc ms P pc L (vI x :: S) h kc ks := by
  obtain ⟨hd, rfl⟩ := hd
  exact z_br (fun hx hb wt wf => lv_if_eq hx hb hd ht wt wf) (fun q => kt ((zI_eq0 hx0).mp q)) (fun q => kf (fun e => q ((zI_eq0 hx0).mpr e)))
theorem z_if_ne {x : Int} {off : Int} {tgt : Nat} (hd : zAt M 3 pc pc' (.ifCond .ne off)) (ht : (pc : Int) + off = (tgt : Int)) (hx0 : zIn x) (kt : x ≠ 0 → Z l M d mc ms P tgt L S h kc ks) (kf : x = 0 → Z l M d mc ms P pc' L S h kc ks) : Z l M d mc ms P pc L (vI x :: S) h kc ks := by
  obtain ⟨hd, rfl⟩ := hd
  exact z_br (fun hx hb wt wf => lv_if_ne hx hb hd ht wf wt) (fun q => kf ((zI_eq0 hx0).mp q)) (fun q => kt (fun e => q ((zI_eq0 hx0).mpr e)))
theorem z_if_lt {x : Int} {off : Int} {tgt : Nat} (hd : zAt M 3 pc pc' (.ifCond .lt off)) (ht : (pc : Int) + off = (tgt : Int)) (hx0 : zIn x) (kt : x < 0 → Z l M d mc ms P tgt L S h kc ks) (kf : 0 ≤ x → Z l M d mc ms P pc' L S h kc ks) : Z l M d mc ms P pc L (vI x :: S) h kc ks := by
  obtain ⟨hd, rfl⟩ := hd
  exact z_br (fun hx hb wt wf => lv_if_lt hx hb hd ht wt wf) (fun q => kt ((zI_lt0 hx0).mp q)) (fun q => kf (Int.not_lt.mp (fun e => q ((zI_lt0 hx0).mpr e))))
theorem z_if_ge {x : Int} {off : Int} {tgt : Nat} (hd : zAt M 3 pc pc' (.ifCond .ge off)) (ht : (pc : Int) + off = (tgt : Int)) (hx0 : zIn x) (kt : 0 ≤ x → Z l M d mc ms P tgt L S h kc ks) (kf : x < 0 → Z l M d mc ms P pc' L S h kc ks) : Z l M d mc ms P pc L (vI x :: S) h kc ks := by
  obtain ⟨hd, rfl⟩ := hd
  exact z_br (fun hx hb wt wf => lv_if_ge hx hb hd ht wt wf) (fun q => kt ((zI_0le hx0).mp q)) (fun q => kf (Int.not_le.mp (fun e => q ((zI_0le hx0).mpr e))))
theorem z_if_gt {x : Int} {off : Int} {tgt : Nat} (hd : zAt M 3 pc pc' (.ifCond .gt off)) (ht : (pc : Int) + off = (tgt : Int)) (hx0 : zIn x) (kt : 0 < x → Z l M d mc ms P tgt L S h kc ks) (kf : x ≤ 0 → Z l M d mc ms P pc' L S h kc ks) : Z l M d mc ms P pc L (vI x :: S) h kc ks := by
  obtain ⟨hd, rfl⟩ := hd
  exact z_br (fun hx hb wt wf => lv_if_gt hx hb hd ht wt wf) (fun q => kt ((zI_0lt hx0).mp q)) (fun q => kf (Int.not_lt.mp (fun e => q ((zI_0lt hx0).mpr e))))
theorem z_if_le {x : Int} {off : Int} {tgt : Nat} (hd : zAt M 3 pc pc' (.ifCond .le off)) (ht : (pc : Int) + off = (tgt : Int)) (hx0 : zIn x) (kt : x ≤ 0 → Z l M d mc ms P tgt L S h kc ks) (kf : 0 < x → Z l M d mc ms P pc' L S h kc ks) : Z l M d mc ms P pc L (vI x :: S) h kc ks := by
  obtain ⟨hd, rfl⟩ := hd
  exact z_br (fun hx hb wt wf => lv_if_le hx hb hd ht wt wf) (fun q => kt ((zI_le0 hx0).mp q)) (fun q => kf (Int.not_le.mp (fun e => q ((zI_le0 hx0).mpr e))))
theorem z_ifnn {a : Nat} {off : Int} {tgt : Nat} (hd : zAt M 3 pc pc' (.ifnonnull off)) (ht : (pc : Int) + off = (tgt : Int)) (k : Z l M d mc ms P tgt L S h kc ks) : Z l M d mc ms P pc L (.ref a :: S) h kc ks := z_pure (fun hx hb w => lv_ifnonnull hx hb hd.1 ht w) k
theorem z_ifnnN {off : Int} (hd : zAt M 3 pc pc' (.ifnonnull off)) (k : Z l M d mc ms P pc' L S h kc ks) : Z l M d mc ms P pc L (.null :: S) h kc ks := by
  obtain ⟨hd, rfl⟩ := hd
  exact z_pure (fun hx hb w => lv_ifnonnullN hx hb hd w) k
theorem z_swIn {x : Int} {dflt lo hi off : Int} {offs : Array Int} {n tgt : Nat} (hd : zAt M n pc pc' (.tableswitch dflt lo hi offs)) (hx0 : zIn x) (h1 : lo ≤ x) (h2 : x ≤ hi) (ho : offs[(x - lo).toNat]? = some off) (ht : (pc : Int) + off = (tgt : Int)) (k : Z l M d mc ms P tgt L S h kc ks) : Z l M d mc ms P pc L (vI x :: S) h kc ks :=
  z_pure (fun hx hb w => lv_tableIn hx hb hd.1 (by rw [zI_toInt hx0]; omega) (by rw [zI_toInt hx0]; omega) (by rw [zI_toInt hx0]; exact ho) ht w) k
theorem z_swOut {x : Int} {dflt lo hi : Int} {offs : Array Int} {n tgt : Nat} (hd : zAt M n pc pc' (.tableswitch dflt lo hi offs)) (hx0 : zIn x) (h1 : x < lo ∨ hi < x) (ht : (pc : Int) + dflt = (tgt : Int)) (k : Z l M d mc ms P tgt L S h kc ks) : Z l M d mc ms P pc L (vI x :: S) h kc ks :=
  z_pure (fun hx hb w => lv_tableOut hx hb hd.1 (by rw [zI_toInt hx0]; exact h1) ht w) k
theorem z_lksw {x : Int} {dflt off : Int} {ps : Array (Int × Int)} {n tgt : Nat} (hd : zAt M n pc pc' (.lookupswitch dflt ps)) (hx0 : zIn x) (hp : (ps.toList.zip (ps.toList.drop 1)).all (fun (a, next) => a.1 < next.1) = true) (ho : Op.lookupswitch.offset ps.toList dflt x = off) (ht : (pc : Int) + off = (tgt : Int)) (k : Z l M d mc ms P tgt L S h kc ks) : Z l M d mc ms P pc L (vI x :: S) h kc ks :=
  z_pure (fun hx hb w => lv_lookup hx hb hd.1 hp (by rw [zI_toInt hx0]; exact ho) ht w) k
theorem z_ild_0 {x : Int} (hd : zAt M 1 pc pc' (.iload_n 0)) (k : Z l M d mc ms P pc' (some (vI x) :: L) (vI x :: S) h kc ks) : Z l M d mc ms P pc (some (vI x) :: L) S h kc ks := by
  obtain ⟨hd, rfl⟩ := hd
  intro G p e s m args below meth c A H locs cells slots ls hCx hcc hss hl hR
  exact lv_iload_n hCx.1 hCx.2.1 hd rfl (z_ls (i := 0) hl rfl) (k G p e s m args below meth c A H locs cells slots ls hCx hcc hss hl hR)
theorem z_lld_0 {x : Int} (hd : zAt M 1 pc pc' (.lload_n 0)) (k : Z l M d mc ms P pc' (some (vL x) :: L) (vL x :: S) h kc ks) : Z l M d mc ms P pc (some (vL x) :: L) S h kc ks := by
  obtain ⟨hd, rfl⟩ := hd
  intro G p e s m args below meth c A H locs cells slots ls hCx hcc hss hl hR
  exact lv_lload_n hCx.1 hCx.2.1 hd rfl (z_ls (i := 0) hl rfl) (k G p e s m args below meth c A H locs cells slots ls hCx hcc hss hl hR)
theorem z_ald_0 {x : Nat} (hd : zAt M 1 pc pc' (.aload_n 0)) (k : Z l M d mc ms P pc' (some (.ref x) :: L) (.ref x :: S) h kc ks) : Z l M d mc ms P pc (some (.ref x) :: L) S h kc ks := by
  obtain ⟨hd, rfl⟩ := hd
  intro G p e s m args below meth c A H locs cells slots ls hCx hcc hss hl hR
  exact lv_aload_n hCx.1 hCx.2.1 hd rfl (z_ls (i := 0) hl rfl) (k G p e s m args below meth c A H locs cells slots ls hCx hcc hss hl hR)
theorem z_nld_0  (hd : zAt M 1 pc pc' (.aload_n 0)) (k : Z l M d mc ms P pc' (some (.null) :: L) (.null :: S) h kc ks) : Z l M d mc ms P pc (some (.null) :: L) S h kc ks := by
  obtain ⟨hd, rfl⟩ := hd
  intro G p e s m args below meth c A H locs cells slots ls hCx hcc hss hl hR
  exact lv_aload_nN hCx.1 hCx.2.1 hd rfl (z_ls (i := 0) hl rfl) (k G p e s m args below meth c A H locs cells slots ls hCx hcc hss hl hR)
theorem z_ist_0 {o1 : Option Value} {x : Int} (hd : zAt M 1 pc pc' (.istore_n 0)) (hn : 0 < M.2.2.1) (k : Z l M d mc ms P pc' (some (vI x) :: L) S h kc ks) : Z l M d mc ms P pc (o1 :: L) (vI x :: S) h kc ks := by
  obtain ⟨hd, rfl⟩ := hd
  intro G p e s m args below meth c A H locs cells slots ls hCx hcc hss hl hR
  refine lv_istore_n hCx.1 hCx.2.1 hd rfl hl hn rfl (fun ls' h' => ?_)
  exact k G p e s m args below meth c A H locs cells slots ls' hCx hcc hss (z_has1 (L := (o1 :: L)) (i := 0) (zst_ok [] o1 L (vI x) (fun w e => by simp at e)) h') hR
theorem z_lst_0 {o1 o2 : Option Value} {x : Int} (hd : zAt M 1 pc pc' (.lstore_n 0)) (hn : 0 + 1 < M.2.2.1) (k : Z l M d mc ms P pc' (some (vL x) :: none :: L) S h kc ks) : Z l M d mc ms P pc (o1 :: o2 :: L) (vL x :: S) h kc ks := by
  obtain ⟨hd, rfl⟩ := hd
  intro G p e s m args below meth c A H locs cells slots ls hCx hcc hss hl hR
  refine lv_lstore_n hCx.1 hCx.2.1 hd rfl hl hn rfl (fun ls' h' => ?_)
  exact k G p e s m args below meth c A H locs cells slots ls' hCx hcc hss (z_has2 (L := (o1 :: o2 :: L)) (i := 0) (zst_ok2 [] o1 o2 L (vL x) (fun w e => by simp at e)) h') hR
theorem z_ast_0 {o1 : Option Value} {x : Nat} (hd : zAt M 1 pc pc' (.astore_n 0)) (hn : 0 < M.2.2.1) (k : Z l M d mc ms P pc' (some (.ref x) :: L) S h kc ks) : Z l M d mc ms P pc (o1 :: L) (.ref x :: S) h kc ks := by
  obtain ⟨hd, rfl⟩ := hd
  intro G p e s m args below meth c A H locs cells slots ls hCx hcc hss hl hR
  refine lv_astore_n hCx.1 hCx.2.1 hd rfl hl hn rfl (fun ls' h' => ?_)
  exact k G p e s m args below meth c A H locs cells slots ls' hCx hcc hss (z_has1 (L := (o1 :: L)) (i := 0) (zst_ok [] o1 L (.ref x) (fun w e => by simp at e)) h') hR
theorem z_nst_0 {o1 : Option Value}  (hd : zAt M 1 pc pc' (.astore_n 0)) (hn : 0 < M.2.2.1) (k : Z l M d mc ms P pc' (some (.null) :: L) S h kc ks) : Z l M d mc ms P pc (o1 :: L) (.null :: S) h kc ks := by
  obtain ⟨hd, rfl⟩ := hd
  intro G p e s m args below meth c A H locs cells slots ls hCx hcc hss hl hR
  refine lv_astore_nN hCx.1 hCx.2.1 hd rfl hl hn rfl (fun ls' h' => ?_)
  exact k G p e s m args below meth c A H locs cells slots ls' hCx hcc hss (z_has1 (L := (o1 :: L)) (i := 0) (zst_ok [] o1 L (.null) (fun w e => by simp at e)) h') hR
theorem z_iinc_0 {x n : Int} (hd : zAt M 3 pc pc' (.iinc 0 n)) (hn : 0 < M.2.2.1) (k : Z l M d mc ms P pc' (some (vI (x + n)) :: L) S h kc ks) : Z l M d mc ms P pc (some (vI x) :: L) S h kc ks := by
  obtain ⟨hd, rfl⟩ := hd
  intro G p e s m args below meth c A H locs cells slots ls hCx hcc hss hl hR
  obtain ⟨j, hj⟩ := List.mem_iff_getElem?.mp ((zp_mem (some (vI x) :: L) 0).mpr ⟨0, by omega, rfl⟩ : (0, vI x) ∈ zp 0 (some (vI x) :: L))
  refine lv_iinc (v := Int32.ofInt (x + n)) (x := Int32.ofInt x) hCx.1 hCx.2.1 hd hl hj (by rw [Int32.ofInt_add]) hn rfl (fun ls' h' => ?_)
  exact k G p e s m args below meth c A H locs cells slots ls' hCx hcc hss (z_has1 (L := (some (vI x) :: L)) (i := 0) (zst_ok [] (some (vI x)) L (vI (x + n)) (fun w e => by simp at e)) h') hR
theorem z_ild_1 {a0 : Option Value} {x : Int} (hd : zAt M 1 pc pc' (.iload_n 1)) (k : Z l M d mc ms P pc' (a0 :: some (vI x) :: L) (vI x :: S) h kc ks) : Z l M d mc ms P pc (a0 :: some (vI x) :: L) S h kc ks := by
  obtain ⟨hd, rfl⟩ := hd
  intro G p e s m args below meth c A H locs cells slots ls hCx hcc hss hl hR
  exact lv_iload_n hCx.1 hCx.2.1 hd rfl (z_ls (i := 1) hl rfl) (k G p e s m args below meth c A H locs cells slots ls hCx hcc hss hl hR)
theorem z_lld_1 {a0 : Option Value} {x : Int} (hd : zAt M 1 pc pc' (.lload_n 1)) (k : Z l M d mc ms P pc' (a0 :: some (vL x) :: L) (vL x :: S) h kc ks) : Z l M d mc ms P pc (a0 :: some (vL x) :: L) S h kc ks := by
  obtain ⟨hd, rfl⟩ := hd
  intro G p e s m args below meth c A H locs cells slots ls hCx hcc hss hl hR
  exact lv_lload_n hCx.1 hCx.2.1 hd rfl (z_ls (i := 1) hl rfl) (k G p e s m args below meth c A H locs cells slots ls hCx hcc hss hl hR)
theorem z_ald_1 {a0 : Option Value} {x : Nat} (hd : zAt M 1 pc pc' (.aload_n 1)) (k : Z l M d mc ms P pc' (a0 :: some (.ref x) :: L) (.ref x :: S) h kc ks) : Z l M d mc ms P pc (a0 :: some (.ref x) :: L) S h kc ks := by
  obtain ⟨hd, rfl⟩ := hd
  intro G p e s m args below meth c A H locs cells slots ls hCx hcc hss hl hR
  exact lv_aload_n hCx.1 hCx.2.1 hd rfl (z_ls (i := 1) hl rfl) (k G p e s m args below meth c A H locs cells slots ls hCx hcc hss hl hR)
theorem z_nld_1 {a0 : Option Value}  (hd : zAt M 1 pc pc' (.aload_n 1)) (k : Z l M d mc ms P pc' (a0 :: some (.null) :: L) (.null :: S) h kc ks) : Z l M d mc ms P pc (a0 :: some (.null) :: L) S h kc ks := by
  obtain ⟨hd, rfl⟩ := hd
  intro G p e s m args below meth c A H locs cells slots ls hCx hcc hss hl hR
  exact lv_aload_nN hCx.1 hCx.2.1 hd rfl (z_ls (i := 1) hl rfl) (k G p e s m args below meth c A H locs cells slots ls hCx hcc hss hl hR)
theorem z_ist_1 {a0 : Option Value} {o1 : Option Value} {x : Int} (hd : zAt M 1 pc pc' (.istore_n 1)) (hn : 1 < M.2.2.1) (hc : zn a0 = true) (k : Z l M d mc ms P pc' (a0 :: some (vI x) :: L) S h kc ks) : Z l M d mc ms P pc (a0 :: o1 :: L) (vI x :: S) h kc ks := by
  obtain ⟨hd, rfl⟩ := hd
  intro G p e s m args below meth c A H locs cells slots ls hCx hcc hss hl hR
  refine lv_istore_n hCx.1 hCx.2.1 hd rfl hl hn rfl (fun ls' h' => ?_)
  exact k G p e s m args below meth c A H locs cells slots ls' hCx hcc hss (z_has1 (L := (a0 :: o1 :: L)) (i := 1) (zst_ok [a0] o1 L (vI x) (fun w e => zn_ok hc (by simpa using e))) h') hR
theorem z_lst_1 {a0 : Option Value} {o1 o2 : Option Value} {x : Int} (hd : zAt M 1 pc pc' (.lstore_n 1)) (hn : 1 + 1 < M.2.2.1) (hc : zn a0 = true) (k : Z l M d mc ms P pc' (a0 :: some (vL x) :: none :: L) S h kc ks) : Z l M d mc ms P pc (a0 :: o1 :: o2 :: L) (vL x :: S) h kc ks := by
  obtain ⟨hd, rfl⟩ := hd
  intro G p e s m args below meth c A H locs cells slots ls hCx hcc hss hl hR
  refine lv_lstore_n hCx.1 hCx.2.1 hd rfl hl hn rfl (fun ls' h' => ?_)
  exact k G p e s m args below meth c A H locs cells slots ls' hCx hcc hss (z_has2 (L := (a0 :: o1 :: o2 :: L)) (i := 1) (zst_ok2 [a0] o1 o2 L (vL x) (fun w e => zn_ok hc (by simpa using e))) h') hR
theorem z_ast_1 {a0 : Option Value} {o1 : Option Value} {x : Nat} (hd : zAt M 1 pc pc' (.astore_n 1)) (hn : 1 < M.2.2.1) (hc : zn a0 = true) (k : Z l M d mc ms P pc' (a0 :: some (.ref x) :: L) S h kc ks) : Z l M d mc ms P pc (a0 :: o1 :: L) (.ref x :: S) h kc ks := by
  obtain ⟨hd, rfl⟩ := hd
  intro G p e s m args below meth c A H locs cells slots ls hCx hcc hss hl hR
  refine lv_astore_n hCx.1 hCx.2.1 hd rfl hl hn rfl (fun ls' h' => ?_)
  exact k G p e s m args below meth c A H locs cells slots ls' hCx hcc hss (z_has1 (L := (a0 :: o1 :: L)) (i := 1) (zst_ok [a0] o1 L (.ref x) (fun w e => zn_ok hc (by simpa using e))) h') hR
theorem z_nst_1 {a0 : Option Value} {o1 : Option Value}  (hd : zAt M 1 pc pc' (.astore_n 1)) (hn : 1 < M.2.2.1) (hc : zn a0 = true) (k : Z l M d mc ms P pc' (a0 :: some (.null) :: L) S h kc ks) : Z l M d mc ms P pc (a0 :: o1 :: L) (.null :: S) h kc ks := by
  obtain ⟨hd, rfl⟩ := hd
  intro G p e s m args below meth c A H locs cells slots ls hCx hcc hss hl hR
  refine lv_astore_nN hCx.1 hCx.2.1 hd rfl hl hn rfl (fun ls' h' => ?_)
  exact k G p e s m args below meth c A H locs cells slots ls' hCx hcc hss (z_has1 (L := (a0 :: o1 :: L)) (i := 1) (zst_ok [a0] o1 L (.null) (fun w e => zn_ok hc (by simpa using e))) h') hR
theorem z_iinc_1 {a0 : Option Value} {x n : Int} (hd : zAt M 3 pc pc' (.iinc 1 n)) (hn : 1 < M.2.2.1) (hc : zn a0 = true) (k : Z l M d mc ms P pc' (a0 :: some (vI (x + n)) :: L) S h kc ks) : Z l M d mc ms P pc (a0 :: some (vI x) :: L) S h kc ks := by
  obtain ⟨hd, rfl⟩ := hd
  intro G p e s m args below meth c A H locs cells slots ls hCx hcc hss hl hR
  obtain ⟨j, hj⟩ := List.mem_iff_getElem?.mp ((zp_mem (a0 :: some (vI x) :: L) 0).mpr ⟨1, by omega, rfl⟩ : (1, vI x) ∈ zp 0 (a0 :: some (vI x) :: L))
  refine lv_iinc (v := Int32.ofInt (x + n)) (x := Int32.ofInt x) hCx.1 hCx.2.1 hd hl hj (by rw [Int32.ofInt_add]) hn rfl (fun ls' h' => ?_)
  exact k G p e s m args below meth c A H locs cells slots ls' hCx hcc hss (z_has1 (L := (a0 :: some (vI x) :: L)) (i := 1) (zst_ok [a0] (some (vI x)) L (vI (x + n)) (fun w e => zn_ok hc (by simpa using e))) h') hR
theorem z_ild_2 {a0 a1 : Option Value} {x : Int} (hd : zAt M 1 pc pc' (.iload_n 2)) (k : Z l M d mc ms P pc' (a0 :: a1 :: some (vI x) :: L) (vI x :: S) h kc ks) : Z l M d mc ms P pc (a0 :: a1 :: some (vI x) :: L) S h kc ks := by
  obtain ⟨hd, rfl⟩ := hd
  intro G p e s m args below meth c A H locs cells slots ls hCx hcc hss hl hR
  exact lv_iload_n hCx.1 hCx.2.1 hd rfl (z_ls (i := 2) hl rfl) (k G p e s m args below meth c A H locs cells slots ls hCx hcc hss hl hR)
theorem z_lld_2 {a0 a1 : Option Value} {x : Int} (hd : zAt M 1 pc pc' (.lload_n 2)) (k : Z l M d mc ms P pc' (a0 :: a1 :: some (vL x) :: L) (vL x :: S) h kc ks) : Z l M d mc ms P pc (a0 :: a1 :: some (vL x) :: L) S h kc ks := by
  obtain ⟨hd, rfl⟩ := hd
  intro G p e s m args below meth c A H locs cells slots ls hCx hcc hss hl hR
  exact lv_lload_n hCx.1 hCx.2.1 hd rfl (z_ls (i := 2) hl rfl) (k G p e s m args below meth c A H locs cells slots ls hCx hcc hss hl hR)
theorem z_ald_2 {a0 a1 : Option Value} {x : Nat} (hd : zAt M 1 pc pc' (.aload_n 2)) (k : Z l M d mc ms P pc' (a0 :: a1 :: some (.ref x) :: L) (.ref x :: S) h kc ks) : Z l M d mc ms P pc (a0 :: a1 :: some (.ref x) :: L) S h kc ks := by
  obtain ⟨hd, rfl⟩ := hd
  intro G p e s m args below meth c A H locs cells slots ls hCx hcc hss hl hR
  exact lv_aload_n hCx.1 hCx.2.1 hd rfl (z_ls (i := 2) hl rfl) (k G p e s m args below meth c A H locs cells slots ls hCx hcc hss hl hR)
theorem z_nld_2 {a0 a1 : Option Value}  (hd : zAt M 1 pc pc' (.aload_n 2)) (k : Z l M d mc ms P pc' (a0 :: a1 :: some (.null) :: L) (.null :: S) h kc ks) : Z l M d mc ms P pc (a0 :: a1 :: some (.null) :: L) S h kc ks := by
  obtain ⟨hd, rfl⟩ := hd
  intro G p e s m args below meth c A H locs cells slots ls hCx hcc hss hl hR
  exact lv_aload_nN hCx.1 hCx.2.1 hd rfl (z_ls (i := 2) hl rfl) (k G p e s m args below meth c A H locs cells slots ls hCx hcc hss hl hR)
theorem z_ist_2 {a0 a1 : Option Value} {o1 : Option Value} {x : Int} (hd : zAt M 1 pc pc' (.istore_n 2)) (hn : 2 < M.2.2.1) (hc : zn a1 = true) (k : Z l M d mc ms P pc' (a0 :: a1 :: some (vI x) :: L) S h kc ks) : Z l M d mc ms P pc (a0 :: a1 :: o1 :: L) (vI x :: S) h kc ks := by
  obtain ⟨hd, rfl⟩ := hd
  intro G p e s m args below meth c A H locs cells slots ls hCx hcc hss hl hR
  refine lv_istore_n hCx.1 hCx.2.1 hd rfl hl hn rfl (fun ls' h' => ?_)
  exact k G p e s m args below meth c A H locs cells slots ls' hCx hcc hss (z_has1 (L := (a0 :: a1 :: o1 :: L)) (i := 2) (zst_ok [a0, a1] o1 L (vI x) (fun w e => zn_ok hc (by simpa using e))) h') hR
theorem z_lst_2 {a0 a1 : Option Value} {o1 o2 : Option Value} {x : Int} (hd : zAt M 1 pc pc' (.lstore_n 2)) (hn : 2 + 1 < M.2.2.1) (hc : zn a1 = true) (k : Z l M d mc ms P pc' (a0 :: a1 :: some (vL x) :: none :: L) S h kc ks) : Z l M d mc ms P pc (a0 :: a1 :: o1 :: o2 :: L) (vL x :: S) h kc ks := by
  obtain ⟨hd, rfl⟩ := hd
  intro G p e s m args below meth c A H locs cells slots ls hCx hcc hss hl hR
  refine lv_lstore_n hCx.1 hCx.2.1 hd rfl hl hn rfl (fun ls' h' => ?_)
  exact k G p e s m args below meth c A H locs cells slots ls' hCx hcc hss (z_has2 (L := (a0 :: a1 :: o1 :: o2 :: L)) (i := 2) (zst_ok2 [a0, a1] o1 o2 L (vL x) (fun w e => zn_ok hc (by simpa using e))) h') hR
theorem z_ast_2 {a0 a1 : Option Value} {o1 : Option Value} {x : Nat} (hd : zAt M 1 pc pc' (.astore_n 2)) (hn : 2 < M.2.2.1) (hc : zn a1 = true) (k : Z l M d mc ms P pc' (a0 :: a1 :: some (.ref x) :: L) S h kc ks) : Z l M d mc ms P pc (a0 :: a1 :: o1 :: L) (.ref x :: S) h kc ks := by
  obtain ⟨hd, rfl⟩ := hd
  intro G p e s m args below meth c A H locs cells slots ls hCx hcc hss hl hR
  refine lv_astore_n hCx.1 hCx.2.1 hd rfl hl hn rfl (fun ls' h' => ?_)
  exact k G p e s m args below meth c A H locs cells slots ls' hCx hcc hss (z_has1 (L := (a0 :: a1 :: o1 :: L)) (i := 2) (zst_ok [a0, a1] o1 L (.ref x) (fun w e => zn_ok hc (by simpa using e))) h') hR
theorem z_nst_2 {a0 a1 : Option Value} {o1 : Option Value}  (hd : zAt M 1 pc pc' (.astore_n 2)) (hn : 2 < M.2.2.1) (hc : zn a1 = true) (k : Z l M d mc ms P pc' (a0 :: a1 :: some (.null) :: L) S h kc ks) : Z l M d mc ms P pc (a0 :: a1 :: o1 :: L) (.null :: S) h kc ks := by
  obtain ⟨hd, rfl⟩ := hd
  intro G p e s m args below meth c A H locs cells slots ls hCx hcc hss hl hR
  refine lv_astore_nN hCx.1 hCx.2.1 hd rfl hl hn rfl (fun ls' h' => ?_)
  exact k G p e s m args below meth c A H locs cells slots ls' hCx hcc hss (z_has1 (L := (a0 :: a1 :: o1 :: L)) (i := 2) (zst_ok [a0, a1] o1 L (.null) (fun w e => zn_ok hc (by simpa using e))) h') hR
theorem z_iinc_2 {a0 a1 : Option Value} {x n : Int} (hd : zAt M 3 pc pc' (.iinc 2 n)) (hn : 2 < M.2.2.1) (hc : zn a1 = true) (k : Z l M d mc ms P pc' (a0 :: a1 :: some (vI (x + n)) :: L) S h kc ks) : Z l M d mc ms P pc (a0 :: a1 :: some (vI x) :: L) S h kc ks := by
  obtain ⟨hd, rfl⟩ := hd
  intro G p e s m args below meth c A H locs cells slots ls hCx hcc hss hl hR
  obtain ⟨j, hj⟩ := List.mem_iff_getElem?.mp ((zp_mem (a0 :: a1 :: some (vI x) :: L) 0).mpr ⟨2, by omega, rfl⟩ : (2, vI x) ∈ zp 0 (a0 :: a1 :: some (vI x) :: L))
  refine lv_iinc (v := Int32.ofInt (x + n)) (x := Int32.ofInt x) hCx.1 hCx.2.1 hd hl hj (by rw [Int32.ofInt_add]) hn rfl (fun ls' h' => ?_)
  exact k G p e s m args below meth c A H locs cells slots ls' hCx hcc hss (z_has1 (L := (a0 :: a1 :: some (vI x) :: L)) (i := 2) (zst_ok [a0, a1] (some (vI x)) L (vI (x + n)) (fun w e => zn_ok hc (by simpa using e))) h') hR
theorem z_ild_3 {a0 a1 a2 : Option Value} {x : Int} (hd : zAt M 1 pc pc' (.iload_n 3)) (k : Z l M d mc ms P pc' (a0 :: a1 :: a2 :: some (vI x) :: L) (vI x :: S) h kc ks) : Z l M d mc ms P pc (a0 :: a1 :: a2 :: some (vI x) :: L) S h kc ks := by
  obtain ⟨hd, rfl⟩ := hd
  intro G p e s m args below meth c A H locs cells slots ls hCx hcc hss hl hR
  exact lv_iload_n hCx.1 hCx.2.1 hd rfl (z_ls (i := 3) hl rfl) (k G p e s m args below meth c A H locs cells slots ls hCx hcc hss hl hR)
theorem z_lld_3 {a0 a1 a2 : Option Value} {x : Int} (hd : zAt M 1 pc pc' (.lload_n 3)) (k : Z l M d mc ms P pc' (a0 :: a1 :: a2 :: some (vL x) :: L) (vL x :: S) h kc ks) : Z l M d mc ms P pc (a0 :: a1 :: a2 :: some (vL x) :: L) S h kc ks := by
  obtain ⟨hd, rfl⟩ := hd
  intro G p e s m args below meth c A H locs cells slots ls hCx hcc hss hl hR
  exact lv_lload_n hCx.1 hCx.2.1 hd rfl (z_ls (i := 3) hl rfl) (k G p e s m args below meth c A H locs cells slots ls hCx hcc hss hl hR)
theorem z_ald_3 {a0 a1 a2 : Option Value} {x : Nat} (hd : zAt M 1 pc pc' (.aload_n 3)) (k : Z l M d mc ms P pc' (a0 :: a1 :: a2 :: some (.ref x) :: L) (.ref x :: S) h kc ks) : Z l M d mc ms P pc (a0 :: a1 :: a2 :: some (.ref x) :: L) S h kc ks := by
  obtain ⟨hd, rfl⟩ := hd
  intro G p e s m args below meth c A H locs cells slots ls hCx hcc hss hl hR
  exact lv_aload_n hCx.1 hCx.2.1 hd rfl (z_ls (i := 3) hl rfl) (k G p e s m args below meth c A H locs cells slots ls hCx hcc hss hl hR)
theorem z_nld_3 {a0 a1 a2 : Option Value}  (hd : zAt M 1 pc pc' (.aload_n 3)) (k : Z l M d mc ms P pc' (a0 :: a1 :: a2 :: some (.null) :: L) (.null :: S) h kc ks) : Z l M d mc ms P pc (a0 :: a1 :: a2 :: some (.null) :: L) S h kc ks := by
  obtain ⟨hd, rfl⟩ := hd
  intro G p e s m args below meth c A H locs cells slots ls hCx hcc hss hl hR
  exact lv_aload_nN hCx.1 hCx.2.1 hd rfl (z_ls (i := 3) hl rfl) (k G p e s m args below meth c A H locs cells slots ls hCx hcc hss hl hR)
theorem z_ist_3 {a0 a1 a2 : Option Value} {o1 : Option Value} {x : Int} (hd : zAt M 1 pc pc' (.istore_n 3)) (hn : 3 < M.2.2.1) (hc : zn a2 = true) (k : Z l M d mc ms P pc' (a0 :: a1 :: a2 :: some (vI x) :: L) S h kc ks) : Z l M d mc ms P pc (a0 :: a1 :: a2 :: o1 :: L) (vI x :: S) h kc ks := by
  obtain ⟨hd, rfl⟩ := hd
  intro G p e s m args below meth c A H locs cells slots ls hCx hcc hss hl hR
  refine lv_istore_n hCx.1 hCx.2.1 hd rfl hl hn rfl (fun ls' h' => ?_)
  exact k G p e s m args below meth c A H locs cells slots ls' hCx hcc hss (z_has1 (L := (a0 :: a1 :: a2 :: o1 :: L)) (i := 3) (zst_ok [a0, a1, a2] o1 L (vI x) (fun w e => zn_ok hc (by simpa using e))) h') hR
theorem z_lst_3 {a0 a1 a2 : Option Value} {o1 o2 : Option Value} {x : Int} (hd : zAt M 1 pc pc' (.lstore_n 3)) (hn : 3 + 1 < M.2.2.1) (hc : zn a2 = true) (k : Z l M d mc ms P pc' (a0 :: a1 :: a2 :: some (vL x) :: none :: L) S h kc ks) : Z l M d mc ms P pc (a0 :: a1 :: a2 :: o1 :: o2 :: L) (vL x :: S) h kc ks := by
  obtain ⟨hd, rfl⟩ := hd
  intro G p e s m args below meth c A H locs cells slots ls hCx hcc hss hl hR
  refine lv_lstore_n hCx.1 hCx.2.1 hd rfl hl hn rfl (fun ls' h' => ?_)
  exact k G p e s m args below meth c A H locs cells slots ls' hCx hcc hss (z_has2 (L := (a0 :: a1 :: a2 :: o1 :: o2 :: L)) (i := 3) (zst_ok2 [a0, a1, a2] o1 o2 L (vL x) (fun w e => zn_ok hc (by simpa using e))) h') hR
theorem z_ast_3 {a0 a1 a2 : Option Value} {o1 : Option Value} {x : Nat} (hd : zAt M 1 pc pc' (.astore_n 3)) (hn : 3 < M.2.2.1) (hc : zn a2 = true) (k : Z l M d mc ms P pc' (a0 :: a1 :: a2 :: some (.ref x) :: L) S h kc ks) : Z l M d mc ms P pc (a0 :: a1 :: a2 :: o1 :: L) (.ref x :: S) h kc ks := by
  obtain ⟨hd, rfl⟩ := hd
  intro G p e s m args below meth c A H locs cells slots ls hCx hcc hss hl hR
  refine lv_astore_n hCx.1 hCx.2.1 hd rfl hl hn rfl (fun ls' h' => ?_)
  exact k G p e s m args below meth c A H locs cells slots ls' hCx hcc hss (z_has1 (L := (a0 :: a1 :: a2 :: o1 :: L)) (i := 3) (zst_ok [a0, a1, a2] o1 L (.ref x) (fun w e => zn_ok hc (by simpa using e))) h') hR
theorem z_nst_3 {a0 a1 a2 : Option Value} {o1 : Option Value}  (hd : zAt M 1 pc pc' (.astore_n 3)) (hn : 3 < M.2.2.1) (hc : zn a2 = true) (k : Z l M d mc ms P pc' (a0 :: a1 :: a2 :: some (.null) :: L) S h kc ks) : Z l M d mc ms P pc (a0 :: a1 :: a2 :: o1 :: L) (.null :: S) h kc ks := by
  obtain ⟨hd, rfl⟩ := hd
  intro G p e s m args below meth c A H locs cells slots ls hCx hcc hss hl hR
  refine lv_astore_nN hCx.1 hCx.2.1 hd rfl hl hn rfl (fun ls' h' => ?_)
  exact k G p e s m args below meth c A H locs cells slots ls' hCx hcc hss (z_has1 (L := (a0 :: a1 :: a2 :: o1 :: L)) (i := 3) (zst_ok [a0, a1, a2] o1 L (.null) (fun w e => zn_ok hc (by simpa using e))) h') hR
theorem z_iinc_3 {a0 a1 a2 : Option Value} {x n : Int} (hd : zAt M 3 pc pc' (.iinc 3 n)) (hn : 3 < M.2.2.1) (hc : zn a2 = true) (k : Z l M d mc ms P pc' (a0 :: a1 :: a2 :: some (vI (x + n)) :: L) S h kc ks) : Z l M d mc ms P pc (a0 :: a1 :: a2 :: some (vI x) :: L) S h kc ks := by
  obtain ⟨hd, rfl⟩ := hd
  intro G p e s m args below meth c A H locs cells slots ls hCx hcc hss hl hR
  obtain ⟨j, hj⟩ := List.mem_iff_getElem?.mp ((zp_mem (a0 :: a1 :: a2 :: some (vI x) :: L) 0).mpr ⟨3, by omega, rfl⟩ : (3, vI x) ∈ zp 0 (a0 :: a1 :: a2 :: some (vI x) :: L))
  refine lv_iinc (v := Int32.ofInt (x + n)) (x := Int32.ofInt x) hCx.1 hCx.2.1 hd hl hj (by rw [Int32.ofInt_add]) hn rfl (fun ls' h' => ?_)
  exact k G p e s m args below meth c A H locs cells slots ls' hCx hcc hss (z_has1 (L := (a0 :: a1 :: a2 :: some (vI x) :: L)) (i := 3) (zst_ok [a0, a1, a2] (some (vI x)) L (vI (x + n)) (fun w e => zn_ok hc (by simpa using e))) h') hR
theorem z_ild_4 {a0 a1 a2 a3 : Option Value} {x : Int} (hd : zAt M 2 pc pc' (.iload 4)) (k : Z l M d mc ms P pc' (a0 :: a1 :: a2 :: a3 :: some (vI x) :: L) (vI x :: S) h kc ks) : Z l M d mc ms P pc (a0 :: a1 :: a2 :: a3 :: some (vI x) :: L) S h kc ks := by
  obtain ⟨hd, rfl⟩ := hd
  intro G p e s m args below meth c A H locs cells slots ls hCx hcc hss hl hR
  exact lv_iload hCx.1 hCx.2.1 hd (z_ls (i := 4) hl rfl) (k G p e s m args below meth c A H locs cells slots ls hCx hcc hss hl hR)
theorem z_lld_4 {a0 a1 a2 a3 : Option Value} {x : Int} (hd : zAt M 2 pc pc' (.lload 4)) (k : Z l M d mc ms P pc' (a0 :: a1 :: a2 :: a3 :: some (vL x) :: L) (vL x :: S) h kc ks) : Z l M d mc ms P pc (a0 :: a1 :: a2 :: a3 :: some (vL x) :: L) S h kc ks := by
  obtain ⟨hd, rfl⟩ := hd
  intro G p e s m args below meth c A H locs cells slots ls hCx hcc hss hl hR
  exact lv_lload hCx.1 hCx.2.1 hd (z_ls (i := 4) hl rfl) (k G p e s m args below meth c A H locs cells slots ls hCx hcc hss hl hR)
theorem z_ald_4 {a0 a1 a2 a3 : Option Value} {x : Nat} (hd : zAt M 2 pc pc' (.aload 4)) (k : Z l M d mc ms P pc' (a0 :: a1 :: a2 :: a3 :: some (.ref x) :: L) (.ref x :: S) h kc ks) : Z l M d mc ms P pc (a0 :: a1 :: a2 :: a3 :: some (.ref x) :: L) S h kc ks := by
  obtain ⟨hd, rfl⟩ := hd
  intro G p e s m args below meth c A H locs cells slots ls hCx hcc hss hl hR
  exact lv_aload hCx.1 hCx.2.1 hd (z_ls (i := 4) hl rfl) (k G p e s m args below meth c A H locs cells slots ls hCx hcc hss hl hR)
theorem z_nld_4 {a0 a1 a2 a3 : Option Value}  (hd : zAt M 2 pc pc' (.aload 4)) (k : Z l M d mc ms P pc' (a0 :: a1 :: a2 :: a3 :: some (.null) :: L) (.null :: S) h kc ks) : Z l M d mc ms P pc (a0 :: a1 :: a2 :: a3 :: some (.null) :: L) S h kc ks := by
  obtain ⟨hd, rfl⟩ := hd
  intro G p e s m args below meth c A H locs cells slots ls hCx hcc hss hl hR
  exact lv_aloadN hCx.1 hCx.2.1 hd (z_ls (i := 4) hl rfl) (k G p e s m args below meth c A H locs cells slots ls hCx hcc hss hl hR)
theorem z_ist_4 {a0 a1 a2 a3 : Option Value} {o1 : Option Value} {x : Int} (hd : zAt M 2 pc pc' (.istore 4)) (hn : 4 < M.2.2.1) (hc : zn a3 = true) (k : Z l M d mc ms P pc' (a0 :: a1 :: a2 :: a3 :: some (vI x) :: L) S h kc ks) : Z l M d mc ms P pc (a0 :: a1 :: a2 :: a3 :: o1 :: L) (vI x :: S) h kc ks := by
  obtain ⟨hd, rfl⟩ := hd
  intro G p e s m args below meth c A H locs cells slots ls hCx hcc hss hl hR
  refine lv_istore hCx.1 hCx.2.1 hd hl hn rfl (fun ls' h' => ?_)
  exact k G p e s m args below meth c A H locs cells slots ls' hCx hcc hss (z_has1 (L := (a0 :: a1 :: a2 :: a3 :: o1 :: L)) (i := 4) (zst_ok [a0, a1, a2, a3] o1 L (vI x) (fun w e => zn_ok hc (by simpa using e))) h') hR
theorem z_lst_4 {a0 a1 a2 a3 : Option Value} {o1 o2 : Option Value} {x : Int} (hd : zAt M 2 pc pc' (.lstore 4)) (hn : 4 + 1 < M.2.2.1) (hc : zn a3 = true) (k : Z l M d mc ms P pc' (a0 :: a1 :: a2 :: a3 :: some (vL x) :: none :: L) S h kc ks) : Z l M d mc ms P pc (a0 :: a1 :: a2 :: a3 :: o1 :: o2 :: L) (vL x :: S) h kc ks := by
  obtain ⟨hd, rfl⟩ := hd
  intro G p e s m args below meth c A H locs cells slots ls hCx hcc hss hl hR
  refine lv_lstore hCx.1 hCx.2.1 hd hl hn rfl (fun ls' h' => ?_)
  exact k G p e s m args below meth c A H locs cells slots ls' hCx hcc hss (z_has2 (L := (a0 :: a1 :: a2 :: a3 :: o1 :: o2 :: L)) (i := 4) (zst_ok2 [a0, a1, a2, a3] o1 o2 L (vL x) (fun w e => zn_ok hc (by simpa using e))) h') hR
theorem z_ast_4 {a0 a1 a2 a3 : Option Value} {o1 : Option Value} {x : Nat} (hd : zAt M 2 pc pc' (.astore 4)) (hn : 4 < M.2.2.1) (hc : zn a3 = true) (k : Z l M d mc ms P pc' (a0 :: a1 :: a2 :: a3 :: some (.ref x) :: L) S h kc ks) : Z l M d mc ms P pc (a0 :: a1 :: a2 :: a3 :: o1 :: L) (.ref x :: S) h kc ks := by
  obtain ⟨hd, rfl⟩ := hd
  intro G p e s m args below meth c A H locs cells slots ls hCx hcc hss hl hR
  refine lv_astore hCx.1 hCx.2.1 hd hl hn rfl (fun ls' h' => ?_)
  exact k G p e s m args below meth c A H locs cells slots ls' hCx hcc hss (z_has1 (L := (a0 :: a1 :: a2 :: a3 :: o1 :: L)) (i := 4) (zst_ok [a0, a1, a2, a3] o1 L (.ref x) (fun w e => zn_ok hc (by simpa using e))) h') hR
theorem z_nst_4 {a0 a1 a2 a3 : Option Value} {o1 : Option Value}  (hd : zAt M 2 pc pc' (.astore 4)) (hn : 4 < M.2.2.1) (hc : zn a3 = true) (k : Z l M d mc ms P pc' (a0 :: a1 :: a2 :: a3 :: some (.null) :: L) S h kc ks) : Z l M d mc ms P pc (a0 :: a1 :: a2 :: a3 :: o1 :: L) (.null :: S) h kc ks := by
  obtain ⟨hd, rfl⟩ := hd
  intro G p e s m args below meth c A H locs cells slots ls hCx hcc hss hl hR
  refine lv_astoreN hCx.1 hCx.2.1 hd hl hn rfl (fun ls' h' => ?_)
  exact k G p e s m args below meth c A H locs cells slots ls' hCx hcc hss (z_has1 (L := (a0 :: a1 :: a2 :: a3 :: o1 :: L)) (i := 4) (zst_ok [a0, a1, a2, a3] o1 L (.null) (fun w e => zn_ok hc (by simpa using e))) h') hR
theorem z_iinc_4 {a0 a1 a2 a3 : Option Value} {x n : Int} (hd : zAt M 3 pc pc' (.iinc 4 n)) (hn : 4 < M.2.2.1) (hc : zn a3 = true) (k : Z l M d mc ms P pc' (a0 :: a1 :: a2 :: a3 :: some (vI (x + n)) :: L) S h kc ks) : Z l M d mc ms P pc (a0 :: a1 :: a2 :: a3 :: some (vI x) :: L) S h kc ks := by
  obtain ⟨hd, rfl⟩ := hd
  intro G p e s m args below meth c A H locs cells slots ls hCx hcc hss hl hR
  obtain ⟨j, hj⟩ := List.mem_iff_getElem?.mp ((zp_mem (a0 :: a1 :: a2 :: a3 :: some (vI x) :: L) 0).mpr ⟨4, by omega, rfl⟩ : (4, vI x) ∈ zp 0 (a0 :: a1 :: a2 :: a3 :: some (vI x) :: L))
  refine lv_iinc (v := Int32.ofInt (x + n)) (x := Int32.ofInt x) hCx.1 hCx.2.1 hd hl hj (by rw [Int32.ofInt_add]) hn rfl (fun ls' h' => ?_)
  exact k G p e s m args below meth c A H locs cells slots ls' hCx hcc hss (z_has1 (L := (a0 :: a1 :: a2 :: a3 :: some (vI x) :: L)) (i := 4) (zst_ok [a0, a1, a2, a3] (some (vI x)) L (vI (x + n)) (fun w e => zn_ok hc (by simpa using e))) h') hR
theorem z_ild_5 {a0 a1 a2 a3 a4 : Option Value} {x : Int} (hd : zAt M 2 pc pc' (.iload 5)) (k : Z l M d mc ms P pc' (a0 :: a1 :: a2 :: a3 :: a4 :: some (vI x) :: L) (vI x :: S) h kc ks) : Z l M d mc ms P pc (a0 :: a1 :: a2 :: a3 :: a4 :: some (vI x) :: L) S h kc ks := by
  obtain ⟨hd, rfl⟩ := hd
  intro G p e s m args below meth c A H locs cells slots ls hCx hcc hss hl hR
  exact lv_iload hCx.1 hCx.2.1 hd (z_ls (i := 5) hl rfl) (k G p e s m args below meth c A H locs cells slots ls hCx hcc hss hl hR)
theorem z_lld_5 {a0 a1 a2 a3 a4 : Option Value} {x : Int} (hd : zAt M 2 pc pc' (.lload 5)) (k : Z l M d mc ms P pc' (a0 :: a1 :: a2 :: a3 :: a4 :: some (vL x) :: L) (vL x :: S) h kc ks) : Z l M d mc ms P pc (a0 :: a1 :: a2 :: a3 :: a4 :: some (vL x) :: L) S h kc ks := by
  obtain ⟨hd, rfl⟩ := hd
  intro G p e s m args below meth c A H locs cells slots ls hCx hcc hss hl hR
  exact lv_lload hCx.1 hCx.2.1 hd (z_ls (i := 5) hl rfl) (k G p e s m args below meth c A H locs cells slots ls hCx hcc hss hl hR)
theorem z_ald_5 {a0 a1 a2 a3 a4 : Option Value} {x : Nat} (hd : zAt M 2 pc pc' (.aload 5)) (k : Z l M d mc ms P pc' (a0 :: a1 :: a2 :: a3 :: a4 :: some (.ref x) :: L) (.ref x :: S) h kc ks) : Z l M d mc ms P pc (a0 :: a1 :: a2 :: a3 :: a4 :: some (.ref x) :: L) S h kc ks := by
  obtain ⟨hd, rfl⟩ := hd
  intro G p e s m args below meth c A H locs cells slots ls hCx hcc hss hl hR
  exact lv_aload hCx.1 hCx.2.1 hd (z_ls (i := 5) hl rfl) (k G p e s m args below meth c A H locs cells slots ls hCx hcc hss hl hR)
theorem z_ist_5 {a0 a1 a2 a3 a4 : Option Value} {o1 : Option Value} {x : Int} (hd : zAt M 2 pc pc' (.istore 5)) (hn : 5 < M.2.2.1) (hc : zn a4 = true) (k : Z l M d mc ms P pc' (a0 :: a1 :: a2 :: a3 :: a4 :: some (vI x) :: L) S h kc ks) : Z l M d mc ms P pc (a0 :: a1 :: a2 :: a3 :: a4 :: o1 :: L) (vI x :: S) h kc ks := by
  obtain ⟨hd, rfl⟩ := hd
  intro G p e s m args below meth c A H locs cells slots ls hCx hcc hss hl hR
  refine lv_istore hCx.1 hCx.2.1 hd hl hn rfl (fun ls' h' => ?_)
  exact k G p e s m args below meth c A H locs cells slots ls' hCx hcc hss (z_has1 (L := (a0 :: a1 :: a2 :: a3 :: a4 :: o1 :: L)) (i := 5) (zst_ok [a0, a1, a2, a3, a4] o1 L (vI x) (fun w e => zn_ok hc (by simpa using e))) h') hR
theorem z_lst_5 {a0 a1 a2 a3 a4 : Option Value} {o1 o2 : Option Value} {x : Int} (hd : zAt M 2 pc pc' (.lstore 5)) (hn : 5 + 1 < M.2.2.1) (hc : zn a4 = true) (k : Z l M d mc ms P pc' (a0 :: a1 :: a2 :: a3 :: a4 :: some (vL x) :: none :: L) S h kc ks) : Z l M d mc ms P pc (a0 :: a1 :: a2 :: a3 :: a4 :: o1 :: o2 :: L) (vL x :: S) h kc ks := by
  obtain ⟨hd, rfl⟩ := hd
  intro G p e s m args below meth c A H locs cells slots ls hCx hcc hss hl hR
  refine lv_lstore hCx.1 hCx.2.1 hd hl hn rfl (fun ls' h' => ?_)
  exact k G p e s m args below meth c A H locs cells slots ls' hCx hcc hss (z_has2 (L := (a0 :: a1 :: a2 :: a3 :: a4 :: o1 :: o2 :: L)) (i := 5) (zst_ok2 [a0, a1, a2, a3, a4] o1 o2 L (vL x) (fun w e => zn_ok hc (by simpa using e))) h') hR
theorem z_ast_5 {a0 a1 a2 a3 a4 : Option Value} {o1 : Option Value} {x : Nat} (hd : zAt M 2 pc pc' (.astore 5)) (hn : 5 < M.2.2.1) (hc : zn a4 = true) (k : Z l M d mc ms P pc' (a0 :: a1 :: a2 :: a3 :: a4 :: some (.ref x) :: L) S h kc ks) : Z l M d mc ms P pc (a0 :: a1 :: a2 :: a3 :: a4 :: o1 :: L) (.ref x :: S) h kc ks := by
  obtain ⟨hd, rfl⟩ := hd
  intro G p e s m args below meth c A H locs cells slots ls hCx hcc hss hl hR
  refine lv_astore hCx.1 hCx.2.1 hd hl hn rfl (fun ls' h' => ?_)
  exact k G p e s m args below meth c A H locs cells slots ls' hCx hcc hss (z_has1 (L := (a0 :: a1 :: a2 :: a3 :: a4 :: o1 :: L)) (i := 5) (zst_ok [a0, a1, a2, a3, a4] o1 L (.ref x) (fun w e => zn_ok hc (by simpa using e))) h') hR
theorem z_iinc_5 {a0 a1 a2 a3 a4 : Option Value} {x n : Int} (hd : zAt M 3 pc pc' (.iinc 5 n)) (hn : 5 < M.2.2.1) (hc : zn a4 = true) (k : Z l M d mc ms P pc' (a0 :: a1 :: a2 :: a3 :: a4 :: some (vI (x + n)) :: L) S h kc ks) : Z l M d mc ms P pc (a0 :: a1 :: a2 :: a3 :: a4 :: some (vI x) :: L) S h kc ks := by
  obtain ⟨hd, rfl⟩ := hd
  intro G p e s m args below meth c A H locs cells slots ls hCx hcc hss hl hR
  obtain ⟨j, hj⟩ := List.mem_iff_getElem?.mp ((zp_mem (a0 :: a1 :: a2 :: a3 :: a4 :: some (vI x) :: L) 0).mpr ⟨5, by omega, rfl⟩ : (5, vI x) ∈ zp 0 (a0 :: a1 :: a2 :: a3 :: a4 :: some (vI x) :: L))
  refine lv_iinc (v := Int32.ofInt (x + n)) (x := Int32.ofInt x) hCx.1 hCx.2.1 hd hl hj (by rw [Int32.ofInt_add]) hn rfl (fun ls' h' => ?_)
  exact k G p e s m args below meth c A H locs cells slots ls' hCx hcc hss (z_has1 (L := (a0 :: a1 :: a2 :: a3 :: a4 :: some (vI x) :: L)) (i := 5) (zst_ok [a0, a1, a2, a3, a4] (some (vI x)) L (vI (x + n)) (fun w e => zn_ok hc (by simpa using e))) h') hR
theorem z_ild_6 {a0 a1 a2 a3 a4 a5 : Option Value} {x : Int} (hd : zAt M 2 pc pc' (.iload 6)) (k : Z l M d mc ms P pc' (a0 :: a1 :: a2 :: a3 :: a4 :: a5 :: some (vI x) :: L) (vI x :: S) h kc ks) : Z l M d mc ms P pc (a0 :: a1 :: a2 :: a3 :: a4 :: a5 :: some (vI x) :: L) S h kc ks := by
  obtain ⟨hd, rfl⟩ := hd
  intro G p e s m args below meth c A H locs cells slots ls hCx hcc hss hl hR
  exact lv_iload hCx.1 hCx.2.1 hd (z_ls (i := 6) hl rfl) (k G p e s m args below meth c A H locs cells slots ls hCx hcc hss hl hR)
theorem z_lld_6 {a0 a1 a2 a3 a4 a5 : Option Value} {x : Int} (hd : zAt M 2 pc pc' (.lload 6)) (k : Z l M d mc ms P pc' (a0 :: a1 :: a2 :: a3 :: a4 :: a5 :: some (vL x) :: L) (vL x :: S) h kc ks) : Z l M d mc ms P pc (a0 :: a1 :: a2 :: a3 :: a4 :: a5 :: some (vL x) :: L) S h kc ks := by
  obtain ⟨hd, rfl⟩ := hd
  intro G p e s m args below meth c A H locs cells slots ls hCx hcc hss hl hR
  exact lv_lload hCx.1 hCx.2.1 hd (z_ls (i := 6) hl rfl) (k G p e s m args below meth c A H locs cells slots ls hCx hcc hss hl hR)
theorem z_ald_6 {a0 a1 a2 a3 a4 a5 : Option Value} {x : Nat} (hd : zAt M 2 pc pc' (.aload 6)) (k : Z l M d mc ms P pc' (a0 :: a1 :: a2 :: a3 :: a4 :: a5 :: some (.ref x) :: L) (.ref x :: S) h kc ks) : Z l M d mc ms P pc (a0 :: a1 :: a2 :: a3 :: a4 :: a5 :: some (.ref x) :: L) S h kc ks := by
  obtain ⟨hd, rfl⟩ := hd
  intro G p e s m args below meth c A H locs cells slots ls hCx hcc hss hl hR
  exact lv_aload hCx.1 hCx.2.1 hd (z_ls (i := 6) hl rfl) (k G p e s m args below meth c A H locs cells slots ls hCx hcc hss hl hR)
theorem z_ist_6 {a0 a1 a2 a3 a4 a5 : Option Value} {o1 : Option Value} {x : Int} (hd : zAt M 2 pc pc' (.istore 6)) (hn : 6 < M.2.2.1) (hc : zn a5 = true) (k : Z l M d mc ms P pc' (a0 :: a1 :: a2 :: a3 :: a4 :: a5 :: some (vI x) :: L) S h kc ks) : Z l M d mc ms P pc (a0 :: a1 :: a2 :: a3 :: a4 :: a5 :: o1 :: L) (vI x :: S) h kc ks := by
  obtain ⟨hd, rfl⟩ := hd
  intro G p e s m args below meth c A H locs cells slots ls hCx hcc hss hl hR
  refine lv_istore hCx.1 hCx.2.1 hd hl hn rfl (fun ls' h' => ?_)
  exact k G p e s m args below meth c A H locs cells slots ls' hCx hcc hss (z_has1 (L := (a0 :: a1 :: a2 :: a3 :: a4 :: a5 :: o1 :: L)) (i := 6) (zst_ok [a0, a1, a2, a3, a4, a5] o1 L (vI x) (fun w e => zn_ok hc (by simpa using e))) h') hR
theorem z_lst_6 {a0 a1 a2 a3 a4 a5 : Option Value} {o1 o2 : Option Value} {x : Int} (hd : zAt M 2 pc pc' (.lstore 6)) (hn : 6 + 1 < M.2.2.1) (hc : zn a5 = true) (k : Z l M d mc ms P pc' (a0 :: a1 :: a2 :: a3 :: a4 :: a5 :: some (vL x) :: none :: L) S h kc ks) : Z l M d mc ms P pc (a0 :: a1 :: a2 :: a3 :: a4 :: a5 :: o1 :: o2 :: L) (vL x :: S) h kc ks := by
  obtain ⟨hd, rfl⟩ := hd
  intro G p e s m args below meth c A H locs cells slots ls hCx hcc hss hl hR
  refine lv_lstore hCx.1 hCx.2.1 hd hl hn rfl (fun ls' h' => ?_)
  exact k G p e s m args below meth c A H locs cells slots ls' hCx hcc hss (z_has2 (L := (a0 :: a1 :: a2 :: a3 :: a4 :: a5 :: o1 :: o2 :: L)) (i := 6) (zst_ok2 [a0, a1, a2, a3, a4, a5] o1 o2 L (vL x) (fun w e => zn_ok hc (by simpa using e))) h') hR
theorem z_ast_6 {a0 a1 a2 a3 a4 a5 : Option Value} {o1 : Option Value} {x : Nat} (hd : zAt M 2 pc pc' (.astore 6)) (hn : 6 < M.2.2.1) (hc : zn a5 = true) (k : Z l M d mc ms P pc' (a0 :: a1 :: a2 :: a3 :: a4 :: a5 :: some (.ref x) :: L) S h kc ks) : Z l M d mc ms P pc (a0 :: a1 :: a2 :: a3 :: a4 :: a5 :: o1 :: L) (.ref x :: S) h kc ks := by
  obtain ⟨hd, rfl⟩ := hd
  intro G p e s m args below meth c A H locs cells slots ls hCx hcc hss hl hR
  refine lv_astore hCx.1 hCx.2.1 hd hl hn rfl (fun ls' h' => ?_)
  exact k G p e s m args below meth c A H locs cells slots ls' hCx hcc hss (z_has1 (L := (a0 :: a1 :: a2 :: a3 :: a4 :: a5 :: o1 :: L)) (i := 6) (zst_ok [a0, a1, a2, a3, a4, a5] o1 L (.ref x) (fun w e => zn_ok hc (by simpa using e))) h') hR
theorem z_iinc_6 {a0 a1 a2 a3 a4 a5 : Option Value} {x n : Int} (hd : zAt M 3 pc pc' (.iinc 6 n)) (hn : 6 < M.2.2.1) (hc : zn a5 = true) (k : Z l M d mc ms P pc' (a0 :: a1 :: a2 :: a3 :: a4 :: a5 :: some (vI (x + n)) :: L) S h kc ks) : Z l M d mc ms P pc (a0 :: a1 :: a2 :: a3 :: a4 :: a5 :: some (vI x) :: L) S h kc ks := by
  obtain ⟨hd, rfl⟩ := hd
  intro G p e s m args below meth c A H locs cells slots ls hCx hcc hss hl hR
  obtain ⟨j, hj⟩ := List.mem_iff_getElem?.mp ((zp_mem (a0 :: a1 :: a2 :: a3 :: a4 :: a5 :: some (vI x) :: L) 0).mpr ⟨6, by omega, rfl⟩ : (6, vI x) ∈ zp 0 (a0 :: a1 :: a2 :: a3 :: a4 :: a5 :: some (vI x) :: L))
  refine lv_iinc (v := Int32.ofInt (x + n)) (x := Int32.ofInt x) hCx.1 hCx.2.1 hd hl hj (by rw [Int32.ofInt_add]) hn rfl (fun ls' h' => ?_)
  exact k G p e s m args below meth c A H locs cells slots ls' hCx hcc hss (z_has1 (L := (a0 :: a1 :: a2 :: a3 :: a4 :: a5 :: some (vI x) :: L)) (i := 6) (zst_ok [a0, a1, a2, a3, a4, a5] (some (vI x)) L (vI (x + n)) (fun w e => zn_ok hc (by simpa using e))) h') hR
theorem z_ild_7 {a0 a1 a2 a3 a4 a5 a6 : Option Value} {x : Int} (hd : zAt M 2 pc pc' (.iload 7)) (k : Z l M d mc ms P pc' (a0 :: a1 :: a2 :: a3 :: a4 :: a5 :: a6 :: some (vI x) :: L) (vI x :: S) h kc ks) : Z l M d mc ms P pc (a0 :: a1 :: a2 :: a3 :: a4 :: a5 :: a6 :: some (vI x) :: L) S h kc ks := by
  obtain ⟨hd, rfl⟩ := hd
  intro G p e s m args below meth c A H locs cells slots ls hCx hcc hss hl hR
  exact lv_iload hCx.1 hCx.2.1 hd (z_ls (i := 7) hl rfl) (k G p e s m args below meth c A H locs cells slots ls hCx hcc hss hl hR)
theorem z_lld_7 {a0 a1 a2 a3 a4 a5 a6 : Option Value} {x : Int} (hd : zAt M 2 pc pc' (.lload 7)) (k : Z l M d mc ms P pc' (a0 :: a1 :: a2 :: a3 :: a4 :: a5 :: a6 :: some (vL x) :: L) (vL x :: S) h kc ks) : Z l M d mc ms P pc (a0 :: a1 :: a2 :: a3 :: a4 :: a5 :: a6 :: some (vL x) :: L) S h kc ks := by
  obtain ⟨hd, rfl⟩ := hd
  intro G p e s m args below meth c A H locs cells slots ls hCx hcc hss hl hR
  exact lv_lload hCx.1 hCx.2.1 hd (z_ls (i := 7) hl rfl) (k G p e s m args below meth c A H locs cells slots ls hCx hcc hss hl hR)
theorem z_ald_7 {a0 a1 a2 a3 a4 a5 a6 : Option Value} {x : Nat} (hd : zAt M 2 pc pc' (.aload 7)) (k : Z l M d mc ms P pc' (a0 :: a1 :: a2 :: a3 :: a4 :: a5 :: a6 :: some (.ref x) :: L) (.ref x :: S) h kc ks) : Z l M d mc ms P pc (a0 :: a1 :: a2 :: a3 :: a4 :: a5 :: a6 :: some (.ref x) :: L) S h kc ks := by
  obtain ⟨hd, rfl⟩ := hd
  intro G p e s m args below meth c A H locs cells slots ls hCx hcc hss hl hR
  exact lv_aload hCx.1 hCx.2.1 hd (z_ls (i := 7) hl rfl) (k G p e s m args below meth c A H locs cells slots ls hCx hcc hss hl hR)
theorem z_ist_7 {a0 a1 a2 a3 a4 a5 a6 : Option Value} {o1 : Option Value} {x : Int} (hd : zAt M 2 pc pc' (.istore 7)) (hn : 7 < M.2.2.1) (hc : zn a6 = true) (k : Z l M d mc ms P pc' (a0 :: a1 :: a2 :: a3 :: a4 :: a5 :: a6 :: some (vI x) :: L) S h kc ks) : Z l M d mc ms P pc (a0 :: a1 :: a2 :: a3 :: a4 :: a5 :: a6 :: o1 :: L) (vI x :: S) h kc ks := by
  obtain ⟨hd, rfl⟩ := hd
  intro G p e s m args below meth c A H locs cells slots ls hCx hcc hss hl hR
  refine lv_istore hCx.1 hCx.2.1 hd hl hn rfl (fun ls' h' => ?_)
  exact k G p e s m args below meth c A H locs cells slots ls' hCx hcc hss (z_has1 (L := (a0 :: a1 :: a2 :: a3 :: a4 :: a5 :: a6 :: o1 :: L)) (i := 7) (zst_ok [a0, a1, a2, a3, a4, a5, a6] o1 L (vI x) (fun w e => zn_ok hc (by simpa using e))) h') hR
theorem z_lst_7 {a0 a1 a2 a3 a4 a5 a6 : Option Value} {o1 o2 : Option Value} {x : Int} (hd : zAt M 2 pc pc' (.lstore 7)) (hn : 7 + 1 < M.2.2.1) (hc : zn a6 = true) (k : Z l M d mc ms P pc' (a0 :: a1 :: a2 :: a3 :: a4 :: a5 :: a6 :: some (vL x) :: none :: L) S h kc ks) : Z l M d mc ms P pc (a0 :: a1 :: a2 :: a3 :: a4 :: a5 :: a6 :: o1 :: o2 :: L) (vL x :: S) h kc ks := by
  obtain ⟨hd, rfl⟩ := hd
  intro G p e s m args below meth c A H locs cells slots ls hCx hcc hss hl hR
  refine lv_lstore hCx.1 hCx.2.1 hd hl hn rfl (fun ls' h' => ?_)
  exact k G p e s m args below meth c A H locs cells slots ls' hCx hcc hss (z_has2 (L := (a0 :: a1 :: a2 :: a3 :: a4 :: a5 :: a6 :: o1 :: o2 :: L)) (i := 7) (zst_ok2 [a0, a1, a2, a3, a4, a5, a6] o1 o2 L (vL x) (fun w e => zn_ok hc (by simpa using e))) h') hR
theorem z_ast_7 {a0 a1 a2 a3 a4 a5 a6 : Option Value} {o1 : Option Value} {x : Nat} (hd : zAt M 2 pc pc' (.astore 7)) (hn : 7 < M.2.2.1) (hc : zn a6 = true) (k : Z l M d mc ms P pc' (a0 :: a1 :: a2 :: a3 :: a4 :: a5 :: a6 :: some (.ref x) :: L) S h kc ks) : Z l M d mc ms P pc (a0 :: a1 :: a2 :: a3 :: a4 :: a5 :: a6 :: o1 :: L) (.ref x :: S) h kc ks := by
  obtain ⟨hd, rfl⟩ := hd
  intro G p e s m args below meth c A H locs cells slots ls hCx hcc hss hl hR
  refine lv_astore hCx.1 hCx.2.1 hd hl hn rfl (fun ls' h' => ?_)
  exact k G p e s m args below meth c A H locs cells slots ls' hCx hcc hss (z_has1 (L := (a0 :: a1 :: a2 :: a3 :: a4 :: a5 :: a6 :: o1 :: L)) (i := 7) (zst_ok [a0, a1, a2, a3, a4, a5, a6] o1 L (.ref x) (fun w e => zn_ok hc (by simpa using e))) h') hR
theorem z_iinc_7 {a0 a1 a2 a3 a4 a5 a6 : Option Value} {x n : Int} (hd : zAt M 3 pc pc' (.iinc 7 n)) (hn : 7 < M.2.2.1) (hc : zn a6 = true) (k : Z l M d mc ms P pc' (a0 :: a1 :: a2 :: a3 :: a4 :: a5 :: a6 :: some (vI (x + n)) :: L) S h kc ks) : Z l M d mc ms P pc (a0 :: a1 :: a2 :: a3 :: a4 :: a5 :: a6 :: some (vI x) :: L) S h kc ks := by
  obtain ⟨hd, rfl⟩ := hd
  intro G p e s m args below meth c A H locs cells slots ls hCx hcc hss hl hR
  obtain ⟨j, hj⟩ := List.mem_iff_getElem?.mp ((zp_mem (a0 :: a1 :: a2 :: a3 :: a4 :: a5 :: a6 :: some (vI x) :: L) 0).mpr ⟨7, by omega, rfl⟩ : (7, vI x) ∈ zp 0 (a0 :: a1 :: a2 :: a3 :: a4 :: a5 :: a6 :: some (vI x) :: L))
  refine lv_iinc (v := Int32.ofInt (x + n)) (x := Int32.ofInt x) hCx.1 hCx.2.1 hd hl hj (by rw [Int32.ofInt_add]) hn rfl (fun ls' h' => ?_)
  exact k G p e s m args below meth c A H locs cells slots ls' hCx hcc hss (z_has1 (L := (a0 :: a1 :: a2 :: a3 :: a4 :: a5 :: a6 :: some (vI x) :: L)) (i := 7) (zst_ok [a0, a1, a2, a3, a4, a5, a6] (some (vI x)) L (vI (x + n)) (fun w e => zn_ok hc (by simpa using e))) h') hR
theorem z_ild_8 {a0 a1 a2 a3 a4 a5 a6 a7 : Option Value} {x : Int} (hd : zAt M 2 pc pc' (.iload 8)) (k : Z l M d mc ms P pc' (a0 :: a1 :: a2 :: a3 :: a4 :: a5 :: a6 :: a7 :: some (vI x) :: L) (vI x :: S) h kc ks) : Z l M d mc ms P pc (a0 :: a1 :: a2 :: a3 :: a4 :: a5 :: a6 :: a7 :: some (vI x) :: L) S h kc ks := by
  obtain ⟨hd, rfl⟩ := hd
  intro G p e s m args below meth c A H locs cells slots ls hCx hcc hss hl hR
  exact lv_iload hCx.1 hCx.2.1 hd (z_ls (i := 8) hl rfl) (k G p e s m args below meth c A H locs cells slots ls hCx hcc hss hl hR)
theorem z_lld_8 {a0 a1 a2 a3 a4 a5 a6 a7 : Option Value} {x : Int} (hd : zAt M 2 pc pc' (.lload 8)) (k : Z l M d mc ms P pc' (a0 :: a1 :: a2 :: a3 :: a4 :: a5 :: a6 :: a7 :: some (vL x) :: L) (vL x :: S) h kc ks) : Z l M d mc ms P pc (a0 :: a1 :: a2 :: a3 :: a4 :: a5 :: a6 :: a7 :: some (vL x) :: L) S h kc ks := by
  obtain ⟨hd, rfl⟩ := hd
  intro G p e s m args below meth c A H locs cells slots ls hCx hcc hss hl hR
  exact lv_lload hCx.1 hCx.2.1 hd (z_ls (i := 8) hl rfl) (k G p e s m args below meth c A H locs cells slots ls hCx hcc hss hl hR)
theorem z_ald_8 {a0 a1 a2 a3 a4 a5 a6 a7 : Option Value} {x : Nat} (hd : zAt M 2 pc pc' (.aload 8)) (k : Z l M d mc ms P pc' (a0 :: a1 :: a2 :: a3 :: a4 :: a5 :: a6 :: a7 :: some (.ref x) :: L) (.ref x :: S) h kc ks) : Z l M d mc ms P pc (a0 :: a1 :: a2 :: a3 :: a4 :: a5 :: a6 :: a7 :: some (.ref x) :: L) S h kc ks := by
  obtain ⟨hd, rfl⟩ := hd
  intro G p e s m args below meth c A H locs cells slots ls hCx hcc hss hl hR
  exact lv_aload hCx.1 hCx.2.1 hd (z_ls (i := 8) hl rfl) (k G p e s m args below meth c A H locs cells slots ls hCx hcc hss hl hR)
theorem z_ist_8 {a0 a1 a2 a3 a4 a5 a6 a7 : Option Value} {o1 : Option Value} {x : Int} (hd : zAt M 2 pc pc' (.istore 8)) (hn : 8 < M.2.2.1) (hc : zn a7 = true) (k : Z l M d mc ms P pc' (a0 :: a1 :: a2 :: a3 :: a4 :: a5 :: a6 :: a7 :: some (vI x) :: L) S h kc ks) : Z l M d mc ms P pc (a0 :: a1 :: a2 :: a3 :: a4 :: a5 :: a6 :: a7 :: o1 :: L) (vI x :: S) h kc ks := by
  obtain ⟨hd, rfl⟩ := hd
  intro G p e s m args below meth c A H locs cells slots ls hCx hcc hss hl hR
  refine lv_istore hCx.1 hCx.2.1 hd hl hn rfl (fun ls' h' => ?_)
  exact k G p e s m args below meth c A H locs cells slots ls' hCx hcc hss (z_has1 (L := (a0 :: a1 :: a2 :: a3 :: a4 :: a5 :: a6 :: a7 :: o1 :: L)) (i := 8) (zst_ok [a0, a1, a2, a3, a4, a5, a6, a7] o1 L (vI x) (fun w e => zn_ok hc (by simpa using e))) h') hR
theorem z_lst_8 {a0 a1 a2 a3 a4 a5 a6 a7 : Option Value} {o1 o2 : Option Value} {x : Int} (hd : zAt M 2 pc pc' (.lstore 8)) (hn : 8 + 1 < M.2.2.1) (hc : zn a7 = true) (k : Z l M d mc ms P pc' (a0 :: a1 :: a2 :: a3 :: a4 :: a5 :: a6 :: a7 :: some (vL x) :: none :: L) S h kc ks) : Z l M d mc ms P pc (a0 :: a1 :: a2 :: a3 :: a4 :: a5 :: a6 :: a7 :: o1 :: o2 :: L) (vL x :: S) h kc ks := by
  obtain ⟨hd, rfl⟩ := hd
  intro G p e s m args below meth c A H locs cells slots ls hCx hcc hss hl hR
  refine lv_lstore hCx.1 hCx.2.1 hd hl hn rfl (fun ls' h' => ?_)
  exact k G p e s m args below meth c A H locs cells slots ls' hCx hcc hss (z_has2 (L := (a0 :: a1 :: a2 :: a3 :: a4 :: a5 :: a6 :: a7 :: o1 :: o2 :: L)) (i := 8) (zst_ok2 [a0, a1, a2, a3, a4, a5, a6, a7] o1 o2 L (vL x) (fun w e => zn_ok hc (by simpa using e))) h') hR
theorem z_ast_8 {a0 a1 a2 a3 a4 a5 a6 a7 : Option Value} {o1 : Option Value} {x : Nat} (hd : zAt M 2 pc pc' (.astore 8)) (hn : 8 < M.2.2.1) (hc : zn a7 = true) (k : Z l M d mc ms P pc' (a0 :: a1 :: a2 :: a3 :: a4 :: a5 :: a6 :: a7 :: some (.ref x) :: L) S h kc ks) : Z l M d mc ms P pc (a0 :: a1 :: a2 :: a3 :: a4 :: a5 :: a6 :: a7 :: o1 :: L) (.ref x :: S) h kc ks := by
  obtain ⟨hd, rfl⟩ := hd
  intro G p e s m args below meth c A H locs cells slots ls hCx hcc hss hl hR
  refine lv_astore hCx.1 hCx.2.1 hd hl hn rfl (fun ls' h' => ?_)
  exact k G p e s m args below meth c A H locs cells slots ls' hCx hcc hss (z_has1 (L := (a0 :: a1 :: a2 :: a3 :: a4 :: a5 :: a6 :: a7 :: o1 :: L)) (i := 8) (zst_ok [a0, a1, a2, a3, a4, a5, a6, a7] o1 L (.ref x) (fun w e => zn_ok hc (by simpa using e))) h') hR
theorem z_iinc_8 {a0 a1 a2 a3 a4 a5 a6 a7 : Option Value} {x n : Int} (hd : zAt M 3 pc pc' (.iinc 8 n)) (hn : 8 < M.2.2.1) (hc : zn a7 = true) (k : Z l M d mc ms P pc' (a0 :: a1 :: a2 :: a3 :: a4 :: a5 :: a6 :: a7 :: some (vI (x + n)) :: L) S h kc ks) : Z l M d mc ms P pc (a0 :: a1 :: a2 :: a3 :: a4 :: a5 :: a6 :: a7 :: some (vI x) :: L) S h kc ks := by
  obtain ⟨hd, rfl⟩ := hd
  intro G p e s m args below meth c A H locs cells slots ls hCx hcc hss hl hR
  obtain ⟨j, hj⟩ := List.mem_iff_getElem?.mp ((zp_mem (a0 :: a1 :: a2 :: a3 :: a4 :: a5 :: a6 :: a7 :: some (vI x) :: L) 0).mpr ⟨8, by omega, rfl⟩ : (8, vI x) ∈ zp 0 (a0 :: a1 :: a2 :: a3 :: a4 :: a5 :: a6 :: a7 :: some (vI x) :: L))
  refine lv_iinc (v := Int32.ofInt (x + n)) (x := Int32.ofInt x) hCx.1 hCx.2.1 hd hl hj (by rw [Int32.ofInt_add]) hn rfl (fun ls' h' => ?_)
  exact k G p e s m args below meth c A H locs cells slots ls' hCx hcc hss (z_has1 (L := (a0 :: a1 :: a2 :: a3 :: a4 :: a5 :: a6 :: a7 :: some (vI x) :: L)) (i := 8) (zst_ok [a0, a1, a2, a3, a4, a5, a6, a7] (some (vI x)) L (vI (x + n)) (fun w e => zn_ok hc (by simpa using e))) h') hR
theorem z_ild_9 {a0 a1 a2 a3 a4 a5 a6 a7 a8 : Option Value} {x : Int} (hd : zAt M 2 pc pc' (.iload 9)) (k : Z l M d mc ms P pc' (a0 :: a1 :: a2 :: a3 :: a4 :: a5 :: a6 :: a7 :: a8 :: some (vI x) :: L) (vI x :: S) h kc ks) : Z l M d mc ms P pc (a0 :: a1 :: a2 :: a3 :: a4 :: a5 :: a6 :: a7 :: a8 :: some (vI x) :: L) S h kc ks := by
  obtain ⟨hd, rfl⟩ := hd
  intro G p e s m args below meth c A H locs cells slots ls hCx hcc hss hl hR
  exact lv_iload hCx.1 hCx.2.1 hd (z_ls (i := 9) hl rfl) (k G p e s m args below meth c A H locs cells slots ls hCx hcc hss hl hR)
theorem z_lld_9 {a0 a1 a2 a3 a4 a5 a6 a7 a8 : Option Value} {x : Int} (hd : zAt M 2 pc pc' (.lload 9)) (k : Z l M d mc ms P pc' (a0 :: a1 :: a2 :: a3 :: a4 :: a5 :: a6 :: a7 :: a8 :: some (vL x) :: L) (vL x :: S) h kc ks) : Z l M d mc ms P pc (a0 :: a1 :: a2 :: a3 :: a4 :: a5 :: a6 :: a7 :: a8 :: some (vL x) :: L) S h kc ks := by
  obtain ⟨hd, rfl⟩ := hd
  intro G p e s m args below meth c A H locs cells slots ls hCx hcc hss hl hR
  exact lv_lload hCx.1 hCx.2.1 hd (z_ls (i := 9) hl rfl) (k G p e s m args below meth c A H locs cells slots ls hCx hcc hss hl hR)
theorem z_ald_9 {a0 a1 a2 a3 a4 a5 a6 a7 a8 : Option Value} {x : Nat} (hd : zAt M 2 pc pc' (.aload 9)) (k : Z l M d mc ms P pc' (a0 :: a1 :: a2 :: a3 :: a4 :: a5 :: a6 :: a7 :: a8 :: some (.ref x) :: L) (.ref x :: S) h kc ks) : Z l M d mc ms P pc (a0 :: a1 :: a2 :: a3 :: a4 :: a5 :: a6 :: a7 :: a8 :: some (.ref x) :: L) S h kc ks := by
  obtain ⟨hd, rfl⟩ := hd
  intro G p e s m args below meth c A H locs cells slots ls hCx hcc hss hl hR
  exact lv_aload hCx.1 hCx.2.1 hd (z_ls (i := 9) hl rfl) (k G p e s m args below meth c A H locs cells slots ls hCx hcc hss hl hR)
theorem z_ist_9 {a0 a1 a2 a3 a4 a5 a6 a7 a8 : Option Value} {o1 : Option Value} {x : Int} (hd : zAt M 2 pc pc' (.istore 9)) (hn : 9 < M.2.2.1) (hc : zn a8 = true) (k : Z l M d mc ms P pc' (a0 :: a1 :: a2 :: a3 :: a4 :: a5 :: a6 :: a7 :: a8 :: some (vI x) :: L) S h kc ks) : Z l M d mc ms P pc (a0 :: a1 :: a2 :: a3 :: a4 :: a5 :: a6 :: a7 :: a8 :: o1 :: L) (vI x :: S) h kc ks := by
  obtain ⟨hd, rfl⟩ := hd
  intro G p e s m args below meth c A H locs cells slots ls hCx hcc hss hl hR
  refine lv_istore hCx.1 hCx.2.1 hd hl hn rfl (fun ls' h' => ?_)
  exact k G p e s m args below meth c A H locs cells slots ls' hCx hcc hss (z_has1 (L := (a0 :: a1 :: a2 :: a3 :: a4 :: a5 :: a6 :: a7 :: a8 :: o1 :: L)) (i := 9) (zst_ok [a0, a1, a2, a3, a4, a5, a6, a7, a8] o1 L (vI x) (fun w e => zn_ok hc (by simpa using e))) h') hR
theorem z_lst_9 {a0 a1 a2 a3 a4 a5 a6 a7 a8 : Option Value} {o1 o2 : Option Value} {x : Int} (hd : zAt M 2 pc pc' (.lstore 9)) (hn : 9 + 1 < M.2.2.1) (hc : zn a8 = true) (k : Z l M d mc ms P pc' (a0 :: a1 :: a2 :: a3 :: a4 :: a5 :: a6 :: a7 :: a8 :: some (vL x) :: none :: L) S h kc ks) : Z l M d mc ms P pc (a0 :: a1 :: a2 :: a3 :: a4 :: a5 :: a6 :: a7 :: a8 :: o1 :: o2 :: L) (vL x :: S) h kc ks := by
  obtain ⟨hd, rfl⟩ := hd
  intro G p e s m args below meth c A H locs cells slots ls hCx hcc hss hl hR
  refine lv_lstore hCx.1 hCx.2.1 hd hl hn rfl (fun ls' h' => ?_)
  exact k G p e s m args below meth c A H locs cells slots ls' hCx hcc hss (z_has2 (L := (a0 :: a1 :: a2 :: a3 :: a4 :: a5 :: a6 :: a7 :: a8 :: o1 :: o2 :: L)) (i := 9) (zst_ok2 [a0, a1, a2, a3, a4, a5, a6, a7, a8] o1 o2 L (vL x) (fun w e => zn_ok hc (by simpa using e))) h') hR
theorem z_ast_9 {a0 a1 a2 a3 a4 a5 a6 a7 a8 : Option Value} {o1 : Option Value} {x : Nat} (hd : zAt M 2 pc pc' (.astore 9)) (hn : 9 < M.2.2.1) (hc : zn a8 = true) (k : Z l M d mc ms P pc' (a0 :: a1 :: a2 :: a3 :: a4 :: a5 :: a6 :: a7 :: a8 :: some (.ref x) :: L) S h kc ks) : Z l M d mc ms P pc (a0 :: a1 :: a2 :: a3 :: a4 :: a5 :: a6 :: a7 :: a8 :: o1 :: L) (.ref x :: S) h kc ks := by
  obtain ⟨hd, rfl⟩ := hd
  intro G p e s m args below meth c A H locs cells slots ls hCx hcc hss hl hR
  refine lv_astore hCx.1 hCx.2.1 hd hl hn rfl (fun ls' h' => ?_)
  exact k G p e s m args below meth c A H locs cells slots ls' hCx hcc hss (z_has1 (L := (a0 :: a1 :: a2 :: a3 :: a4 :: a5 :: a6 :: a7 :: a8 :: o1 :: L)) (i := 9) (zst_ok [a0, a1, a2, a3, a4, a5, a6, a7, a8] o1 L (.ref x) (fun w e => zn_ok hc (by simpa using e))) h') hR
theorem z_iinc_9 {a0 a1 a2 a3 a4 a5 a6 a7 a8 : Option Value} {x n : Int} (hd : zAt M 3 pc pc' (.iinc 9 n)) (hn : 9 < M.2.2.1) (hc : zn a8 = true) (k : Z l M d mc ms P pc' (a0 :: a1 :: a2 :: a3 :: a4 :: a5 :: a6 :: a7 :: a8 :: some (vI (x + n)) :: L) S h kc ks) : Z l M d mc ms P pc (a0 :: a1 :: a2 :: a3 :: a4 :: a5 :: a6 :: a7 :: a8 :: some (vI x) :: L) S h kc ks := by
  obtain ⟨hd, rfl⟩ := hd
  intro G p e s m args below meth c A H locs cells slots ls hCx hcc hss hl hR
  obtain ⟨j, hj⟩ := List.mem_iff_getElem?.mp ((zp_mem (a0 :: a1 :: a2 :: a3 :: a4 :: a5 :: a6 :: a7 :: a8 :: some (vI x) :: L) 0).mpr ⟨9, by omega, rfl⟩ : (9, vI x) ∈ zp 0 (a0 :: a1 :: a2 :: a3 :: a4 :: a5 :: a6 :: a7 :: a8 :: some (vI x) :: L))
  refine lv_iinc (v := Int32.ofInt (x + n)) (x := Int32.ofInt x) hCx.1 hCx.2.1 hd hl hj (by rw [Int32.ofInt_add]) hn rfl (fun ls' h' => ?_)
  exact k G p e s m args below meth c A H locs cells slots ls' hCx hcc hss (z_has1 (L := (a0 :: a1 :: a2 :: a3 :: a4 :: a5 :: a6 :: a7 :: a8 :: some (vI x) :: L)) (i := 9) (zst_ok [a0, a1, a2, a3, a4, a5, a6, a7, a8] (some (vI x)) L (vI (x + n)) (fun w e => zn_ok hc (by simpa using e))) h') hR
theorem z_ild_10 {a0 a1 a2 a3 a4 a5 a6 a7 a8 a9 : Option Value} {x : Int} (hd : zAt M 2 pc pc' (.iload 10)) (k : Z l M d mc ms P pc' (a0 :: a1 :: a2 :: a3 :: a4 :: a5 :: a6 :: a7 :: a8 :: a9 :: some (vI x) :: L) (vI x :: S) h kc ks) : Z l M d mc ms P pc (a0 :: a1 :: a2 :: a3 :: a4 :: a5 :: a6 :: a7 :: a8 :: a9 :: some (vI x) :: L) S h kc ks := by
  obtain ⟨hd, rfl⟩ := hd
  intro G p e s m args below meth c A H locs cells slots ls hCx hcc hss hl hR
  exact lv_iload hCx.1 hCx.2.1 hd (z_ls (i := 10) hl rfl) (k G p e s m args below meth c A H locs cells slots ls hCx hcc hss hl hR)
theorem z_lld_10 {a0 a1 a2 a3 a4 a5 a6 a7 a8 a9 : Option Value} {x : Int} (hd : zAt M 2 pc pc' (.lload 10)) (k : Z l M d mc ms P pc' (a0 :: a1 :: a2 :: a3 :: a4 :: a5 :: a6 :: a7 :: a8 :: a9 :: some (vL x) :: L) (vL x :: S) h kc ks) : Z l M d mc ms P pc (a0 :: a1 :: a2 :: a3 :: a4 :: a5 :: a6 :: a7 :: a8 :: a9 :: some (vL x) :: L) S h kc ks := by
  obtain ⟨hd, rfl⟩ := hd
  intro G p e s m args below meth c A H locs cells slots ls hCx hcc hss hl hR
  exact lv_lload hCx.1 hCx.2.1 hd (z_ls (i := 10) hl rfl) (k G p e s m args below meth c A H locs cells slots ls hCx hcc hss hl hR)
theorem z_ald_10 {a0 a1 a2 a3 a4 a5 a6 a7 a8 a9 : Option Value} {x : Nat} (hd : zAt M 2 pc pc' (.aload 10)) (k : Z l M d mc ms P pc' (a0 :: a1 :: a2 :: a3 :: a4 :: a5 :: a6 :: a7 :: a8 :: a9 :: some (.ref x) :: L) (.ref x :: S) h kc ks) : Z l M d mc ms P pc (a0 :: a1 :: a2 :: a3 :: a4 :: a5 :: a6 :: a7 :: a8 :: a9 :: some (.ref x) :: L) S h kc ks := by
  obtain ⟨hd, rfl⟩ := hd
  intro G p e s m args below meth c A H locs cells slots ls hCx hcc hss hl hR
  exact lv_aload hCx.1 hCx.2.1 hd (z_ls (i := 10) hl rfl) (k G p e s m args below meth c A H locs cells slots ls hCx hcc hss hl hR)
theorem z_ist_10 {a0 a1 a2 a3 a4 a5 a6 a7 a8 a9 : Option Value} {o1 : Option Value} {x : Int} (hd : zAt M 2 pc pc' (.istore 10)) (hn : 10 < M.2.2.1) (hc : zn a9 = true) (k : Z l M d mc ms P pc' (a0 :: a1 :: a2 :: a3 :: a4 :: a5 :: a6 :: a7 :: a8 :: a9 :: some (vI x) :: L) S h kc ks) : Z l M d mc ms P pc (a0 :: a1 :: a2 :: a3 :: a4 :: a5 :: a6 :: a7 :: a8 :: a9 :: o1 :: L) (vI x :: S) h kc ks := by
  obtain ⟨hd, rfl⟩ := hd
  intro G p e s m args below meth c A H locs cells slots ls hCx hcc hss hl hR
  refine lv_istore hCx.1 hCx.2.1 hd hl hn rfl (fun ls' h' => ?_)
  exact k G p e s m args below meth c A H locs cells slots ls' hCx hcc hss (z_has1 (L := (a0 :: a1 :: a2 :: a3 :: a4 :: a5 :: a6 :: a7 :: a8 :: a9 :: o1 :: L)) (i := 10) (zst_ok [a0, a1, a2, a3, a4, a5, a6, a7, a8, a9] o1 L (vI x) (fun w e => zn_ok hc (by simpa using e))) h') hR
theorem z_lst_10 {a0 a1 a2 a3 a4 a5 a6 a7 a8 a9 : Option Value} {o1 o2 : Option Value} {x : Int} (hd : zAt M 2 pc pc' (.lstore 10)) (hn : 10 + 1 < M.2.2.1) (hc : zn a9 = true) (k : Z l M d mc ms P pc' (a0 :: a1 :: a2 :: a3 :: a4 :: a5 :: a6 :: a7 :: a8 :: a9 :: some (vL x) :: none :: L) S h kc ks) : Z l M d mc ms P pc (a0 :: a1 :: a2 :: a3 :: a4 :: a5 :: a6 :: a7 :: a8 :: a9 :: o1 :: o2 :: L) (vL x :: S) h kc ks := by
  obtain ⟨hd, rfl⟩ := hd
  intro G p e s m args below meth c A H locs cells slots ls hCx hcc hss hl hR
  refine lv_lstore hCx.1 hCx.2.1 hd hl hn rfl (fun ls' h' => ?_)
  exact k G p e s m args below meth c A H locs cells slots ls' hCx hcc hss (z_has2 (L := (a0 :: a1 :: a2 :: a3 :: a4 :: a5 :: a6 :: a7 :: a8 :: a9 :: o1 :: o2 :: L)) (i := 10) (zst_ok2 [a0, a1, a2, a3, a4, a5, a6, a7, a8, a9] o1 o2 L (vL x) (fun w e => zn_ok hc (by simpa using e))) h') hR
theorem z_ast_10 {a0 a1 a2 a3 a4 a5 a6 a7 a8 a9 : Option Value} {o1 : Option Value} {x : Nat} (hd : zAt M 2 pc pc' (.astore 10)) (hn : 10 < M.2.2.1) (hc : zn a9 = true) (k : Z l M d mc ms P pc' (a0 :: a1 :: a2 :: a3 :: a4 :: a5 :: a6 :: a7 :: a8 :: a9 :: some (.ref x) :: L) S h kc ks) : Z l M d mc ms P pc (a0 :: a1 :: a2 :: a3 :: a4 :: a5 :: a6 :: a7 :: a8 :: a9 :: o1 :: L) (.ref x :: S) h kc ks := by
  obtain ⟨hd, rfl⟩ := hd
  intro G p e s m args below meth c A H locs cells slots ls hCx hcc hss hl hR
  refine lv_astore hCx.1 hCx.2.1 hd hl hn rfl (fun ls' h' => ?_)
  exact k G p e s m args below meth c A H locs cells slots ls' hCx hcc hss (z_has1 (L := (a0 :: a1 :: a2 :: a3 :: a4 :: a5 :: a6 :: a7 :: a8 :: a9 :: o1 :: L)) (i := 10) (zst_ok [a0, a1, a2, a3, a4, a5, a6, a7, a8, a9] o1 L (.ref x) (fun w e => zn_ok hc (by simpa using e))) h') hR
theorem z_iinc_10 {a0 a1 a2 a3 a4 a5 a6 a7 a8 a9 : Option Value} {x n : Int} (hd : zAt M 3 pc pc' (.iinc 10 n)) (hn : 10 < M.2.2.1) (hc : zn a9 = true) (k : Z l M d mc ms P pc' (a0 :: a1 :: a2 :: a3 :: a4 :: a5 :: a6 :: a7 :: a8 :: a9 :: some (vI (x + n)) :: L) S h kc ks) : Z l M d mc ms P pc (a0 :: a1 :: a2 :: a3 :: a4 :: a5 :: a6 :: a7 :: a8 :: a9 :: some (vI x) :: L) S h kc ks := by
  obtain ⟨hd, rfl⟩ := hd
  intro G p e s m args below meth c A H locs cells slots ls hCx hcc hss hl hR
  obtain ⟨j, hj⟩ := List.mem_iff_getElem?.mp ((zp_mem (a0 :: a1 :: a2 :: a3 :: a4 :: a5 :: a6 :: a7 :: a8 :: a9 :: some (vI x) :: L) 0).mpr ⟨10, by omega, rfl⟩ : (10, vI x) ∈ zp 0 (a0 :: a1 :: a2 :: a3 :: a4 :: a5 :: a6 :: a7 :: a8 :: a9 :: some (vI x) :: L))
  refine lv_iinc (v := Int32.ofInt (x + n)) (x := Int32.ofInt x) hCx.1 hCx.2.1 hd hl hj (by rw [Int32.ofInt_add]) hn rfl (fun ls' h' => ?_)
  exact k G p e s m args below meth c A H locs cells slots ls' hCx hcc hss (z_has1 (L := (a0 :: a1 :: a2 :: a3 :: a4 :: a5 :: a6 :: a7 :: a8 :: a9 :: some (vI x) :: L)) (i := 10) (zst_ok [a0, a1, a2, a3, a4, a5, a6, a7, a8, a9] (some (vI x)) L (vI (x + n)) (fun w e => zn_ok hc (by simpa using e))) h') hR
theorem z_ild_11 {a0 a1 a2 a3 a4 a5 a6 a7 a8 a9 a10 : Option Value} {x : Int} (hd : zAt M 2 pc pc' (.iload 11)) (k : Z l M d mc ms P pc' (a0 :: a1 :: a2 :: a3 :: a4 :: a5 :: a6 :: a7 :: a8 :: a9 :: a10 :: some (vI x) :: L) (vI x :: S) h kc ks) : Z l M d mc ms P pc (a0 :: a1 :: a2 :: a3 :: a4 :: a5 :: a6 :: a7 :: a8 :: a9 :: a10 :: some (vI x) :: L) S h kc ks := by
  obtain ⟨hd, rfl⟩ := hd
  intro G p e s m args below meth c A H locs cells slots ls hCx hcc hss hl hR
  exact lv_iload hCx.1 hCx.2.1 hd (z_ls (i := 11) hl rfl) (k G p e s m args below meth c A H locs cells slots ls hCx hcc hss hl hR)
theorem z_lld_11 {a0 a1 a2 a3 a4 a5 a6 a7 a8 a9 a10 : Option Value} {x : Int} (hd : zAt M 2 pc pc' (.lload 11)) (k : Z l M d mc ms P pc' (a0 :: a1 :: a2 :: a3 :: a4 :: a5 :: a6 :: a7 :: a8 :: a9 :: a10 :: some (vL x) :: L) (vL x :: S) h kc ks) : Z l M d mc ms P pc (a0 :: a1 :: a2 :: a3 :: a4 :: a5 :: a6 :: a7 :: a8 :: a9 :: a10 :: some (vL x) :: L) S h kc ks := by
  obtain ⟨hd, rfl⟩ := hd
  intro G p e s m args below meth c A H locs cells slots ls hCx hcc hss hl hR
  exact lv_lload hCx.1 hCx.2.1 hd (z_ls (i := 11) hl rfl) (k G p e s m args below meth c A H locs cells slots ls hCx hcc hss hl hR)
theorem z_ald_11 {a0 a1 a2 a3 a4 a5 a6 a7 a8 a9 a10 : Option Value} {x : Nat} (hd : zAt M 2 pc pc' (.aload 11)) (k : Z l M d mc ms P pc' (a0 :: a1 :: a2 :: a3 :: a4 :: a5 :: a6 :: a7 :: a8 :: a9 :: a10 :: some (.ref x) :: L) (.ref x :: S) h kc ks) : Z l M d mc ms P pc (a0 :: a1 :: a2 :: a3 :: a4 :: a5 :: a6 :: a7 :: a8 :: a9 :: a10 :: some (.ref x) :: L) S h kc ks := by
  obtain ⟨hd, rfl⟩ := hd
  intro G p e s m args below meth c A H locs cells slots ls hCx hcc hss hl hR
  exact lv_aload hCx.1 hCx.2.1 hd (z_ls (i := 11) hl rfl) (k G p e s m args below meth c A H locs cells slots ls hCx hcc hss hl hR)
theorem z_ist_11 {a0 a1 a2 a3 a4 a5 a6 a7 a8 a9 a10 : Option Value} {o1 : Option Value} {x : Int} (hd : zAt M 2 pc pc' (.istore 11)) (hn : 11 < M.2.2.1) (hc : zn a10 = true) (k : Z l M d mc ms P pc' (a0 :: a1 :: a2 :: a3 :: a4 :: a5 :: a6 :: a7 :: a8 :: a9 :: a10 :: some (vI x) :: L) S h kc ks) : Z l M d mc ms P pc (a0 :: a1 :: a2 :: a3 :: a4 :: a5 :: a6 :: a7 :: a8 :: a9 :: a10 :: o1 :: L) (vI x :: S) h kc ks := by
  obtain ⟨hd, rfl⟩ := hd
  intro G p e s m args below meth c A H locs cells slots ls hCx hcc hss hl hR
  refine lv_istore hCx.1 hCx.2.1 hd hl hn rfl (fun ls' h' => ?_)
  exact k G p e s m args below meth c A H locs cells slots ls' hCx hcc hss (z_has1 (L := (a0 :: a1 :: a2 :: a3 :: a4 :: a5 :: a6 :: a7 :: a8 :: a9 :: a10 :: o1 :: L)) (i := 11) (zst_ok [a0, a1, a2, a3, a4, a5, a6, a7, a8, a9, a10] o1 L (vI x) (fun w e => zn_ok hc (by simpa using e))) h') hR
theorem z_lst_11 {a0 a1 a2 a3 a4 a5 a6 a7 a8 a9 a10 : Option Value} {o1 o2 : Option Value} {x : Int} (hd : zAt M 2 pc pc' (.lstore 11)) (hn : 11 + 1 < M.2.2.1) (hc : zn a10 = true) (k : Z l M d mc ms P pc' (a0 :: a1 :: a2 :: a3 :: a4 :: a5 :: a6 :: a7 :: a8 :: a9 :: a10 :: some (vL x) :: none :: L) S h kc ks) : Z l M d mc ms P pc (a0 :: a1 :: a2 :: a3 :: a4 :: a5 :: a6 :: a7 :: a8 :: a9 :: a10 :: o1 :: o2 :: L) (vL x :: S) h kc ks := by
  obtain ⟨hd, rfl⟩ := hd
  intro G p e s m args below meth c A H locs cells slots ls hCx hcc hss hl hR
  refine lv_lstore hCx.1 hCx.2.1 hd hl hn rfl (fun ls' h' => ?_)
  exact k G p e s m args below meth c A H locs cells slots ls' hCx hcc hss (z_has2 (L := (a0 :: a1 :: a2 :: a3 :: a4 :: a5 :: a6 :: a7 :: a8 :: a9 :: a10 :: o1 :: o2 :: L)) (i := 11) (zst_ok2 [a0, a1, a2, a3, a4, a5, a6, a7, a8, a9, a10] o1 o2 L (vL x) (fun w e => zn_ok hc (by simpa using e))) h') hR
theorem z_ast_11 {a0 a1 a2 a3 a4 a5 a6 a7 a8 a9 a10 : Option Value} {o1 : Option Value} {x : Nat} (hd : zAt M 2 pc pc' (.astore 11)) (hn : 11 < M.2.2.1) (hc : zn a10 = true) (k : Z l M d mc ms P pc' (a0 :: a1 :: a2 :: a3 :: a4 :: a5 :: a6 :: a7 :: a8 :: a9 :: a10 :: some (.ref x) :: L) S h kc ks) : Z l M d mc ms P pc (a0 :: a1 :: a2 :: a3 :: a4 :: a5 :: a6 :: a7 :: a8 :: a9 :: a10 :: o1 :: L) (.ref x :: S) h kc ks := by
  obtain ⟨hd, rfl⟩ := hd
  intro G p e s m args below meth c A H locs cells slots ls hCx hcc hss hl hR
  refine lv_astore hCx.1 hCx.2.1 hd hl hn rfl (fun ls' h' => ?_)
  exact k G p e s m args below meth c A H locs cells slots ls' hCx hcc hss (z_has1 (L := (a0 :: a1 :: a2 :: a3 :: a4 :: a5 :: a6 :: a7 :: a8 :: a9 :: a10 :: o1 :: L)) (i := 11) (zst_ok [a0, a1, a2, a3, a4, a5, a6, a7, a8, a9, a10] o1 L (.ref x) (fun w e => zn_ok hc (by simpa using e))) h') hR
theorem z_iinc_11 {a0 a1 a2 a3 a4 a5 a6 a7 a8 a9 a10 : Option Value} {x n : Int} (hd : zAt M 3 pc pc' (.iinc 11 n)) (hn : 11 < M.2.2.1) (hc : zn a10 = true) (k : Z l M d mc ms P pc' (a0 :: a1 :: a2 :: a3 :: a4 :: a5 :: a6 :: a7 :: a8 :: a9 :: a10 :: some (vI (x + n)) :: L) S h kc ks) : Z l M d mc ms P pc (a0 :: a1 :: a2 :: a3 :: a4 :: a5 :: a6 :: a7 :: a8 :: a9 :: a10 :: some (vI x) :: L) S h kc ks := by
  obtain ⟨hd, rfl⟩ := hd
  intro G p e s m args below meth c A H locs cells slots ls hCx hcc hss hl hR
  obtain ⟨j, hj⟩ := List.mem_iff_getElem?.mp ((zp_mem (a0 :: a1 :: a2 :: a3 :: a4 :: a5 :: a6 :: a7 :: a8 :: a9 :: a10 :: some (vI x) :: L) 0).mpr ⟨11, by omega, rfl⟩ : (11, vI x) ∈ zp 0 (a0 :: a1 :: a2 :: a3 :: a4 :: a5 :: a6 :: a7 :: a8 :: a9 :: a10 :: some (vI x) :: L))
  refine lv_iinc (v := Int32.ofInt (x + n)) (x := Int32.ofInt x) hCx.1 hCx.2.1 hd hl hj (by rw [Int32.ofInt_add]) hn rfl (fun ls' h' => ?_)
  exact k G p e s m args below meth c A H locs cells slots ls' hCx hcc hss (z_has1 (L := (a0 :: a1 :: a2 :: a3 :: a4 :: a5 :: a6 :: a7 :: a8 :: a9 :: a10 :: some (vI x) :: L)) (i := 11) (zst_ok [a0, a1, a2, a3, a4, a5, a6, a7, a8, a9, a10] (some (vI x)) L (vI (x + n)) (fun w e => zn_ok hc (by simpa using e))) h') hR
theorem z_ild_12 {a0 a1 a2 a3 a4 a5 a6 a7 a8 a9 a10 a11 : Option Value} {x : Int} (hd : zAt M 2 pc pc' (.iload 12)) (k : Z l M d mc ms P pc' (a0 :: a1 :: a2 :: a3 :: a4 :: a5 :: a6 :: a7 :: a8 :: a9 :: a10 :: a11 :: some (vI x) :: L) (vI x :: S) h kc ks) : Z l M d mc ms P pc (a0 :: a1 :: a2 :: a3 :: a4 :: a5 :: a6 :: a7 :: a8 :: a9 :: a10 :: a11 :: some (vI x) :: L) S h kc ks := by
  obtain ⟨hd, rfl⟩ := hd
  intro G p e s m args below meth c A H locs cells slots ls hCx hcc hss hl hR
  exact lv_iload hCx.1 hCx.2.1 hd (z_ls (i := 12) hl rfl) (k G p e s m args below meth c A H locs cells slots ls hCx hcc hss hl hR)
theorem z_lld_12 {a0 a1 a2 a3 a4 a5 a6 a7 a8 a9 a10 a11 : Option Value} {x : Int} (hd : zAt M 2 pc pc' (.lload 12)) (k : Z l M d mc ms P pc' (a0 :: a1 :: a2 :: a3 :: a4 :: a5 :: a6 :: a7 :: a8 :: a9 :: a10 :: a11 :: some (vL x) :: L) (vL x :: S) h kc ks) : Z l M d mc ms P pc (a0 :: a1 :: a2 :: a3 :: a4 :: a5 :: a6 :: a7 :: a8 :: a9 :: a10 :: a11 :: some (vL x) :: L) S h kc ks := by
  obtain ⟨hd, rfl⟩ := hd
  intro G p e s m args below meth c A H locs cells slots ls hCx hcc hss hl hR
  exact lv_lload hCx.1 hCx.2.1 hd (z_ls (i := 12) hl rfl) (k G p e s m args below meth c A H locs cells slots ls hCx hcc hss hl hR)
theorem z_ald_12 {a0 a1 a2 a3 a4 a5 a6 a7 a8 a9 a10 a11 : Option Value} {x : Nat} (hd : zAt M 2 pc pc' (.aload 12)) (k : Z l M d mc ms P pc' (a0 :: a1 :: a2 :: a3 :: a4 :: a5 :: a6 :: a7 :: a8 :: a9 :: a10 :: a11 :: some (.ref x) :: L) (.ref x :: S) h kc ks) : Z l M d mc ms P pc (a0 :: a1 :: a2 :: a3 :: a4 :: a5 :: a6 :: a7 :: a8 :: a9 :: a10 :: a11 :: some (.ref x) :: L) S h kc ks := by
  obtain ⟨hd, rfl⟩ := hd
  intro G p e s m args below meth c A H locs cells slots ls hCx hcc hss hl hR
  exact lv_aload hCx.1 hCx.2.1 hd (z_ls (i := 12) hl rfl) (k G p e s m args below meth c A H locs cells slots ls hCx hcc hss hl hR)
theorem z_ist_12 {a0 a1 a2 a3 a4 a5 a6 a7 a8 a9 a10 a11 : Option Value} {o1 : Option Value} {x : Int} (hd : zAt M 2 pc pc' (.istore 12)) (hn : 12 < M.2.2.1) (hc : zn a11 = true) (k : Z l M d mc ms P pc' (a0 :: a1 :: a2 :: a3 :: a4 :: a5 :: a6 :: a7 :: a8 :: a9 :: a10 :: a11 :: some (vI x) :: L) S h kc ks) : Z l M d mc ms P pc (a0 :: a1 :: a2 :: a3 :: a4 :: a5 :: a6 :: a7 :: a8 :: a9 :: a10 :: a11 :: o1 :: L) (vI x :: S) h kc ks := by
  obtain ⟨hd, rfl⟩ := hd
  intro G p e s m args below meth c A H locs cells slots ls hCx hcc hss hl hR
  refine lv_istore hCx.1 hCx.2.1 hd hl hn rfl (fun ls' h' => ?_)
  exact k G p e s m args below meth c A H locs cells slots ls' hCx hcc hss (z_has1 (L := (a0 :: a1 :: a2 :: a3 :: a4 :: a5 :: a6 :: a7 :: a8 :: a9 :: a10 :: a11 :: o1 :: L)) (i := 12) (zst_ok [a0, a1, a2, a3, a4, a5, a6, a7, a8, a9, a10, a11] o1 L (vI x) (fun w e => zn_ok hc (by simpa using e))) h') hR
theorem z_lst_12 {a0 a1 a2 a3 a4 a5 a6 a7 a8 a9 a10 a11 : Option Value} {o1 o2 : Option Value} {x : Int} (hd : zAt M 2 pc pc' (.lstore 12)) (hn : 12 + 1 < M.2.2.1) (hc : zn a11 = true) (k : Z l M d mc ms P pc' (a0 :: a1 :: a2 :: a3 :: a4 :: a5 :: a6 :: a7 :: a8 :: a9 :: a10 :: a11 :: some (vL x) :: none :: L) S h kc ks) : Z l M d mc ms P pc (a0 :: a1 :: a2 :: a3 :: a4 :: a5 :: a6 :: a7 :: a8 :: a9 :: a10 :: a11 :: o1 :: o2 :: L) (vL x :: S) h kc ks := by
  obtain ⟨hd, rfl⟩ := hd
  intro G p e s m args below meth c A H locs cells slots ls hCx hcc hss hl hR
  refine lv_lstore hCx.1 hCx.2.1 hd hl hn rfl (fun ls' h' => ?_)
  exact k G p e s m args below meth c A H locs cells slots ls' hCx hcc hss (z_has2 (L := (a0 :: a1 :: a2 :: a3 :: a4 :: a5 :: a6 :: a7 :: a8 :: a9 :: a10 :: a11 :: o1 :: o2 :: L)) (i := 12) (zst_ok2 [a0, a1, a2, a3, a4, a5, a6, a7, a8, a9, a10, a11] o1 o2 L (vL x) (fun w e => zn_ok hc (by simpa using e))) h') hR
theorem z_ast_12 {a0 a1 a2 a3 a4 a5 a6 a7 a8 a9 a10 a11 : Option Value} {o1 : Option Value} {x : Nat} (hd : zAt M 2 pc pc' (.astore 12)) (hn : 12 < M.2.2.1) (hc : zn a11 = true) (k : Z l M d mc ms P pc' (a0 :: a1 :: a2 :: a3 :: a4 :: a5 :: a6 :: a7 :: a8 :: a9 :: a10 :: a11 :: some (.ref x) :: L) S h kc ks) : Z l M d mc ms P pc (a0 :: a1 :: a2 :: a3 :: a4 :: a5 :: a6 :: a7 :: a8 :: a9 :: a10 :: a11 :: o1 :: L) (.ref x :: S) h kc ks := by
  obtain ⟨hd, rfl⟩ := hd
  intro G p e s m args below meth c A H locs cells slots ls hCx hcc hss hl hR
  refine lv_astore hCx.1 hCx.2.1 hd hl hn rfl (fun ls' h' => ?_)
  exact k G p e s m args below meth c A H locs cells slots ls' hCx hcc hss (z_has1 (L := (a0 :: a1 :: a2 :: a3 :: a4 :: a5 :: a6 :: a7 :: a8 :: a9 :: a10 :: a11 :: o1 :: L)) (i := 12) (zst_ok [a0, a1, a2, a3, a4, a5, a6, a7, a8, a9, a10, a11] o1 L (.ref x) (fun w e => zn_ok hc (by simpa using e))) h') hR
theorem z_iinc_12 {a0 a1 a2 a3 a4 a5 a6 a7 a8 a9 a10 a11 : Option Value} {x n : Int} (hd : zAt M 3 pc pc' (.iinc 12 n)) (hn : 12 < M.2.2.1) (hc : zn a11 = true) (k : Z l M d mc ms P pc' (a0 :: a1 :: a2 :: a3 :: a4 :: a5 :: a6 :: a7 :: a8 :: a9 :: a10 :: a11 :: some (vI (x + n)) :: L) S h kc ks) : Z l M d mc ms P pc (a0 :: a1 :: a2 :: a3 :: a4 :: a5 :: a6 :: a7 :: a8 :: a9 :: a10 :: a11 :: some (vI x) :: L) S h kc ks := by
  obtain ⟨hd, rfl⟩ := hd
  intro G p e s m args below meth c A H locs cells slots ls hCx hcc hss hl hR
  obtain ⟨j, hj⟩ := List.mem_iff_getElem?.mp ((zp_mem (a0 :: a1 :: a2 :: a3 :: a4 :: a5 :: a6 :: a7 :: a8 :: a9 :: a10 :: a11 :: some (vI x) :: L) 0).mpr ⟨12, by omega, rfl⟩ : (12, vI x) ∈ zp 0 (a0 :: a1 :: a2 :: a3 :: a4 :: a5 :: a6 :: a7 :: a8 :: a9 :: a10 :: a11 :: some (vI x) :: L))
  refine lv_iinc (v := Int32.ofInt (x + n)) (x := Int32.ofInt x) hCx.1 hCx.2.1 hd hl hj (by rw [Int32.ofInt_add]) hn rfl (fun ls' h' => ?_)
  exact k G p e s m args below meth c A H locs cells slots ls' hCx hcc hss (z_has1 (L := (a0 :: a1 :: a2 :: a3 :: a4 :: a5 :: a6 :: a7 :: a8 :: a9 :: a10 :: a11 :: some (vI x) :: L)) (i := 12) (zst_ok [a0, a1, a2, a3, a4, a5, a6, a7, a8, a9, a10, a11] (some (vI x)) L (vI (x + n)) (fun w e => zn_ok hc (by simpa using e))) h') hR
theorem z_ild_13 {a0 a1 a2 a3 a4 a5 a6 a7 a8 a9 a10 a11 a12 : Option Value} {x : Int} (hd : zAt M 2 pc pc' (.iload 13)) (k : Z l M d mc ms P pc' (a0 :: a1 :: a2 :: a3 :: a4 :: a5 :: a6 :: a7 :: a8 :: a9 :: a10 :: a11 :: a12 :: some (vI x) :: L) (vI x :: S) h kc ks) : Z l M d mc ms P pc (a0 :: a1 :: a2 :: a3 :: a4 :: a5 :: a6 :: a7 :: a8 :: a9 :: a10 :: a11 :: a12 :: some (vI x) :: L) S h kc ks := by
  obtain ⟨hd, rfl⟩ := hd
  intro G p e s m args below meth c A H locs cells slots ls hCx hcc hss hl hR
  exact lv_iload hCx.1 hCx.2.1 hd (z_ls (i := 13) hl rfl) (k G p e s m args below meth c A H locs cells slots ls hCx hcc hss hl hR)
theorem z_lld_13 {a0 a1 a2 a3 a4 a5 a6 a7 a8 a9 a10 a11 a12 : Option Value} {x : Int} (hd : zAt M 2 pc pc' (.lload 13)) (k : Z l M d mc ms P pc' (a0 :: a1 :: a2 :: a3 :: a4 :: a5 :: a6 :: a7 :: a8 :: a9 :: a10 :: a11 :: a12 :: some (vL x) :: L) (vL x :: S) h kc ks) : Z l M d mc ms P pc (a0 :: a1 :: a2 :: a3 :: a4 :: a5 :: a6 :: a7 :: a8 :: a9 :: a10 :: a11 :: a12 :: some (vL x) :: L) S h kc ks := by
  obtain ⟨hd, rfl⟩ := hd
  intro G p e s m args below meth c A H locs cells slots ls hCx hcc hss hl hR
  exact lv_lload hCx.1 hCx.2.1 hd (z_ls (i := 13) hl rfl) (k G p e s m args below meth c A H locs cells slots ls hCx hcc hss hl hR)
theorem z_ald_13 {a0 a1 a2 a3 a4 a5 a6 a7 a8 a9 a10 a11 a12 : Option Value} {x : Nat} (hd : zAt M 2 pc pc' (.aload 13)) (k : Z l M d mc ms P pc' (a0 :: a1 :: a2 :: a3 :: a4 :: a5 :: a6 :: a7 :: a8 :: a9 :: a10 :: a11 :: a12 :: some (.ref x) :: L) (.ref x :: S) h kc ks) : Z l M d mc ms P pc (a0 :: a1 :: a2 :: a3 :: a4 :: a5 :: a6 :: a7 :: a8 :: a9 :: a10 :: a11 :: a12 :: some (.ref x) :: L) S h kc ks := by
  obtain ⟨hd, rfl⟩ := hd
  intro G p e s m args below meth c A H locs cells slots ls hCx hcc hss hl hR
  exact lv_aload hCx.1 hCx.2.1 hd (z_ls (i := 13) hl rfl) (k G p e s m args below meth c A H locs cells slots ls hCx hcc hss hl hR)
theorem z_ist_13 {a0 a1 a2 a3 a4 a5 a6 a7 a8 a9 a10 a11 a12 : Option Value} {o1 : Option Value} {x : Int} (hd : zAt M 2 pc pc' (.istore 13)) (hn : 13 < M.2.2.1) (hc : zn a12 = true) (k : Z l M d mc ms P pc' (a0 :: a1 :: a2 :: a3 :: a4 :: a5 :: a6 :: a7 :: a8 :: a9 :: a10 :: a11 :: a12 :: some (vI x) :: L) S h kc ks) : Z l M d mc ms P pc (a0 :: a1 :: a2 :: a3 :: a4 :: a5 :: a6 :: a7 :: a8 :: a9 :: a10 :: a11 :: a12 :: o1 :: L) (vI x :: S) h kc ks := by
  obtain ⟨hd, rfl⟩ := hd
  intro G p e s m args below meth c A H locs cells slots ls hCx hcc hss hl hR
  refine lv_istore hCx.1 hCx.2.1 hd hl hn rfl (fun ls' h' => ?_)
  exact k G p e s m args below meth c A H locs cells slots ls' hCx hcc hss (z_has1 (L := (a0 :: a1 :: a2 :: a3 :: a4 :: a5 :: a6 :: a7 :: a8 :: a9 :: a10 :: a11 :: a12 :: o1 :: L)) (i := 13) (zst_ok [a0, a1, a2, a3, a4, a5, a6, a7, a8, a9, a10, a11, a12] o1 L (vI x) (fun w e => zn_ok hc (by simpa using e))) h') hR
theorem z_lst_13 {a0 a1 a2 a3 a4 a5 a6 a7 a8 a9 a10 a11 a12 : Option Value} {o1 o2 : Option Value} {x : Int} (hd : zAt M 2 pc pc' (.lstore 13)) (hn : 13 + 1 < M.2.2.1) (hc : zn a12 = true) (k : Z l M d mc ms P pc' (a0 :: a1 :: a2 :: a3 :: a4 :: a5 :: a6 :: a7 :: a8 :: a9 :: a10 :: a11 :: a12 :: some (vL x) :: none :: L) S h kc ks) : Z l M d mc ms P pc (a0 :: a1 :: a2 :: a3 :: a4 :: a5 :: a6 :: a7 :: a8 :: a9 :: a10 :: a11 :: a12 :: o1 :: o2 :: L) (vL x :: S) h kc ks := by
  obtain ⟨hd, rfl⟩ := hd
  intro G p e s m args below meth c A H locs cells slots ls hCx hcc hss hl hR
  refine lv_lstore hCx.1 hCx.2.1 hd hl hn rfl (fun ls' h' => ?_)
  exact k G p e s m args below meth c A H locs cells slots ls' hCx hcc hss (z_has2 (L := (a0 :: a1 :: a2 :: a3 :: a4 :: a5 :: a6 :: a7 :: a8 :: a9 :: a10 :: a11 :: a12 :: o1 :: o2 :: L)) (i := 13) (zst_ok2 [a0, a1, a2, a3, a4, a5, a6, a7, a8, a9, a10, a11, a12] o1 o2 L (vL x) (fun w e => zn_ok hc (by simpa using e))) h') hR
theorem z_ast_13 {a0 a1 a2 a3 a4 a5 a6 a7 a8 a9 a10 a11 a12 : Option Value} {o1 : Option Value} {x : Nat} (hd : zAt M 2 pc pc' (.astore 13)) (hn : 13 < M.2.2.1) (hc : zn a12 = true) (k : Z l M d mc ms P pc' (a0 :: a1 :: a2 :: a3 :: a4 :: a5 :: a6 :: a7 :: a8 :: a9 :: a10 :: a11 :: a12 :: some (.ref x) :: L) S h kc ks) : Z l M d mc ms P pc (a0 :: a1 :: a2 :: a3 :: a4 :: a5 :: a6 :: a7 :: a8 :: a9 :: a10 :: a11 :: a12 :: o1 :: L) (.ref x :: S) h kc ks := by
  obtain ⟨hd, rfl⟩ := hd
  intro G p e s m args below meth c A H locs cells slots ls hCx hcc hss hl hR
  refine lv_astore hCx.1 hCx.2.1 hd hl hn rfl (fun ls' h' => ?_)
  exact k G p e s m args below meth c A H locs cells slots ls' hCx hcc hss (z_has1 (L := (a0 :: a1 :: a2 :: a3 :: a4 :: a5 :: a6 :: a7 :: a8 :: a9 :: a10 :: a11 :: a12 :: o1 :: L)) (i := 13) (zst_ok [a0, a1, a2, a3, a4, a5, a6, a7, a8, a9, a10, a11, a12] o1 L (.ref x) (fun w e => zn_ok hc (by simpa using e))) h') hR
theorem z_iinc_13 {a0 a1 a2 a3 a4 a5 a6 a7 a8 a9 a10 a11 a12 : Option Value} {x n : Int} (hd : zAt M 3 pc pc' (.iinc 13 n)) (hn : 13 < M.2.2.1) (hc : zn a12 = true) (k : Z l M d mc ms P pc' (a0 :: a1 :: a2 :: a3 :: a4 :: a5 :: a6 :: a7 :: a8 :: a9 :: a10 :: a11 :: a12 :: some (vI (x + n)) :: L) S h kc ks) : Z l M d mc ms P pc (a0 :: a1 :: a2 :: a3 :: a4 :: a5 :: a6 :: a7 :: a8 :: a9 :: a10 :: a11 :: a12 :: some (vI x) :: L) S h kc ks := by
  obtain ⟨hd, rfl⟩ := hd
  intro G p e s m args below meth c A H locs cells slots ls hCx hcc hss hl hR
  obtain ⟨j, hj⟩ := List.mem_iff_getElem?.mp ((zp_mem (a0 :: a1 :: a2 :: a3 :: a4 :: a5 :: a6 :: a7 :: a8 :: a9 :: a10 :: a11 :: a12 :: some (vI x) :: L) 0).mpr ⟨13, by omega, rfl⟩ : (13, vI x) ∈ zp 0 (a0 :: a1 :: a2 :: a3 :: a4 :: a5 :: a6 :: a7 :: a8 :: a9 :: a10 :: a11 :: a12 :: some (vI x) :: L))
  refine lv_iinc (v := Int32.ofInt (x + n)) (x := Int32.ofInt x) hCx.1 hCx.2.1 hd hl hj (by rw [Int32.ofInt_add]) hn rfl (fun ls' h' => ?_)
  exact k G p e s m args below meth c A H locs cells slots ls' hCx hcc hss (z_has1 (L := (a0 :: a1 :: a2 :: a3 :: a4 :: a5 :: a6 :: a7 :: a8 :: a9 :: a10 :: a11 :: a12 :: some (vI x) :: L)) (i := 13) (zst_ok [a0, a1, a2, a3, a4, a5, a6, a7, a8, a9, a10, a11, a12] (some (vI x)) L (vI (x + n)) (fun w e => zn_ok hc (by simpa using e))) h') hR
theorem z_ild_14 {a0 a1 a2 a3 a4 a5 a6 a7 a8 a9 a10 a11 a12 a13 : Option Value} {x : Int} (hd : zAt M 2 pc pc' (.iload 14)) (k : Z l M d mc ms P pc' (a0 :: a1 :: a2 :: a3 :: a4 :: a5 :: a6 :: a7 :: a8 :: a9 :: a10 :: a11 :: a12 :: a13 :: some (vI x) :: L) (vI x :: S) h kc ks) : Z l M d mc ms P pc (a0 :: a1 :: a2 :: a3 :: a4 :: a5 :: a6 :: a7 :: a8 :: a9 :: a10 :: a11 :: a12 :: a13 :: some (vI x) :: L) S h kc ks := by
  obtain ⟨hd, rfl⟩ := hd
  intro G p e s m args below meth c A H locs cells slots ls hCx hcc hss hl hR
  exact lv_iload hCx.1 hCx.2.1 hd (z_ls (i := 14) hl rfl) (k G p e s m args below meth c A H locs cells slots ls hCx hcc hss hl hR)
theorem z_lld_14 {a0 a1 a2 a3 a4 a5 a6 a7 a8 a9 a10 a11 a12 a13 : Option Value} {x : Int} (hd : zAt M 2 pc pc' (.lload 14)) (k : Z l M d mc ms P pc' (a0 :: a1 :: a2 :: a3 :: a4 :: a5 :: a6 :: a7 :: a8 :: a9 :: a10 :: a11 :: a12 :: a13 :: some (vL x) :: L) (vL x :: S) h kc ks) : Z l M d mc ms P pc (a0 :: a1 :: a2 :: a3 :: a4 :: a5 :: a6 :: a7 :: a8 :: a9 :: a10 :: a11 :: a12 :: a13 :: some (vL x) :: L) S h kc ks := by
  obtain ⟨hd, rfl⟩ := hd
  intro G p e s m args below meth c A H locs cells slots ls hCx hcc hss hl hR
  exact lv_lload hCx.1 hCx.2.1 hd (z_ls (i := 14) hl rfl) (k G p e s m args below meth c A H locs cells slots ls hCx hcc hss hl hR)
theorem z_ald_14 {a0 a1 a2 a3 a4 a5 a6 a7 a8 a9 a10 a11 a12 a13 : Option Value} {x : Nat} (hd : zAt M 2 pc pc' (.aload 14)) (k : Z l M d mc ms P pc' (a0 :: a1 :: a2 :: a3 :: a4 :: a5 :: a6 :: a7 :: a8 :: a9 :: a10 :: a11 :: a12 :: a13 :: some (.ref x) :: L) (.ref x :: S) h kc ks) : Z l M d mc ms P pc (a0 :: a1 :: a2 :: a3 :: a4 :: a5 :: a6 :: a7 :: a8 :: a9 :: a10 :: a11 :: a12 :: a13 :: some (.ref x) :: L) S h kc ks := by
  obtain ⟨hd, rfl⟩ := hd
  intro G p e s m args below meth c A H locs cells slots ls hCx hcc hss hl hR
  exact lv_aload hCx.1 hCx.2.1 hd (z_ls (i := 14) hl rfl) (k G p e s m args below meth c A H locs cells slots ls hCx hcc hss hl hR)
theorem z_ist_14 {a0 a1 a2 a3 a4 a5 a6 a7 a8 a9 a10 a11 a12 a13 : Option Value} {o1 : Option Value} {x : Int} (hd : zAt M 2 pc pc' (.istore 14)) (hn : 14 < M.2.2.1) (hc : zn a13 = true) (k : Z l M d mc ms P pc' (a0 :: a1 :: a2 :: a3 :: a4 :: a5 :: a6 :: a7 :: a8 :: a9 :: a10 :: a11 :: a12 :: a13 :: some (vI x) :: L) S h kc ks) : Z l M d mc ms P pc (a0 :: a1 :: a2 :: a3 :: a4 :: a5 :: a6 :: a7 :: a8 :: a9 :: a10 :: a11 :: a12 :: a13 :: o1 :: L) (vI x :: S) h kc ks := by
  obtain ⟨hd, rfl⟩ := hd
  intro G p e s m args below meth c A H locs cells slots ls hCx hcc hss hl hR
  refine lv_istore hCx.1 hCx.2.1 hd hl hn rfl (fun ls' h' => ?_)
  exact k G p e s m args below meth c A H locs cells slots ls' hCx hcc hss (z_has1 (L := (a0 :: a1 :: a2 :: a3 :: a4 :: a5 :: a6 :: a7 :: a8 :: a9 :: a10 :: a11 :: a12 :: a13 :: o1 :: L)) (i := 14) (zst_ok [a0, a1, a2, a3, a4, a5, a6, a7, a8, a9, a10, a11, a12, a13] o1 L (vI x) (fun w e => zn_ok hc (by simpa using e))) h') hR
theorem z_lst_14 {a0 a1 a2 a3 a4 a5 a6 a7 a8 a9 a10 a11 a12 a13 : Option Value} {o1 o2 : Option Value} {x : Int} (hd : zAt M 2 pc pc' (.lstore 14)) (hn : 14 + 1 < M.2.2.1) (hc : zn a13 = true) (k : Z l M d mc ms P pc' (a0 :: a1 :: a2 :: a3 :: a4 :: a5 :: a6 :: a7 :: a8 :: a9 :: a10 :: a11 :: a12 :: a13 :: some (vL x) :: none :: L) S h kc ks) : Z l M d mc ms P pc (a0 :: a1 :: a2 :: a3 :: a4 :: a5 :: a6 :: a7 :: a8 :: a9 :: a10 :: a11 :: a12 :: a13 :: o1 :: o2 :: L) (vL x :: S) h kc ks := by
  obtain ⟨hd, rfl⟩ := hd
  intro G p e s m args below meth c A H locs cells slots ls hCx hcc hss hl hR
  refine lv_lstore hCx.1 hCx.2.1 hd hl hn rfl (fun ls' h' => ?_)
  exact k G p e s m args below meth c A H locs cells slots ls' hCx hcc hss (z_has2 (L := (a0 :: a1 :: a2 :: a3 :: a4 :: a5 :: a6 :: a7 :: a8 :: a9 :: a10 :: a11 :: a12 :: a13 :: o1 :: o2 :: L)) (i := 14) (zst_ok2 [a0, a1, a2, a3, a4, a5, a6, a7, a8, a9, a10, a11, a12, a13] o1 o2 L (vL x) (fun w e => zn_ok hc (by simpa using e))) h') hR
theorem z_ast_14 {a0 a1 a2 a3 a4 a5 a6 a7 a8 a9 a10 a11 a12 a13 : Option Value} {o1 : Option Value} {x : Nat} (hd : zAt M 2 pc pc' (.astore 14)) (hn : 14 < M.2.2.1) (hc : zn a13 = true) (k : Z l M d mc ms P pc' (a0 :: a1 :: a2 :: a3 :: a4 :: a5 :: a6 :: a7 :: a8 :: a9 :: a10 :: a11 :: a12 :: a13 :: some (.ref x) :: L) S h kc ks) : Z l M d mc ms P pc (a0 :: a1 :: a2 :: a3 :: a4 :: a5 :: a6 :: a7 :: a8 :: a9 :: a10 :: a11 :: a12 :: a13 :: o1 :: L) (.ref x :: S) h kc ks := by
  obtain ⟨hd, rfl⟩ := hd
  intro G p e s m args below meth c A H locs cells slots ls hCx hcc hss hl hR
  refine lv_astore hCx.1 hCx.2.1 hd hl hn rfl (fun ls' h' => ?_)
  exact k G p e s m args below meth c A H locs cells slots ls' hCx hcc hss (z_has1 (L := (a0 :: a1 :: a2 :: a3 :: a4 :: a5 :: a6 :: a7 :: a8 :: a9 :: a10 :: a11 :: a12 :: a13 :: o1 :: L)) (i := 14) (zst_ok [a0, a1, a2, a3, a4, a5, a6, a7, a8, a9, a10, a11, a12, a13] o1 L (.ref x) (fun w e => zn_ok hc (by simpa using e))) h') hR
theorem z_iinc_14 {a0 a1 a2 a3 a4 a5 a6 a7 a8 a9 a10 a11 a12 a13 : Option Value} {x n : Int} (hd : zAt M 3 pc pc' (.iinc 14 n)) (hn : 14 < M.2.2.1) (hc : zn a13 = true) (k : Z l M d mc ms P pc' (a0 :: a1 :: a2 :: a3 :: a4 :: a5 :: a6 :: a7 :: a8 :: a9 :: a10 :: a11 :: a12 :: a13 :: some (vI (x + n)) :: L) S h kc ks) : Z l M d mc ms P pc (a0 :: a1 :: a2 :: a3 :: a4 :: a5 :: a6 :: a7 :: a8 :: a9 :: a10 :: a11 :: a12 :: a13 :: some (vI x) :: L) S h kc ks := by
  obtain ⟨hd, rfl⟩ := hd
  intro G p e s m args below meth c A H locs cells slots ls hCx hcc hss hl hR
  obtain ⟨j, hj⟩ := List.mem_iff_getElem?.mp ((zp_mem (a0 :: a1 :: a2 :: a3 :: a4 :: a5 :: a6 :: a7 :: a8 :: a9 :: a10 :: a11 :: a12 :: a13 :: some (vI x) :: L) 0).mpr ⟨14, by omega, rfl⟩ : (14, vI x) ∈ zp 0 (a0 :: a1 :: a2 :: a3 :: a4 :: a5 :: a6 :: a7 :: a8 :: a9 :: a10 :: a11 :: a12 :: a13 :: some (vI x) :: L))
  refine lv_iinc (v := Int32.ofInt (x + n)) (x := Int32.ofInt x) hCx.1 hCx.2.1 hd hl hj (by rw [Int32.ofInt_add]) hn rfl (fun ls' h' => ?_)
  exact k G p e s m args below meth c A H locs cells slots ls' hCx hcc hss (z_has1 (L := (a0 :: a1 :: a2 :: a3 :: a4 :: a5 :: a6 :: a7 :: a8 :: a9 :: a10 :: a11 :: a12 :: a13 :: some (vI x) :: L)) (i := 14) (zst_ok [a0, a1, a2, a3, a4, a5, a6, a7, a8, a9, a10, a11, a12, a13] (some (vI x)) L (vI (x + n)) (fun w e => zn_ok hc (by simpa using e))) h') hR
theorem z_ild_15 {a0 a1 a2 a3 a4 a5 a6 a7 a8 a9 a10 a11 a12 a13 a14 : Option Value} {x : Int} (hd : zAt M 2 pc pc' (.iload 15)) (k : Z l M d mc ms P pc' (a0 :: a1 :: a2 :: a3 :: a4 :: a5 :: a6 :: a7 :: a8 :: a9 :: a10 :: a11 :: a12 :: a13 :: a14 :: some (vI x) :: L) (vI x :: S) h kc ks) : Z l M d mc ms P pc (a0 :: a1 :: a2 :: a3 :: a4 :: a5 :: a6 :: a7 :: a8 :: a9 :: a10 :: a11 :: a12 :: a13 :: a14 :: some (vI x) :: L) S h kc ks := by
  obtain ⟨hd, rfl⟩ := hd
  intro G p e s m args below meth c A H locs cells slots ls hCx hcc hss hl hR
  exact lv_iload hCx.1 hCx.2.1 hd (z_ls (i := 15) hl rfl) (k G p e s m args below meth c A H locs cells slots ls hCx hcc hss hl hR)
theorem z_lld_15 {a0 a1 a2 a3 a4 a5 a6 a7 a8 a9 a10 a11 a12 a13 a14 : Option Value} {x : Int} (hd : zAt M 2 pc pc' (.lload 15)) (k : Z l M d mc ms P pc' (a0 :: a1 :: a2 :: a3 :: a4 :: a5 :: a6 :: a7 :: a8 :: a9 :: a10 :: a11 :: a12 :: a13 :: a14 :: some (vL x) :: L) (vL x :: S) h kc ks) : Z l M d mc ms P pc (a0 :: a1 :: a2 :: a3 :: a4 :: a5 :: a6 :: a7 :: a8 :: a9 :: a10 :: a11 :: a12 :: a13 :: a14 :: some (vL x) :: L) S h kc ks := by
  obtain ⟨hd, rfl⟩ := hd
  intro G p e s m args below meth c A H locs cells slots ls hCx hcc hss hl hR
  exact lv_lload hCx.1 hCx.2.1 hd (z_ls (i := 15) hl rfl) (k G p e s m args below meth c A H locs cells slots ls hCx hcc hss hl hR)
theorem z_ald_15 {a0 a1 a2 a3 a4 a5 a6 a7 a8 a9 a10 a11 a12 a13 a14 : Option Value} {x : Nat} (hd : zAt M 2 pc pc' (.aload 15)) (k : Z l M d mc ms P pc' (a0 :: a1 :: a2 :: a3 :: a4 :: a5 :: a6 :: a7 :: a8 :: a9 :: a10 :: a11 :: a12 :: a13 :: a14 :: some (.ref x) :: L) (.ref x :: S) h kc ks) : Z l M d mc ms P pc (a0 :: a1 :: a2 :: a3 :: a4 :: a5 :: a6 :: a7 :: a8 :: a9 :: a10 :: a11 :: a12 :: a13 :: a14 :: some (.ref x) :: L) S h kc ks := by
  obtain ⟨hd, rfl⟩ := hd
  intro G p e s m args below meth c A H locs cells slots ls hCx hcc hss hl hR
  exact lv_aload hCx.1 hCx.2.1 hd (z_ls (i := 15) hl rfl) (k G p e s m args below meth c A H locs cells slots ls hCx hcc hss hl hR)
theorem z_ist_15 {a0 a1 a2 a3 a4 a5 a6 a7 a8 a9 a10 a11 a12 a13 a14 : Option Value} {o1 : Option Value} {x : Int} (hd : zAt M 2 pc pc' (.istore 15)) (hn : 15 < M.2.2.1) (hc : zn a14 = true) (k : Z l M d mc ms P pc' (a0 :: a1 :: a2 :: a3 :: a4 :: a5 :: a6 :: a7 :: a8 :: a9 :: a10 :: a11 :: a12 :: a13 :: a14 :: some (vI x) :: L) S h kc ks) : Z l M d mc ms P pc (a0 :: a1 :: a2 :: a3 :: a4 :: a5 :: a6 :: a7 :: a8 :: a9 :: a10 :: a11 :: a12 :: a13 :: a14 :: o1 :: L) (vI x :: S) h kc ks := by
  obtain ⟨hd, rfl⟩ := hd
  intro G p e s m args below meth c A H locs cells slots ls hCx hcc hss hl hR
  refine lv_istore hCx.1 hCx.2.1 hd hl hn rfl (fun ls' h' => ?_)
  exact k G p e s m args below meth c A H locs cells slots ls' hCx hcc hss (z_has1 (L := (a0 :: a1 :: a2 :: a3 :: a4 :: a5 :: a6 :: a7 :: a8 :: a9 :: a10 :: a11 :: a12 :: a13 :: a14 :: o1 :: L)) (i := 15) (zst_ok [a0, a1, a2, a3, a4, a5, a6, a7, a8, a9, a10, a11, a12, a13, a14] o1 L (vI x) (fun w e => zn_ok hc (by simpa using e))) h') hR
theorem z_lst_15 {a0 a1 a2 a3 a4 a5 a6 a7 a8 a9 a10 a11 a12 a13 a14 : Option Value} {o1 o2 : Option Value} {x : Int} (hd : zAt M 2 pc pc' (.lstore 15)) (hn : 15 + 1 < M.2.2.1) (hc : zn a14 = true) (k : Z l M d mc ms P pc' (a0 :: a1 :: a2 :: a3 :: a4 :: a5 :: a6 :: a7 :: a8 :: a9 :: a10 :: a11 :: a12 :: a13 :: a14 :: some (vL x) :: none :: L) S h kc ks) : Z l M d mc ms P pc (a0 :: a1 :: a2 :: a3 :: a4 :: a5 :: a6 :: a7 :: a8 :: a9 :: a10 :: a11 :: a12 :: a13 :: a14 :: o1 :: o2 :: L) (vL x :: S) h kc ks := by
  obtain ⟨hd, rfl⟩ := hd
  intro G p e s m args below meth c A H locs cells slots ls hCx hcc hss hl hR
  refine lv_lstore hCx.1 hCx.2.1 hd hl hn rfl (fun ls' h' => ?_)
  exact k G p e s m args below meth c A H locs cells slots ls' hCx hcc hss (z_has2 (L := (a0 :: a1 :: a2 :: a3 :: a4 :: a5 :: a6 :: a7 :: a8 :: a9 :: a10 :: a11 :: a12 :: a13 :: a14 :: o1 :: o2 :: L)) (i := 15) (zst_ok2 [a0, a1, a2, a3, a4, a5, a6, a7, a8, a9, a10, a11, a12, a13, a14] o1 o2 L (vL x) (fun w e => zn_ok hc (by simpa using e))) h') hR
theorem z_ast_15 {a0 a1 a2 a3 a4 a5 a6 a7 a8 a9 a10 a11 a12 a13 a14 : Option Value} {o1 : Option Value} {x : Nat} (hd : zAt M 2 pc pc' (.astore 15)) (hn : 15 < M.2.2.1) (hc : zn a14 = true) (k : Z l M d mc ms P pc' (a0 :: a1 :: a2 :: a3 :: a4 :: a5 :: a6 :: a7 :: a8 :: a9 :: a10 :: a11 :: a12 :: a13 :: a14 :: some (.ref x) :: L) S h kc ks) : Z l M d mc ms P pc (a0 :: a1 :: a2 :: a3 :: a4 :: a5 :: a6 :: a7 :: a8 :: a9 :: a10 :: a11 :: a12 :: a13 :: a14 :: o1 :: L) (.ref x :: S) h kc ks := by
  obtain ⟨hd, rfl⟩ := hd
  intro G p e s m args below meth c A H locs cells slots ls hCx hcc hss hl hR
  refine lv_astore hCx.1 hCx.2.1 hd hl hn rfl (fun ls' h' => ?_)
  exact k G p e s m args below meth c A H locs cells slots ls' hCx hcc hss (z_has1 (L := (a0 :: a1 :: a2 :: a3 :: a4 :: a5 :: a6 :: a7 :: a8 :: a9 :: a10 :: a11 :: a12 :: a13 :: a14 :: o1 :: L)) (i := 15) (zst_ok [a0, a1, a2, a3, a4, a5, a6, a7, a8, a9, a10, a11, a12, a13, a14] o1 L (.ref x) (fun w e => zn_ok hc (by simpa using e))) h') hR
theorem z_iinc_15 {a0 a1 a2 a3 a4 a5 a6 a7 a8 a9 a10 a11 a12 a13 a14 : Option Value} {x n : Int} (hd : zAt M 3 pc pc' (.iinc 15 n)) (hn : 15 < M.2.2.1) (hc : zn a14 = true) (k : Z l M d mc ms P pc' (a0 :: a1 :: a2 :: a3 :: a4 :: a5 :: a6 :: a7 :: a8 :: a9 :: a10 :: a11 :: a12 :: a13 :: a14 :: some (vI (x + n)) :: L) S h kc ks) : Z l M d mc ms P pc (a0 :: a1 :: a2 :: a3 :: a4 :: a5 :: a6 :: a7 :: a8 :: a9 :: a10 :: a11 :: a12 :: a13 :: a14 :: some (vI x) :: L) S h kc ks := by
  obtain ⟨hd, rfl⟩ := hd
  intro G p e s m args below meth c A H locs cells slots ls hCx hcc hss hl hR
  obtain ⟨j, hj⟩ := List.mem_iff_getElem?.mp ((zp_mem (a0 :: a1 :: a2 :: a3 :: a4 :: a5 :: a6 :: a7 :: a8 :: a9 :: a10 :: a11 :: a12 :: a13 :: a14 :: some (vI x) :: L) 0).mpr ⟨15, by omega, rfl⟩ : (15, vI x) ∈ zp 0 (a0 :: a1 :: a2 :: a3 :: a4 :: a5 :: a6 :: a7 :: a8 :: a9 :: a10 :: a11 :: a12 :: a13 :: a14 :: some (vI x) :: L))
  refine lv_iinc (v := Int32.ofInt (x + n)) (x := Int32.ofInt x) hCx.1 hCx.2.1 hd hl hj (by rw [Int32.ofInt_add]) hn rfl (fun ls' h' => ?_)
  exact k G p e s m args below meth c A H locs cells slots ls' hCx hcc hss (z_has1 (L := (a0 :: a1 :: a2 :: a3 :: a4 :: a5 :: a6 :: a7 :: a8 :: a9 :: a10 :: a11 :: a12 :: a13 :: a14 :: some (vI x) :: L)) (i := 15) (zst_ok [a0, a1, a2, a3, a4, a5, a6, a7, a8, a9, a10, a11, a12, a13, a14] (some (vI x)) L (vI (x + n)) (fun w e => zn_ok hc (by simpa using e))) h') hR
theorem z_iret {x : Int} (hd : zAt M 1 pc pc' .ireturn) (hM : M.2.2.2 = some .int) (q : P (some (vI x)) h) : Z l M d mc ms P pc L [vI x] h kc ks := by
  intro G p e s m args below meth c A H locs cells slots ls hCx hcc hss hl hR
  obtain ⟨hx, hb, hr, hml, hown, hX, hlk, hK, hA, hnm⟩ := hCx
  obtain ⟨ws, hP, hD, hS, hC⟩ := hR
  refine W.widen (k := mc) (n := ms) (by omega) (by omega) ?_
  exact W.iret (v := Int32.ofInt x) hx hb (hr.trans hM) (fun t ht hW => ⟨⟨some (vI x), h, ws, rfl, q, by rw [ht]; exact hP, va_K.moved hW.alike hK, hD, hC⟩, hS.F ht⟩) hS.2.2 hd.1 hlk
theorem z_zret {x : Int} (hd : zAt M 1 pc pc' .ireturn) (hM : M.2.2.2 = some .boolean) (hb0 : x = 0 ∨ x = 1) (q : P (some (vI x)) h) : Z l M d mc ms P pc L [vI x] h kc ks := by
  intro G p e s m args below meth c A H locs cells slots ls hCx hcc hss hl hR
  obtain ⟨hx, hb, hr, hml, hown, hX, hlk, hK, hA, hnm⟩ := hCx
  obtain ⟨ws, hP, hD, hS, hC⟩ := hR
  refine W.widen (k := mc) (n := ms) (by omega) (by omega) ?_
  exact W.zret (v := Int32.ofInt x) hx hb (hr.trans hM) (by rcases hb0 with rfl | rfl <;> rfl) (fun t ht hW => ⟨⟨some (vI x), h, ws, rfl, q, by rw [ht]; exact hP, va_K.moved hW.alike hK, hD, hC⟩, hS.F ht⟩) hS.2.2 hd.1 hlk
theorem z_cret {x : Int} {ty : FieldType} (hd : zAt M 1 pc pc' .ireturn) (hM : M.2.2.2 = some ty) (hn : narrow ty (vI x) = vI x) (q : P (some (vI x)) h) : Z l M d mc ms P pc L [vI x] h kc ks := by
  intro G p e s m args below meth c A H locs cells slots ls hCx hcc hss hl hR
  obtain ⟨hx, hb, hr, hml, hown, hX, hlk, hK, hA, hnm⟩ := hCx
  obtain ⟨ws, hP, hD, hS, hC⟩ := hR
  refine W.widen (k := mc) (n := ms) (by omega) (by omega) ?_
  exact W.zret (v := Int32.ofInt x) hx hb (hr.trans hM) hn (fun t ht hW => ⟨⟨some (vI x), h, ws, rfl, q, by rw [ht]; exact hP, va_K.moved hW.alike hK, hD, hC⟩, hS.F ht⟩) hS.2.2 hd.1 hlk
theorem z_lret {x : Int} (hd : zAt M 1 pc pc' .lreturn) (hM : M.2.2.2 = some .long) (q : P (some (vL x)) h) : Z l M d mc ms P pc L [vL x] h kc ks := by
  intro G p e s m args below meth c A H locs cells slots ls hCx hcc hss hl hR
  obtain ⟨hx, hb, hr, hml, hown, hX, hlk, hK, hA, hnm⟩ := hCx
  obtain ⟨ws, hP, hD, hS, hC⟩ := hR
  refine W.widen (k := mc) (n := ms) (by omega) (by omega) ?_
  exact W.lret (v := Int64.ofInt x) hx hb (hr.trans hM) (fun t ht hW => ⟨⟨some (vL x), h, ws, rfl, q, by rw [ht]; exact hP, va_K.moved hW.alike hK, hD, hC⟩, hS.F ht⟩) hS.2.2 hd.1 hlk
theorem z_vret  (hd : zAt M 1 pc pc' .return_) (hM : M.2.2.2 = none) (q : P (none) h) : Z l M d mc ms P pc L [] h kc ks := by
  intro G p e s m args below meth c A H locs cells slots ls hCx hcc hss hl hR
  obtain ⟨hx, hb, hr, hml, hown, hX, hlk, hK, hA, hnm⟩ := hCx
  obtain ⟨ws, hP, hD, hS, hC⟩ := hR
  refine W.widen (k := mc) (n := ms) (by omega) (by omega) ?_
  exact W.vret hx hb (hr.trans hM) (fun t ht hW => ⟨⟨none, h, ws, rfl, q, by rw [ht]; exact hP, va_K.moved hW.alike hK, hD, hC⟩, hS.F ht⟩) hS.2.2 hd.1 hlk
theorem z_aret {x : Nat} {n : String} (hd : zAt M 1 pc pc' .areturn) (hM : M.2.2.2 = some (.object n)) (q : P (some (.ref x)) h) : Z l M d mc ms P pc L [.ref x] h kc ks := by
  intro G p e s m args below meth c A H locs cells slots ls hCx hcc hss hl hR
  obtain ⟨hx, hb, hr, hml, hown, hX, hlk, hK, hA, hnm⟩ := hCx
  obtain ⟨ws, hP, hD, hS, hC⟩ := hR
  refine W.widen (k := mc) (n := ms) (by omega) (by omega) ?_
  exact W.aret (v := .ref x) hx hb (hr.trans hM) (Or.inl ⟨n, rfl⟩) (Or.inr ⟨x, rfl⟩) (fun t ht hW => ⟨⟨some (.ref x), h, ws, rfl, q, by rw [ht]; exact hP, va_K.moved hW.alike hK, hD, hC⟩, hS.F ht⟩) hS.2.2 hd.1 hlk
theorem z_aretN {n : String} (hd : zAt M 1 pc pc' .areturn) (hM : M.2.2.2 = some (.object n)) (q : P (some .null) h) : Z l M d mc ms P pc L [.null] h kc ks := by
  intro G p e s m args below meth c A H locs cells slots ls hCx hcc hss hl hR
  obtain ⟨hx, hb, hr, hml, hown, hX, hlk, hK, hA, hnm⟩ := hCx
  obtain ⟨ws, hP, hD, hS, hC⟩ := hR
  refine W.widen (k := mc) (n := ms) (by omega) (by omega) ?_
  exact W.aret (v := .null) hx hb (hr.trans hM) (Or.inl ⟨n, rfl⟩) (Or.inl rfl) (fun t ht hW => ⟨⟨some .null, h, ws, rfl, q, by rw [ht]; exact hP, va_K.moved hW.alike hK, hD, hC⟩, hS.F ht⟩) hS.2.2 hd.1 hlk
end ZP
