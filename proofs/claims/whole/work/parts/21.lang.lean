/-! ===== the languages, as mathematics: tokens (codes c, values v), what a text means ===== -/
abbrev Den : Type := (Int → Int) → Option Int
abbrev PR : Type := Except Nat (Nat × Nat × Den)
def bnd (z : Int) : Option Int := if z > 1000000000 ∨ z < -1000000000 then none else some z
def opV (o x y : Int) : Option Int :=
  if o = 3 then bnd (x + y) else if o = 4 then bnd (x - y) else if o = 5 then bnd (x * y)
  else if o = 6 then (if y = 0 then none else bnd (x.tdiv y)) else if o = 7 then (if y = 0 then none else bnd (x.tmod y))
  else if o = 8 then some (b2i (x < y)) else if o = 9 then some (b2i (y < x)) else some (b2i (x = y))
def dBin (o : Int) (d1 d2 : Den) : Den := fun φ => match d1 φ with
  | none => none
  | some x => match d2 φ with
    | none => none
    | some y => opV o x y
def dNot (b : Bool) (d : Den) : Den := fun φ => match d φ with
  | none => none
  | some x => if b then some (1 - x) else some x
def dOr (d1 d2 : Den) : Den := fun φ => match d1 φ with
  | none => none
  | some x => if x = 1 then some 1 else d2 φ
def dAnd (d1 d2 : Den) : Den := fun φ => match d1 φ with
  | none => none
  | some x => if x = 0 then some 0 else d2 φ
def wLo (lw : Bool) : Int := if lw then 8 else 15
def wHi (lw : Bool) : Int := if lw then 16 else 21
def pPart (lw : Bool) (c v : Int → Int) (inner : Option (Nat → Nat → PR)) (t p : Nat) : PR :=
  if c t = 191 then
    match inner with
    | none => .error t
    | some g => match g (t + 1) p with
      | .error e => .error e
      | .ok (t', p', k) => if c t' = 193 then .ok (t' + 1, p', k) else .error t'
  else if (c t = 50 ∧ v t ≤ 1000) ∨ (wLo lw ≤ c t ∧ c t ≤ wHi lw) then
    if p = 50 then .error t
    else if lw = false ∧ c t = 15 then (if c (t + 1) = 50 ∧ 0 ≤ v (t + 1) ∧ v (t + 1) ≤ 9 then .ok (t + 2, p + 1, fun φ => some (φ (21 + v (t + 1)))) else .error (t + 1))
    else if lw = false ∧ c t = 21 then (if c (t + 1) = 50 ∧ 0 ≤ v (t + 1) ∧ v (t + 1) ≤ 7 then .ok (t + 2, p + 1, fun φ => some (φ (13 + v (t + 1)))) else .error (t + 1))
    else .ok (t + 1, p + 1, if c t = 50 then (fun _ => some (v t)) else (fun φ => some (φ (c t - 8))))
  else .error t
def mulOp (x : Int) : Option Int := if x = 142 then some 5 else if x = 147 then some 6 else if x = 137 then some 7 else none
def addOp (x : Int) : Option Int := if x = 143 then some 3 else if x = 145 then some 4 else none
def pLoop (op : Int → Option Int) (c : Int → Int) (item : Nat → Nat → PR) : Nat → Nat → Nat → Den → PR
  | 0, t, p, k => .ok (t, p, k)
  | m + 1, t, p, k => match op (c t) with
    | none => .ok (t, p, k)
    | some o => match item (t + 1) p with
      | .error e => .error e
      | .ok (t', p', k') => pLoop op c item m t' p' (dBin o k k')
def pRow (op : Int → Option Int) (c : Int → Int) (item : Nat → Nat → PR) (t p : Nat) : PR := match item t p with
  | .error e => .error e
  | .ok (t', p', k) => pLoop op c item 401 t' p' k
def pLoopB (w : Int) (join : Den → Den → Den) (c : Int → Int) (item : Nat → Nat → PR) : Nat → Nat → Nat → Den → PR
  | 0, t, p, k => .ok (t, p, k)
  | m + 1, t, p, k => if c t = w then (match item (t + 1) p with
      | .error e => .error e
      | .ok (t', p', k') => pLoopB w join c item m t' p' (join k k')) else .ok (t, p, k)
def pRowB (w : Int) (join : Den → Den → Den) (c : Int → Int) (item : Nat → Nat → PR) (t p : Nat) : PR := match item t p with
  | .error e => .error e
  | .ok (t', p', k) => pLoopB w join c item 401 t' p' k
def pNots (c : Int → Int) : Nat → Nat → Bool → Nat × Bool
  | 0, t, b => (t, b)
  | m + 1, t, b => if c t = 7 then pNots c m (t + 1) (!b) else (t, b)
def cmpOp (x : Int) : Option Int := if x = 160 then some 8 else if x = 162 then some 9 else if x = 161 then some 10 else none
def pPlain (c : Int → Int) (sum : Nat → Nat → PR) (inner : Option (Nat → Nat → PR)) (t p : Nat) : PR :=
  let q := pNots c 401 t false
  if c q.1 = 140 then
    match inner with
    | none => .error q.1
    | some g => match g (q.1 + 1) p with
      | .error e => .error e
      | .ok (t', p', k) => if c t' = 141 then .ok (t' + 1, p', dNot q.2 k) else .error t'
  else match sum q.1 p with
    | .error e => .error e
    | .ok (t2, p2, k1) => match cmpOp (c t2) with
      | none => .error t2
      | some o => match sum (t2 + 1) p2 with
        | .error e => .error e
        | .ok (t3, p3, k2) => .ok (t3, p3, dNot q.2 (dBin o k1 k2))
def pTerm (lw : Bool) (c v : Int → Int) (inner : Option (Nat → Nat → PR)) : Nat → Nat → PR := pRow mulOp c (pPart lw c v inner)
def pSum (lw : Bool) (c v : Int → Int) (inner : Option (Nat → Nat → PR)) : Nat → Nat → PR := pRow addOp c (pTerm lw c v inner)
/-- d: how many brackets may still be opened -/
def pSumD (lw : Bool) (c v : Int → Int) : Nat → Nat → Nat → PR
  | 0 => pSum lw c v none
  | d + 1 => pSum lw c v (some (pSumD lw c v d))
def pIn (lw : Bool) (c v : Int → Int) : Nat → Option (Nat → Nat → PR)
  | 0 => none
  | d + 1 => some (pSumD lw c v d)
theorem pSumD_eq (lw : Bool) (c v : Int → Int) (d : Nat) : pSumD lw c v d = pSum lw c v (pIn lw c v d) := by cases d <;> rfl
def pBoth (lw : Bool) (c v : Int → Int) (d : Nat) (inner : Option (Nat → Nat → PR)) : Nat → Nat → PR := pRowB 6 dAnd c (pPlain c (pSumD lw c v d) inner)
def pTest (lw : Bool) (c v : Int → Int) (d : Nat) (inner : Option (Nat → Nat → PR)) : Nat → Nat → PR := pRowB 5 dOr c (pBoth lw c v d inner)
def pTestD (lw : Bool) (c v : Int → Int) : Nat → Nat → Nat → PR
  | 0 => pTest lw c v 0 none
  | d + 1 => pTest lw c v (d + 1) (some (pTestD lw c v d))
def pInT (lw : Bool) (c v : Int → Int) : Nat → Option (Nat → Nat → PR)
  | 0 => none
  | d + 1 => some (pTestD lw c v d)
theorem pTestD_eq (lw : Bool) (c v : Int → Int) (d : Nat) : pTestD lw c v d = pTest lw c v d (pInT lw c v d) := by cases d <;> rfl
/-- positions: what is read goes on, over tokens that are not 0; a fault lies where reading came -/
def nz (c : Int → Int) (t e : Nat) : Prop := ∀ i : Nat, t ≤ i → i < e → c i ≠ 0
def advR (c : Int → Int) (t : Nat) (r : PR) : Prop := match r with
  | .error e => t ≤ e ∧ nz c t e
  | .ok (t', _, _) => t < t' ∧ nz c t t'
def Adv (c : Int → Int) (g : Nat → Nat → PR) : Prop := ∀ t p, advR c t (g t p)
theorem nz_rf {c : Int → Int} {t : Nat} : nz c t t := fun i h1 h2 => by omega
theorem nz_s {c : Int → Int} {t e : Nat} (h : nz c t e) (he : c e ≠ 0) : nz c t (e + 1) := fun i h1 h2 => by
  by_cases e0 : i = e
  · rw [e0]; exact he
  · exact h i h1 (by omega)
theorem nz_t {c : Int → Int} {t e u : Nat} (h : nz c t e) (h2 : nz c e u) : nz c t u := fun i h1 h3 => by
  by_cases e0 : i < e
  · exact h i h1 e0
  · exact h2 i (by omega) h3
theorem nz_1 {c : Int → Int} {t e : Nat} (ht : c t ≠ 0) (h : nz c (t + 1) e) : nz c t e := nz_t (nz_s nz_rf ht) h
theorem adv_ok {c : Int → Int} {t t' p' : Nat} {k : Den} (h : t < t') (h2 : nz c t t') : advR c t (.ok (t', p', k)) := ⟨h, h2⟩
theorem adv_er {c : Int → Int} {t e : Nat} (h : t ≤ e) (h2 : nz c t e) : advR c t (.error e) := ⟨h, h2⟩
theorem Adv_part {lw : Bool} {c v : Int → Int} {inner : Option (Nat → Nat → PR)} (h : ∀ g, inner = some g → Adv c g) : Adv c (pPart lw c v inner) := by
  intro t p
  unfold pPart
  have hw : 8 ≤ wLo lw := by unfold wLo; split <;> omega
  split
  · rename_i h91
    cases inner with
    | none => exact adv_er (Nat.le_refl _) nz_rf
    | some g =>
      have a := h g rfl (t + 1) p
      simp only
      cases hg : g (t + 1) p with
      | error e =>
        rw [hg] at a
        exact adv_er (by have := a.1; omega) (nz_1 (by omega) a.2)
      | ok r =>
        obtain ⟨t', p', k⟩ := r
        rw [hg] at a
        have a1 : t + 1 < t' := a.1
        have a2 : nz c (t + 1) t' := a.2
        simp only
        split
        · rename_i h93
          exact adv_ok (by omega) (nz_s (nz_1 (by omega) a2) (by omega))
        · exact adv_er (by omega) (nz_1 (by omega) a2)
  · split
    · rename_i hcc
      have hne : c t ≠ 0 := by omega
      have one : nz c t (t + 1) := nz_s nz_rf hne
      split
      · exact adv_er (Nat.le_refl _) nz_rf
      · split
        · split
          · rename_i h5
            exact adv_ok (by omega) (nz_s one (by rw [Int.natCast_add]; have := h5.1; simp only [Int.cast_ofNat_Int] at *; omega))
          · exact adv_er (by omega) one
        · split
          · split
            · rename_i h5
              exact adv_ok (by omega) (nz_s one (by rw [Int.natCast_add]; have := h5.1; simp only [Int.cast_ofNat_Int] at *; omega))
            · exact adv_er (by omega) one
          · exact adv_ok (by omega) one
    · exact adv_er (Nat.le_refl _) nz_rf
theorem op_ne {x o : Int} : (mulOp x = some o → x ≠ 0) ∧ (addOp x = some o → x ≠ 0) ∧ (cmpOp x = some o → x ≠ 0) := by
  unfold mulOp addOp cmpOp
  refine ⟨fun h e => ?_, fun h e => ?_, fun h e => ?_⟩ <;> subst e <;> simp at h
theorem Adv_loop {op : Int → Option Int} {c : Int → Int} {item : Nat → Nat → PR} (ho : ∀ x o, op x = some o → x ≠ 0) (hi : Adv c item) {t0 : Nat} : ∀ (m t p : Nat) (k : Den), t0 < t → nz c t0 t → advR c t0 (pLoop op c item m t p k) := by
  intro m
  induction m with
  | zero => intro t p k h1 h2; exact adv_ok h1 h2
  | succ m ih =>
    intro t p k h1 h2
    simp only [pLoop]
    cases ho' : op (c t) with
    | none => exact adv_ok h1 h2
    | some o =>
      have hne := ho _ _ ho'
      have a := hi (t + 1) p
      simp only
      cases hg : item (t + 1) p with
      | error e => rw [hg] at a; exact adv_er (by have := a.1; omega) (nz_t h2 (nz_1 hne a.2))
      | ok r =>
        obtain ⟨t', p', k'⟩ := r
        rw [hg] at a
        have a1 : t + 1 < t' := a.1
        exact ih t' p' _ (by omega) (nz_t h2 (nz_1 hne a.2))
theorem Adv_row {op : Int → Option Int} {c : Int → Int} {item : Nat → Nat → PR} (ho : ∀ x o, op x = some o → x ≠ 0) (hi : Adv c item) : Adv c (pRow op c item) := by
  intro t p
  have a := hi t p
  unfold pRow
  cases hg : item t p with
  | error e => rw [hg] at a; exact a
  | ok r =>
    obtain ⟨t', p', k⟩ := r
    rw [hg] at a
    exact Adv_loop ho hi 401 t' p' k a.1 a.2
theorem Adv_loopB {w : Int} {join : Den → Den → Den} {c : Int → Int} {item : Nat → Nat → PR} (hw : w ≠ 0) (hi : Adv c item) {t0 : Nat} : ∀ (m t p : Nat) (k : Den), t0 < t → nz c t0 t → advR c t0 (pLoopB w join c item m t p k) := by
  intro m
  induction m with
  | zero => intro t p k h1 h2; exact adv_ok h1 h2
  | succ m ih =>
    intro t p k h1 h2
    simp only [pLoopB]
    split
    · rename_i hc
      have hne : c t ≠ 0 := by rw [hc]; exact hw
      have a := hi (t + 1) p
      cases hg : item (t + 1) p with
      | error e => rw [hg] at a; exact adv_er (by have := a.1; omega) (nz_t h2 (nz_1 hne a.2))
      | ok r =>
        obtain ⟨t', p', k'⟩ := r
        rw [hg] at a
        have a1 : t + 1 < t' := a.1
        exact ih t' p' _ (by omega) (nz_t h2 (nz_1 hne a.2))
    · exact adv_ok h1 h2
theorem Adv_rowB {w : Int} {join : Den → Den → Den} {c : Int → Int} {item : Nat → Nat → PR} (hw : w ≠ 0) (hi : Adv c item) : Adv c (pRowB w join c item) := by
  intro t p
  have a := hi t p
  unfold pRowB
  cases hg : item t p with
  | error e => rw [hg] at a; exact a
  | ok r =>
    obtain ⟨t', p', k⟩ := r
    rw [hg] at a
    exact Adv_loopB hw hi 401 t' p' k a.1 a.2
theorem pNots_adv {c : Int → Int} : ∀ (m t : Nat) (b : Bool), t ≤ (pNots c m t b).1 ∧ nz c t (pNots c m t b).1 := by
  intro m
  induction m with
  | zero => intro t b; exact ⟨Nat.le_refl _, nz_rf⟩
  | succ m ih =>
    intro t b
    simp only [pNots]
    split
    · rename_i h
      have a := ih (t + 1) (!b)
      exact ⟨by omega, nz_1 (by omega) a.2⟩
    · exact ⟨Nat.le_refl _, nz_rf⟩
theorem Adv_plain {c : Int → Int} {sum : Nat → Nat → PR} {inner : Option (Nat → Nat → PR)} (hs : Adv c sum) (h : ∀ g, inner = some g → Adv c g) : Adv c (pPlain c sum inner) := by
  intro t p
  unfold pPlain
  have n := pNots_adv (c := c) 401 t false
  generalize pNots c 401 t false = q at n ⊢
  obtain ⟨t1, b⟩ := q
  simp only at n ⊢
  split
  · rename_i h40
    cases inner with
    | none => exact adv_er n.1 n.2
    | some g =>
      have a := h g rfl (t1 + 1) p
      simp only
      cases hg : g (t1 + 1) p with
      | error e => rw [hg] at a; exact adv_er (by have := a.1; omega) (nz_t n.2 (nz_1 (by omega) a.2))
      | ok r =>
        obtain ⟨t', p', k⟩ := r
        rw [hg] at a
        have a1 : t1 + 1 < t' := a.1
        have a2 : nz c t t' := nz_t n.2 (nz_1 (by omega) a.2)
        simp only
        split
        · rename_i h41
          exact adv_ok (by omega) (nz_s a2 (by omega))
        · exact adv_er (by omega) a2
  · have a := hs t1 p
    cases hg : sum t1 p with
    | error e => rw [hg] at a; exact adv_er (by have := a.1; omega) (nz_t n.2 a.2)
    | ok r =>
      obtain ⟨t2, p2, k1⟩ := r
      rw [hg] at a
      have a1 : t1 < t2 := a.1
      have a2 : nz c t t2 := nz_t n.2 a.2
      simp only
      cases hc : cmpOp (c t2) with
      | none => exact adv_er (by omega) a2
      | some o =>
        have hne := (op_ne (x := c t2) (o := o)).2.2 hc
        have b := hs (t2 + 1) p2
        simp only
        cases hg2 : sum (t2 + 1) p2 with
        | error e => rw [hg2] at b; exact adv_er (by have := b.1; omega) (nz_t a2 (nz_1 hne b.2))
        | ok r =>
          obtain ⟨t3, p3, k2⟩ := r
          rw [hg2] at b
          have b1 : t2 + 1 < t3 := b.1
          exact adv_ok (by omega) (nz_t a2 (nz_1 hne b.2))
theorem Adv_sum (lw : Bool) (c v : Int → Int) (d : Nat) : Adv c (pSumD lw c v d) := by
  induction d with
  | zero => exact Adv_row (fun x o h => op_ne.2.1 h) (Adv_row (fun x o h => op_ne.1 h) (Adv_part (fun g h => by cases h)))
  | succ d ih => exact Adv_row (fun x o h => op_ne.2.1 h) (Adv_row (fun x o h => op_ne.1 h) (Adv_part (fun g h => by cases h; exact ih)))
theorem Adv_test (lw : Bool) (c v : Int → Int) (d : Nat) : Adv c (pTestD lw c v d) := by
  induction d with
  | zero => exact Adv_rowB (by decide) (Adv_rowB (by decide) (Adv_plain (Adv_sum lw c v 0) (fun g h => by cases h)))
  | succ d ih => exact Adv_rowB (by decide) (Adv_rowB (by decide) (Adv_plain (Adv_sum lw c v (d + 1)) (fun g h => by cases h; exact ih)))
