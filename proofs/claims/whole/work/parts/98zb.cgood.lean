/-! ===== what the sums of a text look at ===== -/
def QR (Q : Den → Prop) (R : PR) : Prop := ∀ t' p' k, R = .ok (t', p', k) → Q k
section QRS
variable {Q : Den → Prop} {c v : Int → Int} {lw : Bool}
theorem QR_er {e : Nat} : QR Q (.error e) := fun _ _ _ h => by cases h
theorem QR_ok {t p : Nat} {k : Den} (h : Q k) : QR Q (.ok (t, p, k)) := fun _ _ _ e => by cases e; exact h
theorem QR_row {op : Int → Option Int} {item : Nat → Nat → PR} (hj : ∀ o k1 k2, Q k1 → Q k2 → Q (dBin o k1 k2)) (hi : ∀ t p, QR Q (item t p)) : ∀ t p, QR Q (pRow op c item t p) := by
  have lp : ∀ (m t p : Nat) (k : Den), Q k → QR Q (pLoop op c item m t p k) := by
    intro m
    induction m with
    | zero => intro t p k hk; exact QR_ok hk
    | succ m ih =>
      intro t p k hk
      simp only [pLoop]
      cases op (c t) with
      | none => exact QR_ok hk
      | some o =>
        simp only
        cases hr : item (t + 1) p with
        | error e => exact QR_er
        | ok r =>
          obtain ⟨t2, p2, k2⟩ := r
          exact ih _ _ _ (hj _ _ _ hk (hi _ _ _ _ _ hr))
  intro t p
  unfold pRow
  cases hr : item t p with
  | error e => exact QR_er
  | ok r =>
    obtain ⟨t2, p2, k2⟩ := r
    exact lp _ _ _ _ (hi _ _ _ _ _ hr)
theorem QR_rowB {w : Int} {join : Den → Den → Den} {item : Nat → Nat → PR} (hj : ∀ k1 k2, Q k1 → Q k2 → Q (join k1 k2)) (hi : ∀ t p, QR Q (item t p)) : ∀ t p, QR Q (pRowB w join c item t p) := by
  have lp : ∀ (m t p : Nat) (k : Den), Q k → QR Q (pLoopB w join c item m t p k) := by
    intro m
    induction m with
    | zero => intro t p k hk; exact QR_ok hk
    | succ m ih =>
      intro t p k hk
      simp only [pLoopB]
      split
      · cases hr : item (t + 1) p with
        | error e => exact QR_er
        | ok r =>
          obtain ⟨t2, p2, k2⟩ := r
          exact ih _ _ _ (hj _ _ hk (hi _ _ _ _ _ hr))
      · exact QR_ok hk
  intro t p
  unfold pRowB
  cases hr : item t p with
  | error e => exact QR_er
  | ok r =>
    obtain ⟨t2, p2, k2⟩ := r
    exact lp _ _ _ _ (hi _ _ _ _ _ hr)
theorem QR_part {inner : Option (Nat → Nat → PR)} (hn : ∀ i : Nat, c i = 50 → v i ≤ 1000 → Q (fun _ => some (v i))) (hf : ∀ x : Int, (if lw = true then 0 else 8) ≤ x → x < (if lw = true then 9 else 31) → Q (fun φ => some (φ x))) (hi : ∀ g, inner = some g → ∀ t p, QR Q (g t p)) : ∀ t p, QR Q (pPart lw c v inner t p) := by
  intro t p
  unfold pPart
  split
  · cases inner with
    | none => exact QR_er
    | some g =>
      simp only
      cases hr : g (t + 1) p with
      | error e => exact QR_er
      | ok r =>
        obtain ⟨t2, p2, k2⟩ := r
        simp only
        split
        · exact QR_ok (hi g rfl _ _ _ _ _ hr)
        · exact QR_er
  · split
    · rename_i hcc
      split
      · exact QR_er
      · split
        · rename_i h1
          split
          · rename_i h2
            exact QR_ok (hf _ (by rw [h1.1, if_neg (by decide)]; omega) (by rw [h1.1, if_neg (by decide)]; omega))
          · exact QR_er
        · split
          · rename_i hx1 h1
            split
            · rename_i h2
              exact QR_ok (hf _ (by rw [h1.1, if_neg (by decide)]; omega) (by rw [h1.1, if_neg (by decide)]; omega))
            · exact QR_er
          · rename_i hx1 hx2
            refine QR_ok ?_
            by_cases h5 : c t = 50
            · rw [if_pos h5]
              exact hn t h5 (by
                rcases hcc with q | q
                · exact q.2
                · exfalso; unfold wHi at q; split at q <;> omega)
            · rw [if_neg h5]
              rcases hcc with q | q
              · exact absurd q.1 h5
              · unfold wLo wHi at q
                cases lw with
                | true =>
                  rw [if_pos rfl, if_pos rfl] at q
                  exact hf _ (by rw [if_pos rfl]; omega) (by rw [if_pos rfl]; omega)
                | false =>
                  rw [if_neg (by decide), if_neg (by decide)] at q
                  have h15 : c t ≠ 15 := fun z => hx1 ⟨rfl, z⟩
                  have h21 : c t ≠ 21 := fun z => hx2 ⟨rfl, z⟩
                  exact hf (c t - 8) (by rw [if_neg (by decide)]; omega) (by rw [if_neg (by decide)]; omega)
    · exact QR_er
theorem QR_sum (hn : ∀ i : Nat, c i = 50 → v i ≤ 1000 → Q (fun _ => some (v i))) (hf : ∀ x : Int, (if lw = true then 0 else 8) ≤ x → x < (if lw = true then 9 else 31) → Q (fun φ => some (φ x))) (hj : ∀ o k1 k2, Q k1 → Q k2 → Q (dBin o k1 k2)) : ∀ d t p, QR Q (pSumD lw c v d t p) := by
  intro d
  induction d with
  | zero => exact QR_row hj (QR_row hj (QR_part hn hf (fun g h => by cases h)))
  | succ d ih => exact QR_row hj (QR_row hj (QR_part hn hf (fun g h => by cases h; exact ih)))
theorem QR_plain {sum : Nat → Nat → PR} {inner : Option (Nat → Nat → PR)} (hj : ∀ o k1 k2, Q k1 → Q k2 → Q (dBin o k1 k2)) (hno : ∀ b k, Q k → Q (dNot b k)) (hs : ∀ t p, QR Q (sum t p)) (hi : ∀ g, inner = some g → ∀ t p, QR Q (g t p)) : ∀ t p, QR Q (pPlain c sum inner t p) := by
  intro t p
  unfold pPlain
  generalize pNots c 401 t false = q
  obtain ⟨t1, b⟩ := q
  simp only
  split
  · cases inner with
    | none => exact QR_er
    | some g =>
      simp only
      cases hr : g (t1 + 1) p with
      | error e => exact QR_er
      | ok r =>
        obtain ⟨t2, p2, k2⟩ := r
        simp only
        split
        · exact QR_ok (hno _ _ (hi g rfl _ _ _ _ _ hr))
        · exact QR_er
  · cases hr : sum t1 p with
    | error e => exact QR_er
    | ok r =>
      obtain ⟨t2, p2, k1⟩ := r
      simp only
      cases cmpOp (c t2) with
      | none => exact QR_er
      | some o =>
        simp only
        cases hr2 : sum (t2 + 1) p2 with
        | error e => exact QR_er
        | ok r =>
          obtain ⟨t3, p3, k2⟩ := r
          exact QR_ok (hno _ _ (hj _ _ _ (hs _ _ _ _ _ hr) (hs _ _ _ _ _ hr2)))
theorem QR_test (hn : ∀ i : Nat, c i = 50 → v i ≤ 1000 → Q (fun _ => some (v i))) (hf : ∀ x : Int, (if lw = true then 0 else 8) ≤ x → x < (if lw = true then 9 else 31) → Q (fun φ => some (φ x))) (hj : ∀ o k1 k2, Q k1 → Q k2 → Q (dBin o k1 k2)) (hno : ∀ b k, Q k → Q (dNot b k)) (ha : ∀ k1 k2, Q k1 → Q k2 → Q (dAnd k1 k2)) (ho : ∀ k1 k2, Q k1 → Q k2 → Q (dOr k1 k2)) : ∀ d t p, QR Q (pTestD lw c v d t p) := by
  intro d
  induction d with
  | zero => exact QR_rowB ho (QR_rowB ha (QR_plain hj hno (QR_sum hn hf hj 0) (fun g h => by cases h)))
  | succ d ih => exact QR_rowB ho (QR_rowB ha (QR_plain hj hno (QR_sum hn hf hj (d + 1)) (fun g h => by cases h; exact ih)))
end QRS
theorem Dl_bin {a b o : Int} {k1 k2 : Den} (h1 : Dl a b k1) (h2 : Dl a b k2) : Dl a b (dBin o k1 k2) := fun φ ψ h => by unfold dBin; rw [h1 φ ψ h, h2 φ ψ h]
theorem Dl_not {a b : Int} {q : Bool} {k : Den} (h1 : Dl a b k) : Dl a b (dNot q k) := fun φ ψ h => by unfold dNot; rw [h1 φ ψ h]
theorem Dl_and {a b : Int} {k1 k2 : Den} (h1 : Dl a b k1) (h2 : Dl a b k2) : Dl a b (dAnd k1 k2) := fun φ ψ h => by unfold dAnd; rw [h1 φ ψ h, h2 φ ψ h]
theorem Dl_or {a b : Int} {k1 k2 : Den} (h1 : Dl a b k1) (h2 : Dl a b k2) : Dl a b (dOr k1 k2) := fun φ ψ h => by unfold dOr; rw [h1 φ ψ h, h2 φ ψ h]
theorem bnd_ne {z : Int} : bnd z ≠ some (-2000000000) := by
  unfold bnd
  split
  · intro h; cases h
  · intro h; have := Option.some.inj h; omega
theorem opV_ne {o x y : Int} : opV o x y ≠ some (-2000000000) := by
  have hb : ∀ (P : Prop) [Decidable P], some (b2i P) ≠ some (-2000000000 : Int) := fun P _ h => by have h1 := Option.some.inj h; have h2 := b2i_01 P; omega
  unfold opV
  split
  · exact bnd_ne
  · split
    · exact bnd_ne
    · split
      · exact bnd_ne
      · split
        · split
          · intro h; cases h
          · exact bnd_ne
        · split
          · split
            · intro h; cases h
            · exact bnd_ne
          · split
            · exact hb _
            · split
              · exact hb _
              · exact hb _
theorem Nb_bin {o : Int} {k1 k2 : Den} : Nb (dBin o k1 k2) := fun φ _ => by
  unfold dBin
  cases k1 φ with
  | none => intro h; cases h
  | some x =>
    simp only
    cases k2 φ with
    | none => intro h; cases h
    | some y => exact opV_ne
theorem Nb_01 {k : Den} (h : B01 k) : Nb k := fun φ _ e => by have := h φ _ e; omega
theorem dl_sum {lw : Bool} {c v : Int → Int} (d t p : Nat) : QR (Dl (if lw = true then 0 else 8) (if lw = true then 9 else 31)) (pSumD lw c v d t p) := QR_sum (fun _ _ _ _ _ _ => rfl) (fun x x0 x1 φ ψ h => by show some (φ x) = some (ψ x); rw [h x x0 x1]) (fun _ _ _ => Dl_bin) d t p
theorem dl_test {lw : Bool} {c v : Int → Int} (d t p : Nat) : QR (Dl (if lw = true then 0 else 8) (if lw = true then 9 else 31)) (pTestD lw c v d t p) := QR_test (fun _ _ _ _ _ _ => rfl) (fun x x0 x1 φ ψ h => by show some (φ x) = some (ψ x); rw [h x x0 x1]) (fun _ _ _ => Dl_bin) (fun _ _ => Dl_not) (fun _ _ => Dl_and) (fun _ _ => Dl_or) d t p
theorem nb_sum {lw : Bool} {c v : Int → Int} (hv : ∀ i : Nat, c i = 50 → 0 ≤ v i) (d t p : Nat) : QR Nb (pSumD lw c v d t p) := QR_sum (fun i h _ φ _ e => by have := hv i h; have := Option.some.inj e; omega) (fun x _ _ φ h e => h x (Option.some.inj e)) (fun _ _ _ _ _ => Nb_bin) d t p
/-- what every clause of a text is -/
def ClG (lw : Bool) (k : Cla) : Prop := Dl (if lw = true then 0 else 8) (if lw = true then 9 else 31) k.2.1 ∧ Nb k.2.1 ∧ Dl (if lw = true then 0 else 8) (if lw = true then 9 else 31) k.2.2.1 ∧ Nb k.2.2.1 ∧ ∀ q, k.2.2.2.2 = some q → Dl (if lw = true then 0 else 8) (if lw = true then 9 else 31) q ∧ Nb q
theorem one_g {a b : Int} : Dl a b dOne ∧ Nb dOne := ⟨fun _ _ _ => rfl, fun _ _ e => by have := Option.some.inj e; omega⟩
theorem fin_g {lw : Bool} {c v : Int → Int} {vb tm : Int} {d1 d2 : Den} {t p t' p' : Nat} {k : Cla} (h1 : Dl (if lw = true then 0 else 8) (if lw = true then 9 else 31) d1 ∧ Nb d1) (h2 : Dl (if lw = true then 0 else 8) (if lw = true then 9 else 31) d2 ∧ Nb d2) (h : finC lw c v vb d1 d2 tm t p = .ok (t', p', k)) : ClG lw k := by
  unfold finC pIf at h
  by_cases q : c t = 4
  · rw [if_pos q] at h
    cases hr : pTestD lw c v 8 (t + 1) p with
    | error e => rw [hr] at h; cases h
    | ok r =>
      obtain ⟨t2, p2, k2⟩ := r
      rw [hr] at h
      cases h
      exact ⟨h1.1, h1.2, h2.1, h2.2, fun q hq => by cases hq; exact ⟨dl_test _ _ _ _ _ _ hr, Nb_01 (B01R_test _ _ _ _ _ _ hr)⟩⟩
  · rw [if_neg q] at h
    cases h
    exact ⟨h1.1, h1.2, h2.1, h2.2, fun q hq => by cases hq⟩
theorem tim_g {lw : Bool} {c v : Int → Int} {vb : Int} {d1 d2 : Den} {t p t' p' : Nat} {k : Cla} (h1 : Dl (if lw = true then 0 else 8) (if lw = true then 9 else 31) d1 ∧ Nb d1) (h2 : Dl (if lw = true then 0 else 8) (if lw = true then 9 else 31) d2 ∧ Nb d2) (h : timC lw c v vb d1 d2 t p = .ok (t', p', k)) : ClG lw k := by
  unfold timC at h
  split at h
  · split at h
    · exact fin_g h1 h2 h
    · cases h
  · exact fin_g h1 h2 h
theorem cla_g {lw : Bool} {c v : Int → Int} (hv : ∀ i : Nat, c i = 50 → 0 ≤ v i) {t p t' p' : Nat} {k : Cla} (h : pCla lw c v t p = .ok (t', p', k)) : ClG lw k := by
  have hs : ∀ t p t' p' k, pSumD lw c v 8 t p = .ok (t', p', k) → Dl (if lw = true then 0 else 8) (if lw = true then 9 else 31) k ∧ Nb k := fun t p t' p' k e => ⟨dl_sum _ _ _ _ _ _ e, nb_sum hv _ _ _ _ _ _ e⟩
  by_cases hvb : vbR lw (c t)
  · cases lw with
    | true =>
      unfold vbR at hvb
      rw [if_pos rfl] at hvb
      by_cases h3 : c t = 3
      · rw [cl_3 h3] at h; exact fin_g one_g one_g h
      · rw [cl_1 (by omega)] at h
        cases hr : pSumD true c v 8 (t + 1) p with
        | error e => rw [hr] at h; cases h
        | ok r => obtain ⟨t2, p2, k2⟩ := r; rw [hr] at h; exact fin_g (hs _ _ _ _ _ hr) one_g h
    | false =>
      unfold vbR at hvb
      rw [if_neg (by decide)] at hvb
      by_cases h26 : c t = 26
      · rw [cl_26 h26] at h; exact tim_g one_g one_g h
      · by_cases h24 : c t = 24
        · rw [cl_24 h24] at h
          cases hr : pSumD false c v 8 (t + 1) p with
          | error e => rw [hr] at h; cases h
          | ok r =>
            obtain ⟨t2, p2, k2⟩ := r
            rw [hr] at h
            simp only at h
            split at h
            · cases hr2 : pSumD false c v 8 (t2 + 1) p2 with
              | error e => rw [hr2] at h; cases h
              | ok r => obtain ⟨t3, p3, k3⟩ := r; rw [hr2] at h; exact tim_g (hs _ _ _ _ _ hr) (hs _ _ _ _ _ hr2) h
            · cases h
        · rw [cl_22 (by omega)] at h
          cases hr : pSumD false c v 8 (t + 1) p with
          | error e => rw [hr] at h; cases h
          | ok r => obtain ⟨t2, p2, k2⟩ := r; rw [hr] at h; exact tim_g (hs _ _ _ _ _ hr) one_g h
  · rw [cl_er hvb] at h; cases h
theorem text_g {lw : Bool} {c v : Int → Int} (hv : ∀ i : Nat, c i = 50 → 0 ≤ v i) {n : Nat} : ∀ (m t p : Nat) (l : List Cla), pText lw c v n m t p = .ok l → ∀ k ∈ l, ClG lw k := by
  intro m
  induction m with
  | zero => intro t p l h; cases h
  | succ m ih =>
    intro t p l h
    obtain ⟨m', t', p', k, e1, e2, e3⟩ := ptext_step h
    have em : m' = m := by omega
    subst em
    rcases e3 with ⟨h9, l', e5, e4⟩ | ⟨h9, hn, e4⟩
    · subst e4
      intro q hq
      rcases List.mem_cons.mp hq with z | z
      · rw [z]; exact cla_g hv e2
      · exact ih _ _ _ e5 q z
    · subst e4
      intro q hq
      rcases List.mem_cons.mp hq with z | z
      · rw [z]; exact cla_g hv e2
      · cases z
theorem SmZ.sumR {C : Int → Int} {N s b : Int} {k : Den} (h : SmZ C N s k) (hN : N ≤ 400) (h1 : Dl 0 b k) (h2 : Nb k) : SumR C N 0 b s k := by
  obtain ⟨e, w, h3, h4, h5, h6⟩ := h
  exact ⟨⟨h3.1, by omega⟩, fun φ => Cod_ask h5 h4 h3.2.2 h6 φ, h1, h2⟩
theorem CLz.claR {Vb Tm On Ot Te C : Int → Int} {N i : Int} {k : Cla} (h : CLz Vb Tm On Ot Te C N i k) (hN : N ≤ 400) (hv : vbR true k.1) (hg : ClG true k) : ClaR Vb On Te C N i k := by
  obtain ⟨h1, h2, h3, h4, h5⟩ := h
  obtain ⟨g1, g2, g3, g4, g5⟩ := hg
  unfold vbR at hv
  rw [if_pos rfl] at hv g1
  refine ⟨h1.trans (by unfold vz; rw [if_pos (by omega)]), hv, ?_, ?_⟩
  · rcases h3 with ⟨a, b, c⟩ | ⟨a, b⟩
    · exact Or.inl ⟨by omega, b, c⟩
    · exact Or.inr ⟨by omega, b.sumR hN g1 g2⟩
  · rcases h5 with ⟨a, b⟩ | ⟨kk, a, b, c⟩
    · exact Or.inl ⟨b, a⟩
    · have g6 := g5 kk a
      rw [if_pos rfl] at g6
      exact Or.inr ⟨kk, a, b.sumR hN g6.1 g6.2, c⟩
theorem RdR.scl {Vb Tm On Ot Te C : Int → Int} {N ag : Int} {cl : List Cla} (h : RdR true Vb Tm On Ot Te C N ag cl) (hg : ∀ k ∈ cl, ClG true k) (hN : N ≤ 400) : ScL Vb On Te C N 0 cl := by
  have key : ∀ (l : List Cla) (i : Int), (∀ (j : Nat) (k : Cla), l[j]? = some k → ClaR Vb On Te C N (i + j) k) → ScL Vb On Te C N i l := by
    intro l
    induction l with
    | nil => intro i _; trivial
    | cons k l ih =>
      intro i hh
      refine ⟨by have := hh 0 k rfl; rwa [show i + ((0 : Nat) : Int) = i by omega] at this, ih (i + 1) (fun j q hq => ?_)⟩
      have := hh (j + 1) q (by simpa using hq)
      rwa [show i + ((j + 1 : Nat) : Int) = i + 1 + (j : Int) by omega] at this
  refine key cl 0 (fun j k hk => ?_)
  obtain ⟨a, b, c⟩ := h j k hk
  have := a.claR hN c (hg k (List.mem_of_getElem? hk))
  rwa [show (0 : Int) + (j : Int) = (j : Int) by omega]
