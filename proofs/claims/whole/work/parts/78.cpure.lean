/-! ===== fire looks only at the bits of the fuses there are ===== -/
theorem rdN_S {fr to B Hd : Int → Int} {S S' : Int} {p : (Int → Int) × Int} : ∀ n : Nat, (∀ x : Nat, x < n → (bt S x ↔ bt S' x)) → rdN fr to B Hd S p n = rdN fr to B Hd S' p n := by
  intro n
  induction n with
  | zero => intro _; rfl
  | succ n ih =>
    intro h
    simp only [rdN]
    rw [ih (fun x hx => h x (by omega))]
    have q := h n (by omega)
    unfold rdS
    by_cases e : bt S n
    · rw [if_pos e, if_pos (q.mp e)]
    · rw [if_neg e, if_neg (fun z => e (q.mpr z))]
theorem dist_S {fr to B Hd C : Int → Int} {S S' : Int} {n : Nat} (h : ∀ x : Int, 0 ≤ x → x < n → (bt S x ↔ bt S' x)) : dist fr to B Hd S n C = dist fr to B Hd S' n C := by
  have h' : ∀ x : Nat, x < n → (bt S x ↔ bt S' x) := fun x hx => h x (by omega) (by omega)
  have e : ∀ k : Nat, rdI fr to B Hd S n C k = rdI fr to B Hd S' n C k := by
    intro k
    induction k with
    | zero => rfl
    | succ k ih =>
      simp only [rdI]
      rw [ih]
      unfold rd
      rw [rdN_S n h']
  exact e 8
theorem outC_S {fr to B Hd C : Int → Int} {S S' x : Int} (h : bt S x ↔ bt S' x) : outC fr to B Hd S C x = outC fr to B Hd S' C x := by
  unfold outC
  by_cases e : ¬ bt S x ∨ C (fr x) = 1000000
  · rw [if_pos e, if_pos (e.elim (fun z => Or.inl (fun q => z (h.mpr q))) Or.inr)]
  · rw [if_neg e, if_neg (fun z => e (z.elim (fun z => Or.inl (fun q => z (h.mp q))) Or.inr))]
theorem ctS_bt {K : Int → Int} {cl : List Cla} (hK : KOK K) {x : Int} (x0 : 0 ≤ x) (x1 : x < K 76) : bt (ctS K cl) x ↔ ctc K cl x := by
  have hn := hK.1
  unfold ctS
  rw [bt_msk x0 (by omega)]
  exact ⟨fun z => of_decide_eq_true z.2, fun z => ⟨by omega, decide_eq_true z⟩⟩
theorem ct_S {K : Int → Int} {cl : List Cla} {S : Int} (hK : KOK K) (h : ∀ x : Int, 0 ≤ x → x < K 76 → (bt S x ↔ ctc K cl x)) : ∀ x : Int, 0 ≤ x → x < (K 76).toNat → (bt S x ↔ bt (ctS K cl) x) := by
  intro x x0 x1
  have hn := hK.1
  rw [ctS_bt hK x0 (by omega)]
  exact h x x0 (by omega)
/-- the class's fire, as the reference tells it -/
theorem fire_mt {K : Int → Int} {cl : List Cla} {S : Int} (hK : KOK K) (h : ∀ x : Int, 0 ≤ x → x < K 76 → (bt S x ↔ ctc K cl x)) : dist (frK K) (toK K) (brn K cl) (hld K cl) S (K 76).toNat (lit K) = mtD K cl := dist_S (ct_S hK h)
theorem fire_cm {K : Int → Int} {cl : List Cla} {S q : Int} (hK : KOK K) (h : ∀ x : Int, 0 ≤ x → x < K 76 → (bt S x ↔ ctc K cl x)) : dist (frK K) (toK K) (brn K cl) (hld K cl) S (K 76).toNat (src q) = cmP K cl q := dist_S (ct_S hK h)
theorem fire_o {K : Int → Int} {cl : List Cla} {S x : Int} {C : Int → Int} (hK : KOK K) (h : ∀ x : Int, 0 ≤ x → x < K 76 → (bt S x ↔ ctc K cl x)) (x0 : 0 ≤ x) (x1 : x < K 76) : outC (frK K) (toK K) (brn K cl) (hld K cl) S C x = oK K cl (ctS K cl) C x := outC_S ((h x x0 x1).trans (ctS_bt hK x0 x1).symm)
theorem fire_la {K : Int → Int} {cl : List Cla} {S s q : Int} (hK : KOK K) (h : ∀ x : Int, 0 ≤ x → x < K 76 → (bt S x ↔ ctc K cl x)) : lastN (outC (frK K) (toK K) (brn K cl) (hld K cl) S (cmP K cl q)) s (K 76).toNat = laP K cl q s := by
  have hn := hK.1
  exact lastN_cg _ (fun t t0 t1 => ⟨fire_o hK h t0 (by omega), Iff.rfl⟩)
theorem fire_go {K : Int → Int} {cl : List Cla} {S : Int} (hK : KOK K) (h : ∀ x : Int, 0 ≤ x → x < K 76 → (bt S x ↔ ctc K cl x)) : sm (fun x => b2i (outC (frK K) (toK K) (brn K cl) (hld K cl) S (mtD K cl) x ≤ 2 * K 28)) (K 76) = gone K cl := by
  unfold gone
  refine sm_cg (fun t t0 t1 => ?_)
  show b2i (outC (frK K) (toK K) (brn K cl) (hld K cl) S (mtD K cl) t ≤ 2 * K 28) = gonK K cl t
  unfold gonK
  rw [fire_o hK h t0 t1]
