/-! ===== what is kept from 81 on does not matter to orders ===== -/
def lo81 (K K' : Int → Int) : Prop := ∀ i, i < 81 → K' i = K i
section LO
variable {K K' : Int → Int} {cl : List Cla}
theorem lo_askF (h : lo81 K K') {x : Int} (x1 : x < 10) : askF K' x = askF K x := by
  funext a
  unfold askF
  rw [h (49 + x) (by omega), h (29 + x) (by omega), h (39 + x) (by omega), h 75 (by decide), h (10 + x) (by omega), h 28 (by decide)]
theorem lo_ends (h : lo81 K K') (hK : KOK K) (k : Int) : ends K' k = ends K k := by
  have hn := hK.1
  unfold ends
  rw [h 76 (by decide)]
  refine sm_cg (fun t t0 t1 => ?_)
  show b2i (K' (29 + t) = k ∨ K' (39 + t) = k) = b2i (K (29 + t) = k ∨ K (39 + t) = k)
  rw [h (29 + t) (by omega), h (39 + t) (by omega)]
theorem lo_askN (h : lo81 K K') (hK : KOK K) (k : Int) : askN K' k = askN K k := by
  funext a
  unfold askN
  rw [lo_ends h hK, h 75 (by decide), h 28 (by decide)]
theorem lo_brn (h : lo81 K K') {x : Int} (x1 : x < 10) : brn K' cl x = brn K cl x := by
  unfold brn
  rw [lo_askF h x1, h (10 + x) (by omega)]
theorem lo_hld (h : lo81 K K') (hK : KOK K) : hld K' cl = hld K cl := by
  funext k
  unfold hld
  rw [lo_askN h hK]
theorem lo_ctS (h : lo81 K K') (hK : KOK K) : ctS K' cl = ctS K cl := by
  have hn := hK.1
  unfold ctS
  rw [h 76 (by decide)]
  refine msk_cg _ (fun t t0 t1 => ?_)
  show decide (K' t = 0 ∧ tellF 3 0 1 (askF K' t) cl 0 = 0) = decide (K t = 0 ∧ tellF 3 0 1 (askF K t) cl 0 = 0)
  rw [lo_askF h (by omega), h t (by omega)]
theorem lo_mtD (h : lo81 K K') (hK : KOK K) : ag8 (mtD K' cl) (mtD K cl) := by
  have hn := hK.1
  unfold mtD dK
  rw [lo_ctS h hK, lo_hld h hK, h 76 (by decide)]
  rw [dist_cg80 (fr := frK K') (to := toK K') (B := brn K' cl) (fr' := frK K) (to' := toK K) (B' := brn K cl) (fun x x0 x1 => ⟨h (29 + x) (by omega), h (39 + x) (by omega), lo_brn h (by omega)⟩)]
  refine dist_cg hK.fr (fun t t0 t1 => ?_)
  unfold lit
  rw [h (20 + t) (by omega)]
theorem lo_gone (h : lo81 K K') (hK : KOK K) : gone K' cl = gone K cl := by
  have hn := hK.1
  unfold gone
  rw [h 76 (by decide)]
  refine sm_cg (fun t t0 t1 => ?_)
  have hk := hK.2.1 t t0 t1
  have em := lo_mtD (cl := cl) h hK
  unfold gonK oK outC
  rw [lo_ctS h hK, lo_hld h hK, lo_brn h (by omega), h 28 (by decide)]
  show b2i ((if ¬ bt (ctS K cl) t ∨ mtD K' cl (K' (29 + t)) = 1000000 then 1000000 else min (mtD K' cl (K' (29 + t)) + hld K cl (K' (29 + t)) + (mtD K' cl (K' (39 + t)) + hld K cl (K' (39 + t))) + brn K cl t) (2 * min (mtD K' cl (K' (29 + t)) + hld K cl (K' (29 + t))) (mtD K' cl (K' (39 + t)) + hld K cl (K' (39 + t))) + 2 * brn K cl t)) ≤ 2 * K 28) = b2i ((if ¬ bt (ctS K cl) t ∨ mtD K cl (K (29 + t)) = 1000000 then 1000000 else min (mtD K cl (K (29 + t)) + hld K cl (K (29 + t)) + (mtD K cl (K (39 + t)) + hld K cl (K (39 + t))) + brn K cl t) (2 * min (mtD K cl (K (29 + t)) + hld K cl (K (29 + t))) (mtD K cl (K (39 + t)) + hld K cl (K (39 + t))) + 2 * brn K cl t)) ≤ 2 * K 28)
  rw [h (29 + t) (by omega), h (39 + t) (by omega), em (K (29 + t)) (by omega) (by omega), em (K (39 + t)) (by omega) (by omega)]
theorem lo_phi (h : lo81 K K') (hK : KOK K) (dn lt : Int) : phiO K' cl dn lt = phiO K cl dn lt := by
  have hn := hK.1
  funext a
  unfold phiO
  rw [h 28 (by decide), lo_gone h hK, h 76 (by decide)]
  have es : sm K' (K 76) = sm K (K 76) := sm_cg (fun t _ t1 => h t (by omega))
  rw [es]
  split
  · rfl
  · split
    · rfl
    · split
      · rfl
      · split
        · rfl
        · split
          · rfl
          · split
            · exact h _ (by omega)
            · split
              · exact h _ (by omega)
              · rfl
theorem lo_iu (h : lo81 K K') {i v v' : Int} (e : v' = v) : lo81 (iu K i v) (iu K' i v') := by
  intro q hq
  unfold iu
  split
  · exact e
  · exact h q hq
theorem lo_kpR (h : lo81 K K') {X : Int → Int} {u w : Int} : kpR X K' u w = kpR X K u w := by
  have e : ∀ D : Int → Int, cpy D K' (30 * kpU u) 0 29 = cpy D K (30 * kpU u) 0 29 := by
    intro D
    funext t
    unfold cpy
    split
    · exact h _ (by omega)
    · rfl
  unfold kpR
  rw [e]
theorem lo_deed (h : lo81 K K') (hK : KOK K) {vb s1 s2 u : Int} {X : Int → Int} : (deed cl vb s1 s2 K' X u).1 = (deed cl vb s1 s2 K X u).1 ∧ lo81 (deed cl vb s1 s2 K X u).2.1 (deed cl vb s1 s2 K' X u).2.1 ∧ (deed cl vb s1 s2 K' X u).2.2 = (deed cl vb s1 s2 K X u).2.2 := by
  have hn := hK.1
  have h28 := hK.2.2.2.1
  unfold deed
  split
  · unfold dSoak
    rw [h 76 (by decide)]
    split
    · exact ⟨rfl, h, rfl⟩
    · rename_i hc
      have e := h (sml s1) (by omega)
      rw [e, lo_kpR h]
      exact ⟨rfl, lo_iu h rfl, rfl⟩
  · split
    · unfold dSwap
      rw [h 76 (by decide)]
      split
      · exact ⟨rfl, h, rfl⟩
      · split
        · exact ⟨rfl, h, rfl⟩
        · rename_i hc
          have e1 := h (10 + sml s1) (by omega)
          have e2 := h (10 + sml s2) (by omega)
          rw [e2, lo_kpR h]
          refine ⟨rfl, ?_, rfl⟩
          show lo81 (exchK K (sml s1) (sml s2)) (exchK K' (sml s1) (sml s2))
          unfold exchK
          exact lo_iu (lo_iu h e2) e1
    · split
      · unfold dPass
        rw [h 28 (by decide)]
        split
        · exact ⟨rfl, h, rfl⟩
        · rename_i hc
          have hl : lo81 (iu K 28 (K 28 + 1)) (iu K' 28 (K 28 + 1)) := lo_iu h rfl
          rw [lo_kpR h]
          exact ⟨lo_gone hl (KOK_28 hK (by omega) (by omega)), hl, rfl⟩
      · unfold dLit
        split
        · exact ⟨rfl, h, rfl⟩
        · rename_i hc
          have e := h (20 + sml s1) (by omega)
          rw [e, h 28 (by decide), lo_kpR h]
          split
          · exact ⟨rfl, h, rfl⟩
          · exact ⟨rfl, lo_iu h rfl, rfl⟩
end LO
def loW (w w' : OS) : Prop := lo81 w.1 w'.1 ∧ w'.2 = w.2
theorem lo_ordO {cl : List Cla} {k : Cla} {w w' : OS} (h : loW w w') (hK : KOK w.1) : (ordO cl k w = none ∧ ordO cl k w' = none) ∨ ∃ v v', ordO cl k w = some v ∧ ordO cl k w' = some v' ∧ loW v v' := by
  obtain ⟨K, X, u, dn, lt⟩ := w
  obtain ⟨K', w2⟩ := w'
  obtain ⟨h1, h2⟩ := h
  simp only at h1 h2 hK
  subst h2
  unfold ordO
  simp only
  rw [lo_phi h1 hK]
  by_cases c1 : tellF.isSoB k.2.2.2.2 (phiO K cl dn lt) = true
  · rw [if_pos c1, if_pos c1]
    by_cases c2 : sOK k.1 k.2.1 k.2.2.1 (phiO K cl dn lt)
    · rw [if_pos c2, if_pos c2]
      have hd := lo_deed (cl := cl) (vb := k.1) (s1 := (k.2.1 (phiO K cl dn lt)).getD 0) (s2 := (k.2.2.1 (phiO K cl dn lt)).getD 0) (u := u) (X := X) h1 hK
      generalize deed cl k.1 ((k.2.1 (phiO K cl dn lt)).getD 0) ((k.2.2.1 (phiO K cl dn lt)).getD 0) K X u = q at hd ⊢
      generalize deed cl k.1 ((k.2.1 (phiO K cl dn lt)).getD 0) ((k.2.2.1 (phiO K cl dn lt)).getD 0) K' X u = q' at hd ⊢
      obtain ⟨q1, q2, q3⟩ := q
      obtain ⟨p1, p2, p3⟩ := q'
      obtain ⟨d1, d2, d3⟩ := hd
      simp only at d1 d2 d3
      subst d1
      subst d3
      by_cases c3 : p1 < 0
      · exact Or.inl ⟨if_pos c3, if_pos c3⟩
      · exact Or.inr ⟨_, _, if_neg c3, if_neg c3, d2, rfl⟩
    · rw [if_neg c2, if_neg c2]; exact Or.inl ⟨rfl, rfl⟩
  · rw [if_neg c1, if_neg c1]; exact Or.inr ⟨_, _, rfl, rfl, h1, rfl⟩
theorem lo_ordT {cl : List Cla} {k : Cla} {K0 : Int → Int} : ∀ (n : Nat) (m : Int) (w w' : OS), loW w w' → OSok K0 m w → (ordT cl k n w = none ∧ ordT cl k n w' = none) ∨ ∃ (v v' : OS) (m2 : Int), ordT cl k n w = some v ∧ ordT cl k n w' = some v' ∧ loW v v' ∧ OSok K0 m2 v := by
  intro n
  induction n with
  | zero => intro m w w' h ho; exact Or.inr ⟨w, w', m, rfl, rfl, h, ho⟩
  | succ n ih =>
    intro m w w' h ho
    rcases lo_ordO (cl := cl) (k := k) h ho.1 with ⟨a, b⟩ | ⟨v, v', a, b, c⟩
    · left
      refine ⟨?_, ?_⟩
      · show (match ordO cl k w with | none => none | some w' => ordT cl k n w') = none
        rw [a]
      · show (match ordO cl k w' with | none => none | some w' => ordT cl k n w') = none
        rw [b]
    · rw [ordT_s a, ordT_s b]
      exact ih _ v v' c (ordO_ok ho a)
theorem lo_ordL {cl : List Cla} {K0 : Int → Int} : ∀ (l : List Cla) (i : Nat) (m : Int) (w w' : OS), loW w w' → OSok K0 m w → (∃ e, ordL cl l i w = .error e ∧ ordL cl l i w' = .error e) ∨ ∃ v v', ordL cl l i w = .ok v ∧ ordL cl l i w' = .ok v' ∧ loW v v' := by
  intro l
  induction l with
  | nil => intro i m w w' h ho; exact Or.inr ⟨w, w', rfl, rfl, h⟩
  | cons k l ih =>
    intro i m w w' h ho
    rcases lo_ordT (cl := cl) (k := k) k.2.2.2.1.toNat m w w' h ho with ⟨a, b⟩ | ⟨v, v', m2, a, b, c, d⟩
    · exact Or.inl ⟨i, ordL_e a, ordL_e b⟩
    · rw [ordL_c a, ordL_c b]
      exact ih _ m2 v v' c d
