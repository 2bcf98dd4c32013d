/-! ===== the reference: law ===== -/
section Cg2
variable {lw : Bool} {c v c' v' : Int → Int}
theorem pPart_cg2 {inner inner' : Option (Nat → Nat → PR)} (hc : ∀ i : Int, 0 ≤ i → c i = c' i) (hv : ∀ i : Int, 0 ≤ i → c i = 50 → v i = v' i) (hi : inner = inner') : pPart lw c v inner = pPart lw c' v' inner' := by
  subst hi
  funext t p
  have e1 := hc t (by omega)
  have e2 := hc (t + 1) (by omega)
  have f1 := hv t (by omega)
  have f2 := hv (t + 1) (by omega)
  rw [e1] at f1
  rw [e2] at f2
  have g1 : (c' t = 50 ∧ v t ≤ 1000) ↔ (c' t = 50 ∧ v' t ≤ 1000) := and_congr_right (fun h => by rw [f1 h])
  unfold pPart
  rw [e1, e2]
  by_cases h191 : c' t = 191
  · rw [if_pos h191, if_pos h191]
    cases inner with
    | none => rfl
    | some g =>
      simp only
      cases g (t + 1) p with
      | error e => rfl
      | ok r => simp only; rw [hc r.1 (by omega)]
  · rw [if_neg h191, if_neg h191]
    by_cases hA : (c' t = 50 ∧ v t ≤ 1000) ∨ (wLo lw ≤ c' t ∧ c' t ≤ wHi lw)
    · have hB : (c' t = 50 ∧ v' t ≤ 1000) ∨ (wLo lw ≤ c' t ∧ c' t ≤ wHi lw) := hA.elim (fun z => Or.inl (g1.mp z)) Or.inr
      rw [if_pos hA, if_pos hB]
      by_cases h50 : p = 50
      · rw [if_pos h50, if_pos h50]
      · rw [if_neg h50, if_neg h50]
        by_cases h15 : lw = false ∧ c' t = 15
        · rw [if_pos h15, if_pos h15]
          by_cases hn : c' (t + 1) = 50
          · rw [f2 hn]
          · rw [if_neg (fun z => hn z.1), if_neg (fun z => hn z.1)]
        · rw [if_neg h15, if_neg h15]
          by_cases h21 : lw = false ∧ c' t = 21
          · rw [if_pos h21, if_pos h21]
            by_cases hn : c' (t + 1) = 50
            · rw [f2 hn]
            · rw [if_neg (fun z => hn z.1), if_neg (fun z => hn z.1)]
          · rw [if_neg h21, if_neg h21]
            by_cases hn : c' t = 50
            · rw [if_pos hn, if_pos hn, f1 hn]
            · rw [if_neg hn, if_neg hn]
    · have hB : ¬ ((c' t = 50 ∧ v' t ≤ 1000) ∨ (wLo lw ≤ c' t ∧ c' t ≤ wHi lw)) := fun q => hA (q.elim (fun z => Or.inl (g1.mpr z)) Or.inr)
      rw [if_neg hA, if_neg hB]
theorem pSumD_cg2 (hc : ∀ i : Int, 0 ≤ i → c i = c' i) (hv : ∀ i : Int, 0 ≤ i → c i = 50 → v i = v' i) : ∀ d : Nat, pSumD lw c v d = pSumD lw c' v' d := by
  intro d
  induction d with
  | zero => exact pRow_cg hc (pRow_cg hc (pPart_cg2 hc hv rfl))
  | succ d ih => exact pRow_cg hc (pRow_cg hc (pPart_cg2 hc hv (by rw [ih])))
theorem pTestD_cg2 (hc : ∀ i : Int, 0 ≤ i → c i = c' i) (hv : ∀ i : Int, 0 ≤ i → c i = 50 → v i = v' i) : ∀ d : Nat, pTestD lw c v d = pTestD lw c' v' d := by
  intro d
  induction d with
  | zero => exact pRowB_cg hc (pRowB_cg hc (pPlain_cg hc (pSumD_cg2 hc hv 0) rfl))
  | succ d ih => exact pRowB_cg hc (pRowB_cg hc (pPlain_cg hc (pSumD_cg2 hc hv (d + 1)) (by rw [ih])))
theorem pIf_cg2 (hc : ∀ i : Int, 0 ≤ i → c i = c' i) (hv : ∀ i : Int, 0 ≤ i → c i = 50 → v i = v' i) : pIf lw c v = pIf lw c' v' := by
  funext t p
  unfold pIf
  rw [hc t (by omega), pTestD_cg2 hc hv 8]
theorem timC_cg2 (hc : ∀ i : Int, 0 ≤ i → c i = c' i) (hv : ∀ i : Int, 0 ≤ i → c i = 50 → v i = v' i) (vb : Int) (d1 d2 : Den) (t p : Nat) : timC lw c v vb d1 d2 t p = timC lw c' v' vb d1 d2 t p := by
  have e1 := hc t (by omega)
  have e2 := hc (t + 1) (by omega)
  have f2 := hv (t + 1) (by omega)
  rw [e2] at f2
  unfold timC finC
  rw [pIf_cg2 hc hv, e1, e2]
  by_cases h27 : c' t = 27
  · rw [if_pos h27, if_pos h27]
    by_cases hn : c' (t + 1) = 50
    · rw [f2 hn]
    · rw [if_neg (fun z => hn z.1), if_neg (fun z => hn z.1)]
  · rw [if_neg h27, if_neg h27]
theorem finC_cg2 (hc : ∀ i : Int, 0 ≤ i → c i = c' i) (hv : ∀ i : Int, 0 ≤ i → c i = 50 → v i = v' i) (vb : Int) (d1 d2 : Den) (tm : Int) (t p : Nat) : finC lw c v vb d1 d2 tm t p = finC lw c' v' vb d1 d2 tm t p := by
  unfold finC
  rw [pIf_cg2 hc hv]
/-- a clause, by its pieces -/
theorem pCla_eq (t p : Nat) : pCla lw c v t p = (if lw = true then
    (if c t = 1 ∨ c t = 2 then (match pSumD lw c v 8 (t + 1) p with
      | .error e => .error e
      | .ok (t', p', k) => finC lw c v (c t) k dOne 1 t' p')
    else if c t = 3 then finC lw c v 3 dOne dOne 1 (t + 1) p else .error t)
  else
    (if c t = 24 then (match pSumD lw c v 8 (t + 1) p with
      | .error e => .error e
      | .ok (t', p', k) => if c t' = 25 then (match pSumD lw c v 8 (t' + 1) p' with
        | .error e => .error e
        | .ok (t2, p2, k2) => timC lw c v 24 k k2 t2 p2) else .error t')
    else if c t = 22 ∨ c t = 23 then (match pSumD lw c v 8 (t + 1) p with
      | .error e => .error e
      | .ok (t', p', k) => timC lw c v (c t) k dOne t' p')
    else if c t = 26 then timC lw c v 26 dOne dOne (t + 1) p else .error t)) := rfl
theorem pCla_cg2 (hc : ∀ i : Int, 0 ≤ i → c i = c' i) (hv : ∀ i : Int, 0 ≤ i → c i = 50 → v i = v' i) : pCla lw c v = pCla lw c' v' := by
  funext t p
  have e1 := hc t (by omega)
  have et : ∀ t : Nat, c t = c' t := fun t => hc t (by omega)
  have e3 := finC_cg2 (lw := lw) hc hv
  have e4 := timC_cg2 (lw := lw) hc hv
  rw [pCla_eq, pCla_eq, pSumD_cg2 hc hv 8]
  simp only [et, e3, e4]
theorem pText_cg2 (hc : ∀ i : Int, 0 ≤ i → c i = c' i) (hv : ∀ i : Int, 0 ≤ i → c i = 50 → v i = v' i) (n : Nat) : ∀ m t p : Nat, pText lw c v n m t p = pText lw c' v' n m t p := by
  intro m
  induction m with
  | zero => intro t p; rfl
  | succ m ih =>
    intro t p
    simp only [pText]
    rw [pCla_cg2 hc hv]
    cases pCla lw c' v' t p with
    | error e => rfl
    | ok r =>
      simp only
      rw [hc r.1 (by omega), ih]
end Cg2
def bdT (pl : Int → Int) (r : Except Nat (List Cla)) : Except Int Unit := match r with
  | .error e => .error (pl e)
  | .ok _ => .ok ()
def txS (lw : Bool) (c v pl : Int → Int) (N : Int) (m : Nat) (s : RS) : Except Int Unit := match s with
  | .error b => .error b
  | .ok (t, p) => if c t = 159 then bdT pl (pText lw c v N.toNat m (t + 1) p) else if (t : Int) < N then .error (pl t) else .ok ()
theorem tx_cla {lw : Bool} {c v pl : Int → Int} {N : Int} (hN : 0 ≤ N) {m t p : Nat} : bdT pl (pText lw c v N.toNat (m + 1) t p) = txS lw c v pl N m (cvC pl (pCla lw c v t p)) := by
  simp only [pText]
  cases hg : pCla lw c v t p with
  | error e => rfl
  | ok r =>
    obtain ⟨t', p', k⟩ := r
    show _ = (if c t' = 159 then bdT pl (pText lw c v N.toNat m (t' + 1) p') else if (t' : Int) < N then .error (pl t') else .ok ())
    simp only
    by_cases q : c t' = 159
    · rw [if_pos q, if_pos q]
      cases hg2 : pText lw c v N.toNat m (t' + 1) p' with
      | error e => rfl
      | ok l => rfl
    · rw [if_neg q, if_neg q]
      by_cases q2 : t' < N.toNat
      · rw [if_pos q2, if_pos (by omega)]; rfl
      · rw [if_neg q2, if_neg (by omega)]; rfl
theorem tx_t {lw : Bool} {c v pl : Int → Int} {N : Int} {m t p : Nat} (h : c t = 159) : txS lw c v pl N m (.ok (t, p)) = bdT pl (pText lw c v N.toNat m (t + 1) p) := if_pos h
theorem tkB_ok {c : Int → Int} {s : RS} {x : Int} (h : tkB c s x = true) : ∃ t p, s = .ok (t, p) ∧ c t = x := by
  match s, h with
  | .ok (t, p), h => exact ⟨t, p, rfl, of_decide_eq_true h⟩
set_option maxHeartbeats 4000000 in
set_option maxRecDepth 100000 in
theorem lp_reads {l : Launch} {o : Nat} {ar : Nat → Nat} {N : Int} {c v pl X15 X16 X17 : Int → Int} {w8 w9 io : Int} (hR : RdH N c v pl X15 X16 X17) {lw : Bool} (e8 : w8 = wLo lw) (e9 : w9 = wHi lw) (e10 : io = inL lw) {d : Nat} {Pz : Option Value → zH → Prop} {h0 : zH} {f0 : mF} {g0 j : mA} {F : Except Int Unit} (hd : 64 ≤ d) (kx : ∀ (s : RS) (m : Nat) (i : Int) (f : mF) (g : mA) (h : zH), St f s → SOK N s → ¬ tkB c s 159 = true → F = txS lw c v pl N m s → g 15 = X15 → g 16 = X16 → g 17 = X17 → f 8 = w8 → f 9 = w9 → f 10 = io → f 18 = N → eqx [19, 20, 21] f0 f → eqx [] g0 g → HM o ar f g j h → zAg o ar h0 h → Z l MX8_reads d 0 0 Pz 73 [some (.ref o), some (vI i)] [] h 0 0) : ∀ (n : Nat) (m : Nat) (i : Int) (s : RS) (f : mF) (g : mA) (h : zH) (i0 : 1 ≤ i) (i1 : 13 < i + n) (im : (i ≤ 12 ∧ (m : Int) = 12 - i) ∨ (i = 13 ∧ m = 0)) (ie : i = 13 → ∃ b, s = .error b) (hSt : St f s) (hOK : SOK N s) (hF : F = txS lw c v pl N m s) (eg15 : g 15 = X15) (eg16 : g 16 = X16) (eg17 : g 17 = X17) (ef8 : f 8 = w8) (ef9 : f 9 = w9) (ef10 : f 10 = io) (ef18 : f 18 = N) (hfE : eqx [19, 20, 21] f0 f) (hgE : eqx [] g0 g) (hH : HM o ar f g j h) (hA : zAg o ar h0 h), Z l MX8_reads d 0 0 Pz 34 [some (.ref o), some (vI i)] [] h 0 0 := by
  intro n
  induction n with
  | zero => intro m i s f g h i0 i1 im ie hSt hOK hF eg15 eg16 eg17 ef8 ef9 ef10 ef18 hfE hgE hH hA; exfalso; omega
  | succ n ih =>
    intro m i s f g h i0 i1 im ie hSt hOK hF eg15 eg16 eg17 ef8 ef9 ef10 ef18 hfE hgE hH hA
    refine z_ald_0 (TX8_reads.at 20 rfl) ?_
    refine z_bipush (by decide) (TX8_reads.at 21 rfl) ?_
    refine zs_call1 (s_sign (by omega)) (TX8_reads.at 22 rfl) c8_219 rfl (by omega) (Nat.le_of_ble_eq_true rfl) (fun r37 => ?_)
    simp only [Int.reduceAdd] at r37 ⊢
    refine zm_callI1 (m_takes0 eg15 rfl rfl (by omega) (st_b hSt hOK hR.1.2)) (TX8_reads.at 23 rfl) c8_180 rfl rfl hH hA (by omega) (Nat.le_of_ble_eq_true rfl) (fun x40 f40 g40 j40 h r40 q40 hH hA => ?_)
    obtain ⟨q40, xf, xg, xj⟩ := q40
    rw [xj] at hH
    have ef8 := (xf 8 (by decide)).trans ef8
    have ef9 := (xf 9 (by decide)).trans ef9
    have ef10 := (xf 10 (by decide)).trans ef10
    have ef18 := (xf 18 (by decide)).trans ef18
    have hfE := hfE.trans xf (by decide)
    have eg15 := (xg 15 (by decide)).trans eg15
    have eg16 := (xg 16 (by decide)).trans eg16
    have eg17 := (xg 17 (by decide)).trans eg17
    have hgE := hgE.trans xg (by decide)
    have qL := q40
    have hT40 := sv_takes hR hSt hOK qL xf
    rw [hT40.1] at r40 ⊢
    refine z_if_eqB (tgt := 73) (TX8_reads.at 24 rfl) rfl (fun c1 => ?_) (fun c1 => ?_)
    · skip
      exact kx s m _ _ _ _ (hT40.2.2 c1) hOK c1 hF eg15 eg16 eg17 ef8 ef9 ef10 ef18 hfE hgE hH hA
    · skip
      have i12 : i ≤ 12 := (by rcases im with z | z; exact z.1; obtain ⟨b, hb⟩ := ie z.1; rw [hb] at c1; cases c1)
      obtain ⟨t, p, rfl, hct⟩ := tkB_ok c1
      have hSt := hT40.2.1 c1
      have hOK := ok_tk hR.2.2 hOK (by decide) c1
      have hF2 := hF.trans (tx_t hct)
      refine z_ild_1 (TX8_reads.at 25 rfl) ?_
      refine z_bipush (by decide) (TX8_reads.at 26 rfl) ?_
      refine z_icmp_ne (tgt := 56) (TX8_reads.at 27 rfl) rfl (by omega) (by omega) (fun c2 => ?_) (fun c2 => ?_)
      · skip
        refine z_ald_0 (TX8_reads.at 30 rfl) ?_
        refine zm_callI0 (m_fine rfl) (TX8_reads.at 31 rfl) c8_173 rfl rfl hH hA (by omega) (Nat.le_of_ble_eq_true rfl) (fun x57 f57 g57 j57 h r57 q57 hH hA => ?_)
        obtain ⟨q57, xf, xg, xj⟩ := q57
        rw [xj] at hH
        have ef8 := (xf 8 (by decide)).trans ef8
        have ef9 := (xf 9 (by decide)).trans ef9
        have ef10 := (xf 10 (by decide)).trans ef10
        have ef18 := (xf 18 (by decide)).trans ef18
        have hfE := hfE.trans xf (by decide)
        have eg15 := (xg 15 (by decide)).trans eg15
        have eg16 := (xg 16 (by decide)).trans eg16
        have eg17 := (xg 17 (by decide)).trans eg17
        have hgE := hgE.trans xg (by decide)
        have qL := q57
        obtain rfl := qL
        have hS0 := hSt
        have hSt := St_tr hSt xf
        refine z_if_eqB (tgt := 67) (TX8_reads.at 32 rfl) rfl (fun c3 => absurd c3 (by exact not_not_intro hS0.2.2)) (fun c3 => ?_)
        refine z_ald_0 (TX8_reads.at 33 rfl) ?_
        refine zm_callV0 (r_readOne hR e8 e9 e10 eg15 eg16 eg17 ef8 ef9 ef10 hSt hOK) (TX8_reads.at 34 rfl) c8_241 rfl rfl hH hA (by omega) (Nat.le_of_ble_eq_true rfl) (fun f64 g64 j64 h q64 hH hA => ?_)
        obtain ⟨q64, xf, xg, xj⟩ := q64
        rw [xj] at hH
        have ef8 := (xf 8 (by decide)).trans ef8
        have ef9 := (xf 9 (by decide)).trans ef9
        have ef10 := (xf 10 (by decide)).trans ef10
        have ef18 := (xf 18 (by decide)).trans ef18
        have hfE := hfE.trans xf (by decide)
        have eg15 := (xg 15 (by decide)).trans eg15
        have eg16 := (xg 16 (by decide)).trans eg16
        have eg17 := (xg 17 (by decide)).trans eg17
        have hgE := hgE.trans xg (by decide)
        have qL := q64
        have hSt := qL
        have hOK := ok_cla (lw := lw) (v := v) (pl := pl) hR.2.2 hOK
        refine z_iinc_1 (TX8_reads.at 35 rfl) (Nat.le_of_ble_eq_true rfl) rfl ?_
        refine z_goto (tgt := 34) (TX8_reads.at 36 rfl) rfl ?_
        first
        | (have hm1 : i ≠ 12 := (by omega)
           obtain ⟨m2, rfl⟩ : ∃ m2, m = m2 + 1 := ⟨m - 1, by omega⟩
           exact ih m2 _ _ _ _ _ (by omega) (by omega) (by omega) (fun z => by omega) hSt hOK (hF2.trans (tx_cla hR.1.1)) eg15 eg16 eg17 ef8 ef9 ef10 ef18 hfE hgE hH hA)
        | (have hm1 : i = 12 := (by omega)
           obtain rfl : m = 0 := (by omega)
           exact ih 0 _ _ _ _ _ (by omega) (by omega) (by omega) (fun _ => ⟨_, rfl⟩) hSt hOK hF2 eg15 eg16 eg17 ef8 ef9 ef10 ef18 hfE hgE hH hA)
      · skip
        refine z_ald_0 (TX8_reads.at 28 rfl) ?_
        refine zm_callV0 (m_faults eg17 rfl rfl (st_b hSt hOK hR.1.2)) (TX8_reads.at 29 rfl) c8_183 rfl rfl hH hA (by omega) (Nat.le_of_ble_eq_true rfl) (fun f53 g53 j53 h q53 hH hA => ?_)
        obtain ⟨q53, xf, xg, xj⟩ := q53
        rw [xj] at hH
        have ef8 := (xf 8 (by decide)).trans ef8
        have ef9 := (xf 9 (by decide)).trans ef9
        have ef10 := (xf 10 (by decide)).trans ef10
        have ef18 := (xf 18 (by decide)).trans ef18
        have hfE := hfE.trans xf (by decide)
        have eg15 := (xg 15 (by decide)).trans eg15
        have eg16 := (xg 16 (by decide)).trans eg16
        have eg17 := (xg 17 (by decide)).trans eg17
        have hgE := hgE.trans xg (by decide)
        have qL := q53
        have hSt := sv_faults hR hSt hOK qL
        have hOK := ok_fa (N := N) hSt
        refine z_ald_0 (TX8_reads.at 30 rfl) ?_
        refine zm_callI0 (m_fine rfl) (TX8_reads.at 31 rfl) c8_173 rfl rfl hH hA (by omega) (Nat.le_of_ble_eq_true rfl) (fun x57 f57 g57 j57 h r57 q57 hH hA => ?_)
        obtain ⟨q57, xf, xg, xj⟩ := q57
        rw [xj] at hH
        have ef8 := (xf 8 (by decide)).trans ef8
        have ef9 := (xf 9 (by decide)).trans ef9
        have ef10 := (xf 10 (by decide)).trans ef10
        have ef18 := (xf 18 (by decide)).trans ef18
        have hfE := hfE.trans xf (by decide)
        have eg15 := (xg 15 (by decide)).trans eg15
        have eg16 := (xg 16 (by decide)).trans eg16
        have eg17 := (xg 17 (by decide)).trans eg17
        have hgE := hgE.trans xg (by decide)
        have qL := q57
        obtain rfl := qL
        have hS0 := hSt
        have hSt := St_tr hSt xf
        refine z_if_eqB (tgt := 67) (TX8_reads.at 32 rfl) rfl (fun c4 => ?_) (fun c4 => absurd c4 (by exact (fun z => hS0.2 (hS0.1.symm.trans z))))
        refine z_iinc_1 (TX8_reads.at 35 rfl) (Nat.le_of_ble_eq_true rfl) rfl ?_
        refine z_goto (tgt := 34) (TX8_reads.at 36 rfl) rfl ?_
        first
        | (have hm1 : i ≠ 12 := (by omega)
           obtain ⟨m2, rfl⟩ : ∃ m2, m = m2 + 1 := ⟨m - 1, by omega⟩
           exact ih m2 _ _ _ _ _ (by omega) (by omega) (by omega) (fun z => by omega) hSt hOK (hF2.trans (tx_cla hR.1.1)) eg15 eg16 eg17 ef8 ef9 ef10 ef18 hfE hgE hH hA)
        | (have hm1 : i = 12 := (by omega)
           obtain rfl : m = 0 := (by omega)
           exact ih 0 _ _ _ _ _ (by omega) (by omega) (by omega) (fun _ => ⟨_, rfl⟩) hSt hOK hF2 eg15 eg16 eg17 ef8 ef9 ef10 ef18 hfE hgE hH hA)

/-- what reading says in the end -/
def rdQ (F : Except Int Unit) (r x14 : Int) : Prop := match F with
  | .error b => r = 0 ∧ x14 = b
  | .ok _ => r = 1 ∧ x14 = -1
def txtS (lw : Bool) (U : Int → Int) (z : Int) : Except Nat (List Cla) := pText lw (cT U z) (vT U z) (tN U z).toNat 12 0 0
theorem eqx3 {f : mF} {ks ks2 : List Nat} {f0 f1 : mF} (h : eqx ks f0 f1) (h2 : eqx ks2 f1 f) (hs : ∀ q ∈ ks2, q ∈ ks) : eqx ks f0 f := h.trans h2 hs
set_option maxHeartbeats 4000000 in
set_option maxRecDepth 100000 in
theorem m_reads {l : Launch} {o : Nat} {ar : Nat → Nat} {f : mF} {g j : mA} {X7 : Int → Int} {X11 : Int → Int} {w8 : Int} {w9 : Int} {io : Int} {z : Int} {U : Int → Int} {lw : Bool} (eg7 : g 7 = X7) (eg11 : g 11 = X11) (ef8 : f 8 = w8) (ef9 : f 9 = w9) (ef10 : f 10 = io) (ef13 : f 13 = z) (hW : WdH X7) (hU : TpU X11 U) (z0 : 0 ≤ z) (z4 : z ≤ 400) (e8 : w8 = wLo lw) (e9 : w9 = wHi lw) (e10 : io = inL lw) : MM l o ar MX8_reads 64 [.ref o] f g j (PI (fun r f' g' j' => (rdQ (bdT (pT U z) (txtS lw U z)) r (f' 14) ∧ f' 13 = 0 ∧ f' 18 = tN U z ∧ RdH (tN U z) (cT U z) (vT U z) (pT U z) (g' 15) (g' 16) (g' 17)) ∧ eqx [13, 14, 18, 19, 20, 21] f f' ∧ eqx [15, 16, 17] g g' ∧ j' = j)) := by
  refine MM.intro [some (.ref o), none] (by decide) (Nat.le_of_ble_eq_true rfl) rfl (fun d hd h0 h hH hA => ?_)
  have hfE : eqx [13, 14, 18, 19, 20, 21] f f := eqx.rf
  have hgE : eqx [15, 16, 17] g g := eqx.rf
  refine z_ald_0 (TX8_reads.at 0 rfl) ?_
  refine z_ald_0 (TX8_reads.at 1 rfl) ?_
  refine zm_getIE ef13 (TX8_reads.at 2 rfl) fl8_150 hH rfl (by decide) (fun r2 => ?_)
  refine zm_callV1 (m_splits (U := U) eg7 eg11 (by omega) hW hU z0 z4) (TX8_reads.at 3 rfl) c8_238 rfl rfl hH hA (by omega) (Nat.le_of_ble_eq_true rfl) (fun f5 g5 j5 h q5 hH hA => ?_)
  obtain ⟨q5, xf, xg, xj⟩ := q5
  rw [xj] at hH
  have ef8 := (xf 8 (by decide)).trans ef8
  have ef9 := (xf 9 (by decide)).trans ef9
  have ef10 := (xf 10 (by decide)).trans ef10
  have ef13 := (xf 13 (by decide)).trans ef13
  have hfE := hfE.trans xf (by decide)
  have eg7 := (xg 7 (by decide)).trans eg7
  have eg11 := (xg 11 (by decide)).trans eg11
  have hgE := hgE.trans xg (by decide)
  have qL := q5
  obtain ⟨X15, eg15⟩ : ∃ q, g5 15 = q := ⟨_, rfl⟩
  obtain ⟨X16, eg16⟩ : ∃ q, g5 16 = q := ⟨_, rfl⟩
  obtain ⟨X17, eg17⟩ : ∃ q, g5 17 = q := ⟨_, rfl⟩
  rw [eg15, eg16, eg17] at qL
  obtain ⟨ef18, hR⟩ := qL
  obtain ⟨N, hNe⟩ : ∃ q, q = tN U z := ⟨_, rfl⟩
  obtain ⟨c, hce⟩ : ∃ q, q = cT U z := ⟨_, rfl⟩
  obtain ⟨v, hve⟩ : ∃ q, q = vT U z := ⟨_, rfl⟩
  obtain ⟨pl, hpe⟩ : ∃ q, q = pT U z := ⟨_, rfl⟩
  rw [← hNe, ← hce, ← hve, ← hpe] at hR
  rw [← hNe] at ef18
  have htx : txtS lw U z = pText lw c v N.toNat 12 0 0 := by unfold txtS; rw [hNe, hce, hve]
  rw [← hNe, ← hce, ← hve, ← hpe]
  refine z_ald_0 (TX8_reads.at 4 rfl) ?_
  refine z_iconst (TX8_reads.at 5 rfl) ?_
  refine zm_putIE (TX8_reads.at 6 rfl) fp8_150 hH hA rfl (by decide) (by first | omega | exact b2i_01 _) (fun h f10 e1 e2 hH hA => ?_)
  have ef8 := (e1 8 (by decide)).trans ef8
  have ef9 := (e1 9 (by decide)).trans ef9
  have ef10 := (e1 10 (by decide)).trans ef10
  have ef13 := e2
  have ef18 := (e1 18 (by decide)).trans ef18
  have hfE := hfE.put e1 (by decide)
  refine z_ald_0 (TX8_reads.at 7 rfl) ?_
  refine z_iconst (TX8_reads.at 8 rfl) ?_
  refine zm_putIE (TX8_reads.at 9 rfl) fp8_177 hH hA rfl (by decide) (by first | omega | exact b2i_01 _) (fun h f15 e1 e2 hH hA => ?_)
  have ef8 := (e1 8 (by decide)).trans ef8
  have ef9 := (e1 9 (by decide)).trans ef9
  have ef10 := (e1 10 (by decide)).trans ef10
  have ef13 := (e1 13 (by decide)).trans ef13
  have ef18 := (e1 18 (by decide)).trans ef18
  have hfE := hfE.put e1 (by decide)
  have ef19 := e2
  refine z_ald_0 (TX8_reads.at 10 rfl) ?_
  refine z_iconst (TX8_reads.at 11 rfl) ?_
  refine zm_putIE (TX8_reads.at 12 rfl) fp8_186 hH hA rfl (by decide) (by first | omega | exact b2i_01 _) (fun h f20 e1 e2 hH hA => ?_)
  have ef8 := (e1 8 (by decide)).trans ef8
  have ef9 := (e1 9 (by decide)).trans ef9
  have ef10 := (e1 10 (by decide)).trans ef10
  have ef13 := (e1 13 (by decide)).trans ef13
  have ef18 := (e1 18 (by decide)).trans ef18
  have hfE := hfE.put e1 (by decide)
  have ef19 := (e1 19 (by decide)).trans ef19
  have ef20 := e2
  refine z_ald_0 (TX8_reads.at 13 rfl) ?_
  refine z_iconst (TX8_reads.at 14 rfl) ?_
  refine zm_putIE (TX8_reads.at 15 rfl) fp8_170 hH hA rfl (by decide) (by first | omega | exact b2i_01 _) (fun h f25 e1 e2 hH hA => ?_)
  have ef8 := (e1 8 (by decide)).trans ef8
  have ef9 := (e1 9 (by decide)).trans ef9
  have ef10 := (e1 10 (by decide)).trans ef10
  have ef13 := (e1 13 (by decide)).trans ef13
  have ef18 := (e1 18 (by decide)).trans ef18
  have hfE := hfE.put e1 (by decide)
  have ef19 := (e1 19 (by decide)).trans ef19
  have ef20 := (e1 20 (by decide)).trans ef20
  have hSt : St f25 (.ok (0, 0)) := ⟨ef19, ef20, e2⟩
  have hOK : SOK N (.ok (0, 0)) := ⟨hR.1.1, by omega⟩
  refine z_ald_0 (TX8_reads.at 16 rfl) ?_
  refine zm_callV0 (r_readOne hR e8 e9 e10 eg15 eg16 eg17 ef8 ef9 ef10 hSt hOK) (TX8_reads.at 17 rfl) c8_241 rfl rfl hH hA (by omega) (Nat.le_of_ble_eq_true rfl) (fun f29 g29 j29 h q29 hH hA => ?_)
  obtain ⟨q29, xf, xg, xj⟩ := q29
  rw [xj] at hH
  have ef8 := (xf 8 (by decide)).trans ef8
  have ef9 := (xf 9 (by decide)).trans ef9
  have ef10 := (xf 10 (by decide)).trans ef10
  have ef13 := (xf 13 (by decide)).trans ef13
  have ef18 := (xf 18 (by decide)).trans ef18
  have hfE := hfE.trans xf (by decide)
  have eg7 := (xg 7 (by decide)).trans eg7
  have eg11 := (xg 11 (by decide)).trans eg11
  have eg15 := (xg 15 (by decide)).trans eg15
  have eg16 := (xg 16 (by decide)).trans eg16
  have eg17 := (xg 17 (by decide)).trans eg17
  have hgE := hgE.trans xg (by decide)
  have qL := q29
  have hSt := qL
  have hOK := ok_cla (lw := lw) (v := v) (pl := pl) hR.2.2 hOK
  refine z_iconst (TX8_reads.at 18 rfl) ?_
  refine z_ist_1 (TX8_reads.at 19 rfl) (Nat.le_of_ble_eq_true rfl) rfl ?_
  have hF0 : bdT pl (txtS lw U z) = txS lw c v pl N 11 (cvC pl (pCla lw c v 0 0)) := by rw [htx]; exact tx_cla hR.1.1
  refine lp_reads (F := bdT pl (txtS lw U z)) hR e8 e9 e10 (by omega) (fun s m i f3 g3 h3 hSt hOK hnt hF eg15 eg16 eg17 ef8 ef9 ef10 ef18 xf xg hH hA => ?_) 13 11 1 _ _ _ _ (by omega) (by omega) (Or.inl ⟨by omega, by omega⟩) (fun q => by omega) hSt hOK hF0 eg15 eg16 eg17 ef8 ef9 ef10 ef18 eqx.rf eqx.rf hH hA
  have hfE := hfE.trans xf (by decide)
  have hgE := hgE.trans xg (by decide)
  have ef13 := (xf 13 (by decide)).trans ef13
  rcases St_in hSt with ⟨b, rfl, ef21, hb1⟩ | ⟨t, p, rfl, ef19, ef20, ef21⟩
  · have hF2 : bdT pl (txtS lw U z) = .error b := hF
    refine z_ald_0 (TX8_reads.at 37 rfl) ?_
    refine zm_callI0 (m_fine ef21) (TX8_reads.at 38 rfl) c8_173 rfl rfl hH hA (by omega) (Nat.le_of_ble_eq_true rfl) (fun x74 f74 g74 j74 h r74 q74 hH hA => ?_)
    obtain ⟨q74, xf, xg, xj⟩ := q74
    rw [xj] at hH
    have ef13 := (xf 13 (by decide)).trans ef13
    have ef18 := (xf 18 (by decide)).trans ef18
    have ef21 := (xf 21 (by decide)).trans ef21
    have hfE := hfE.trans xf (by decide)
    have eg15 := (xg 15 (by decide)).trans eg15
    have eg16 := (xg 16 (by decide)).trans eg16
    have eg17 := (xg 17 (by decide)).trans eg17
    have hgE := hgE.trans xg (by decide)
    have qL := q74
    obtain rfl := qL
    refine z_if_eqB (tgt := 95) (TX8_reads.at 39 rfl) rfl (fun c1 => ?_) (fun c1 => absurd c1 (by exact hb1))
    refine z_ald_0 (TX8_reads.at 47 rfl) ?_
    refine z_ald_0 (TX8_reads.at 48 rfl) ?_
    refine zm_getIE ef21 (TX8_reads.at 49 rfl) fl8_170 hH rfl (by decide) (fun r97 => ?_)
    refine zm_putIE (TX8_reads.at 50 rfl) fp8_51 hH hA rfl (by decide) (by first | omega | exact b2i_01 _) (fun h f100 e1 e2 hH hA => ?_)
    have ef13 := (e1 13 (by decide)).trans ef13
    have ef18 := (e1 18 (by decide)).trans ef18
    have ef21 := (e1 21 (by decide)).trans ef21
    have hfE := hfE.put e1 (by decide)
    have ef14 := e2
    refine z_ald_0 (TX8_reads.at 51 rfl) ?_
    refine zm_callI0 (m_fine ef21) (TX8_reads.at 52 rfl) c8_173 rfl rfl hH hA (by omega) (Nat.le_of_ble_eq_true rfl) (fun x104 f104 g104 j104 h r104 q104 hH hA => ?_)
    obtain ⟨q104, xf, xg, xj⟩ := q104
    rw [xj] at hH
    have ef13 := (xf 13 (by decide)).trans ef13
    have ef18 := (xf 18 (by decide)).trans ef18
    have ef21 := (xf 21 (by decide)).trans ef21
    have hfE := hfE.trans xf (by decide)
    have eg15 := (xg 15 (by decide)).trans eg15
    have eg16 := (xg 16 (by decide)).trans eg16
    have eg17 := (xg 17 (by decide)).trans eg17
    have hgE := hgE.trans xg (by decide)
    have qL := q104
    obtain rfl := qL
    have ef14 := (xf 14 (by decide)).trans ef14
    refine zm_zret (TX8_reads.at 53 rfl) rfl hH hA (by exact b2i_01 _) ?_
    exact ⟨⟨by rw [hF2]; exact ⟨b2i_f hb1, ef14⟩, ef13, ef18, by rw [eg15, eg16, eg17]; exact hR⟩, hfE, hgE, rfl⟩
  · have htN : (t : Int) ≤ N := hOK.1
    have hx17 := (hR.2.1 t (by omega) htN).2.2.1
    have hx0 := (hR.2.1 t (by omega) htN).2.2.2
    have hN4 := hR.1.2
    have hF2 : bdT pl (txtS lw U z) = if (t : Int) < N then .error (pl t) else .ok () := hF.trans (if_neg (fun q => hnt (tkc.mpr q)))
    refine z_ald_0 (TX8_reads.at 37 rfl) ?_
    refine zm_callI0 (m_fine ef21) (TX8_reads.at 38 rfl) c8_173 rfl rfl hH hA (by omega) (Nat.le_of_ble_eq_true rfl) (fun x74 f74 g74 j74 h r74 q74 hH hA => ?_)
    obtain ⟨q74, xf, xg, xj⟩ := q74
    rw [xj] at hH
    have ef13 := (xf 13 (by decide)).trans ef13
    have ef18 := (xf 18 (by decide)).trans ef18
    have ef21 := (xf 21 (by decide)).trans ef21
    have ef19 := (xf 19 (by decide)).trans ef19
    have hfE := hfE.trans xf (by decide)
    have eg15 := (xg 15 (by decide)).trans eg15
    have eg16 := (xg 16 (by decide)).trans eg16
    have eg17 := (xg 17 (by decide)).trans eg17
    have hgE := hgE.trans xg (by decide)
    have qL := q74
    obtain rfl := qL
    refine z_if_eqB (tgt := 95) (TX8_reads.at 39 rfl) rfl (fun c1 => absurd c1 (by exact not_not_intro rfl)) (fun c1 => ?_)
    refine z_ald_0 (TX8_reads.at 40 rfl) ?_
    refine zm_getIE ef19 (TX8_reads.at 41 rfl) fl8_177 hH rfl (by decide) (fun r81 => ?_)
    refine z_ald_0 (TX8_reads.at 42 rfl) ?_
    refine zm_getIE ef18 (TX8_reads.at 43 rfl) fl8_156 hH rfl (by decide) (fun r85 => ?_)
    refine z_icmp_ge (tgt := 95) (TX8_reads.at 44 rfl) rfl (by omega) (by omega) (fun c2 => ?_) (fun c2 => ?_)
    · skip
      refine z_ald_0 (TX8_reads.at 47 rfl) ?_
      refine z_ald_0 (TX8_reads.at 48 rfl) ?_
      refine zm_getIE ef21 (TX8_reads.at 49 rfl) fl8_170 hH rfl (by decide) (fun r97 => ?_)
      refine zm_putIE (TX8_reads.at 50 rfl) fp8_51 hH hA rfl (by decide) (by first | omega | exact b2i_01 _) (fun h f100 e1 e2 hH hA => ?_)
      have ef13 := (e1 13 (by decide)).trans ef13
      have ef18 := (e1 18 (by decide)).trans ef18
      have ef21 := (e1 21 (by decide)).trans ef21
      have ef19 := (e1 19 (by decide)).trans ef19
      have hfE := hfE.put e1 (by decide)
      have ef14 := e2
      refine z_ald_0 (TX8_reads.at 51 rfl) ?_
      refine zm_callI0 (m_fine ef21) (TX8_reads.at 52 rfl) c8_173 rfl rfl hH hA (by omega) (Nat.le_of_ble_eq_true rfl) (fun x104 f104 g104 j104 h r104 q104 hH hA => ?_)
      obtain ⟨q104, xf, xg, xj⟩ := q104
      rw [xj] at hH
      have ef13 := (xf 13 (by decide)).trans ef13
      have ef18 := (xf 18 (by decide)).trans ef18
      have ef21 := (xf 21 (by decide)).trans ef21
      have ef19 := (xf 19 (by decide)).trans ef19
      have hfE := hfE.trans xf (by decide)
      have eg15 := (xg 15 (by decide)).trans eg15
      have eg16 := (xg 16 (by decide)).trans eg16
      have eg17 := (xg 17 (by decide)).trans eg17
      have hgE := hgE.trans xg (by decide)
      have qL := q104
      obtain rfl := qL
      have ef14 := (xf 14 (by decide)).trans ef14
      refine zm_zret (TX8_reads.at 53 rfl) rfl hH hA (by exact b2i_01 _) ?_
      first | (have hge : N ≤ (t : Int) := (by omega); exact ⟨⟨by rw [hF2, if_neg (by omega)]; exact ⟨b2i_t rfl, ef14⟩, ef13, ef18, by rw [eg15, eg16, eg17]; exact hR⟩, hfE, hgE, rfl⟩) | (have hge : (t : Int) < N := (by omega); exact ⟨⟨by rw [hF2, if_pos hge]; exact ⟨b2i_f (by omega), ef14⟩, ef13, ef18, by rw [eg15, eg16, eg17]; exact hR⟩, hfE, hgE, rfl⟩)
    · skip
      refine z_ald_0 (TX8_reads.at 45 rfl) ?_
      refine zm_callV0 (m_faults eg17 ef19 ef21 (by omega)) (TX8_reads.at 46 rfl) c8_183 rfl rfl hH hA (by omega) (Nat.le_of_ble_eq_true rfl) (fun f92 g92 j92 h q92 hH hA => ?_)
      obtain ⟨q92, xf, xg, xj⟩ := q92
      rw [xj] at hH
      have ef13 := (xf 13 (by decide)).trans ef13
      have ef18 := (xf 18 (by decide)).trans ef18
      have ef19 := (xf 19 (by decide)).trans ef19
      have hfE := hfE.trans xf (by decide)
      have eg15 := (xg 15 (by decide)).trans eg15
      have eg16 := (xg 16 (by decide)).trans eg16
      have eg17 := (xg 17 (by decide)).trans eg17
      have hgE := hgE.trans xg (by decide)
      have qL := q92
      have ef21 : f92 21 = pl t := by rw [qL, if_pos rfl]; exact hx17
      refine z_ald_0 (TX8_reads.at 47 rfl) ?_
      refine z_ald_0 (TX8_reads.at 48 rfl) ?_
      refine zm_getIE ef21 (TX8_reads.at 49 rfl) fl8_170 hH rfl (by decide) (fun r97 => ?_)
      refine zm_putIE (TX8_reads.at 50 rfl) fp8_51 hH hA rfl (by decide) (by first | omega | exact b2i_01 _) (fun h f100 e1 e2 hH hA => ?_)
      have ef13 := (e1 13 (by decide)).trans ef13
      have ef18 := (e1 18 (by decide)).trans ef18
      have ef21 := (e1 21 (by decide)).trans ef21
      have ef19 := (e1 19 (by decide)).trans ef19
      have hfE := hfE.put e1 (by decide)
      have ef14 := e2
      refine z_ald_0 (TX8_reads.at 51 rfl) ?_
      refine zm_callI0 (m_fine ef21) (TX8_reads.at 52 rfl) c8_173 rfl rfl hH hA (by omega) (Nat.le_of_ble_eq_true rfl) (fun x104 f104 g104 j104 h r104 q104 hH hA => ?_)
      obtain ⟨q104, xf, xg, xj⟩ := q104
      rw [xj] at hH
      have ef13 := (xf 13 (by decide)).trans ef13
      have ef18 := (xf 18 (by decide)).trans ef18
      have ef21 := (xf 21 (by decide)).trans ef21
      have ef19 := (xf 19 (by decide)).trans ef19
      have hfE := hfE.trans xf (by decide)
      have eg15 := (xg 15 (by decide)).trans eg15
      have eg16 := (xg 16 (by decide)).trans eg16
      have eg17 := (xg 17 (by decide)).trans eg17
      have hgE := hgE.trans xg (by decide)
      have qL := q104
      obtain rfl := qL
      have ef14 := (xf 14 (by decide)).trans ef14
      refine zm_zret (TX8_reads.at 53 rfl) rfl hH hA (by exact b2i_01 _) ?_
      first | (have hge : N ≤ (t : Int) := (by omega); exact ⟨⟨by rw [hF2, if_neg (by omega)]; exact ⟨b2i_t rfl, ef14⟩, ef13, ef18, by rw [eg15, eg16, eg17]; exact hR⟩, hfE, hgE, rfl⟩) | (have hge : (t : Int) < N := (by omega); exact ⟨⟨by rw [hF2, if_pos hge]; exact ⟨b2i_f (by omega), ef14⟩, ef13, ef18, by rw [eg15, eg16, eg17]; exact hR⟩, hfE, hgE, rfl⟩)

theorem rdQ_01 {F : Except Int Unit} {r x : Int} (h : rdQ F r x) : r = 0 ∨ r = 1 := by
  match F, h with
  | .error b, h => exact Or.inl h.1
  | .ok _, h => exact Or.inr h.1
set_option maxHeartbeats 4000000 in
set_option maxRecDepth 100000 in
theorem m_readsAs {l : Launch} {o : Nat} {ar : Nat → Nat} {f : mF} {g j : mA} {X7 : Int → Int} {X11 : Int → Int} {z : Int} {io : Int} {U : Int → Int} {lw : Bool} (eg7 : g 7 = X7) (eg11 : g 11 = X11) (ef13 : f 13 = z) (hio : zIn io) (hW : WdH X7) (hU : TpU X11 U) (z0 : 0 ≤ z) (z4 : z ≤ 400) (e10 : io = inL lw) : MM l o ar MX8_readsAs 65 [.ref o, vI io] f g j (PI (fun r f' g' j' => (rdQ (bdT (pT U z) (txtS lw U z)) r (f' 14) ∧ f' 13 = 0 ∧ f' 18 = tN U z ∧ RdH (tN U z) (cT U z) (vT U z) (pT U z) (g' 15) (g' 16) (g' 17)) ∧ eqx [8, 9, 10, 13, 14, 18, 19, 20, 21] f f' ∧ eqx [15, 16, 17] g g' ∧ j' = j)) := by
  refine MM.intro [some (.ref o), some (vI io)] (by decide) (Nat.le_of_ble_eq_true rfl) rfl (fun d hd h0 h hH hA => ?_)
  have hfE : eqx [8, 9, 10, 13, 14, 18, 19, 20, 21] f f := eqx.rf
  have hgE : eqx [15, 16, 17] g g := eqx.rf
  have hio : (io = 0 ∧ lw = true) ∨ (io = 1 ∧ lw = false) := by rw [e10]; cases lw; exact Or.inr ⟨rfl, rfl⟩; exact Or.inl ⟨rfl, rfl⟩
  refine z_ald_0 (TX8_readsAs.at 0 rfl) ?_
  refine z_ild_1 (TX8_readsAs.at 1 rfl) ?_
  refine zm_putZE (TX8_readsAs.at 2 rfl) fp8_203 hH hA rfl (by decide) (by first | omega | exact b2i_01 _) (fun h f2 e1 e2 hH hA => ?_)
  have ef13 := (e1 13 (by decide)).trans ef13
  have hfE := hfE.put e1 (by decide)
  have ef10 := e2
  refine z_ald_0 (TX8_readsAs.at 3 rfl) ?_
  refine z_ild_1 (TX8_readsAs.at 4 rfl) ?_
  refine z_if_eq (tgt := 15) (TX8_readsAs.at 5 rfl) rfl (by omega) (fun c1 => ?_) (fun c1 => ?_)
  · skip
    refine z_bipush (by decide) (TX8_readsAs.at 8 rfl) ?_
    refine zm_putIE (TX8_readsAs.at 9 rfl) fp8_229 hH hA rfl (by decide) (by first | omega | exact b2i_01 _) (fun h f17 e1 e2 hH hA => ?_)
    have ef13 := (e1 13 (by decide)).trans ef13
    have hfE := hfE.put e1 (by decide)
    have ef10 := (e1 10 (by decide)).trans ef10
    have ef8 := e2
    refine z_ald_0 (TX8_readsAs.at 10 rfl) ?_
    refine z_ild_1 (TX8_readsAs.at 11 rfl) ?_
    refine z_if_eq (tgt := 30) (TX8_readsAs.at 12 rfl) rfl (by omega) (fun c2 => ?_) (fun c2 => ?_)
    · skip
      refine z_bipush (by decide) (TX8_readsAs.at 15 rfl) ?_
      refine zm_putIE (TX8_readsAs.at 16 rfl) fp8_232 hH hA rfl (by decide) (by first | omega | exact b2i_01 _) (fun h f32 e1 e2 hH hA => ?_)
      have ef13 := (e1 13 (by decide)).trans ef13
      have hfE := hfE.put e1 (by decide)
      have ef10 := (e1 10 (by decide)).trans ef10
      have ef8 := (e1 8 (by decide)).trans ef8
      have ef9 := e2
      refine z_ald_0 (TX8_readsAs.at 17 rfl) ?_
      refine zm_callI0 (m_reads (U := U) (lw := lw) eg7 eg11 ef8 ef9 ef10 ef13 hW hU z0 z4 (by rcases hio with ⟨q1, q2⟩ | ⟨q1, q2⟩ <;> subst q2 <;> first | (exfalso; omega) | rfl) (by rcases hio with ⟨q1, q2⟩ | ⟨q1, q2⟩ <;> subst q2 <;> first | (exfalso; omega) | rfl) e10) (TX8_readsAs.at 18 rfl) c8_244 rfl rfl hH hA (by omega) (Nat.le_of_ble_eq_true rfl) (fun x36 f36 g36 j36 h r36 q36 hH hA => ?_)
      obtain ⟨q36, xf, xg, xj⟩ := q36
      rw [xj] at hH
      have hfE := hfE.trans xf (by decide)
      have eg7 := (xg 7 (by decide)).trans eg7
      have eg11 := (xg 11 (by decide)).trans eg11
      have hgE := hgE.trans xg (by decide)
      have qL := q36
      refine zm_zret (TX8_readsAs.at 19 rfl) rfl hH hA (by exact rdQ_01 qL.1) ?_
      exact ⟨qL, hfE, hgE, rfl⟩
    · skip
      refine z_bipush (by decide) (TX8_readsAs.at 13 rfl) ?_
      refine z_goto (tgt := 32) (TX8_readsAs.at 14 rfl) rfl ?_
      refine zm_putIE (TX8_readsAs.at 16 rfl) fp8_232 hH hA rfl (by decide) (by first | omega | exact b2i_01 _) (fun h f32 e1 e2 hH hA => ?_)
      have ef13 := (e1 13 (by decide)).trans ef13
      have hfE := hfE.put e1 (by decide)
      have ef10 := (e1 10 (by decide)).trans ef10
      have ef8 := (e1 8 (by decide)).trans ef8
      have ef9 := e2
      refine z_ald_0 (TX8_readsAs.at 17 rfl) ?_
      refine zm_callI0 (m_reads (U := U) (lw := lw) eg7 eg11 ef8 ef9 ef10 ef13 hW hU z0 z4 (by rcases hio with ⟨q1, q2⟩ | ⟨q1, q2⟩ <;> subst q2 <;> first | (exfalso; omega) | rfl) (by rcases hio with ⟨q1, q2⟩ | ⟨q1, q2⟩ <;> subst q2 <;> first | (exfalso; omega) | rfl) e10) (TX8_readsAs.at 18 rfl) c8_244 rfl rfl hH hA (by omega) (Nat.le_of_ble_eq_true rfl) (fun x36 f36 g36 j36 h r36 q36 hH hA => ?_)
      obtain ⟨q36, xf, xg, xj⟩ := q36
      rw [xj] at hH
      have hfE := hfE.trans xf (by decide)
      have eg7 := (xg 7 (by decide)).trans eg7
      have eg11 := (xg 11 (by decide)).trans eg11
      have hgE := hgE.trans xg (by decide)
      have qL := q36
      refine zm_zret (TX8_readsAs.at 19 rfl) rfl hH hA (by exact rdQ_01 qL.1) ?_
      exact ⟨qL, hfE, hgE, rfl⟩
  · skip
    refine z_bipush (by decide) (TX8_readsAs.at 6 rfl) ?_
    refine z_goto (tgt := 17) (TX8_readsAs.at 7 rfl) rfl ?_
    refine zm_putIE (TX8_readsAs.at 9 rfl) fp8_229 hH hA rfl (by decide) (by first | omega | exact b2i_01 _) (fun h f17 e1 e2 hH hA => ?_)
    have ef13 := (e1 13 (by decide)).trans ef13
    have hfE := hfE.put e1 (by decide)
    have ef10 := (e1 10 (by decide)).trans ef10
    have ef8 := e2
    refine z_ald_0 (TX8_readsAs.at 10 rfl) ?_
    refine z_ild_1 (TX8_readsAs.at 11 rfl) ?_
    refine z_if_eq (tgt := 30) (TX8_readsAs.at 12 rfl) rfl (by omega) (fun c3 => ?_) (fun c3 => ?_)
    · skip
      refine z_bipush (by decide) (TX8_readsAs.at 15 rfl) ?_
      refine zm_putIE (TX8_readsAs.at 16 rfl) fp8_232 hH hA rfl (by decide) (by first | omega | exact b2i_01 _) (fun h f32 e1 e2 hH hA => ?_)
      have ef13 := (e1 13 (by decide)).trans ef13
      have hfE := hfE.put e1 (by decide)
      have ef10 := (e1 10 (by decide)).trans ef10
      have ef8 := (e1 8 (by decide)).trans ef8
      have ef9 := e2
      refine z_ald_0 (TX8_readsAs.at 17 rfl) ?_
      refine zm_callI0 (m_reads (U := U) (lw := lw) eg7 eg11 ef8 ef9 ef10 ef13 hW hU z0 z4 (by rcases hio with ⟨q1, q2⟩ | ⟨q1, q2⟩ <;> subst q2 <;> first | (exfalso; omega) | rfl) (by rcases hio with ⟨q1, q2⟩ | ⟨q1, q2⟩ <;> subst q2 <;> first | (exfalso; omega) | rfl) e10) (TX8_readsAs.at 18 rfl) c8_244 rfl rfl hH hA (by omega) (Nat.le_of_ble_eq_true rfl) (fun x36 f36 g36 j36 h r36 q36 hH hA => ?_)
      obtain ⟨q36, xf, xg, xj⟩ := q36
      rw [xj] at hH
      have hfE := hfE.trans xf (by decide)
      have eg7 := (xg 7 (by decide)).trans eg7
      have eg11 := (xg 11 (by decide)).trans eg11
      have hgE := hgE.trans xg (by decide)
      have qL := q36
      refine zm_zret (TX8_readsAs.at 19 rfl) rfl hH hA (by exact rdQ_01 qL.1) ?_
      exact ⟨qL, hfE, hgE, rfl⟩
    · skip
      refine z_bipush (by decide) (TX8_readsAs.at 13 rfl) ?_
      refine z_goto (tgt := 32) (TX8_readsAs.at 14 rfl) rfl ?_
      refine zm_putIE (TX8_readsAs.at 16 rfl) fp8_232 hH hA rfl (by decide) (by first | omega | exact b2i_01 _) (fun h f32 e1 e2 hH hA => ?_)
      have ef13 := (e1 13 (by decide)).trans ef13
      have hfE := hfE.put e1 (by decide)
      have ef10 := (e1 10 (by decide)).trans ef10
      have ef8 := (e1 8 (by decide)).trans ef8
      have ef9 := e2
      refine z_ald_0 (TX8_readsAs.at 17 rfl) ?_
      refine zm_callI0 (m_reads (U := U) (lw := lw) eg7 eg11 ef8 ef9 ef10 ef13 hW hU z0 z4 (by rcases hio with ⟨q1, q2⟩ | ⟨q1, q2⟩ <;> subst q2 <;> first | (exfalso; omega) | rfl) (by rcases hio with ⟨q1, q2⟩ | ⟨q1, q2⟩ <;> subst q2 <;> first | (exfalso; omega) | rfl) e10) (TX8_readsAs.at 18 rfl) c8_244 rfl rfl hH hA (by omega) (Nat.le_of_ble_eq_true rfl) (fun x36 f36 g36 j36 h r36 q36 hH hA => ?_)
      obtain ⟨q36, xf, xg, xj⟩ := q36
      rw [xj] at hH
      have hfE := hfE.trans xf (by decide)
      have eg7 := (xg 7 (by decide)).trans eg7
      have eg11 := (xg 11 (by decide)).trans eg11
      have hgE := hgE.trans xg (by decide)
      have qL := q36
      refine zm_zret (TX8_readsAs.at 19 rfl) rfl hH hA (by exact rdQ_01 qL.1) ?_
      exact ⟨qL, hfE, hgE, rfl⟩

