/-! ===== the reference reads: parts, terms, sums, tests ===== -/
section Sv
variable {N : Int} {c v pl X15 X16 X17 : Int → Int} {f f' : mF} {s : RS}
theorem St_in {f : mF} {s : RS} (h : St f s) : (∃ b, s = .error b ∧ f 21 = b ∧ b ≠ -1) ∨ ∃ t p : Nat, s = .ok (t, p) ∧ f 19 = (t : Int) ∧ f 20 = (p : Int) ∧ f 21 = -1 := by
  match s, h with
  | .error b, h => exact Or.inl ⟨b, rfl, h.1, h.2⟩
  | .ok (t, p), h => exact Or.inr ⟨t, p, rfl, h.1, h.2.1, h.2.2⟩
theorem sv_takes {x r : Int} (hR : RdH N c v pl X15 X16 X17) (h : St f s) (hO : SOK N s) (q : r = b2i (f 21 = -1 ∧ X15 (f 19) = x) ∧ f' 19 = f 19 + b2i (f 21 = -1 ∧ X15 (f 19) = x)) (xf : eqx [19] f f') : r = b2i (tkB c s x = true) ∧ (tkB c s x = true → St f' (tkS s)) ∧ (¬ tkB c s x = true → St f' s) := by
  have e20 := xf 20 (by decide)
  have e21 := xf 21 (by decide)
  rcases St_in h with ⟨b, rfl, hb, hb1⟩ | ⟨t, p, rfl, h19, h20, h21⟩
  · have hn : ¬ (f 21 = -1 ∧ X15 (f 19) = x) := fun z => hb1 (hb.symm.trans z.1)
    rw [b2i_f hn] at q
    refine ⟨(by rw [q.1, b2i_f (fun z => (by cases z))]), fun z => (by cases z), fun _ => ⟨e21.trans hb, hb1⟩⟩
  · have hO2 : (t : Int) ≤ N := hO.1
    have e15 := (hR.2.1 t (by omega) hO2).1
    rw [h19, e15] at q
    have hd : tkB c (.ok (t, p)) x = true ↔ c t = x := decide_eq_true_iff
    by_cases hc : c t = x
    · rw [b2i_t ⟨h21, hc⟩] at q
      refine ⟨by rw [q.1, b2i_t (hd.mpr hc)], fun _ => ⟨?_, e20.trans h20, e21.trans h21⟩, fun z => absurd (hd.mpr hc) z⟩
      rw [q.2]; rfl
    · rw [b2i_f (fun z => hc z.2)] at q
      refine ⟨by rw [q.1, b2i_f (fun z => hc (hd.mp z))], fun z => absurd (hd.mp z) hc, fun _ => ⟨?_, e20.trans h20, e21.trans h21⟩⟩
      rw [q.2]; omega
theorem sv_must {x : Int} (hR : RdH N c v pl X15 X16 X17) (h : St f s) (hO : SOK N s) (q : (f 21 = -1 ∧ X15 (f 19) = x ∧ f' 19 = f 19 + 1 ∧ f' 21 = f 21) ∨ (¬ (f 21 = -1 ∧ X15 (f 19) = x) ∧ f' 21 = if f 21 = -1 then X17 (f 19) else f 21)) (xf : eqx [19, 21] f f') : St f' (msS c pl s x) := by
  have e20 := xf 20 (by decide)
  rcases St_in h with ⟨b, rfl, hb, hb1⟩ | ⟨t, p, rfl, h19, h20, h21⟩
  · rcases q with ⟨q1, -⟩ | ⟨-, q2⟩
    · exact absurd (hb.symm.trans q1) hb1
    · rw [if_neg (fun z => hb1 (hb.symm.trans z))] at q2
      exact ⟨q2.trans hb, hb1⟩
  · have hO2 : (t : Int) ≤ N := hO.1
    obtain ⟨e15, -, e17, e0⟩ := hR.2.1 t (by omega) hO2
    rw [h19, e15, e17] at q
    show St f' (if c t = x then .ok (t + 1, p) else .error (pl t))
    rcases q with ⟨-, q1, q2, q3⟩ | ⟨q1, q2⟩
    · rw [if_pos q1]
      exact ⟨q2, e20.trans h20, q3.trans h21⟩
    · rw [if_neg (fun z => q1 ⟨h21, z⟩)]
      rw [if_pos h21] at q2
      exact ⟨q2, by omega⟩
theorem sv_mn {lo hi : Int} (hR : RdH N c v pl X15 X16 X17) (h : St f s) (hO : SOK N s) (q : (f 21 = -1 ∧ (X15 (f 19) = 50 ∧ lo ≤ X16 (f 19) ∧ X16 (f 19) ≤ hi) ∧ f' 19 = f 19 + 1 ∧ f' 21 = f 21) ∨ (¬ (f 21 = -1 ∧ X15 (f 19) = 50 ∧ lo ≤ X16 (f 19) ∧ X16 (f 19) ≤ hi) ∧ f' 21 = if f 21 = -1 then X17 (f 19) else f 21)) (xf : eqx [19, 21] f f') : St f' (mnS c v pl s lo hi) := by
  have e20 := xf 20 (by decide)
  rcases St_in h with ⟨b, rfl, hb, hb1⟩ | ⟨t, p, rfl, h19, h20, h21⟩
  · rcases q with ⟨q1, -⟩ | ⟨-, q2⟩
    · exact absurd (hb.symm.trans q1) hb1
    · rw [if_neg (fun z => hb1 (hb.symm.trans z))] at q2
      exact ⟨q2.trans hb, hb1⟩
  · have hO2 : (t : Int) ≤ N := hO.1
    obtain ⟨e15, e16, e17, e0⟩ := hR.2.1 t (by omega) hO2
    rw [h19, e15, e16, e17] at q
    show St f' (if c t = 50 ∧ lo ≤ v t ∧ v t ≤ hi then .ok (t + 1, p) else .error (pl t))
    rcases q with ⟨-, q1, q2, q3⟩ | ⟨q1, q2⟩
    · rw [if_pos q1]
      exact ⟨q2, e20.trans h20, q3.trans h21⟩
    · rw [if_neg (fun z => q1 ⟨h21, z⟩)]
      rw [if_pos h21] at q2
      exact ⟨q2, by omega⟩
theorem sv_faults (hR : RdH N c v pl X15 X16 X17) (h : St f s) (hO : SOK N s) (q : f' 21 = if f 21 = -1 then X17 (f 19) else f 21) : St f' (faS pl s) := by
  rcases St_in h with ⟨b, rfl, hb, hb1⟩ | ⟨t, p, rfl, h19, h20, h21⟩
  · rw [if_neg (fun z => hb1 (hb.symm.trans z))] at q
    exact ⟨q.trans hb, hb1⟩
  · have hO2 : (t : Int) ≤ N := hO.1
    obtain ⟨-, -, e17, e0⟩ := hR.2.1 t (by omega) hO2
    rw [if_pos h21, h19, e17] at q
    exact ⟨q, by omega⟩
theorem sv_pl (hR : RdH N c v pl X15 X16 X17) (h : St f s) (hO : SOK N s) : f 21 = -1 → 0 ≤ X17 (f 19) := by
  intro e
  rcases St_in h with ⟨b, rfl, hb, hb1⟩ | ⟨t, p, rfl, h19, h20, h21⟩
  · exact absurd (hb.symm.trans e) hb1
  · have hO2 : (t : Int) ≤ N := hO.1
    obtain ⟨-, -, e17, e0⟩ := hR.2.1 t (by omega) hO2
    rw [h19, e17]; exact e0
end Sv
/-- a method that reads -/
def RdM (l : Launch) (o : Nat) (ar : Nat → Nat) (M : zM) (n : Nat) (as : List Value) (N : Int) (pl X15 X16 X17 : Int → Int) (w8 w9 io : Int) (G : Nat → Nat → PR) : Prop := ∀ (f : mF) (g j : mA) (s : RS), g 15 = X15 → g 16 = X16 → g 17 = X17 → f 8 = w8 → f 9 = w9 → f 10 = io → St f s → SOK N s → MM l o ar M n (.ref o :: as) f g j (PV (fun f' g' j' => St f' (bdR pl s G) ∧ eqx [19, 20, 21] f f' ∧ eqx [] g g' ∧ j' = j))
theorem ok_fa {N : Int} {pl : Int → Int} {s : RS} {f : mF} (_ : St f (faS pl s)) : SOK N (faS pl s) := by
  match s with
  | .error b => exact trivial
  | .ok (t, p) => exact trivial
def lpR (op : Int → Option Int) (c pl : Int → Int) (item : Nat → Nat → PR) (n : Nat) (k : Den) (s : RS) : RS := match s with
  | .error b => .error b
  | .ok (t, p) => cvR pl (pLoop op c item n t p k)
def far (N : Int) (n : Nat) (s : RS) : Prop := match s with
  | .error _ => True
  | .ok (t, _) => N < (t : Int) + n
theorem lpR_step {op : Int → Option Int} {c pl : Int → Int} {item : Nat → Nat → PR} {n : Nat} {k : Den} {s : RS} {x o : Int} (h : tkB c s x = true) (ho : op x = some o) : ∃ k', lpR op c pl item (n + 1) k s = lpR op c pl item n k' (bdR pl (tkS s) item) := by
  match s, h with
  | .ok (t, p), h =>
    have hc : c t = x := of_decide_eq_true h
    show ∃ k', cvR pl (pLoop op c item (n + 1) t p k) = lpR op c pl item n k' (cvR pl (item (t + 1) p))
    simp only [pLoop]
    rw [hc, ho]
    simp only
    cases hg : item (t + 1) p with
    | error e => exact ⟨k, rfl⟩
    | ok r => exact ⟨dBin o k r.2.2, rfl⟩
theorem lpR_end {op : Int → Option Int} {c pl : Int → Int} {item : Nat → Nat → PR} {n : Nat} {k : Den} {s : RS} (h : ∀ x o, op x = some o → ¬ tkB c s x = true) : lpR op c pl item (n + 1) k s = s := by
  match s, h with
  | .error b, h => rfl
  | .ok (t, p), h =>
    show cvR pl (pLoop op c item (n + 1) t p k) = _
    simp only [pLoop]
    cases ho : op (c t) with
    | none => rfl
    | some o => exact absurd (decide_eq_true rfl) (h (c t) o ho)
theorem far_s {c pl : Int → Int} {N : Int} {n : Nat} {s : RS} {item : Nat → Nat → PR} (h : far N (n + 1) s) (ha : Adv c item) : far N n (bdR pl (tkS s) item) := by
  match s, h with
  | .error b, _ => exact trivial
  | .ok (t, p), h =>
    have h2 : N < (t : Int) + ((n + 1 : Nat) : Int) := h
    have a := ha (t + 1) p
    show far N n (cvR pl (item (t + 1) p))
    cases hg : item (t + 1) p with
    | error e => exact trivial
    | ok r =>
      obtain ⟨t', p', k⟩ := r
      rw [hg] at a
      have a1 : t + 1 < t' := a.1
      show N < (t' : Int) + n
      omega
theorem far_0 {N : Int} {s : RS} (h : far N 0 s) (h2 : SOK N s) : ∃ b, s = .error b := by
  match s, h, h2 with
  | .error b, _, _ => exact ⟨b, rfl⟩
  | .ok (t, p), h, h2 =>
    have h3 : N < (t : Int) + ((0 : Nat) : Int) := h
    have h4 : (t : Int) ≤ N := h2.1
    omega
theorem far_401 {N : Int} {s : RS} (hN : N ≤ 400) : far N 401 s := by
  match s with
  | .error b => exact trivial
  | .ok (t, p) => show N < (t : Int) + ((401 : Nat) : Int); omega
theorem row_lp {op : Int → Option Int} {c pl : Int → Int} {item : Nat → Nat → PR} {s : RS} : ∃ k, lpR op c pl item 401 k (bdR pl s item) = bdR pl s (pRow op c item) := by
  match s with
  | .error b => exact ⟨dOne, rfl⟩
  | .ok (t, p) =>
    show ∃ k, lpR op c pl item 401 k (cvR pl (item t p)) = cvR pl (pRow op c item t p)
    unfold pRow
    cases hg : item t p with
    | error e => exact ⟨dOne, rfl⟩
    | ok r => exact ⟨r.2.2, rfl⟩
def lpB (w : Int) (join : Den → Den → Den) (c pl : Int → Int) (item : Nat → Nat → PR) (n : Nat) (k : Den) (s : RS) : RS := match s with
  | .error b => .error b
  | .ok (t, p) => cvR pl (pLoopB w join c item n t p k)
theorem lpB_step {w : Int} {join : Den → Den → Den} {c pl : Int → Int} {item : Nat → Nat → PR} {n : Nat} {k : Den} {s : RS} (h : tkB c s w = true) : ∃ k', lpB w join c pl item (n + 1) k s = lpB w join c pl item n k' (bdR pl (tkS s) item) := by
  match s, h with
  | .ok (t, p), h =>
    have hc : c t = w := of_decide_eq_true h
    show ∃ k', cvR pl (pLoopB w join c item (n + 1) t p k) = lpB w join c pl item n k' (cvR pl (item (t + 1) p))
    simp only [pLoopB]
    rw [if_pos hc]
    cases hg : item (t + 1) p with
    | error e => exact ⟨k, rfl⟩
    | ok r => exact ⟨join k r.2.2, rfl⟩
theorem lpB_end {w : Int} {join : Den → Den → Den} {c pl : Int → Int} {item : Nat → Nat → PR} {n : Nat} {k : Den} {s : RS} (h : ¬ tkB c s w = true) : lpB w join c pl item (n + 1) k s = s := by
  match s, h with
  | .error b, h => rfl
  | .ok (t, p), h =>
    show cvR pl (pLoopB w join c item (n + 1) t p k) = _
    simp only [pLoopB]
    rw [if_neg (fun z => h (decide_eq_true z))]
    rfl
theorem row_lpB {w : Int} {join : Den → Den → Den} {c pl : Int → Int} {item : Nat → Nat → PR} {s : RS} : ∃ k, lpB w join c pl item 401 k (bdR pl s item) = bdR pl s (pRowB w join c item) := by
  match s with
  | .error b => exact ⟨dOne, rfl⟩
  | .ok (t, p) =>
    show ∃ k, lpB w join c pl item 401 k (cvR pl (item t p)) = cvR pl (pRowB w join c item t p)
    unfold pRowB
    cases hg : item t p with
    | error e => exact ⟨dOne, rfl⟩
    | ok r => exact ⟨r.2.2, rfl⟩
theorem mul_cs {x o : Int} (h : mulOp x = some o) : x = 142 ∨ x = 147 ∨ x = 137 := by
  unfold mulOp at h
  split at h
  · exact Or.inl (by assumption)
  · split at h
    · exact Or.inr (Or.inl (by assumption))
    · split at h
      · exact Or.inr (Or.inr (by assumption))
      · cases h
theorem add_cs {x o : Int} (h : addOp x = some o) : x = 143 ∨ x = 145 := by
  unfold addOp at h
  split at h
  · exact Or.inl (by assumption)
  · split at h
    · exact Or.inr (by assumption)
    · cases h
set_option maxHeartbeats 4000000 in
set_option maxRecDepth 100000 in
theorem lp_readTerm {l : Launch} {o : Nat} {ar : Nat → Nat} {N : Int} {c v pl X15 X16 X17 : Int → Int} {w8 w9 io : Int} (hR : RdH N c v pl X15 X16 X17) {item : Nat → Nat → PR} {m : Nat} {dp : Int} {d : Nat} {Pz : Option Value → zH → Prop} {h0 : zH} {f0 : mF} {g0 j : mA} {fin : RS} (hd : m + 1 ≤ d) (hm : 1 ≤ m) (hI : RdM l o ar MX8_readPart m [vI dp] N pl X15 X16 X17 w8 w9 io item) (ha : Adv c item) (hp : Pk item) (kx : ∀ (f : mF) (g : mA) (h : zH), St f fin → eqx [19, 20, 21] f0 f → eqx [] g0 g → HM o ar f g j h → zAg o ar h0 h → Z l MX8_readTerm d 0 0 Pz 49 [some (.ref o), some (vI dp)] [] h 0 0) : ∀ (n : Nat) (k : Den) (s : RS) (f : mF) (g : mA) (h : zH) (hSt : St f s) (hOK : SOK N s) (hfar : far N n s) (hfin : fin = lpR mulOp c pl item n k s) (eg15 : g 15 = X15) (eg16 : g 16 = X16) (eg17 : g 17 = X17) (ef8 : f 8 = w8) (ef9 : f 9 = w9) (ef10 : f 10 = io) (hfE : eqx [19, 20, 21] f0 f) (hgE : eqx [] g0 g) (hH : HM o ar f g j h) (hA : zAg o ar h0 h), Z l MX8_readTerm d 0 0 Pz 5 [some (.ref o), some (vI dp)] [] h 0 0 := by
  intro n
  induction n with
  | zero =>
    intro k s f g h hSt hOK hfar hfin eg15 eg16 eg17 ef8 ef9 ef10 hfE hgE hH hA
    obtain ⟨b, rfl⟩ := far_0 hfar hOK
    have hfin2 : fin = .error b := hfin
    have hno : ∀ x, ¬ tkB c (.error b) x = true := fun x z => by cases z
    refine z_ald_0 (TX8_readTerm.at 3 rfl) ?_
    refine z_bipush (by decide) (TX8_readTerm.at 4 rfl) ?_
    refine zs_call1 (s_sign (by omega)) (TX8_readTerm.at 5 rfl) c8_219 rfl (by omega) (Nat.le_of_ble_eq_true rfl) (fun r8 => ?_)
    simp only [Int.reduceAdd] at r8 ⊢
    refine zm_callI1 (m_takes0 eg15 rfl rfl (by omega) (st_b hSt hOK hR.1.2)) (TX8_readTerm.at 6 rfl) c8_180 rfl rfl hH hA (by omega) (Nat.le_of_ble_eq_true rfl) (fun x11 f11 g11 j11 h r11 q11 hH hA => ?_)
    obtain ⟨q11, xf, xg, xj⟩ := q11
    rw [xj] at hH
    have ef8 := (xf 8 (by decide)).trans ef8
    have ef9 := (xf 9 (by decide)).trans ef9
    have ef10 := (xf 10 (by decide)).trans ef10
    have hfE := hfE.trans xf (by decide)
    have eg15 := (xg 15 (by decide)).trans eg15
    have eg16 := (xg 16 (by decide)).trans eg16
    have eg17 := (xg 17 (by decide)).trans eg17
    have hgE := hgE.trans xg (by decide)
    have qL := q11
    have hT11 := sv_takes hR hSt hOK qL xf
    rw [hT11.1] at r11 ⊢
    have hSt := hT11.2.2 (hno _)
    refine z_if_neB (tgt := 41) (TX8_readTerm.at 7 rfl) rfl (fun c1 => absurd c1 (by exact hno _)) (fun c1 => ?_)
    refine z_ald_0 (TX8_readTerm.at 8 rfl) ?_
    refine z_bipush (by decide) (TX8_readTerm.at 9 rfl) ?_
    refine zs_call1 (s_sign (by omega)) (TX8_readTerm.at 10 rfl) c8_219 rfl (by omega) (Nat.le_of_ble_eq_true rfl) (fun r20 => ?_)
    simp only [Int.reduceAdd] at r20 ⊢
    refine zm_callI1 (m_takes0 eg15 rfl rfl (by omega) (st_b hSt hOK hR.1.2)) (TX8_readTerm.at 11 rfl) c8_180 rfl rfl hH hA (by omega) (Nat.le_of_ble_eq_true rfl) (fun x23 f23 g23 j23 h r23 q23 hH hA => ?_)
    obtain ⟨q23, xf, xg, xj⟩ := q23
    rw [xj] at hH
    have ef8 := (xf 8 (by decide)).trans ef8
    have ef9 := (xf 9 (by decide)).trans ef9
    have ef10 := (xf 10 (by decide)).trans ef10
    have hfE := hfE.trans xf (by decide)
    have eg15 := (xg 15 (by decide)).trans eg15
    have eg16 := (xg 16 (by decide)).trans eg16
    have eg17 := (xg 17 (by decide)).trans eg17
    have hgE := hgE.trans xg (by decide)
    have qL := q23
    have hT23 := sv_takes hR hSt hOK qL xf
    rw [hT23.1] at r23 ⊢
    have hSt := hT23.2.2 (hno _)
    refine z_if_neB (tgt := 41) (TX8_readTerm.at 12 rfl) rfl (fun c2 => absurd c2 (by exact hno _)) (fun c2 => ?_)
    refine z_ald_0 (TX8_readTerm.at 13 rfl) ?_
    refine z_bipush (by decide) (TX8_readTerm.at 14 rfl) ?_
    refine zs_call1 (s_sign (by omega)) (TX8_readTerm.at 15 rfl) c8_219 rfl (by omega) (Nat.le_of_ble_eq_true rfl) (fun r32 => ?_)
    simp only [Int.reduceAdd] at r32 ⊢
    refine zm_callI1 (m_takes0 eg15 rfl rfl (by omega) (st_b hSt hOK hR.1.2)) (TX8_readTerm.at 16 rfl) c8_180 rfl rfl hH hA (by omega) (Nat.le_of_ble_eq_true rfl) (fun x35 f35 g35 j35 h r35 q35 hH hA => ?_)
    obtain ⟨q35, xf, xg, xj⟩ := q35
    rw [xj] at hH
    have ef8 := (xf 8 (by decide)).trans ef8
    have ef9 := (xf 9 (by decide)).trans ef9
    have ef10 := (xf 10 (by decide)).trans ef10
    have hfE := hfE.trans xf (by decide)
    have eg15 := (xg 15 (by decide)).trans eg15
    have eg16 := (xg 16 (by decide)).trans eg16
    have eg17 := (xg 17 (by decide)).trans eg17
    have hgE := hgE.trans xg (by decide)
    have qL := q35
    have hT35 := sv_takes hR hSt hOK qL xf
    rw [hT35.1] at r35 ⊢
    have hSt := hT35.2.2 (hno _)
    refine z_if_eqB (tgt := 49) (TX8_readTerm.at 17 rfl) rfl (fun c3 => ?_) (fun c3 => absurd c3 (by exact fun z => absurd z (hno _)))
    exact kx _ _ _ (hfin2 ▸ hSt) hfE hgE hH hA
  | succ n ih =>
    intro k s f g h hSt hOK hfar hfin eg15 eg16 eg17 ef8 ef9 ef10 hfE hgE hH hA
    refine z_ald_0 (TX8_readTerm.at 3 rfl) ?_
    refine z_bipush (by decide) (TX8_readTerm.at 4 rfl) ?_
    refine zs_call1 (s_sign (by omega)) (TX8_readTerm.at 5 rfl) c8_219 rfl (by omega) (Nat.le_of_ble_eq_true rfl) (fun r8 => ?_)
    simp only [Int.reduceAdd] at r8 ⊢
    refine zm_callI1 (m_takes0 eg15 rfl rfl (by omega) (st_b hSt hOK hR.1.2)) (TX8_readTerm.at 6 rfl) c8_180 rfl rfl hH hA (by omega) (Nat.le_of_ble_eq_true rfl) (fun x11 f11 g11 j11 h r11 q11 hH hA => ?_)
    obtain ⟨q11, xf, xg, xj⟩ := q11
    rw [xj] at hH
    have ef8 := (xf 8 (by decide)).trans ef8
    have ef9 := (xf 9 (by decide)).trans ef9
    have ef10 := (xf 10 (by decide)).trans ef10
    have hfE := hfE.trans xf (by decide)
    have eg15 := (xg 15 (by decide)).trans eg15
    have eg16 := (xg 16 (by decide)).trans eg16
    have eg17 := (xg 17 (by decide)).trans eg17
    have hgE := hgE.trans xg (by decide)
    have qL := q11
    have hT11 := sv_takes hR hSt hOK qL xf
    rw [hT11.1] at r11 ⊢
    refine z_if_neB (tgt := 41) (TX8_readTerm.at 7 rfl) rfl (fun c1 => ?_) (fun c1 => ?_)
    · skip
      have hSt := hT11.2.1 c1
      have hOK := ok_tk hR.2.2 hOK (by decide) c1
      obtain ⟨k2, hk2⟩ := lpR_step (op := mulOp) (c := c) (pl := pl) (item := item) (n := n) (k := k) (x := 142) (o := 5) c1 (by decide)
      refine z_ald_0 (TX8_readTerm.at 18 rfl) ?_
      refine z_ild_1 (TX8_readTerm.at 19 rfl) ?_
      refine zm_callV1 (hI _ _ _ _ eg15 eg16 eg17 ef8 ef9 ef10 hSt hOK) (TX8_readTerm.at 20 rfl) c8_226 rfl rfl hH hA (by omega) (Nat.le_of_ble_eq_true rfl) (fun f43 g43 j43 h q43 hH hA => ?_)
      obtain ⟨q43, xf, xg, xj⟩ := q43
      rw [xj] at hH
      have ef8 := (xf 8 (by decide)).trans ef8
      have ef9 := (xf 9 (by decide)).trans ef9
      have ef10 := (xf 10 (by decide)).trans ef10
      have hfE := hfE.trans xf (by decide)
      have eg15 := (xg 15 (by decide)).trans eg15
      have eg16 := (xg 16 (by decide)).trans eg16
      have eg17 := (xg 17 (by decide)).trans eg17
      have hgE := hgE.trans xg (by decide)
      have qL := q43
      have hSt := qL
      have hOK := ok_bd (pl := pl) hR.2.2 hOK ha hp
      refine z_goto (tgt := 5) (TX8_readTerm.at 21 rfl) rfl ?_
      exact ih k2 _ _ _ _ hSt hOK (far_s hfar ha) (hfin.trans hk2) eg15 eg16 eg17 ef8 ef9 ef10 hfE hgE hH hA
    · skip
      have hSt := hT11.2.2 c1
      refine z_ald_0 (TX8_readTerm.at 8 rfl) ?_
      refine z_bipush (by decide) (TX8_readTerm.at 9 rfl) ?_
      refine zs_call1 (s_sign (by omega)) (TX8_readTerm.at 10 rfl) c8_219 rfl (by omega) (Nat.le_of_ble_eq_true rfl) (fun r20 => ?_)
      simp only [Int.reduceAdd] at r20 ⊢
      refine zm_callI1 (m_takes0 eg15 rfl rfl (by omega) (st_b hSt hOK hR.1.2)) (TX8_readTerm.at 11 rfl) c8_180 rfl rfl hH hA (by omega) (Nat.le_of_ble_eq_true rfl) (fun x23 f23 g23 j23 h r23 q23 hH hA => ?_)
      obtain ⟨q23, xf, xg, xj⟩ := q23
      rw [xj] at hH
      have ef8 := (xf 8 (by decide)).trans ef8
      have ef9 := (xf 9 (by decide)).trans ef9
      have ef10 := (xf 10 (by decide)).trans ef10
      have hfE := hfE.trans xf (by decide)
      have eg15 := (xg 15 (by decide)).trans eg15
      have eg16 := (xg 16 (by decide)).trans eg16
      have eg17 := (xg 17 (by decide)).trans eg17
      have hgE := hgE.trans xg (by decide)
      have qL := q23
      have hT23 := sv_takes hR hSt hOK qL xf
      rw [hT23.1] at r23 ⊢
      refine z_if_neB (tgt := 41) (TX8_readTerm.at 12 rfl) rfl (fun c2 => ?_) (fun c2 => ?_)
      · skip
        have hSt := hT23.2.1 c2
        have hOK := ok_tk hR.2.2 hOK (by decide) c2
        obtain ⟨k2, hk2⟩ := lpR_step (op := mulOp) (c := c) (pl := pl) (item := item) (n := n) (k := k) (x := 147) (o := 6) c2 (by decide)
        refine z_ald_0 (TX8_readTerm.at 18 rfl) ?_
        refine z_ild_1 (TX8_readTerm.at 19 rfl) ?_
        refine zm_callV1 (hI _ _ _ _ eg15 eg16 eg17 ef8 ef9 ef10 hSt hOK) (TX8_readTerm.at 20 rfl) c8_226 rfl rfl hH hA (by omega) (Nat.le_of_ble_eq_true rfl) (fun f43 g43 j43 h q43 hH hA => ?_)
        obtain ⟨q43, xf, xg, xj⟩ := q43
        rw [xj] at hH
        have ef8 := (xf 8 (by decide)).trans ef8
        have ef9 := (xf 9 (by decide)).trans ef9
        have ef10 := (xf 10 (by decide)).trans ef10
        have hfE := hfE.trans xf (by decide)
        have eg15 := (xg 15 (by decide)).trans eg15
        have eg16 := (xg 16 (by decide)).trans eg16
        have eg17 := (xg 17 (by decide)).trans eg17
        have hgE := hgE.trans xg (by decide)
        have qL := q43
        have hSt := qL
        have hOK := ok_bd (pl := pl) hR.2.2 hOK ha hp
        refine z_goto (tgt := 5) (TX8_readTerm.at 21 rfl) rfl ?_
        exact ih k2 _ _ _ _ hSt hOK (far_s hfar ha) (hfin.trans hk2) eg15 eg16 eg17 ef8 ef9 ef10 hfE hgE hH hA
      · skip
        have hSt := hT23.2.2 c2
        refine z_ald_0 (TX8_readTerm.at 13 rfl) ?_
        refine z_bipush (by decide) (TX8_readTerm.at 14 rfl) ?_
        refine zs_call1 (s_sign (by omega)) (TX8_readTerm.at 15 rfl) c8_219 rfl (by omega) (Nat.le_of_ble_eq_true rfl) (fun r32 => ?_)
        simp only [Int.reduceAdd] at r32 ⊢
        refine zm_callI1 (m_takes0 eg15 rfl rfl (by omega) (st_b hSt hOK hR.1.2)) (TX8_readTerm.at 16 rfl) c8_180 rfl rfl hH hA (by omega) (Nat.le_of_ble_eq_true rfl) (fun x35 f35 g35 j35 h r35 q35 hH hA => ?_)
        obtain ⟨q35, xf, xg, xj⟩ := q35
        rw [xj] at hH
        have ef8 := (xf 8 (by decide)).trans ef8
        have ef9 := (xf 9 (by decide)).trans ef9
        have ef10 := (xf 10 (by decide)).trans ef10
        have hfE := hfE.trans xf (by decide)
        have eg15 := (xg 15 (by decide)).trans eg15
        have eg16 := (xg 16 (by decide)).trans eg16
        have eg17 := (xg 17 (by decide)).trans eg17
        have hgE := hgE.trans xg (by decide)
        have qL := q35
        have hT35 := sv_takes hR hSt hOK qL xf
        rw [hT35.1] at r35 ⊢
        refine z_if_eqB (tgt := 49) (TX8_readTerm.at 17 rfl) rfl (fun c3 => ?_) (fun c3 => ?_)
        · skip
          have hen : fin = s := hfin.trans (lpR_end (fun x o ho => by rcases mul_cs ho with rfl | rfl | rfl <;> assumption))
          exact kx _ _ _ (hen ▸ hT35.2.2 c3) hfE hgE hH hA
        · skip
          have hSt := hT35.2.1 c3
          have hOK := ok_tk hR.2.2 hOK (by decide) c3
          obtain ⟨k2, hk2⟩ := lpR_step (op := mulOp) (c := c) (pl := pl) (item := item) (n := n) (k := k) (x := 137) (o := 7) c3 (by decide)
          refine z_ald_0 (TX8_readTerm.at 18 rfl) ?_
          refine z_ild_1 (TX8_readTerm.at 19 rfl) ?_
          refine zm_callV1 (hI _ _ _ _ eg15 eg16 eg17 ef8 ef9 ef10 hSt hOK) (TX8_readTerm.at 20 rfl) c8_226 rfl rfl hH hA (by omega) (Nat.le_of_ble_eq_true rfl) (fun f43 g43 j43 h q43 hH hA => ?_)
          obtain ⟨q43, xf, xg, xj⟩ := q43
          rw [xj] at hH
          have ef8 := (xf 8 (by decide)).trans ef8
          have ef9 := (xf 9 (by decide)).trans ef9
          have ef10 := (xf 10 (by decide)).trans ef10
          have hfE := hfE.trans xf (by decide)
          have eg15 := (xg 15 (by decide)).trans eg15
          have eg16 := (xg 16 (by decide)).trans eg16
          have eg17 := (xg 17 (by decide)).trans eg17
          have hgE := hgE.trans xg (by decide)
          have qL := q43
          have hSt := qL
          have hOK := ok_bd (pl := pl) hR.2.2 hOK ha hp
          refine z_goto (tgt := 5) (TX8_readTerm.at 21 rfl) rfl ?_
          exact ih k2 _ _ _ _ hSt hOK (far_s hfar ha) (hfin.trans hk2) eg15 eg16 eg17 ef8 ef9 ef10 hfE hgE hH hA

set_option maxHeartbeats 4000000 in
set_option maxRecDepth 100000 in
theorem lp_readSum {l : Launch} {o : Nat} {ar : Nat → Nat} {N : Int} {c v pl X15 X16 X17 : Int → Int} {w8 w9 io : Int} (hR : RdH N c v pl X15 X16 X17) {item : Nat → Nat → PR} {m : Nat} {dp : Int} {d : Nat} {Pz : Option Value → zH → Prop} {h0 : zH} {f0 : mF} {g0 j : mA} {fin : RS} (hd : m + 1 ≤ d) (hm : 1 ≤ m) (hI : RdM l o ar MX8_readTerm m [vI dp] N pl X15 X16 X17 w8 w9 io item) (ha : Adv c item) (hp : Pk item) (kx : ∀ (f : mF) (g : mA) (h : zH), St f fin → eqx [19, 20, 21] f0 f → eqx [] g0 g → HM o ar f g j h → zAg o ar h0 h → Z l MX8_readSum d 0 0 Pz 37 [some (.ref o), some (vI dp)] [] h 0 0) : ∀ (n : Nat) (k : Den) (s : RS) (f : mF) (g : mA) (h : zH) (hSt : St f s) (hOK : SOK N s) (hfar : far N n s) (hfin : fin = lpR addOp c pl item n k s) (eg15 : g 15 = X15) (eg16 : g 16 = X16) (eg17 : g 17 = X17) (ef8 : f 8 = w8) (ef9 : f 9 = w9) (ef10 : f 10 = io) (hfE : eqx [19, 20, 21] f0 f) (hgE : eqx [] g0 g) (hH : HM o ar f g j h) (hA : zAg o ar h0 h), Z l MX8_readSum d 0 0 Pz 5 [some (.ref o), some (vI dp)] [] h 0 0 := by
  intro n
  induction n with
  | zero =>
    intro k s f g h hSt hOK hfar hfin eg15 eg16 eg17 ef8 ef9 ef10 hfE hgE hH hA
    obtain ⟨b, rfl⟩ := far_0 hfar hOK
    have hfin2 : fin = .error b := hfin
    have hno : ∀ x, ¬ tkB c (.error b) x = true := fun x z => by cases z
    refine z_ald_0 (TX8_readSum.at 3 rfl) ?_
    refine z_bipush (by decide) (TX8_readSum.at 4 rfl) ?_
    refine zs_call1 (s_sign (by omega)) (TX8_readSum.at 5 rfl) c8_219 rfl (by omega) (Nat.le_of_ble_eq_true rfl) (fun r8 => ?_)
    simp only [Int.reduceAdd] at r8 ⊢
    refine zm_callI1 (m_takes0 eg15 rfl rfl (by omega) (st_b hSt hOK hR.1.2)) (TX8_readSum.at 6 rfl) c8_180 rfl rfl hH hA (by omega) (Nat.le_of_ble_eq_true rfl) (fun x11 f11 g11 j11 h r11 q11 hH hA => ?_)
    obtain ⟨q11, xf, xg, xj⟩ := q11
    rw [xj] at hH
    have ef8 := (xf 8 (by decide)).trans ef8
    have ef9 := (xf 9 (by decide)).trans ef9
    have ef10 := (xf 10 (by decide)).trans ef10
    have hfE := hfE.trans xf (by decide)
    have eg15 := (xg 15 (by decide)).trans eg15
    have eg16 := (xg 16 (by decide)).trans eg16
    have eg17 := (xg 17 (by decide)).trans eg17
    have hgE := hgE.trans xg (by decide)
    have qL := q11
    have hT11 := sv_takes hR hSt hOK qL xf
    rw [hT11.1] at r11 ⊢
    have hSt := hT11.2.2 (hno _)
    refine z_if_neB (tgt := 29) (TX8_readSum.at 7 rfl) rfl (fun c1 => absurd c1 (by exact hno _)) (fun c1 => ?_)
    refine z_ald_0 (TX8_readSum.at 8 rfl) ?_
    refine z_bipush (by decide) (TX8_readSum.at 9 rfl) ?_
    refine zs_call1 (s_sign (by omega)) (TX8_readSum.at 10 rfl) c8_219 rfl (by omega) (Nat.le_of_ble_eq_true rfl) (fun r20 => ?_)
    simp only [Int.reduceAdd] at r20 ⊢
    refine zm_callI1 (m_takes0 eg15 rfl rfl (by omega) (st_b hSt hOK hR.1.2)) (TX8_readSum.at 11 rfl) c8_180 rfl rfl hH hA (by omega) (Nat.le_of_ble_eq_true rfl) (fun x23 f23 g23 j23 h r23 q23 hH hA => ?_)
    obtain ⟨q23, xf, xg, xj⟩ := q23
    rw [xj] at hH
    have ef8 := (xf 8 (by decide)).trans ef8
    have ef9 := (xf 9 (by decide)).trans ef9
    have ef10 := (xf 10 (by decide)).trans ef10
    have hfE := hfE.trans xf (by decide)
    have eg15 := (xg 15 (by decide)).trans eg15
    have eg16 := (xg 16 (by decide)).trans eg16
    have eg17 := (xg 17 (by decide)).trans eg17
    have hgE := hgE.trans xg (by decide)
    have qL := q23
    have hT23 := sv_takes hR hSt hOK qL xf
    rw [hT23.1] at r23 ⊢
    have hSt := hT23.2.2 (hno _)
    refine z_if_eqB (tgt := 37) (TX8_readSum.at 12 rfl) rfl (fun c2 => ?_) (fun c2 => absurd c2 (by exact fun z => absurd z (hno _)))
    exact kx _ _ _ (hfin2 ▸ hSt) hfE hgE hH hA
  | succ n ih =>
    intro k s f g h hSt hOK hfar hfin eg15 eg16 eg17 ef8 ef9 ef10 hfE hgE hH hA
    refine z_ald_0 (TX8_readSum.at 3 rfl) ?_
    refine z_bipush (by decide) (TX8_readSum.at 4 rfl) ?_
    refine zs_call1 (s_sign (by omega)) (TX8_readSum.at 5 rfl) c8_219 rfl (by omega) (Nat.le_of_ble_eq_true rfl) (fun r8 => ?_)
    simp only [Int.reduceAdd] at r8 ⊢
    refine zm_callI1 (m_takes0 eg15 rfl rfl (by omega) (st_b hSt hOK hR.1.2)) (TX8_readSum.at 6 rfl) c8_180 rfl rfl hH hA (by omega) (Nat.le_of_ble_eq_true rfl) (fun x11 f11 g11 j11 h r11 q11 hH hA => ?_)
    obtain ⟨q11, xf, xg, xj⟩ := q11
    rw [xj] at hH
    have ef8 := (xf 8 (by decide)).trans ef8
    have ef9 := (xf 9 (by decide)).trans ef9
    have ef10 := (xf 10 (by decide)).trans ef10
    have hfE := hfE.trans xf (by decide)
    have eg15 := (xg 15 (by decide)).trans eg15
    have eg16 := (xg 16 (by decide)).trans eg16
    have eg17 := (xg 17 (by decide)).trans eg17
    have hgE := hgE.trans xg (by decide)
    have qL := q11
    have hT11 := sv_takes hR hSt hOK qL xf
    rw [hT11.1] at r11 ⊢
    refine z_if_neB (tgt := 29) (TX8_readSum.at 7 rfl) rfl (fun c1 => ?_) (fun c1 => ?_)
    · skip
      have hSt := hT11.2.1 c1
      have hOK := ok_tk hR.2.2 hOK (by decide) c1
      obtain ⟨k2, hk2⟩ := lpR_step (op := addOp) (c := c) (pl := pl) (item := item) (n := n) (k := k) (x := 143) (o := 3) c1 (by decide)
      refine z_ald_0 (TX8_readSum.at 13 rfl) ?_
      refine z_ild_1 (TX8_readSum.at 14 rfl) ?_
      refine zm_callV1 (hI _ _ _ _ eg15 eg16 eg17 ef8 ef9 ef10 hSt hOK) (TX8_readSum.at 15 rfl) c8_223 rfl rfl hH hA (by omega) (Nat.le_of_ble_eq_true rfl) (fun f31 g31 j31 h q31 hH hA => ?_)
      obtain ⟨q31, xf, xg, xj⟩ := q31
      rw [xj] at hH
      have ef8 := (xf 8 (by decide)).trans ef8
      have ef9 := (xf 9 (by decide)).trans ef9
      have ef10 := (xf 10 (by decide)).trans ef10
      have hfE := hfE.trans xf (by decide)
      have eg15 := (xg 15 (by decide)).trans eg15
      have eg16 := (xg 16 (by decide)).trans eg16
      have eg17 := (xg 17 (by decide)).trans eg17
      have hgE := hgE.trans xg (by decide)
      have qL := q31
      have hSt := qL
      have hOK := ok_bd (pl := pl) hR.2.2 hOK ha hp
      refine z_goto (tgt := 5) (TX8_readSum.at 16 rfl) rfl ?_
      exact ih k2 _ _ _ _ hSt hOK (far_s hfar ha) (hfin.trans hk2) eg15 eg16 eg17 ef8 ef9 ef10 hfE hgE hH hA
    · skip
      have hSt := hT11.2.2 c1
      refine z_ald_0 (TX8_readSum.at 8 rfl) ?_
      refine z_bipush (by decide) (TX8_readSum.at 9 rfl) ?_
      refine zs_call1 (s_sign (by omega)) (TX8_readSum.at 10 rfl) c8_219 rfl (by omega) (Nat.le_of_ble_eq_true rfl) (fun r20 => ?_)
      simp only [Int.reduceAdd] at r20 ⊢
      refine zm_callI1 (m_takes0 eg15 rfl rfl (by omega) (st_b hSt hOK hR.1.2)) (TX8_readSum.at 11 rfl) c8_180 rfl rfl hH hA (by omega) (Nat.le_of_ble_eq_true rfl) (fun x23 f23 g23 j23 h r23 q23 hH hA => ?_)
      obtain ⟨q23, xf, xg, xj⟩ := q23
      rw [xj] at hH
      have ef8 := (xf 8 (by decide)).trans ef8
      have ef9 := (xf 9 (by decide)).trans ef9
      have ef10 := (xf 10 (by decide)).trans ef10
      have hfE := hfE.trans xf (by decide)
      have eg15 := (xg 15 (by decide)).trans eg15
      have eg16 := (xg 16 (by decide)).trans eg16
      have eg17 := (xg 17 (by decide)).trans eg17
      have hgE := hgE.trans xg (by decide)
      have qL := q23
      have hT23 := sv_takes hR hSt hOK qL xf
      rw [hT23.1] at r23 ⊢
      refine z_if_eqB (tgt := 37) (TX8_readSum.at 12 rfl) rfl (fun c2 => ?_) (fun c2 => ?_)
      · skip
        have hen : fin = s := hfin.trans (lpR_end (fun x o ho => by rcases add_cs ho with rfl | rfl <;> assumption))
        exact kx _ _ _ (hen ▸ hT23.2.2 c2) hfE hgE hH hA
      · skip
        have hSt := hT23.2.1 c2
        have hOK := ok_tk hR.2.2 hOK (by decide) c2
        obtain ⟨k2, hk2⟩ := lpR_step (op := addOp) (c := c) (pl := pl) (item := item) (n := n) (k := k) (x := 145) (o := 4) c2 (by decide)
        refine z_ald_0 (TX8_readSum.at 13 rfl) ?_
        refine z_ild_1 (TX8_readSum.at 14 rfl) ?_
        refine zm_callV1 (hI _ _ _ _ eg15 eg16 eg17 ef8 ef9 ef10 hSt hOK) (TX8_readSum.at 15 rfl) c8_223 rfl rfl hH hA (by omega) (Nat.le_of_ble_eq_true rfl) (fun f31 g31 j31 h q31 hH hA => ?_)
        obtain ⟨q31, xf, xg, xj⟩ := q31
        rw [xj] at hH
        have ef8 := (xf 8 (by decide)).trans ef8
        have ef9 := (xf 9 (by decide)).trans ef9
        have ef10 := (xf 10 (by decide)).trans ef10
        have hfE := hfE.trans xf (by decide)
        have eg15 := (xg 15 (by decide)).trans eg15
        have eg16 := (xg 16 (by decide)).trans eg16
        have eg17 := (xg 17 (by decide)).trans eg17
        have hgE := hgE.trans xg (by decide)
        have qL := q31
        have hSt := qL
        have hOK := ok_bd (pl := pl) hR.2.2 hOK ha hp
        refine z_goto (tgt := 5) (TX8_readSum.at 16 rfl) rfl ?_
        exact ih k2 _ _ _ _ hSt hOK (far_s hfar ha) (hfin.trans hk2) eg15 eg16 eg17 ef8 ef9 ef10 hfE hgE hH hA

set_option maxHeartbeats 4000000 in
set_option maxRecDepth 100000 in
theorem lp_readTest {l : Launch} {o : Nat} {ar : Nat → Nat} {N : Int} {c v pl X15 X16 X17 : Int → Int} {w8 w9 io : Int} (hR : RdH N c v pl X15 X16 X17) {item : Nat → Nat → PR} {m : Nat} {dp : Int} {d : Nat} {Pz : Option Value → zH → Prop} {h0 : zH} {f0 : mF} {g0 j : mA} {fin : RS} (hd : m + 1 ≤ d) (hm : 1 ≤ m) (hI : RdM l o ar MX8_readBoth m [vI dp] N pl X15 X16 X17 w8 w9 io item) (ha : Adv c item) (hp : Pk item) (kx : ∀ (f : mF) (g : mA) (h : zH), St f fin → eqx [19, 20, 21] f0 f → eqx [] g0 g → HM o ar f g j h → zAg o ar h0 h → Z l MX8_readTest d 0 0 Pz 21 [some (.ref o), some (vI dp)] [] h 0 0) : ∀ (n : Nat) (k : Den) (s : RS) (f : mF) (g : mA) (h : zH) (hSt : St f s) (hOK : SOK N s) (hfar : far N n s) (hfin : fin = lpB 5 dOr c pl item n k s) (eg15 : g 15 = X15) (eg16 : g 16 = X16) (eg17 : g 17 = X17) (ef8 : f 8 = w8) (ef9 : f 9 = w9) (ef10 : f 10 = io) (hfE : eqx [19, 20, 21] f0 f) (hgE : eqx [] g0 g) (hH : HM o ar f g j h) (hA : zAg o ar h0 h), Z l MX8_readTest d 0 0 Pz 5 [some (.ref o), some (vI dp)] [] h 0 0 := by
  intro n
  induction n with
  | zero =>
    intro k s f g h hSt hOK hfar hfin eg15 eg16 eg17 ef8 ef9 ef10 hfE hgE hH hA
    obtain ⟨b, rfl⟩ := far_0 hfar hOK
    have hfin2 : fin = .error b := hfin
    have hno : ∀ x, ¬ tkB c (.error b) x = true := fun x z => by cases z
    refine z_ald_0 (TX8_readTest.at 3 rfl) ?_
    refine z_iconst (TX8_readTest.at 4 rfl) ?_
    refine zm_callI1 (m_takes0 eg15 rfl rfl (by omega) (st_b hSt hOK hR.1.2)) (TX8_readTest.at 5 rfl) c8_180 rfl rfl hH hA (by omega) (Nat.le_of_ble_eq_true rfl) (fun x7 f7 g7 j7 h r7 q7 hH hA => ?_)
    obtain ⟨q7, xf, xg, xj⟩ := q7
    rw [xj] at hH
    have ef8 := (xf 8 (by decide)).trans ef8
    have ef9 := (xf 9 (by decide)).trans ef9
    have ef10 := (xf 10 (by decide)).trans ef10
    have hfE := hfE.trans xf (by decide)
    have eg15 := (xg 15 (by decide)).trans eg15
    have eg16 := (xg 16 (by decide)).trans eg16
    have eg17 := (xg 17 (by decide)).trans eg17
    have hgE := hgE.trans xg (by decide)
    have qL := q7
    have hT7 := sv_takes hR hSt hOK qL xf
    rw [hT7.1] at r7 ⊢
    have hSt := hT7.2.2 (hno _)
    refine z_if_eqB (tgt := 21) (TX8_readTest.at 6 rfl) rfl (fun c1 => ?_) (fun c1 => absurd c1 (by exact fun z => absurd z (hno _)))
    exact kx _ _ _ (hfin2 ▸ hSt) hfE hgE hH hA
  | succ n ih =>
    intro k s f g h hSt hOK hfar hfin eg15 eg16 eg17 ef8 ef9 ef10 hfE hgE hH hA
    refine z_ald_0 (TX8_readTest.at 3 rfl) ?_
    refine z_iconst (TX8_readTest.at 4 rfl) ?_
    refine zm_callI1 (m_takes0 eg15 rfl rfl (by omega) (st_b hSt hOK hR.1.2)) (TX8_readTest.at 5 rfl) c8_180 rfl rfl hH hA (by omega) (Nat.le_of_ble_eq_true rfl) (fun x7 f7 g7 j7 h r7 q7 hH hA => ?_)
    obtain ⟨q7, xf, xg, xj⟩ := q7
    rw [xj] at hH
    have ef8 := (xf 8 (by decide)).trans ef8
    have ef9 := (xf 9 (by decide)).trans ef9
    have ef10 := (xf 10 (by decide)).trans ef10
    have hfE := hfE.trans xf (by decide)
    have eg15 := (xg 15 (by decide)).trans eg15
    have eg16 := (xg 16 (by decide)).trans eg16
    have eg17 := (xg 17 (by decide)).trans eg17
    have hgE := hgE.trans xg (by decide)
    have qL := q7
    have hT7 := sv_takes hR hSt hOK qL xf
    rw [hT7.1] at r7 ⊢
    refine z_if_eqB (tgt := 21) (TX8_readTest.at 6 rfl) rfl (fun c1 => ?_) (fun c1 => ?_)
    · skip
      have hen : fin = s := hfin.trans (lpB_end c1)
      exact kx _ _ _ (hen ▸ hT7.2.2 c1) hfE hgE hH hA
    · skip
      have hSt := hT7.2.1 c1
      have hOK := ok_tk hR.2.2 hOK (by decide) c1
      obtain ⟨k2, hk2⟩ := lpB_step (w := 5) (join := dOr) (c := c) (pl := pl) (item := item) (n := n) (k := k) c1
      refine z_ald_0 (TX8_readTest.at 7 rfl) ?_
      refine z_ild_1 (TX8_readTest.at 8 rfl) ?_
      refine zm_callV1 (hI _ _ _ _ eg15 eg16 eg17 ef8 ef9 ef10 hSt hOK) (TX8_readTest.at 9 rfl) c8_213 rfl rfl hH hA (by omega) (Nat.le_of_ble_eq_true rfl) (fun f15 g15 j15 h q15 hH hA => ?_)
      obtain ⟨q15, xf, xg, xj⟩ := q15
      rw [xj] at hH
      have ef8 := (xf 8 (by decide)).trans ef8
      have ef9 := (xf 9 (by decide)).trans ef9
      have ef10 := (xf 10 (by decide)).trans ef10
      have hfE := hfE.trans xf (by decide)
      have eg15 := (xg 15 (by decide)).trans eg15
      have eg16 := (xg 16 (by decide)).trans eg16
      have eg17 := (xg 17 (by decide)).trans eg17
      have hgE := hgE.trans xg (by decide)
      have qL := q15
      have hSt := qL
      have hOK := ok_bd (pl := pl) hR.2.2 hOK ha hp
      refine z_goto (tgt := 5) (TX8_readTest.at 10 rfl) rfl ?_
      exact ih k2 _ _ _ _ hSt hOK (far_s hfar ha) (hfin.trans hk2) eg15 eg16 eg17 ef8 ef9 ef10 hfE hgE hH hA

set_option maxHeartbeats 4000000 in
set_option maxRecDepth 100000 in
theorem lp_readBoth {l : Launch} {o : Nat} {ar : Nat → Nat} {N : Int} {c v pl X15 X16 X17 : Int → Int} {w8 w9 io : Int} (hR : RdH N c v pl X15 X16 X17) {item : Nat → Nat → PR} {m : Nat} {dp : Int} {d : Nat} {Pz : Option Value → zH → Prop} {h0 : zH} {f0 : mF} {g0 j : mA} {fin : RS} (hd : m + 1 ≤ d) (hm : 1 ≤ m) (hI : RdM l o ar MX8_readPlain m [vI dp] N pl X15 X16 X17 w8 w9 io item) (ha : Adv c item) (hp : Pk item) (kx : ∀ (f : mF) (g : mA) (h : zH), St f fin → eqx [19, 20, 21] f0 f → eqx [] g0 g → HM o ar f g j h → zAg o ar h0 h → Z l MX8_readBoth d 0 0 Pz 22 [some (.ref o), some (vI dp)] [] h 0 0) : ∀ (n : Nat) (k : Den) (s : RS) (f : mF) (g : mA) (h : zH) (hSt : St f s) (hOK : SOK N s) (hfar : far N n s) (hfin : fin = lpB 6 dAnd c pl item n k s) (eg15 : g 15 = X15) (eg16 : g 16 = X16) (eg17 : g 17 = X17) (ef8 : f 8 = w8) (ef9 : f 9 = w9) (ef10 : f 10 = io) (hfE : eqx [19, 20, 21] f0 f) (hgE : eqx [] g0 g) (hH : HM o ar f g j h) (hA : zAg o ar h0 h), Z l MX8_readBoth d 0 0 Pz 5 [some (.ref o), some (vI dp)] [] h 0 0 := by
  intro n
  induction n with
  | zero =>
    intro k s f g h hSt hOK hfar hfin eg15 eg16 eg17 ef8 ef9 ef10 hfE hgE hH hA
    obtain ⟨b, rfl⟩ := far_0 hfar hOK
    have hfin2 : fin = .error b := hfin
    have hno : ∀ x, ¬ tkB c (.error b) x = true := fun x z => by cases z
    refine z_ald_0 (TX8_readBoth.at 3 rfl) ?_
    refine z_bipush (by decide) (TX8_readBoth.at 4 rfl) ?_
    refine zm_callI1 (m_takes0 eg15 rfl rfl (by omega) (st_b hSt hOK hR.1.2)) (TX8_readBoth.at 5 rfl) c8_180 rfl rfl hH hA (by omega) (Nat.le_of_ble_eq_true rfl) (fun x8 f8 g8 j8 h r8 q8 hH hA => ?_)
    obtain ⟨q8, xf, xg, xj⟩ := q8
    rw [xj] at hH
    have ef8 := (xf 8 (by decide)).trans ef8
    have ef9 := (xf 9 (by decide)).trans ef9
    have ef10 := (xf 10 (by decide)).trans ef10
    have hfE := hfE.trans xf (by decide)
    have eg15 := (xg 15 (by decide)).trans eg15
    have eg16 := (xg 16 (by decide)).trans eg16
    have eg17 := (xg 17 (by decide)).trans eg17
    have hgE := hgE.trans xg (by decide)
    have qL := q8
    have hT8 := sv_takes hR hSt hOK qL xf
    rw [hT8.1] at r8 ⊢
    have hSt := hT8.2.2 (hno _)
    refine z_if_eqB (tgt := 22) (TX8_readBoth.at 6 rfl) rfl (fun c1 => ?_) (fun c1 => absurd c1 (by exact fun z => absurd z (hno _)))
    exact kx _ _ _ (hfin2 ▸ hSt) hfE hgE hH hA
  | succ n ih =>
    intro k s f g h hSt hOK hfar hfin eg15 eg16 eg17 ef8 ef9 ef10 hfE hgE hH hA
    refine z_ald_0 (TX8_readBoth.at 3 rfl) ?_
    refine z_bipush (by decide) (TX8_readBoth.at 4 rfl) ?_
    refine zm_callI1 (m_takes0 eg15 rfl rfl (by omega) (st_b hSt hOK hR.1.2)) (TX8_readBoth.at 5 rfl) c8_180 rfl rfl hH hA (by omega) (Nat.le_of_ble_eq_true rfl) (fun x8 f8 g8 j8 h r8 q8 hH hA => ?_)
    obtain ⟨q8, xf, xg, xj⟩ := q8
    rw [xj] at hH
    have ef8 := (xf 8 (by decide)).trans ef8
    have ef9 := (xf 9 (by decide)).trans ef9
    have ef10 := (xf 10 (by decide)).trans ef10
    have hfE := hfE.trans xf (by decide)
    have eg15 := (xg 15 (by decide)).trans eg15
    have eg16 := (xg 16 (by decide)).trans eg16
    have eg17 := (xg 17 (by decide)).trans eg17
    have hgE := hgE.trans xg (by decide)
    have qL := q8
    have hT8 := sv_takes hR hSt hOK qL xf
    rw [hT8.1] at r8 ⊢
    refine z_if_eqB (tgt := 22) (TX8_readBoth.at 6 rfl) rfl (fun c1 => ?_) (fun c1 => ?_)
    · skip
      have hen : fin = s := hfin.trans (lpB_end c1)
      exact kx _ _ _ (hen ▸ hT8.2.2 c1) hfE hgE hH hA
    · skip
      have hSt := hT8.2.1 c1
      have hOK := ok_tk hR.2.2 hOK (by decide) c1
      obtain ⟨k2, hk2⟩ := lpB_step (w := 6) (join := dAnd) (c := c) (pl := pl) (item := item) (n := n) (k := k) c1
      refine z_ald_0 (TX8_readBoth.at 7 rfl) ?_
      refine z_ild_1 (TX8_readBoth.at 8 rfl) ?_
      refine zm_callV1 (hI _ _ _ _ eg15 eg16 eg17 ef8 ef9 ef10 hSt hOK) (TX8_readBoth.at 9 rfl) c8_216 rfl rfl hH hA (by omega) (Nat.le_of_ble_eq_true rfl) (fun f16 g16 j16 h q16 hH hA => ?_)
      obtain ⟨q16, xf, xg, xj⟩ := q16
      rw [xj] at hH
      have ef8 := (xf 8 (by decide)).trans ef8
      have ef9 := (xf 9 (by decide)).trans ef9
      have ef10 := (xf 10 (by decide)).trans ef10
      have hfE := hfE.trans xf (by decide)
      have eg15 := (xg 15 (by decide)).trans eg15
      have eg16 := (xg 16 (by decide)).trans eg16
      have eg17 := (xg 17 (by decide)).trans eg17
      have hgE := hgE.trans xg (by decide)
      have qL := q16
      have hSt := qL
      have hOK := ok_bd (pl := pl) hR.2.2 hOK ha hp
      refine z_goto (tgt := 5) (TX8_readBoth.at 10 rfl) rfl ?_
      exact ih k2 _ _ _ _ hSt hOK (far_s hfar ha) (hfin.trans hk2) eg15 eg16 eg17 ef8 ef9 ef10 hfE hgE hH hA

set_option maxHeartbeats 4000000 in
set_option maxRecDepth 100000 in
theorem r_readTerm {l : Launch} {o : Nat} {ar : Nat → Nat} {N : Int} {c v pl X15 X16 X17 : Int → Int} {w8 w9 io : Int} (hR : RdH N c v pl X15 X16 X17) {item : Nat → Nat → PR} {m : Nat} {dp : Int} (hdp : 0 ≤ dp ∧ dp ≤ 8) (hm : 1 ≤ m) (hI : RdM l o ar MX8_readPart m [vI dp] N pl X15 X16 X17 w8 w9 io item) (ha : Adv c item) (hp : Pk item) : RdM l o ar MX8_readTerm (m + 1) [vI dp] N pl X15 X16 X17 w8 w9 io (pRow mulOp c item) := by
  intro f g j s eg15 eg16 eg17 ef8 ef9 ef10 hSt hOK
  refine MM.intro [some (.ref o), some (vI dp)] (by decide) (Nat.le_of_ble_eq_true rfl) rfl (fun d hd h0 h hH hA => ?_)
  have hfE : eqx [19, 20, 21] f f := eqx.rf
  have hgE : eqx [] g g := eqx.rf
  refine z_ald_0 (TX8_readTerm.at 0 rfl) ?_
  refine z_ild_1 (TX8_readTerm.at 1 rfl) ?_
  refine zm_callV1 (hI _ _ _ _ eg15 eg16 eg17 ef8 ef9 ef10 hSt hOK) (TX8_readTerm.at 2 rfl) c8_226 rfl rfl hH hA (by omega) (Nat.le_of_ble_eq_true rfl) (fun f2 g2 j2 h q2 hH hA => ?_)
  obtain ⟨q2, xf, xg, xj⟩ := q2
  rw [xj] at hH
  have ef8 := (xf 8 (by decide)).trans ef8
  have ef9 := (xf 9 (by decide)).trans ef9
  have ef10 := (xf 10 (by decide)).trans ef10
  have hfE := hfE.trans xf (by decide)
  have eg15 := (xg 15 (by decide)).trans eg15
  have eg16 := (xg 16 (by decide)).trans eg16
  have eg17 := (xg 17 (by decide)).trans eg17
  have hgE := hgE.trans xg (by decide)
  have qL := q2
  have hSt := qL
  have hOK := ok_bd (pl := pl) hR.2.2 hOK ha hp
  obtain ⟨k0, hk0⟩ := row_lp (op := mulOp) (c := c) (pl := pl) (item := item) (s := s)
  refine lp_readTerm hR hd hm hI ha hp (fun f3 g3 h3 hSt hfE hgE hH hA => ?_) 401 k0 _ _ _ _ hSt hOK (far_401 hR.1.2) rfl eg15 eg16 eg17 ef8 ef9 ef10 hfE hgE hH hA
  refine zm_vret (TX8_readTerm.at 22 rfl) rfl hH hA ?_
  exact ⟨hk0 ▸ hSt, hfE, hgE, rfl⟩

set_option maxHeartbeats 4000000 in
set_option maxRecDepth 100000 in
theorem r_readSum {l : Launch} {o : Nat} {ar : Nat → Nat} {N : Int} {c v pl X15 X16 X17 : Int → Int} {w8 w9 io : Int} (hR : RdH N c v pl X15 X16 X17) {item : Nat → Nat → PR} {m : Nat} {dp : Int} (hdp : 0 ≤ dp ∧ dp ≤ 8) (hm : 1 ≤ m) (hI : RdM l o ar MX8_readTerm m [vI dp] N pl X15 X16 X17 w8 w9 io item) (ha : Adv c item) (hp : Pk item) : RdM l o ar MX8_readSum (m + 1) [vI dp] N pl X15 X16 X17 w8 w9 io (pRow addOp c item) := by
  intro f g j s eg15 eg16 eg17 ef8 ef9 ef10 hSt hOK
  refine MM.intro [some (.ref o), some (vI dp)] (by decide) (Nat.le_of_ble_eq_true rfl) rfl (fun d hd h0 h hH hA => ?_)
  have hfE : eqx [19, 20, 21] f f := eqx.rf
  have hgE : eqx [] g g := eqx.rf
  refine z_ald_0 (TX8_readSum.at 0 rfl) ?_
  refine z_ild_1 (TX8_readSum.at 1 rfl) ?_
  refine zm_callV1 (hI _ _ _ _ eg15 eg16 eg17 ef8 ef9 ef10 hSt hOK) (TX8_readSum.at 2 rfl) c8_223 rfl rfl hH hA (by omega) (Nat.le_of_ble_eq_true rfl) (fun f2 g2 j2 h q2 hH hA => ?_)
  obtain ⟨q2, xf, xg, xj⟩ := q2
  rw [xj] at hH
  have ef8 := (xf 8 (by decide)).trans ef8
  have ef9 := (xf 9 (by decide)).trans ef9
  have ef10 := (xf 10 (by decide)).trans ef10
  have hfE := hfE.trans xf (by decide)
  have eg15 := (xg 15 (by decide)).trans eg15
  have eg16 := (xg 16 (by decide)).trans eg16
  have eg17 := (xg 17 (by decide)).trans eg17
  have hgE := hgE.trans xg (by decide)
  have qL := q2
  have hSt := qL
  have hOK := ok_bd (pl := pl) hR.2.2 hOK ha hp
  obtain ⟨k0, hk0⟩ := row_lp (op := addOp) (c := c) (pl := pl) (item := item) (s := s)
  refine lp_readSum hR hd hm hI ha hp (fun f3 g3 h3 hSt hfE hgE hH hA => ?_) 401 k0 _ _ _ _ hSt hOK (far_401 hR.1.2) rfl eg15 eg16 eg17 ef8 ef9 ef10 hfE hgE hH hA
  refine zm_vret (TX8_readSum.at 17 rfl) rfl hH hA ?_
  exact ⟨hk0 ▸ hSt, hfE, hgE, rfl⟩

set_option maxHeartbeats 4000000 in
set_option maxRecDepth 100000 in
theorem r_readTest {l : Launch} {o : Nat} {ar : Nat → Nat} {N : Int} {c v pl X15 X16 X17 : Int → Int} {w8 w9 io : Int} (hR : RdH N c v pl X15 X16 X17) {item : Nat → Nat → PR} {m : Nat} {dp : Int} (hdp : 0 ≤ dp ∧ dp ≤ 8) (hm : 1 ≤ m) (hI : RdM l o ar MX8_readBoth m [vI dp] N pl X15 X16 X17 w8 w9 io item) (ha : Adv c item) (hp : Pk item) : RdM l o ar MX8_readTest (m + 1) [vI dp] N pl X15 X16 X17 w8 w9 io (pRowB 5 dOr c item) := by
  intro f g j s eg15 eg16 eg17 ef8 ef9 ef10 hSt hOK
  refine MM.intro [some (.ref o), some (vI dp)] (by decide) (Nat.le_of_ble_eq_true rfl) rfl (fun d hd h0 h hH hA => ?_)
  have hfE : eqx [19, 20, 21] f f := eqx.rf
  have hgE : eqx [] g g := eqx.rf
  refine z_ald_0 (TX8_readTest.at 0 rfl) ?_
  refine z_ild_1 (TX8_readTest.at 1 rfl) ?_
  refine zm_callV1 (hI _ _ _ _ eg15 eg16 eg17 ef8 ef9 ef10 hSt hOK) (TX8_readTest.at 2 rfl) c8_213 rfl rfl hH hA (by omega) (Nat.le_of_ble_eq_true rfl) (fun f2 g2 j2 h q2 hH hA => ?_)
  obtain ⟨q2, xf, xg, xj⟩ := q2
  rw [xj] at hH
  have ef8 := (xf 8 (by decide)).trans ef8
  have ef9 := (xf 9 (by decide)).trans ef9
  have ef10 := (xf 10 (by decide)).trans ef10
  have hfE := hfE.trans xf (by decide)
  have eg15 := (xg 15 (by decide)).trans eg15
  have eg16 := (xg 16 (by decide)).trans eg16
  have eg17 := (xg 17 (by decide)).trans eg17
  have hgE := hgE.trans xg (by decide)
  have qL := q2
  have hSt := qL
  have hOK := ok_bd (pl := pl) hR.2.2 hOK ha hp
  obtain ⟨k0, hk0⟩ := row_lpB (w := 5) (join := dOr) (c := c) (pl := pl) (item := item) (s := s)
  refine lp_readTest hR hd hm hI ha hp (fun f3 g3 h3 hSt hfE hgE hH hA => ?_) 401 k0 _ _ _ _ hSt hOK (far_401 hR.1.2) rfl eg15 eg16 eg17 ef8 ef9 ef10 hfE hgE hH hA
  refine zm_vret (TX8_readTest.at 11 rfl) rfl hH hA ?_
  exact ⟨hk0 ▸ hSt, hfE, hgE, rfl⟩

set_option maxHeartbeats 4000000 in
set_option maxRecDepth 100000 in
theorem r_readBoth {l : Launch} {o : Nat} {ar : Nat → Nat} {N : Int} {c v pl X15 X16 X17 : Int → Int} {w8 w9 io : Int} (hR : RdH N c v pl X15 X16 X17) {item : Nat → Nat → PR} {m : Nat} {dp : Int} (hdp : 0 ≤ dp ∧ dp ≤ 8) (hm : 1 ≤ m) (hI : RdM l o ar MX8_readPlain m [vI dp] N pl X15 X16 X17 w8 w9 io item) (ha : Adv c item) (hp : Pk item) : RdM l o ar MX8_readBoth (m + 1) [vI dp] N pl X15 X16 X17 w8 w9 io (pRowB 6 dAnd c item) := by
  intro f g j s eg15 eg16 eg17 ef8 ef9 ef10 hSt hOK
  refine MM.intro [some (.ref o), some (vI dp)] (by decide) (Nat.le_of_ble_eq_true rfl) rfl (fun d hd h0 h hH hA => ?_)
  have hfE : eqx [19, 20, 21] f f := eqx.rf
  have hgE : eqx [] g g := eqx.rf
  refine z_ald_0 (TX8_readBoth.at 0 rfl) ?_
  refine z_ild_1 (TX8_readBoth.at 1 rfl) ?_
  refine zm_callV1 (hI _ _ _ _ eg15 eg16 eg17 ef8 ef9 ef10 hSt hOK) (TX8_readBoth.at 2 rfl) c8_216 rfl rfl hH hA (by omega) (Nat.le_of_ble_eq_true rfl) (fun f2 g2 j2 h q2 hH hA => ?_)
  obtain ⟨q2, xf, xg, xj⟩ := q2
  rw [xj] at hH
  have ef8 := (xf 8 (by decide)).trans ef8
  have ef9 := (xf 9 (by decide)).trans ef9
  have ef10 := (xf 10 (by decide)).trans ef10
  have hfE := hfE.trans xf (by decide)
  have eg15 := (xg 15 (by decide)).trans eg15
  have eg16 := (xg 16 (by decide)).trans eg16
  have eg17 := (xg 17 (by decide)).trans eg17
  have hgE := hgE.trans xg (by decide)
  have qL := q2
  have hSt := qL
  have hOK := ok_bd (pl := pl) hR.2.2 hOK ha hp
  obtain ⟨k0, hk0⟩ := row_lpB (w := 6) (join := dAnd) (c := c) (pl := pl) (item := item) (s := s)
  refine lp_readBoth hR hd hm hI ha hp (fun f3 g3 h3 hSt hfE hgE hH hA => ?_) 401 k0 _ _ _ _ hSt hOK (far_401 hR.1.2) rfl eg15 eg16 eg17 ef8 ef9 ef10 hfE hgE hH hA
  refine zm_vret (TX8_readBoth.at 11 rfl) rfl hH hA ?_
  exact ⟨hk0 ▸ hSt, hfE, hgE, rfl⟩

