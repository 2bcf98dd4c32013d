/-! ===== the reference reads: a part, a plain test ===== -/
theorem St_tr {f f' : mF} {s : RS} (h : St f s) (xf : eqx [] f f') : St f' s := by
  have e19 := xf 19 (by decide)
  have e20 := xf 20 (by decide)
  have e21 := xf 21 (by decide)
  match s, h with
  | .error b, h => exact ⟨e21.trans h.1, h.2⟩
  | .ok (t, p), h => exact ⟨e19.trans h.1, e20.trans h.2.1, e21.trans h.2.2⟩
set_option maxHeartbeats 4000000 in
set_option maxRecDepth 100000 in
theorem readPart_e {l : Launch} {o : Nat} {ar : Nat → Nat} {f : mF} {g j : mA} {N : Int} {c v pl X15 X16 X17 : Int → Int} {w8 w9 io : Int} (hR : RdH N c v pl X15 X16 X17) {dp b : Int} (eg15 : g 15 = X15) (eg16 : g 16 = X16) (eg17 : g 17 = X17) (ef8 : f 8 = w8) (ef9 : f 9 = w9) (ef10 : f 10 = io) (hSt : St f (.error b)) (hOK : SOK N (.error b)) : MM l o ar MX8_readPart 2 [.ref o, vI dp] f g j (PV (fun f' g' j' => St f' (.error b) ∧ eqx [19, 20, 21] f f' ∧ eqx [] g g' ∧ j' = j)) := by
  refine MM.intro [some (.ref o), some (vI dp), none] (by decide) (Nat.le_of_ble_eq_true rfl) rfl (fun d hd h0 h hH hA => ?_)
  have hfE : eqx [19, 20, 21] f f := eqx.rf
  have hgE : eqx [] g g := eqx.rf
  refine z_ald_0 (TX8_readPart_0.at 0 rfl) ?_
  refine zm_callI0 (m_fine rfl) (TX8_readPart_0.at 1 rfl) c8_173 rfl rfl hH hA (by omega) (Nat.le_of_ble_eq_true rfl) (fun x1 f1 g1 j1 h r1 q1 hH hA => ?_)
  obtain ⟨q1, xf, xg, xj⟩ := q1
  rw [xj] at hH
  have ef8 := (xf 8 (by decide)).trans ef8
  have ef9 := (xf 9 (by decide)).trans ef9
  have ef10 := (xf 10 (by decide)).trans ef10
  have hfE := hfE.trans xf (by decide)
  have eg15 := (xg 15 (by decide)).trans eg15
  have eg16 := (xg 16 (by decide)).trans eg16
  have eg17 := (xg 17 (by decide)).trans eg17
  have hgE := hgE.trans xg (by decide)
  have qL := q1
  obtain rfl := qL
  have hS0 := hSt
  have hSt := St_tr hSt xf
  refine z_if_neB (tgt := 8) (TX8_readPart_0.at 2 rfl) rfl (fun c1 => absurd c1 (fun z => hS0.2 (hS0.1.symm.trans z))) (fun c1 => ?_)
  refine zm_vret (TX8_readPart_0.at 3 rfl) rfl hH hA ?_
  exact ⟨hSt, hfE, hgE, rfl⟩

theorem bt_pl {N : Int} {c v pl X15 X16 X17 : Int → Int} (hR : RdH N c v pl X15 X16 X17) {t p : Nat} (hO : SOK N (.ok (t, p))) : (0 : Int) ≤ t ∧ (t : Int) ≤ N ∧ N ≤ 400 ∧ X15 t = c t ∧ X16 t = v t ∧ X17 t = pl t ∧ 0 ≤ pl t ∧ p ≤ 50 := by
  have h1 : (t : Int) ≤ N := hO.1
  have h2 := hR.2.1 t (by omega) h1
  exact ⟨by omega, h1, hR.1.2, h2.1, h2.2.1, h2.2.2.1, h2.2.2.2, hO.2⟩
theorem ok_nx {N : Int} {c v pl X15 X16 X17 : Int → Int} (hR : RdH N c v pl X15 X16 X17) {t p : Nat} (hO : SOK N (.ok (t, p))) (hc : c t ≠ 0) {q : Nat} (hq : q ≤ 50) : SOK N (.ok (t + 1, q)) := by
  have h1 : (t : Int) ≤ N := hO.1
  refine ⟨?_, hq⟩
  rcases (show (t : Int) < N ∨ (t : Int) = N by omega) with z | z
  · show ((t + 1 : Nat) : Int) ≤ N
    omega
  · exact absurd (hR.2.2 t (by omega)) hc
/-- behind a leaf -/
def lfR2 (pl : Int → Int) (t p : Nat) : RS := if p = 50 then .error (pl t) else .ok (t + 1, p + 1)
theorem sv_leaf {N : Int} {c v pl X15 X16 X17 : Int → Int} {f f' : mF} {t p : Nat} (hR : RdH N c v pl X15 X16 X17) (h : St f (.ok (t, p))) (hO : SOK N (.ok (t, p))) (q : f' 20 = f 20 + 1 ∧ f' 21 = (if f 21 = -1 ∧ f 20 = 50 then X17 (f 19) else f 21) ∧ f' 19 = (if f 21 = -1 ∧ ¬ f 20 = 50 then f 19 + 1 else f 19)) : St f' (lfR2 pl t p) := by
  obtain ⟨h19, h20, h21⟩ := h
  obtain ⟨-, -, -, -, -, e17, e0, hp⟩ := bt_pl hR hO
  rw [h19, h20, h21, e17] at q
  obtain ⟨q1, q2, q3⟩ := q
  unfold lfR2
  by_cases e : p = 50
  · rw [if_pos e]
    rw [if_pos ⟨rfl, by omega⟩] at q2
    exact ⟨q2, by omega⟩
  · rw [if_neg e]
    rw [if_neg (fun z => e (by omega))] at q2
    rw [if_pos ⟨rfl, by omega⟩] at q3
    exact ⟨q3, q1, q2⟩
theorem ok_leaf {N : Int} {c v pl X15 X16 X17 : Int → Int} (hR : RdH N c v pl X15 X16 X17) {t p : Nat} (hO : SOK N (.ok (t, p))) (hc : c t ≠ 0) : SOK N (lfR2 pl t p) := by
  have hp : p ≤ 50 := hO.2
  unfold lfR2
  split
  · exact trivial
  · exact ok_nx hR hO hc (by omega)
theorem part_br {lw : Bool} {c v pl : Int → Int} {G : Nat → Nat → PR} {t p : Nat} (h : c t = 191) : msS c pl (bdR pl (.ok (t + 1, p)) G) 193 = cvR pl (pPart lw c v (some G) t p) := by
  unfold pPart
  rw [if_pos h]
  show msS c pl (cvR pl (G (t + 1) p)) 193 = _
  simp only
  cases hg : G (t + 1) p with
  | error e => rfl
  | ok r =>
    obtain ⟨t', p', k⟩ := r
    show (if c t' = 193 then Except.ok (t' + 1, p') else Except.error (pl t')) = _
    simp only
    split <;> rfl
theorem part_b0 {lw : Bool} {c v pl : Int → Int} {t p : Nat} (h : c t = 191) : (.error (pl t) : RS) = cvR pl (pPart lw c v none t p) := by
  unfold pPart
  rw [if_pos h]
  rfl
theorem part_no {lw : Bool} {c v pl : Int → Int} {inner : Option (Nat → Nat → PR)} {t p : Nat} (h : ¬ c t = 191) (h2 : ¬ ((c t = 50 ∧ v t ≤ 1000) ∨ (wLo lw ≤ c t ∧ c t ≤ wHi lw))) : (.error (pl t) : RS) = cvR pl (pPart lw c v inner t p) := by
  unfold pPart
  rw [if_neg h, if_neg h2]
  rfl
theorem part_pl {lw : Bool} {c v pl : Int → Int} {inner : Option (Nat → Nat → PR)} {t p : Nat} (h : ¬ c t = 191) (h2 : (c t = 50 ∧ v t ≤ 1000) ∨ (wLo lw ≤ c t ∧ c t ≤ wHi lw)) (h3 : ¬ (lw = false ∧ c t = 15)) (h4 : ¬ (lw = false ∧ c t = 21)) : lfR2 pl t p = cvR pl (pPart lw c v inner t p) := by
  unfold pPart lfR2
  rw [if_neg h, if_pos h2]
  by_cases e : p = 50
  · rw [if_pos e, if_pos e]; rfl
  · rw [if_neg e, if_neg e, if_neg h3, if_neg h4]; rfl
theorem part_15 {c v pl : Int → Int} {inner : Option (Nat → Nat → PR)} {t p : Nat} (h3 : c t = 15) : mnS c v pl (lfR2 pl t p) 0 9 = cvR pl (pPart false c v inner t p) := by
  unfold pPart lfR2
  rw [if_neg (show ¬ c t = 191 by rw [h3]; decide), if_pos (show (c t = 50 ∧ v t ≤ 1000) ∨ (wLo false ≤ c t ∧ c t ≤ wHi false) from Or.inr (by rw [h3]; decide))]
  by_cases e : p = 50
  · rw [if_pos e, if_pos e]; rfl
  · rw [if_neg e, if_neg e, if_pos (show false = false ∧ c t = 15 from ⟨rfl, h3⟩)]
    show (if c ((t + 1 : Nat) : Int) = 50 ∧ 0 ≤ v ((t + 1 : Nat) : Int) ∧ v ((t + 1 : Nat) : Int) ≤ 9 then Except.ok (t + 1 + 1, p + 1) else Except.error (pl ((t + 1 : Nat) : Int))) = _
    rw [show ((t + 1 : Nat) : Int) = (t : Int) + 1 by omega]
    by_cases z : c ((t : Int) + 1) = 50 ∧ 0 ≤ v ((t : Int) + 1) ∧ v ((t : Int) + 1) ≤ 9
    · rw [if_pos z, if_pos z]; rfl
    · rw [if_neg z, if_neg z]; show _ = Except.error (pl ((t + 1 : Nat) : Int)); rw [show ((t + 1 : Nat) : Int) = (t : Int) + 1 by omega]
theorem part_21 {c v pl : Int → Int} {inner : Option (Nat → Nat → PR)} {t p : Nat} (h3 : c t = 21) : mnS c v pl (lfR2 pl t p) 0 7 = cvR pl (pPart false c v inner t p) := by
  unfold pPart lfR2
  rw [if_neg (show ¬ c t = 191 by rw [h3]; decide), if_pos (show (c t = 50 ∧ v t ≤ 1000) ∨ (wLo false ≤ c t ∧ c t ≤ wHi false) from Or.inr (by rw [h3]; decide))]
  by_cases e : p = 50
  · rw [if_pos e, if_pos e]; rfl
  · rw [if_neg e, if_neg e, if_neg (fun z : false = false ∧ c t = 15 => absurd (h3.symm.trans z.2) (by decide)), if_pos (show false = false ∧ c t = 21 from ⟨rfl, h3⟩)]
    show (if c ((t + 1 : Nat) : Int) = 50 ∧ 0 ≤ v ((t + 1 : Nat) : Int) ∧ v ((t + 1 : Nat) : Int) ≤ 7 then Except.ok (t + 1 + 1, p + 1) else Except.error (pl ((t + 1 : Nat) : Int))) = _
    rw [show ((t + 1 : Nat) : Int) = (t : Int) + 1 by omega]
    by_cases z : c ((t : Int) + 1) = 50 ∧ 0 ≤ v ((t : Int) + 1) ∧ v ((t : Int) + 1) ≤ 7
    · rw [if_pos z, if_pos z]; rfl
    · rw [if_neg z, if_neg z]; show _ = Except.error (pl ((t + 1 : Nat) : Int)); rw [show ((t + 1 : Nat) : Int) = (t : Int) + 1 by omega]
def inL (lw : Bool) : Int := if lw then 0 else 1
set_option maxHeartbeats 4000000 in
set_option maxRecDepth 100000 in
theorem readPart_t1 {l : Launch} {o : Nat} {ar : Nat → Nat} {f : mF} {g j : mA} {N : Int} {c v pl X15 X16 X17 : Int → Int} {w8 w9 io : Int} (hR : RdH N c v pl X15 X16 X17) {dp : Int} {t p : Nat} {G : Nat → Nat → PR} {m : Nat} (hdp : 0 ≤ dp ∧ dp < 8) (hI : RdM l o ar MX8_readSum m [vI (dp + 1)] N pl X15 X16 X17 w8 w9 io G) (ha : Adv c G) (hp : Pk G) (e8 : w8 = 8) (e9 : w9 = 16) (e10 : io = 0) (eg15 : g 15 = X15) (eg16 : g 16 = X16) (eg17 : g 17 = X17) (ef8 : f 8 = w8) (ef9 : f 9 = w9) (ef10 : f 10 = io) (hSt : St f (.ok (t, p))) (hOK : SOK N (.ok (t, p))) : MM l o ar MX8_readPart (m + 4) [.ref o, vI dp] f g j (PV (fun f' g' j' => St f' (cvR pl (pPart true c v (some G) t p)) ∧ eqx [19, 20, 21] f f' ∧ eqx [] g g' ∧ j' = j)) := by
  refine MM.intro [some (.ref o), some (vI dp), none] (by decide) (Nat.le_of_ble_eq_true rfl) rfl (fun d hd h0 h hH hA => ?_)
  have hfE : eqx [19, 20, 21] f f := eqx.rf
  have hgE : eqx [] g g := eqx.rf
  obtain ⟨tt0, ttN, tt4, x15, x16, x17, x0, pp5⟩ := bt_pl hR hOK
  have ef19 : f 19 = (t : Int) := hSt.1
  have ef20 : f 20 = (p : Int) := hSt.2.1
  have ef21 : f 21 = -1 := hSt.2.2
  refine z_ald_0 (TX8_readPart_0.at 0 rfl) ?_
  refine zm_callI0 (m_fine ef21) (TX8_readPart_0.at 1 rfl) c8_173 rfl rfl hH hA (by omega) (Nat.le_of_ble_eq_true rfl) (fun x1 f1 g1 j1 h r1 q1 hH hA => ?_)
  obtain ⟨q1, xf, xg, xj⟩ := q1
  rw [xj] at hH
  have ef8 := (xf 8 (by decide)).trans ef8
  have ef9 := (xf 9 (by decide)).trans ef9
  have ef10 := (xf 10 (by decide)).trans ef10
  have ef19 := (xf 19 (by decide)).trans ef19
  have ef20 := (xf 20 (by decide)).trans ef20
  have ef21 := (xf 21 (by decide)).trans ef21
  have hfE := hfE.trans xf (by decide)
  have eg15 := (xg 15 (by decide)).trans eg15
  have eg16 := (xg 16 (by decide)).trans eg16
  have eg17 := (xg 17 (by decide)).trans eg17
  have hgE := hgE.trans xg (by decide)
  have qL := q1
  obtain rfl := qL
  have hSt := St_tr hSt xf
  refine z_if_neB (tgt := 8) (TX8_readPart_0.at 2 rfl) rfl (fun c1 => ?_) (fun c1 => absurd c1 (by omega))
  refine z_ald_0 (TX8_readPart_0.at 4 rfl) ?_
  refine zm_getA (TX8_readPart_0.at 5 rfl) fl8_54 hH (by decide) (by decide) ?_
  refine z_ald_0 (TX8_readPart_0.at 6 rfl) ?_
  refine zm_getIE ef19 (TX8_readPart_0.at 7 rfl) fl8_177 hH rfl (by decide) (fun r13 => ?_)
  refine zm_ialdE eg15 (TX8_readPart_0.at 8 rfl) hH rfl (by omega) (show _ < ((401 : Nat) : Int) by omega) (fun r16 => ?_)
  refine z_ist_2 (TX8_readPart_0.at 9 rfl) (Nat.le_of_ble_eq_true rfl) rfl ?_
  rw [x15] at r16 ⊢
  refine z_ild_2 (TX8_readPart_0.at 10 rfl) ?_
  refine z_bipush (by decide) (TX8_readPart_0.at 11 rfl) ?_
  refine zs_call1 (s_sign (by omega)) (TX8_readPart_0.at 12 rfl) c8_219 rfl (by omega) (Nat.le_of_ble_eq_true rfl) (fun r21 => ?_)
  simp only [Int.reduceAdd] at r21 ⊢
  refine z_icmp_ne (tgt := 74) (TX8_readPart_0.at 13 rfl) rfl (by omega) (by omega) (fun c2 => ?_) (fun c2 => ?_)
  · skip
    refine z_ild_2 (TX8_readPart_0.at 39 rfl) ?_
    refine z_bipush (by decide) (TX8_readPart_1.at 0 rfl) ?_
    refine z_icmp_ne (tgt := 95) (TX8_readPart_1.at 1 rfl) rfl (by omega) (by omega) (fun c3 => ?_) (fun c3 => ?_)
    · skip
      refine z_ild_2 (TX8_readPart_1.at 9 rfl) ?_
      refine z_ald_0 (TX8_readPart_1.at 10 rfl) ?_
      refine zm_getIE ef8 (TX8_readPart_1.at 11 rfl) fl8_229 hH rfl (by decide) (fun r97 => ?_)
      refine z_icmp_lt (tgt := 158) (TX8_readPart_1.at 12 rfl) rfl (by omega) (by omega) (fun c4 => ?_) (fun c4 => ?_)
      · skip
        refine z_ald_0 (TX8_readPart_2.at 0 rfl) ?_
        refine zm_callV0 (m_faults eg17 ef19 ef21 (by omega)) (TX8_readPart_2.at 1 rfl) c8_183 rfl rfl hH hA (by omega) (Nat.le_of_ble_eq_true rfl) (fun f159 g159 j159 h q159 hH hA => ?_)
        obtain ⟨q159, xf, xg, xj⟩ := q159
        rw [xj] at hH
        have ef8 := (xf 8 (by decide)).trans ef8
        have ef9 := (xf 9 (by decide)).trans ef9
        have ef10 := (xf 10 (by decide)).trans ef10
        have ef19 := (xf 19 (by decide)).trans ef19
        have ef20 := (xf 20 (by decide)).trans ef20
        have hfE := hfE.trans xf (by decide)
        have eg15 := (xg 15 (by decide)).trans eg15
        have eg16 := (xg 16 (by decide)).trans eg16
        have eg17 := (xg 17 (by decide)).trans eg17
        have hgE := hgE.trans xg (by decide)
        have qL := q159
        have hSt : St f159 (.error (pl t)) := ⟨by rw [qL, if_pos rfl, x17], by omega⟩
        have ef21 := hSt.1
        refine zm_vret (TX8_readPart_2.at 2 rfl) rfl hH hA ?_
        first | (exfalso; omega) | exact ⟨part_br (lw := true) (v := v) (by omega) ▸ hSt, hfE, hgE, rfl⟩ | exact ⟨part_no (lw := true) (v := v) (inner := (some G)) (by omega) (by unfold wLo wHi; simp only [reduceIte, Bool.false_eq_true]; omega) ▸ hSt, hfE, hgE, rfl⟩ | exact ⟨part_pl (lw := true) (v := v) (inner := (some G)) (by omega) (by unfold wLo wHi; simp only [reduceIte, Bool.false_eq_true]; omega) (fun z => by first | (cases z.1; done) | omega) (fun z => by first | (cases z.1; done) | omega) ▸ hSt, hfE, hgE, rfl⟩
      · skip
        refine z_ild_2 (TX8_readPart_1.at 13 rfl) ?_
        refine z_ald_0 (TX8_readPart_1.at 14 rfl) ?_
        refine zm_getIE ef9 (TX8_readPart_1.at 15 rfl) fl8_232 hH rfl (by decide) (fun r105 => ?_)
        refine z_icmp_gt (tgt := 158) (TX8_readPart_1.at 16 rfl) rfl (by omega) (by omega) (fun c5 => ?_) (fun c5 => ?_)
        · skip
          refine z_ald_0 (TX8_readPart_2.at 0 rfl) ?_
          refine zm_callV0 (m_faults eg17 ef19 ef21 (by omega)) (TX8_readPart_2.at 1 rfl) c8_183 rfl rfl hH hA (by omega) (Nat.le_of_ble_eq_true rfl) (fun f159 g159 j159 h q159 hH hA => ?_)
          obtain ⟨q159, xf, xg, xj⟩ := q159
          rw [xj] at hH
          have ef8 := (xf 8 (by decide)).trans ef8
          have ef9 := (xf 9 (by decide)).trans ef9
          have ef10 := (xf 10 (by decide)).trans ef10
          have ef19 := (xf 19 (by decide)).trans ef19
          have ef20 := (xf 20 (by decide)).trans ef20
          have hfE := hfE.trans xf (by decide)
          have eg15 := (xg 15 (by decide)).trans eg15
          have eg16 := (xg 16 (by decide)).trans eg16
          have eg17 := (xg 17 (by decide)).trans eg17
          have hgE := hgE.trans xg (by decide)
          have qL := q159
          have hSt : St f159 (.error (pl t)) := ⟨by rw [qL, if_pos rfl, x17], by omega⟩
          have ef21 := hSt.1
          refine zm_vret (TX8_readPart_2.at 2 rfl) rfl hH hA ?_
          first | (exfalso; omega) | exact ⟨part_br (lw := true) (v := v) (by omega) ▸ hSt, hfE, hgE, rfl⟩ | exact ⟨part_no (lw := true) (v := v) (inner := (some G)) (by omega) (by unfold wLo wHi; simp only [reduceIte, Bool.false_eq_true]; omega) ▸ hSt, hfE, hgE, rfl⟩ | exact ⟨part_pl (lw := true) (v := v) (inner := (some G)) (by omega) (by unfold wLo wHi; simp only [reduceIte, Bool.false_eq_true]; omega) (fun z => by first | (cases z.1; done) | omega) (fun z => by first | (cases z.1; done) | omega) ▸ hSt, hfE, hgE, rfl⟩
        · skip
          refine z_ald_0 (TX8_readPart_1.at 17 rfl) ?_
          refine zm_callV0 (m_leaf eg17 ef19 ef20 ef21 (by omega) (by omega) (by omega)) (TX8_readPart_1.at 18 rfl) c8_235 rfl rfl hH hA (by omega) (Nat.le_of_ble_eq_true rfl) (fun f112 g112 j112 h q112 hH hA => ?_)
          obtain ⟨q112, xf, xg, xj⟩ := q112
          rw [xj] at hH
          have ef8 := (xf 8 (by decide)).trans ef8
          have ef9 := (xf 9 (by decide)).trans ef9
          have ef10 := (xf 10 (by decide)).trans ef10
          have hfE := hfE.trans xf (by decide)
          have eg15 := (xg 15 (by decide)).trans eg15
          have eg16 := (xg 16 (by decide)).trans eg16
          have eg17 := (xg 17 (by decide)).trans eg17
          have hgE := hgE.trans xg (by decide)
          have qL := q112
          have hSt := sv_leaf hR hSt hOK (by rw [hSt.1, hSt.2.1, hSt.2.2]; exact qL)
          have hOK := ok_leaf (v := v) (pl := pl) hR hOK (show c t ≠ 0 by omega)
          refine z_ald_0 (TX8_readPart_1.at 19 rfl) ?_
          refine zm_getIE ef10 (TX8_readPart_1.at 20 rfl) fl8_203 hH rfl (by decide) (fun r116 => ?_)
          refine z_if_eq (tgt := 135) (TX8_readPart_1.at 21 rfl) rfl (by omega) (fun c6 => ?_) (fun c6 => absurd c6 (by omega))
          refine z_ald_0 (TX8_readPart_1.at 29 rfl) ?_
          refine zm_getIE ef10 (TX8_readPart_1.at 30 rfl) fl8_203 hH rfl (by decide) (fun r136 => ?_)
          refine z_if_eq (tgt := 162) (TX8_readPart_1.at 31 rfl) rfl (by omega) (fun c7 => ?_) (fun c7 => absurd c7 (by omega))
          refine zm_vret (TX8_readPart_2.at 2 rfl) rfl hH hA ?_
          first | (exfalso; omega) | exact ⟨part_br (lw := true) (v := v) (by omega) ▸ hSt, hfE, hgE, rfl⟩ | exact ⟨part_no (lw := true) (v := v) (inner := (some G)) (by omega) (by unfold wLo wHi; simp only [reduceIte, Bool.false_eq_true]; omega) ▸ hSt, hfE, hgE, rfl⟩ | exact ⟨part_pl (lw := true) (v := v) (inner := (some G)) (by omega) (by unfold wLo wHi; simp only [reduceIte, Bool.false_eq_true]; omega) (fun z => by first | (cases z.1; done) | omega) (fun z => by first | (cases z.1; done) | omega) ▸ hSt, hfE, hgE, rfl⟩
    · skip
      refine z_ald_0 (TX8_readPart_1.at 2 rfl) ?_
      refine zm_getA (TX8_readPart_1.at 3 rfl) fl8_57 hH (by decide) (by decide) ?_
      refine z_ald_0 (TX8_readPart_1.at 4 rfl) ?_
      refine zm_getIE ef19 (TX8_readPart_1.at 5 rfl) fl8_177 hH rfl (by decide) (fun r85 => ?_)
      refine zm_ialdE eg16 (TX8_readPart_1.at 6 rfl) hH rfl (by omega) (show _ < ((401 : Nat) : Int) by omega) (fun r88 => ?_)
      rw [x16] at r88 ⊢
      refine z_sipush (by decide) (TX8_readPart_1.at 7 rfl) ?_
      refine z_icmp_le (tgt := 111) (TX8_readPart_1.at 8 rfl) rfl (by omega) (by omega) (fun c8 => ?_) (fun c8 => ?_)
      · skip
        refine z_ald_0 (TX8_readPart_1.at 17 rfl) ?_
        refine zm_callV0 (m_leaf eg17 ef19 ef20 ef21 (by omega) (by omega) (by omega)) (TX8_readPart_1.at 18 rfl) c8_235 rfl rfl hH hA (by omega) (Nat.le_of_ble_eq_true rfl) (fun f112 g112 j112 h q112 hH hA => ?_)
        obtain ⟨q112, xf, xg, xj⟩ := q112
        rw [xj] at hH
        have ef8 := (xf 8 (by decide)).trans ef8
        have ef9 := (xf 9 (by decide)).trans ef9
        have ef10 := (xf 10 (by decide)).trans ef10
        have hfE := hfE.trans xf (by decide)
        have eg15 := (xg 15 (by decide)).trans eg15
        have eg16 := (xg 16 (by decide)).trans eg16
        have eg17 := (xg 17 (by decide)).trans eg17
        have hgE := hgE.trans xg (by decide)
        have qL := q112
        have hSt := sv_leaf hR hSt hOK (by rw [hSt.1, hSt.2.1, hSt.2.2]; exact qL)
        have hOK := ok_leaf (v := v) (pl := pl) hR hOK (show c t ≠ 0 by omega)
        refine z_ald_0 (TX8_readPart_1.at 19 rfl) ?_
        refine zm_getIE ef10 (TX8_readPart_1.at 20 rfl) fl8_203 hH rfl (by decide) (fun r116 => ?_)
        refine z_if_eq (tgt := 135) (TX8_readPart_1.at 21 rfl) rfl (by omega) (fun c9 => ?_) (fun c9 => absurd c9 (by omega))
        refine z_ald_0 (TX8_readPart_1.at 29 rfl) ?_
        refine zm_getIE ef10 (TX8_readPart_1.at 30 rfl) fl8_203 hH rfl (by decide) (fun r136 => ?_)
        refine z_if_eq (tgt := 162) (TX8_readPart_1.at 31 rfl) rfl (by omega) (fun c10 => ?_) (fun c10 => absurd c10 (by omega))
        refine zm_vret (TX8_readPart_2.at 2 rfl) rfl hH hA ?_
        first | (exfalso; omega) | exact ⟨part_br (lw := true) (v := v) (by omega) ▸ hSt, hfE, hgE, rfl⟩ | exact ⟨part_no (lw := true) (v := v) (inner := (some G)) (by omega) (by unfold wLo wHi; simp only [reduceIte, Bool.false_eq_true]; omega) ▸ hSt, hfE, hgE, rfl⟩ | exact ⟨part_pl (lw := true) (v := v) (inner := (some G)) (by omega) (by unfold wLo wHi; simp only [reduceIte, Bool.false_eq_true]; omega) (fun z => by first | (cases z.1; done) | omega) (fun z => by first | (cases z.1; done) | omega) ▸ hSt, hfE, hgE, rfl⟩
      · skip
        refine z_ild_2 (TX8_readPart_1.at 9 rfl) ?_
        refine z_ald_0 (TX8_readPart_1.at 10 rfl) ?_
        refine zm_getIE ef8 (TX8_readPart_1.at 11 rfl) fl8_229 hH rfl (by decide) (fun r97 => ?_)
        refine z_icmp_lt (tgt := 158) (TX8_readPart_1.at 12 rfl) rfl (by omega) (by omega) (fun c11 => ?_) (fun c11 => ?_)
        · skip
          refine z_ald_0 (TX8_readPart_2.at 0 rfl) ?_
          refine zm_callV0 (m_faults eg17 ef19 ef21 (by omega)) (TX8_readPart_2.at 1 rfl) c8_183 rfl rfl hH hA (by omega) (Nat.le_of_ble_eq_true rfl) (fun f159 g159 j159 h q159 hH hA => ?_)
          obtain ⟨q159, xf, xg, xj⟩ := q159
          rw [xj] at hH
          have ef8 := (xf 8 (by decide)).trans ef8
          have ef9 := (xf 9 (by decide)).trans ef9
          have ef10 := (xf 10 (by decide)).trans ef10
          have ef19 := (xf 19 (by decide)).trans ef19
          have ef20 := (xf 20 (by decide)).trans ef20
          have hfE := hfE.trans xf (by decide)
          have eg15 := (xg 15 (by decide)).trans eg15
          have eg16 := (xg 16 (by decide)).trans eg16
          have eg17 := (xg 17 (by decide)).trans eg17
          have hgE := hgE.trans xg (by decide)
          have qL := q159
          have hSt : St f159 (.error (pl t)) := ⟨by rw [qL, if_pos rfl, x17], by omega⟩
          have ef21 := hSt.1
          refine zm_vret (TX8_readPart_2.at 2 rfl) rfl hH hA ?_
          first | (exfalso; omega) | exact ⟨part_br (lw := true) (v := v) (by omega) ▸ hSt, hfE, hgE, rfl⟩ | exact ⟨part_no (lw := true) (v := v) (inner := (some G)) (by omega) (by unfold wLo wHi; simp only [reduceIte, Bool.false_eq_true]; omega) ▸ hSt, hfE, hgE, rfl⟩ | exact ⟨part_pl (lw := true) (v := v) (inner := (some G)) (by omega) (by unfold wLo wHi; simp only [reduceIte, Bool.false_eq_true]; omega) (fun z => by first | (cases z.1; done) | omega) (fun z => by first | (cases z.1; done) | omega) ▸ hSt, hfE, hgE, rfl⟩
        · skip
          refine z_ild_2 (TX8_readPart_1.at 13 rfl) ?_
          refine z_ald_0 (TX8_readPart_1.at 14 rfl) ?_
          refine zm_getIE ef9 (TX8_readPart_1.at 15 rfl) fl8_232 hH rfl (by decide) (fun r105 => ?_)
          refine z_icmp_gt (tgt := 158) (TX8_readPart_1.at 16 rfl) rfl (by omega) (by omega) (fun c12 => ?_) (fun c12 => ?_)
          · skip
            refine z_ald_0 (TX8_readPart_2.at 0 rfl) ?_
            refine zm_callV0 (m_faults eg17 ef19 ef21 (by omega)) (TX8_readPart_2.at 1 rfl) c8_183 rfl rfl hH hA (by omega) (Nat.le_of_ble_eq_true rfl) (fun f159 g159 j159 h q159 hH hA => ?_)
            obtain ⟨q159, xf, xg, xj⟩ := q159
            rw [xj] at hH
            have ef8 := (xf 8 (by decide)).trans ef8
            have ef9 := (xf 9 (by decide)).trans ef9
            have ef10 := (xf 10 (by decide)).trans ef10
            have ef19 := (xf 19 (by decide)).trans ef19
            have ef20 := (xf 20 (by decide)).trans ef20
            have hfE := hfE.trans xf (by decide)
            have eg15 := (xg 15 (by decide)).trans eg15
            have eg16 := (xg 16 (by decide)).trans eg16
            have eg17 := (xg 17 (by decide)).trans eg17
            have hgE := hgE.trans xg (by decide)
            have qL := q159
            have hSt : St f159 (.error (pl t)) := ⟨by rw [qL, if_pos rfl, x17], by omega⟩
            have ef21 := hSt.1
            refine zm_vret (TX8_readPart_2.at 2 rfl) rfl hH hA ?_
            first | (exfalso; omega) | exact ⟨part_br (lw := true) (v := v) (by omega) ▸ hSt, hfE, hgE, rfl⟩ | exact ⟨part_no (lw := true) (v := v) (inner := (some G)) (by omega) (by unfold wLo wHi; simp only [reduceIte, Bool.false_eq_true]; omega) ▸ hSt, hfE, hgE, rfl⟩ | exact ⟨part_pl (lw := true) (v := v) (inner := (some G)) (by omega) (by unfold wLo wHi; simp only [reduceIte, Bool.false_eq_true]; omega) (fun z => by first | (cases z.1; done) | omega) (fun z => by first | (cases z.1; done) | omega) ▸ hSt, hfE, hgE, rfl⟩
          · skip
            refine z_ald_0 (TX8_readPart_1.at 17 rfl) ?_
            refine zm_callV0 (m_leaf eg17 ef19 ef20 ef21 (by omega) (by omega) (by omega)) (TX8_readPart_1.at 18 rfl) c8_235 rfl rfl hH hA (by omega) (Nat.le_of_ble_eq_true rfl) (fun f112 g112 j112 h q112 hH hA => ?_)
            obtain ⟨q112, xf, xg, xj⟩ := q112
            rw [xj] at hH
            have ef8 := (xf 8 (by decide)).trans ef8
            have ef9 := (xf 9 (by decide)).trans ef9
            have ef10 := (xf 10 (by decide)).trans ef10
            have hfE := hfE.trans xf (by decide)
            have eg15 := (xg 15 (by decide)).trans eg15
            have eg16 := (xg 16 (by decide)).trans eg16
            have eg17 := (xg 17 (by decide)).trans eg17
            have hgE := hgE.trans xg (by decide)
            have qL := q112
            have hSt := sv_leaf hR hSt hOK (by rw [hSt.1, hSt.2.1, hSt.2.2]; exact qL)
            have hOK := ok_leaf (v := v) (pl := pl) hR hOK (show c t ≠ 0 by omega)
            refine z_ald_0 (TX8_readPart_1.at 19 rfl) ?_
            refine zm_getIE ef10 (TX8_readPart_1.at 20 rfl) fl8_203 hH rfl (by decide) (fun r116 => ?_)
            refine z_if_eq (tgt := 135) (TX8_readPart_1.at 21 rfl) rfl (by omega) (fun c13 => ?_) (fun c13 => absurd c13 (by omega))
            refine z_ald_0 (TX8_readPart_1.at 29 rfl) ?_
            refine zm_getIE ef10 (TX8_readPart_1.at 30 rfl) fl8_203 hH rfl (by decide) (fun r136 => ?_)
            refine z_if_eq (tgt := 162) (TX8_readPart_1.at 31 rfl) rfl (by omega) (fun c14 => ?_) (fun c14 => absurd c14 (by omega))
            refine zm_vret (TX8_readPart_2.at 2 rfl) rfl hH hA ?_
            first | (exfalso; omega) | exact ⟨part_br (lw := true) (v := v) (by omega) ▸ hSt, hfE, hgE, rfl⟩ | exact ⟨part_no (lw := true) (v := v) (inner := (some G)) (by omega) (by unfold wLo wHi; simp only [reduceIte, Bool.false_eq_true]; omega) ▸ hSt, hfE, hgE, rfl⟩ | exact ⟨part_pl (lw := true) (v := v) (inner := (some G)) (by omega) (by unfold wLo wHi; simp only [reduceIte, Bool.false_eq_true]; omega) (fun z => by first | (cases z.1; done) | omega) (fun z => by first | (cases z.1; done) | omega) ▸ hSt, hfE, hgE, rfl⟩
  · skip
    refine z_ild_1 (TX8_readPart_0.at 14 rfl) ?_
    refine z_bipush (by decide) (TX8_readPart_0.at 15 rfl) ?_
    refine z_icmp_ne (tgt := 37) (TX8_readPart_0.at 16 rfl) rfl (by omega) (by omega) (fun c15 => ?_) (fun c15 => absurd c15 (by omega))
    refine z_ald_0 (TX8_readPart_0.at 19 rfl) ?_
    refine zm_callI0 (m_fine ef21) (TX8_readPart_0.at 20 rfl) c8_173 rfl rfl hH hA (by omega) (Nat.le_of_ble_eq_true rfl) (fun x38 f38 g38 j38 h r38 q38 hH hA => ?_)
    obtain ⟨q38, xf, xg, xj⟩ := q38
    rw [xj] at hH
    have ef8 := (xf 8 (by decide)).trans ef8
    have ef9 := (xf 9 (by decide)).trans ef9
    have ef10 := (xf 10 (by decide)).trans ef10
    have ef19 := (xf 19 (by decide)).trans ef19
    have ef20 := (xf 20 (by decide)).trans ef20
    have ef21 := (xf 21 (by decide)).trans ef21
    have hfE := hfE.trans xf (by decide)
    have eg15 := (xg 15 (by decide)).trans eg15
    have eg16 := (xg 16 (by decide)).trans eg16
    have eg17 := (xg 17 (by decide)).trans eg17
    have hgE := hgE.trans xg (by decide)
    have qL := q38
    obtain rfl := qL
    have hSt := St_tr hSt xf
    refine z_if_neB (tgt := 45) (TX8_readPart_0.at 21 rfl) rfl (fun c16 => ?_) (fun c16 => absurd c16 (by omega))
    refine z_ald_0 (TX8_readPart_0.at 23 rfl) ?_
    refine z_dup rfl (TX8_readPart_0.at 24 rfl) ?_
    refine zm_getIE ef19 (TX8_readPart_0.at 25 rfl) fl8_177 hH rfl (by decide) (fun r47 => ?_)
    refine z_iconst (TX8_readPart_0.at 26 rfl) ?_
    refine z_iadd (TX8_readPart_0.at 27 rfl) ?_
    refine zm_putIE (TX8_readPart_0.at 28 rfl) fp8_177 hH hA rfl (by decide) (by first | omega | exact b2i_01 _) (fun h f52 e1 e2 hH hA => ?_)
    have ef8 := (e1 8 (by decide)).trans ef8
    have ef9 := (e1 9 (by decide)).trans ef9
    have ef10 := (e1 10 (by decide)).trans ef10
    have ef19 := e2
    have ef20 := (e1 20 (by decide)).trans ef20
    have ef21 := (e1 21 (by decide)).trans ef21
    have hfE := hfE.put e1 (by decide)
    have hSt : St f52 (.ok (t + 1, p)) := ⟨ef19, ef20, ef21⟩
    have hOK := ok_nx hR hOK (show c t ≠ 0 by omega) pp5
    refine z_ald_0 (TX8_readPart_0.at 29 rfl) ?_
    refine z_ild_1 (TX8_readPart_0.at 30 rfl) ?_
    refine z_iconst (TX8_readPart_0.at 31 rfl) ?_
    refine z_iadd (TX8_readPart_0.at 32 rfl) ?_
    refine zm_callV1 (hI _ _ _ _ eg15 eg16 eg17 ef8 ef9 ef10 hSt hOK) (TX8_readPart_0.at 33 rfl) c8_189 rfl rfl hH hA (by omega) (Nat.le_of_ble_eq_true rfl) (fun f59 g59 j59 h q59 hH hA => ?_)
    obtain ⟨q59, xf, xg, xj⟩ := q59
    rw [xj] at hH
    have ef8 := (xf 8 (by decide)).trans ef8
    have ef9 := (xf 9 (by decide)).trans ef9
    have ef10 := (xf 10 (by decide)).trans ef10
    have hfE := hfE.trans xf (by decide)
    have eg15 := (xg 15 (by decide)).trans eg15
    have eg16 := (xg 16 (by decide)).trans eg16
    have eg17 := (xg 17 (by decide)).trans eg17
    have hgE := hgE.trans xg (by decide)
    have qL := q59
    have hSt := qL
    have hOK := ok_bd (pl := pl) hR.2.2 hOK ha hp
    refine z_ald_0 (TX8_readPart_0.at 34 rfl) ?_
    refine z_bipush (by decide) (TX8_readPart_0.at 35 rfl) ?_
    refine zs_call1 (s_sign (by omega)) (TX8_readPart_0.at 36 rfl) c8_219 rfl (by omega) (Nat.le_of_ble_eq_true rfl) (fun r65 => ?_)
    simp only [Int.reduceAdd] at r65 ⊢
    refine zm_callV1 (m_must eg15 eg17 rfl rfl (by omega) (st_b hSt hOK hR.1.2)) (TX8_readPart_0.at 37 rfl) c8_193 rfl rfl hH hA (by omega) (Nat.le_of_ble_eq_true rfl) (fun f68 g68 j68 h q68 hH hA => ?_)
    obtain ⟨q68, xf, xg, xj⟩ := q68
    rw [xj] at hH
    have ef8 := (xf 8 (by decide)).trans ef8
    have ef9 := (xf 9 (by decide)).trans ef9
    have ef10 := (xf 10 (by decide)).trans ef10
    have hfE := hfE.trans xf (by decide)
    have eg15 := (xg 15 (by decide)).trans eg15
    have eg16 := (xg 16 (by decide)).trans eg16
    have eg17 := (xg 17 (by decide)).trans eg17
    have hgE := hgE.trans xg (by decide)
    have qL := q68
    have hSt := sv_must hR hSt hOK qL xf
    have hOK := ok_ms (pl := pl) (x := 193) hR.2.2 hOK (by decide)
    refine z_goto (tgt := 162) (TX8_readPart_0.at 38 rfl) rfl ?_
    refine zm_vret (TX8_readPart_2.at 2 rfl) rfl hH hA ?_
    first | (exfalso; omega) | exact ⟨part_br (lw := true) (v := v) (by omega) ▸ hSt, hfE, hgE, rfl⟩ | exact ⟨part_no (lw := true) (v := v) (inner := (some G)) (by omega) (by unfold wLo wHi; simp only [reduceIte, Bool.false_eq_true]; omega) ▸ hSt, hfE, hgE, rfl⟩ | exact ⟨part_pl (lw := true) (v := v) (inner := (some G)) (by omega) (by unfold wLo wHi; simp only [reduceIte, Bool.false_eq_true]; omega) (fun z => by first | (cases z.1; done) | omega) (fun z => by first | (cases z.1; done) | omega) ▸ hSt, hfE, hgE, rfl⟩

set_option maxHeartbeats 4000000 in
set_option maxRecDepth 100000 in
theorem readPart_t0 {l : Launch} {o : Nat} {ar : Nat → Nat} {f : mF} {g j : mA} {N : Int} {c v pl X15 X16 X17 : Int → Int} {w8 w9 io : Int} (hR : RdH N c v pl X15 X16 X17) {dp : Int} {t p : Nat} (hdp : dp = 8) (e8 : w8 = 8) (e9 : w9 = 16) (e10 : io = 0) (eg15 : g 15 = X15) (eg16 : g 16 = X16) (eg17 : g 17 = X17) (ef8 : f 8 = w8) (ef9 : f 9 = w9) (ef10 : f 10 = io) (hSt : St f (.ok (t, p))) (hOK : SOK N (.ok (t, p))) : MM l o ar MX8_readPart 4 [.ref o, vI dp] f g j (PV (fun f' g' j' => St f' (cvR pl (pPart true c v none t p)) ∧ eqx [19, 20, 21] f f' ∧ eqx [] g g' ∧ j' = j)) := by
  refine MM.intro [some (.ref o), some (vI dp), none] (by decide) (Nat.le_of_ble_eq_true rfl) rfl (fun d hd h0 h hH hA => ?_)
  have hfE : eqx [19, 20, 21] f f := eqx.rf
  have hgE : eqx [] g g := eqx.rf
  obtain ⟨tt0, ttN, tt4, x15, x16, x17, x0, pp5⟩ := bt_pl hR hOK
  have ef19 : f 19 = (t : Int) := hSt.1
  have ef20 : f 20 = (p : Int) := hSt.2.1
  have ef21 : f 21 = -1 := hSt.2.2
  refine z_ald_0 (TX8_readPart_0.at 0 rfl) ?_
  refine zm_callI0 (m_fine ef21) (TX8_readPart_0.at 1 rfl) c8_173 rfl rfl hH hA (by omega) (Nat.le_of_ble_eq_true rfl) (fun x1 f1 g1 j1 h r1 q1 hH hA => ?_)
  obtain ⟨q1, xf, xg, xj⟩ := q1
  rw [xj] at hH
  have ef8 := (xf 8 (by decide)).trans ef8
  have ef9 := (xf 9 (by decide)).trans ef9
  have ef10 := (xf 10 (by decide)).trans ef10
  have ef19 := (xf 19 (by decide)).trans ef19
  have ef20 := (xf 20 (by decide)).trans ef20
  have ef21 := (xf 21 (by decide)).trans ef21
  have hfE := hfE.trans xf (by decide)
  have eg15 := (xg 15 (by decide)).trans eg15
  have eg16 := (xg 16 (by decide)).trans eg16
  have eg17 := (xg 17 (by decide)).trans eg17
  have hgE := hgE.trans xg (by decide)
  have qL := q1
  obtain rfl := qL
  have hSt := St_tr hSt xf
  refine z_if_neB (tgt := 8) (TX8_readPart_0.at 2 rfl) rfl (fun c1 => ?_) (fun c1 => absurd c1 (by omega))
  refine z_ald_0 (TX8_readPart_0.at 4 rfl) ?_
  refine zm_getA (TX8_readPart_0.at 5 rfl) fl8_54 hH (by decide) (by decide) ?_
  refine z_ald_0 (TX8_readPart_0.at 6 rfl) ?_
  refine zm_getIE ef19 (TX8_readPart_0.at 7 rfl) fl8_177 hH rfl (by decide) (fun r13 => ?_)
  refine zm_ialdE eg15 (TX8_readPart_0.at 8 rfl) hH rfl (by omega) (show _ < ((401 : Nat) : Int) by omega) (fun r16 => ?_)
  refine z_ist_2 (TX8_readPart_0.at 9 rfl) (Nat.le_of_ble_eq_true rfl) rfl ?_
  rw [x15] at r16 ⊢
  refine z_ild_2 (TX8_readPart_0.at 10 rfl) ?_
  refine z_bipush (by decide) (TX8_readPart_0.at 11 rfl) ?_
  refine zs_call1 (s_sign (by omega)) (TX8_readPart_0.at 12 rfl) c8_219 rfl (by omega) (Nat.le_of_ble_eq_true rfl) (fun r21 => ?_)
  simp only [Int.reduceAdd] at r21 ⊢
  refine z_icmp_ne (tgt := 74) (TX8_readPart_0.at 13 rfl) rfl (by omega) (by omega) (fun c2 => ?_) (fun c2 => ?_)
  · skip
    refine z_ild_2 (TX8_readPart_0.at 39 rfl) ?_
    refine z_bipush (by decide) (TX8_readPart_1.at 0 rfl) ?_
    refine z_icmp_ne (tgt := 95) (TX8_readPart_1.at 1 rfl) rfl (by omega) (by omega) (fun c3 => ?_) (fun c3 => ?_)
    · skip
      refine z_ild_2 (TX8_readPart_1.at 9 rfl) ?_
      refine z_ald_0 (TX8_readPart_1.at 10 rfl) ?_
      refine zm_getIE ef8 (TX8_readPart_1.at 11 rfl) fl8_229 hH rfl (by decide) (fun r97 => ?_)
      refine z_icmp_lt (tgt := 158) (TX8_readPart_1.at 12 rfl) rfl (by omega) (by omega) (fun c4 => ?_) (fun c4 => ?_)
      · skip
        refine z_ald_0 (TX8_readPart_2.at 0 rfl) ?_
        refine zm_callV0 (m_faults eg17 ef19 ef21 (by omega)) (TX8_readPart_2.at 1 rfl) c8_183 rfl rfl hH hA (by omega) (Nat.le_of_ble_eq_true rfl) (fun f159 g159 j159 h q159 hH hA => ?_)
        obtain ⟨q159, xf, xg, xj⟩ := q159
        rw [xj] at hH
        have ef8 := (xf 8 (by decide)).trans ef8
        have ef9 := (xf 9 (by decide)).trans ef9
        have ef10 := (xf 10 (by decide)).trans ef10
        have ef19 := (xf 19 (by decide)).trans ef19
        have ef20 := (xf 20 (by decide)).trans ef20
        have hfE := hfE.trans xf (by decide)
        have eg15 := (xg 15 (by decide)).trans eg15
        have eg16 := (xg 16 (by decide)).trans eg16
        have eg17 := (xg 17 (by decide)).trans eg17
        have hgE := hgE.trans xg (by decide)
        have qL := q159
        have hSt : St f159 (.error (pl t)) := ⟨by rw [qL, if_pos rfl, x17], by omega⟩
        have ef21 := hSt.1
        refine zm_vret (TX8_readPart_2.at 2 rfl) rfl hH hA ?_
        first | (exfalso; omega) | exact ⟨part_no (lw := true) (v := v) (inner := none) (by omega) (by unfold wLo wHi; simp only [reduceIte, Bool.false_eq_true]; omega) ▸ hSt, hfE, hgE, rfl⟩ | exact ⟨part_pl (lw := true) (v := v) (inner := none) (by omega) (by unfold wLo wHi; simp only [reduceIte, Bool.false_eq_true]; omega) (fun z => by first | (cases z.1; done) | omega) (fun z => by first | (cases z.1; done) | omega) ▸ hSt, hfE, hgE, rfl⟩
      · skip
        refine z_ild_2 (TX8_readPart_1.at 13 rfl) ?_
        refine z_ald_0 (TX8_readPart_1.at 14 rfl) ?_
        refine zm_getIE ef9 (TX8_readPart_1.at 15 rfl) fl8_232 hH rfl (by decide) (fun r105 => ?_)
        refine z_icmp_gt (tgt := 158) (TX8_readPart_1.at 16 rfl) rfl (by omega) (by omega) (fun c5 => ?_) (fun c5 => ?_)
        · skip
          refine z_ald_0 (TX8_readPart_2.at 0 rfl) ?_
          refine zm_callV0 (m_faults eg17 ef19 ef21 (by omega)) (TX8_readPart_2.at 1 rfl) c8_183 rfl rfl hH hA (by omega) (Nat.le_of_ble_eq_true rfl) (fun f159 g159 j159 h q159 hH hA => ?_)
          obtain ⟨q159, xf, xg, xj⟩ := q159
          rw [xj] at hH
          have ef8 := (xf 8 (by decide)).trans ef8
          have ef9 := (xf 9 (by decide)).trans ef9
          have ef10 := (xf 10 (by decide)).trans ef10
          have ef19 := (xf 19 (by decide)).trans ef19
          have ef20 := (xf 20 (by decide)).trans ef20
          have hfE := hfE.trans xf (by decide)
          have eg15 := (xg 15 (by decide)).trans eg15
          have eg16 := (xg 16 (by decide)).trans eg16
          have eg17 := (xg 17 (by decide)).trans eg17
          have hgE := hgE.trans xg (by decide)
          have qL := q159
          have hSt : St f159 (.error (pl t)) := ⟨by rw [qL, if_pos rfl, x17], by omega⟩
          have ef21 := hSt.1
          refine zm_vret (TX8_readPart_2.at 2 rfl) rfl hH hA ?_
          first | (exfalso; omega) | exact ⟨part_no (lw := true) (v := v) (inner := none) (by omega) (by unfold wLo wHi; simp only [reduceIte, Bool.false_eq_true]; omega) ▸ hSt, hfE, hgE, rfl⟩ | exact ⟨part_pl (lw := true) (v := v) (inner := none) (by omega) (by unfold wLo wHi; simp only [reduceIte, Bool.false_eq_true]; omega) (fun z => by first | (cases z.1; done) | omega) (fun z => by first | (cases z.1; done) | omega) ▸ hSt, hfE, hgE, rfl⟩
        · skip
          refine z_ald_0 (TX8_readPart_1.at 17 rfl) ?_
          refine zm_callV0 (m_leaf eg17 ef19 ef20 ef21 (by omega) (by omega) (by omega)) (TX8_readPart_1.at 18 rfl) c8_235 rfl rfl hH hA (by omega) (Nat.le_of_ble_eq_true rfl) (fun f112 g112 j112 h q112 hH hA => ?_)
          obtain ⟨q112, xf, xg, xj⟩ := q112
          rw [xj] at hH
          have ef8 := (xf 8 (by decide)).trans ef8
          have ef9 := (xf 9 (by decide)).trans ef9
          have ef10 := (xf 10 (by decide)).trans ef10
          have hfE := hfE.trans xf (by decide)
          have eg15 := (xg 15 (by decide)).trans eg15
          have eg16 := (xg 16 (by decide)).trans eg16
          have eg17 := (xg 17 (by decide)).trans eg17
          have hgE := hgE.trans xg (by decide)
          have qL := q112
          have hSt := sv_leaf hR hSt hOK (by rw [hSt.1, hSt.2.1, hSt.2.2]; exact qL)
          have hOK := ok_leaf (v := v) (pl := pl) hR hOK (show c t ≠ 0 by omega)
          refine z_ald_0 (TX8_readPart_1.at 19 rfl) ?_
          refine zm_getIE ef10 (TX8_readPart_1.at 20 rfl) fl8_203 hH rfl (by decide) (fun r116 => ?_)
          refine z_if_eq (tgt := 135) (TX8_readPart_1.at 21 rfl) rfl (by omega) (fun c6 => ?_) (fun c6 => absurd c6 (by omega))
          refine z_ald_0 (TX8_readPart_1.at 29 rfl) ?_
          refine zm_getIE ef10 (TX8_readPart_1.at 30 rfl) fl8_203 hH rfl (by decide) (fun r136 => ?_)
          refine z_if_eq (tgt := 162) (TX8_readPart_1.at 31 rfl) rfl (by omega) (fun c7 => ?_) (fun c7 => absurd c7 (by omega))
          refine zm_vret (TX8_readPart_2.at 2 rfl) rfl hH hA ?_
          first | (exfalso; omega) | exact ⟨part_no (lw := true) (v := v) (inner := none) (by omega) (by unfold wLo wHi; simp only [reduceIte, Bool.false_eq_true]; omega) ▸ hSt, hfE, hgE, rfl⟩ | exact ⟨part_pl (lw := true) (v := v) (inner := none) (by omega) (by unfold wLo wHi; simp only [reduceIte, Bool.false_eq_true]; omega) (fun z => by first | (cases z.1; done) | omega) (fun z => by first | (cases z.1; done) | omega) ▸ hSt, hfE, hgE, rfl⟩
    · skip
      refine z_ald_0 (TX8_readPart_1.at 2 rfl) ?_
      refine zm_getA (TX8_readPart_1.at 3 rfl) fl8_57 hH (by decide) (by decide) ?_
      refine z_ald_0 (TX8_readPart_1.at 4 rfl) ?_
      refine zm_getIE ef19 (TX8_readPart_1.at 5 rfl) fl8_177 hH rfl (by decide) (fun r85 => ?_)
      refine zm_ialdE eg16 (TX8_readPart_1.at 6 rfl) hH rfl (by omega) (show _ < ((401 : Nat) : Int) by omega) (fun r88 => ?_)
      rw [x16] at r88 ⊢
      refine z_sipush (by decide) (TX8_readPart_1.at 7 rfl) ?_
      refine z_icmp_le (tgt := 111) (TX8_readPart_1.at 8 rfl) rfl (by omega) (by omega) (fun c8 => ?_) (fun c8 => ?_)
      · skip
        refine z_ald_0 (TX8_readPart_1.at 17 rfl) ?_
        refine zm_callV0 (m_leaf eg17 ef19 ef20 ef21 (by omega) (by omega) (by omega)) (TX8_readPart_1.at 18 rfl) c8_235 rfl rfl hH hA (by omega) (Nat.le_of_ble_eq_true rfl) (fun f112 g112 j112 h q112 hH hA => ?_)
        obtain ⟨q112, xf, xg, xj⟩ := q112
        rw [xj] at hH
        have ef8 := (xf 8 (by decide)).trans ef8
        have ef9 := (xf 9 (by decide)).trans ef9
        have ef10 := (xf 10 (by decide)).trans ef10
        have hfE := hfE.trans xf (by decide)
        have eg15 := (xg 15 (by decide)).trans eg15
        have eg16 := (xg 16 (by decide)).trans eg16
        have eg17 := (xg 17 (by decide)).trans eg17
        have hgE := hgE.trans xg (by decide)
        have qL := q112
        have hSt := sv_leaf hR hSt hOK (by rw [hSt.1, hSt.2.1, hSt.2.2]; exact qL)
        have hOK := ok_leaf (v := v) (pl := pl) hR hOK (show c t ≠ 0 by omega)
        refine z_ald_0 (TX8_readPart_1.at 19 rfl) ?_
        refine zm_getIE ef10 (TX8_readPart_1.at 20 rfl) fl8_203 hH rfl (by decide) (fun r116 => ?_)
        refine z_if_eq (tgt := 135) (TX8_readPart_1.at 21 rfl) rfl (by omega) (fun c9 => ?_) (fun c9 => absurd c9 (by omega))
        refine z_ald_0 (TX8_readPart_1.at 29 rfl) ?_
        refine zm_getIE ef10 (TX8_readPart_1.at 30 rfl) fl8_203 hH rfl (by decide) (fun r136 => ?_)
        refine z_if_eq (tgt := 162) (TX8_readPart_1.at 31 rfl) rfl (by omega) (fun c10 => ?_) (fun c10 => absurd c10 (by omega))
        refine zm_vret (TX8_readPart_2.at 2 rfl) rfl hH hA ?_
        first | (exfalso; omega) | exact ⟨part_no (lw := true) (v := v) (inner := none) (by omega) (by unfold wLo wHi; simp only [reduceIte, Bool.false_eq_true]; omega) ▸ hSt, hfE, hgE, rfl⟩ | exact ⟨part_pl (lw := true) (v := v) (inner := none) (by omega) (by unfold wLo wHi; simp only [reduceIte, Bool.false_eq_true]; omega) (fun z => by first | (cases z.1; done) | omega) (fun z => by first | (cases z.1; done) | omega) ▸ hSt, hfE, hgE, rfl⟩
      · skip
        refine z_ild_2 (TX8_readPart_1.at 9 rfl) ?_
        refine z_ald_0 (TX8_readPart_1.at 10 rfl) ?_
        refine zm_getIE ef8 (TX8_readPart_1.at 11 rfl) fl8_229 hH rfl (by decide) (fun r97 => ?_)
        refine z_icmp_lt (tgt := 158) (TX8_readPart_1.at 12 rfl) rfl (by omega) (by omega) (fun c11 => ?_) (fun c11 => ?_)
        · skip
          refine z_ald_0 (TX8_readPart_2.at 0 rfl) ?_
          refine zm_callV0 (m_faults eg17 ef19 ef21 (by omega)) (TX8_readPart_2.at 1 rfl) c8_183 rfl rfl hH hA (by omega) (Nat.le_of_ble_eq_true rfl) (fun f159 g159 j159 h q159 hH hA => ?_)
          obtain ⟨q159, xf, xg, xj⟩ := q159
          rw [xj] at hH
          have ef8 := (xf 8 (by decide)).trans ef8
          have ef9 := (xf 9 (by decide)).trans ef9
          have ef10 := (xf 10 (by decide)).trans ef10
          have ef19 := (xf 19 (by decide)).trans ef19
          have ef20 := (xf 20 (by decide)).trans ef20
          have hfE := hfE.trans xf (by decide)
          have eg15 := (xg 15 (by decide)).trans eg15
          have eg16 := (xg 16 (by decide)).trans eg16
          have eg17 := (xg 17 (by decide)).trans eg17
          have hgE := hgE.trans xg (by decide)
          have qL := q159
          have hSt : St f159 (.error (pl t)) := ⟨by rw [qL, if_pos rfl, x17], by omega⟩
          have ef21 := hSt.1
          refine zm_vret (TX8_readPart_2.at 2 rfl) rfl hH hA ?_
          first | (exfalso; omega) | exact ⟨part_no (lw := true) (v := v) (inner := none) (by omega) (by unfold wLo wHi; simp only [reduceIte, Bool.false_eq_true]; omega) ▸ hSt, hfE, hgE, rfl⟩ | exact ⟨part_pl (lw := true) (v := v) (inner := none) (by omega) (by unfold wLo wHi; simp only [reduceIte, Bool.false_eq_true]; omega) (fun z => by first | (cases z.1; done) | omega) (fun z => by first | (cases z.1; done) | omega) ▸ hSt, hfE, hgE, rfl⟩
        · skip
          refine z_ild_2 (TX8_readPart_1.at 13 rfl) ?_
          refine z_ald_0 (TX8_readPart_1.at 14 rfl) ?_
          refine zm_getIE ef9 (TX8_readPart_1.at 15 rfl) fl8_232 hH rfl (by decide) (fun r105 => ?_)
          refine z_icmp_gt (tgt := 158) (TX8_readPart_1.at 16 rfl) rfl (by omega) (by omega) (fun c12 => ?_) (fun c12 => ?_)
          · skip
            refine z_ald_0 (TX8_readPart_2.at 0 rfl) ?_
            refine zm_callV0 (m_faults eg17 ef19 ef21 (by omega)) (TX8_readPart_2.at 1 rfl) c8_183 rfl rfl hH hA (by omega) (Nat.le_of_ble_eq_true rfl) (fun f159 g159 j159 h q159 hH hA => ?_)
            obtain ⟨q159, xf, xg, xj⟩ := q159
            rw [xj] at hH
            have ef8 := (xf 8 (by decide)).trans ef8
            have ef9 := (xf 9 (by decide)).trans ef9
            have ef10 := (xf 10 (by decide)).trans ef10
            have ef19 := (xf 19 (by decide)).trans ef19
            have ef20 := (xf 20 (by decide)).trans ef20
            have hfE := hfE.trans xf (by decide)
            have eg15 := (xg 15 (by decide)).trans eg15
            have eg16 := (xg 16 (by decide)).trans eg16
            have eg17 := (xg 17 (by decide)).trans eg17
            have hgE := hgE.trans xg (by decide)
            have qL := q159
            have hSt : St f159 (.error (pl t)) := ⟨by rw [qL, if_pos rfl, x17], by omega⟩
            have ef21 := hSt.1
            refine zm_vret (TX8_readPart_2.at 2 rfl) rfl hH hA ?_
            first | (exfalso; omega) | exact ⟨part_no (lw := true) (v := v) (inner := none) (by omega) (by unfold wLo wHi; simp only [reduceIte, Bool.false_eq_true]; omega) ▸ hSt, hfE, hgE, rfl⟩ | exact ⟨part_pl (lw := true) (v := v) (inner := none) (by omega) (by unfold wLo wHi; simp only [reduceIte, Bool.false_eq_true]; omega) (fun z => by first | (cases z.1; done) | omega) (fun z => by first | (cases z.1; done) | omega) ▸ hSt, hfE, hgE, rfl⟩
          · skip
            refine z_ald_0 (TX8_readPart_1.at 17 rfl) ?_
            refine zm_callV0 (m_leaf eg17 ef19 ef20 ef21 (by omega) (by omega) (by omega)) (TX8_readPart_1.at 18 rfl) c8_235 rfl rfl hH hA (by omega) (Nat.le_of_ble_eq_true rfl) (fun f112 g112 j112 h q112 hH hA => ?_)
            obtain ⟨q112, xf, xg, xj⟩ := q112
            rw [xj] at hH
            have ef8 := (xf 8 (by decide)).trans ef8
            have ef9 := (xf 9 (by decide)).trans ef9
            have ef10 := (xf 10 (by decide)).trans ef10
            have hfE := hfE.trans xf (by decide)
            have eg15 := (xg 15 (by decide)).trans eg15
            have eg16 := (xg 16 (by decide)).trans eg16
            have eg17 := (xg 17 (by decide)).trans eg17
            have hgE := hgE.trans xg (by decide)
            have qL := q112
            have hSt := sv_leaf hR hSt hOK (by rw [hSt.1, hSt.2.1, hSt.2.2]; exact qL)
            have hOK := ok_leaf (v := v) (pl := pl) hR hOK (show c t ≠ 0 by omega)
            refine z_ald_0 (TX8_readPart_1.at 19 rfl) ?_
            refine zm_getIE ef10 (TX8_readPart_1.at 20 rfl) fl8_203 hH rfl (by decide) (fun r116 => ?_)
            refine z_if_eq (tgt := 135) (TX8_readPart_1.at 21 rfl) rfl (by omega) (fun c13 => ?_) (fun c13 => absurd c13 (by omega))
            refine z_ald_0 (TX8_readPart_1.at 29 rfl) ?_
            refine zm_getIE ef10 (TX8_readPart_1.at 30 rfl) fl8_203 hH rfl (by decide) (fun r136 => ?_)
            refine z_if_eq (tgt := 162) (TX8_readPart_1.at 31 rfl) rfl (by omega) (fun c14 => ?_) (fun c14 => absurd c14 (by omega))
            refine zm_vret (TX8_readPart_2.at 2 rfl) rfl hH hA ?_
            first | (exfalso; omega) | exact ⟨part_no (lw := true) (v := v) (inner := none) (by omega) (by unfold wLo wHi; simp only [reduceIte, Bool.false_eq_true]; omega) ▸ hSt, hfE, hgE, rfl⟩ | exact ⟨part_pl (lw := true) (v := v) (inner := none) (by omega) (by unfold wLo wHi; simp only [reduceIte, Bool.false_eq_true]; omega) (fun z => by first | (cases z.1; done) | omega) (fun z => by first | (cases z.1; done) | omega) ▸ hSt, hfE, hgE, rfl⟩
  · skip
    refine z_ild_1 (TX8_readPart_0.at 14 rfl) ?_
    refine z_bipush (by decide) (TX8_readPart_0.at 15 rfl) ?_
    refine z_icmp_ne (tgt := 37) (TX8_readPart_0.at 16 rfl) rfl (by omega) (by omega) (fun c15 => absurd c15 (by omega)) (fun c15 => ?_)
    refine z_ald_0 (TX8_readPart_0.at 17 rfl) ?_
    refine zm_callV0 (m_faults eg17 ef19 ef21 (by omega)) (TX8_readPart_0.at 18 rfl) c8_183 rfl rfl hH hA (by omega) (Nat.le_of_ble_eq_true rfl) (fun f34 g34 j34 h q34 hH hA => ?_)
    obtain ⟨q34, xf, xg, xj⟩ := q34
    rw [xj] at hH
    have ef8 := (xf 8 (by decide)).trans ef8
    have ef9 := (xf 9 (by decide)).trans ef9
    have ef10 := (xf 10 (by decide)).trans ef10
    have ef19 := (xf 19 (by decide)).trans ef19
    have ef20 := (xf 20 (by decide)).trans ef20
    have hfE := hfE.trans xf (by decide)
    have eg15 := (xg 15 (by decide)).trans eg15
    have eg16 := (xg 16 (by decide)).trans eg16
    have eg17 := (xg 17 (by decide)).trans eg17
    have hgE := hgE.trans xg (by decide)
    have qL := q34
    have hSt : St f34 (.error (pl t)) := ⟨by rw [qL, if_pos rfl, x17], by omega⟩
    have ef21 := hSt.1
    refine z_ald_0 (TX8_readPart_0.at 19 rfl) ?_
    refine zm_callI0 (m_fine ef21) (TX8_readPart_0.at 20 rfl) c8_173 rfl rfl hH hA (by omega) (Nat.le_of_ble_eq_true rfl) (fun x38 f38 g38 j38 h r38 q38 hH hA => ?_)
    obtain ⟨q38, xf, xg, xj⟩ := q38
    rw [xj] at hH
    have ef8 := (xf 8 (by decide)).trans ef8
    have ef9 := (xf 9 (by decide)).trans ef9
    have ef10 := (xf 10 (by decide)).trans ef10
    have ef19 := (xf 19 (by decide)).trans ef19
    have ef20 := (xf 20 (by decide)).trans ef20
    have ef21 := (xf 21 (by decide)).trans ef21
    have hfE := hfE.trans xf (by decide)
    have eg15 := (xg 15 (by decide)).trans eg15
    have eg16 := (xg 16 (by decide)).trans eg16
    have eg17 := (xg 17 (by decide)).trans eg17
    have hgE := hgE.trans xg (by decide)
    have qL := q38
    obtain rfl := qL
    have hSt := St_tr hSt xf
    refine z_if_neB (tgt := 45) (TX8_readPart_0.at 21 rfl) rfl (fun c16 => absurd c16 (by omega)) (fun c16 => ?_)
    refine zm_vret (TX8_readPart_0.at 22 rfl) rfl hH hA ?_
    exact ⟨part_b0 (lw := true) (v := v) (by omega) ▸ hSt, hfE, hgE, rfl⟩

set_option maxHeartbeats 4000000 in
set_option maxRecDepth 100000 in
theorem readPart_f1 {l : Launch} {o : Nat} {ar : Nat → Nat} {f : mF} {g j : mA} {N : Int} {c v pl X15 X16 X17 : Int → Int} {w8 w9 io : Int} (hR : RdH N c v pl X15 X16 X17) {dp : Int} {t p : Nat} {G : Nat → Nat → PR} {m : Nat} (hdp : 0 ≤ dp ∧ dp < 8) (hI : RdM l o ar MX8_readSum m [vI (dp + 1)] N pl X15 X16 X17 w8 w9 io G) (ha : Adv c G) (hp : Pk G) (e8 : w8 = 15) (e9 : w9 = 21) (e10 : io = 1) (eg15 : g 15 = X15) (eg16 : g 16 = X16) (eg17 : g 17 = X17) (ef8 : f 8 = w8) (ef9 : f 9 = w9) (ef10 : f 10 = io) (hSt : St f (.ok (t, p))) (hOK : SOK N (.ok (t, p))) : MM l o ar MX8_readPart (m + 4) [.ref o, vI dp] f g j (PV (fun f' g' j' => St f' (cvR pl (pPart false c v (some G) t p)) ∧ eqx [19, 20, 21] f f' ∧ eqx [] g g' ∧ j' = j)) := by
  refine MM.intro [some (.ref o), some (vI dp), none] (by decide) (Nat.le_of_ble_eq_true rfl) rfl (fun d hd h0 h hH hA => ?_)
  have hfE : eqx [19, 20, 21] f f := eqx.rf
  have hgE : eqx [] g g := eqx.rf
  obtain ⟨tt0, ttN, tt4, x15, x16, x17, x0, pp5⟩ := bt_pl hR hOK
  have ef19 : f 19 = (t : Int) := hSt.1
  have ef20 : f 20 = (p : Int) := hSt.2.1
  have ef21 : f 21 = -1 := hSt.2.2
  refine z_ald_0 (TX8_readPart_0.at 0 rfl) ?_
  refine zm_callI0 (m_fine ef21) (TX8_readPart_0.at 1 rfl) c8_173 rfl rfl hH hA (by omega) (Nat.le_of_ble_eq_true rfl) (fun x1 f1 g1 j1 h r1 q1 hH hA => ?_)
  obtain ⟨q1, xf, xg, xj⟩ := q1
  rw [xj] at hH
  have ef8 := (xf 8 (by decide)).trans ef8
  have ef9 := (xf 9 (by decide)).trans ef9
  have ef10 := (xf 10 (by decide)).trans ef10
  have ef19 := (xf 19 (by decide)).trans ef19
  have ef20 := (xf 20 (by decide)).trans ef20
  have ef21 := (xf 21 (by decide)).trans ef21
  have hfE := hfE.trans xf (by decide)
  have eg15 := (xg 15 (by decide)).trans eg15
  have eg16 := (xg 16 (by decide)).trans eg16
  have eg17 := (xg 17 (by decide)).trans eg17
  have hgE := hgE.trans xg (by decide)
  have qL := q1
  obtain rfl := qL
  have hSt := St_tr hSt xf
  refine z_if_neB (tgt := 8) (TX8_readPart_0.at 2 rfl) rfl (fun c1 => ?_) (fun c1 => absurd c1 (by omega))
  refine z_ald_0 (TX8_readPart_0.at 4 rfl) ?_
  refine zm_getA (TX8_readPart_0.at 5 rfl) fl8_54 hH (by decide) (by decide) ?_
  refine z_ald_0 (TX8_readPart_0.at 6 rfl) ?_
  refine zm_getIE ef19 (TX8_readPart_0.at 7 rfl) fl8_177 hH rfl (by decide) (fun r13 => ?_)
  refine zm_ialdE eg15 (TX8_readPart_0.at 8 rfl) hH rfl (by omega) (show _ < ((401 : Nat) : Int) by omega) (fun r16 => ?_)
  refine z_ist_2 (TX8_readPart_0.at 9 rfl) (Nat.le_of_ble_eq_true rfl) rfl ?_
  rw [x15] at r16 ⊢
  refine z_ild_2 (TX8_readPart_0.at 10 rfl) ?_
  refine z_bipush (by decide) (TX8_readPart_0.at 11 rfl) ?_
  refine zs_call1 (s_sign (by omega)) (TX8_readPart_0.at 12 rfl) c8_219 rfl (by omega) (Nat.le_of_ble_eq_true rfl) (fun r21 => ?_)
  simp only [Int.reduceAdd] at r21 ⊢
  refine z_icmp_ne (tgt := 74) (TX8_readPart_0.at 13 rfl) rfl (by omega) (by omega) (fun c2 => ?_) (fun c2 => ?_)
  · skip
    refine z_ild_2 (TX8_readPart_0.at 39 rfl) ?_
    refine z_bipush (by decide) (TX8_readPart_1.at 0 rfl) ?_
    refine z_icmp_ne (tgt := 95) (TX8_readPart_1.at 1 rfl) rfl (by omega) (by omega) (fun c3 => ?_) (fun c3 => ?_)
    · skip
      refine z_ild_2 (TX8_readPart_1.at 9 rfl) ?_
      refine z_ald_0 (TX8_readPart_1.at 10 rfl) ?_
      refine zm_getIE ef8 (TX8_readPart_1.at 11 rfl) fl8_229 hH rfl (by decide) (fun r97 => ?_)
      refine z_icmp_lt (tgt := 158) (TX8_readPart_1.at 12 rfl) rfl (by omega) (by omega) (fun c4 => ?_) (fun c4 => ?_)
      · skip
        refine z_ald_0 (TX8_readPart_2.at 0 rfl) ?_
        refine zm_callV0 (m_faults eg17 ef19 ef21 (by omega)) (TX8_readPart_2.at 1 rfl) c8_183 rfl rfl hH hA (by omega) (Nat.le_of_ble_eq_true rfl) (fun f159 g159 j159 h q159 hH hA => ?_)
        obtain ⟨q159, xf, xg, xj⟩ := q159
        rw [xj] at hH
        have ef8 := (xf 8 (by decide)).trans ef8
        have ef9 := (xf 9 (by decide)).trans ef9
        have ef10 := (xf 10 (by decide)).trans ef10
        have ef19 := (xf 19 (by decide)).trans ef19
        have ef20 := (xf 20 (by decide)).trans ef20
        have hfE := hfE.trans xf (by decide)
        have eg15 := (xg 15 (by decide)).trans eg15
        have eg16 := (xg 16 (by decide)).trans eg16
        have eg17 := (xg 17 (by decide)).trans eg17
        have hgE := hgE.trans xg (by decide)
        have qL := q159
        have hSt : St f159 (.error (pl t)) := ⟨by rw [qL, if_pos rfl, x17], by omega⟩
        have ef21 := hSt.1
        refine zm_vret (TX8_readPart_2.at 2 rfl) rfl hH hA ?_
        first | (exfalso; omega) | exact ⟨part_br (lw := false) (v := v) (by omega) ▸ hSt, hfE, hgE, rfl⟩ | exact ⟨part_no (lw := false) (v := v) (inner := (some G)) (by omega) (by unfold wLo wHi; simp only [reduceIte, Bool.false_eq_true]; omega) ▸ hSt, hfE, hgE, rfl⟩ | exact ⟨part_pl (lw := false) (v := v) (inner := (some G)) (by omega) (by unfold wLo wHi; simp only [reduceIte, Bool.false_eq_true]; omega) (fun z => by first | (cases z.1; done) | omega) (fun z => by first | (cases z.1; done) | omega) ▸ hSt, hfE, hgE, rfl⟩ | exact ⟨part_15 (c := c) (v := v) (inner := (some G)) (by omega) ▸ hSt, hfE, hgE, rfl⟩ | exact ⟨part_21 (c := c) (v := v) (inner := (some G)) (by omega) ▸ hSt, hfE, hgE, rfl⟩
      · skip
        refine z_ild_2 (TX8_readPart_1.at 13 rfl) ?_
        refine z_ald_0 (TX8_readPart_1.at 14 rfl) ?_
        refine zm_getIE ef9 (TX8_readPart_1.at 15 rfl) fl8_232 hH rfl (by decide) (fun r105 => ?_)
        refine z_icmp_gt (tgt := 158) (TX8_readPart_1.at 16 rfl) rfl (by omega) (by omega) (fun c5 => ?_) (fun c5 => ?_)
        · skip
          refine z_ald_0 (TX8_readPart_2.at 0 rfl) ?_
          refine zm_callV0 (m_faults eg17 ef19 ef21 (by omega)) (TX8_readPart_2.at 1 rfl) c8_183 rfl rfl hH hA (by omega) (Nat.le_of_ble_eq_true rfl) (fun f159 g159 j159 h q159 hH hA => ?_)
          obtain ⟨q159, xf, xg, xj⟩ := q159
          rw [xj] at hH
          have ef8 := (xf 8 (by decide)).trans ef8
          have ef9 := (xf 9 (by decide)).trans ef9
          have ef10 := (xf 10 (by decide)).trans ef10
          have ef19 := (xf 19 (by decide)).trans ef19
          have ef20 := (xf 20 (by decide)).trans ef20
          have hfE := hfE.trans xf (by decide)
          have eg15 := (xg 15 (by decide)).trans eg15
          have eg16 := (xg 16 (by decide)).trans eg16
          have eg17 := (xg 17 (by decide)).trans eg17
          have hgE := hgE.trans xg (by decide)
          have qL := q159
          have hSt : St f159 (.error (pl t)) := ⟨by rw [qL, if_pos rfl, x17], by omega⟩
          have ef21 := hSt.1
          refine zm_vret (TX8_readPart_2.at 2 rfl) rfl hH hA ?_
          first | (exfalso; omega) | exact ⟨part_br (lw := false) (v := v) (by omega) ▸ hSt, hfE, hgE, rfl⟩ | exact ⟨part_no (lw := false) (v := v) (inner := (some G)) (by omega) (by unfold wLo wHi; simp only [reduceIte, Bool.false_eq_true]; omega) ▸ hSt, hfE, hgE, rfl⟩ | exact ⟨part_pl (lw := false) (v := v) (inner := (some G)) (by omega) (by unfold wLo wHi; simp only [reduceIte, Bool.false_eq_true]; omega) (fun z => by first | (cases z.1; done) | omega) (fun z => by first | (cases z.1; done) | omega) ▸ hSt, hfE, hgE, rfl⟩ | exact ⟨part_15 (c := c) (v := v) (inner := (some G)) (by omega) ▸ hSt, hfE, hgE, rfl⟩ | exact ⟨part_21 (c := c) (v := v) (inner := (some G)) (by omega) ▸ hSt, hfE, hgE, rfl⟩
        · skip
          refine z_ald_0 (TX8_readPart_1.at 17 rfl) ?_
          refine zm_callV0 (m_leaf eg17 ef19 ef20 ef21 (by omega) (by omega) (by omega)) (TX8_readPart_1.at 18 rfl) c8_235 rfl rfl hH hA (by omega) (Nat.le_of_ble_eq_true rfl) (fun f112 g112 j112 h q112 hH hA => ?_)
          obtain ⟨q112, xf, xg, xj⟩ := q112
          rw [xj] at hH
          have ef8 := (xf 8 (by decide)).trans ef8
          have ef9 := (xf 9 (by decide)).trans ef9
          have ef10 := (xf 10 (by decide)).trans ef10
          have hfE := hfE.trans xf (by decide)
          have eg15 := (xg 15 (by decide)).trans eg15
          have eg16 := (xg 16 (by decide)).trans eg16
          have eg17 := (xg 17 (by decide)).trans eg17
          have hgE := hgE.trans xg (by decide)
          have qL := q112
          have hSt := sv_leaf hR hSt hOK (by rw [hSt.1, hSt.2.1, hSt.2.2]; exact qL)
          have hOK := ok_leaf (v := v) (pl := pl) hR hOK (show c t ≠ 0 by omega)
          refine z_ald_0 (TX8_readPart_1.at 19 rfl) ?_
          refine zm_getIE ef10 (TX8_readPart_1.at 20 rfl) fl8_203 hH rfl (by decide) (fun r116 => ?_)
          refine z_if_eq (tgt := 135) (TX8_readPart_1.at 21 rfl) rfl (by omega) (fun c6 => absurd c6 (by omega)) (fun c6 => ?_)
          refine z_ild_2 (TX8_readPart_1.at 22 rfl) ?_
          refine z_bipush (by decide) (TX8_readPart_1.at 23 rfl) ?_
          refine z_icmp_ne (tgt := 135) (TX8_readPart_1.at 24 rfl) rfl (by omega) (by omega) (fun c7 => ?_) (fun c7 => ?_)
          · skip
            refine z_ald_0 (TX8_readPart_1.at 29 rfl) ?_
            refine zm_getIE ef10 (TX8_readPart_1.at 30 rfl) fl8_203 hH rfl (by decide) (fun r136 => ?_)
            refine z_if_eq (tgt := 162) (TX8_readPart_1.at 31 rfl) rfl (by omega) (fun c8 => absurd c8 (by omega)) (fun c8 => ?_)
            refine z_ild_2 (TX8_readPart_1.at 32 rfl) ?_
            refine z_bipush (by decide) (TX8_readPart_1.at 33 rfl) ?_
            refine z_icmp_ne (tgt := 162) (TX8_readPart_1.at 34 rfl) rfl (by omega) (by omega) (fun c9 => ?_) (fun c9 => ?_)
            · skip
              refine zm_vret (TX8_readPart_2.at 2 rfl) rfl hH hA ?_
              first | (exfalso; omega) | exact ⟨part_br (lw := false) (v := v) (by omega) ▸ hSt, hfE, hgE, rfl⟩ | exact ⟨part_no (lw := false) (v := v) (inner := (some G)) (by omega) (by unfold wLo wHi; simp only [reduceIte, Bool.false_eq_true]; omega) ▸ hSt, hfE, hgE, rfl⟩ | exact ⟨part_pl (lw := false) (v := v) (inner := (some G)) (by omega) (by unfold wLo wHi; simp only [reduceIte, Bool.false_eq_true]; omega) (fun z => by first | (cases z.1; done) | omega) (fun z => by first | (cases z.1; done) | omega) ▸ hSt, hfE, hgE, rfl⟩ | exact ⟨part_15 (c := c) (v := v) (inner := (some G)) (by omega) ▸ hSt, hfE, hgE, rfl⟩ | exact ⟨part_21 (c := c) (v := v) (inner := (some G)) (by omega) ▸ hSt, hfE, hgE, rfl⟩
            · skip
              refine z_ald_0 (TX8_readPart_1.at 35 rfl) ?_
              refine z_iconst (TX8_readPart_1.at 36 rfl) ?_
              refine z_bipush (by decide) (TX8_readPart_1.at 37 rfl) ?_
              refine zm_callV2 (m_mustNum eg15 eg16 eg17 rfl rfl (by omega) (by omega) (st_b hSt hOK hR.1.2) (sv_pl hR hSt hOK)) (TX8_readPart_1.at 38 rfl) c8_199 rfl rfl hH hA (by omega) (Nat.le_of_ble_eq_true rfl) (fun f152 g152 j152 h q152 hH hA => ?_)
              obtain ⟨q152, xf, xg, xj⟩ := q152
              rw [xj] at hH
              have ef8 := (xf 8 (by decide)).trans ef8
              have ef9 := (xf 9 (by decide)).trans ef9
              have ef10 := (xf 10 (by decide)).trans ef10
              have hfE := hfE.trans xf (by decide)
              have eg15 := (xg 15 (by decide)).trans eg15
              have eg16 := (xg 16 (by decide)).trans eg16
              have eg17 := (xg 17 (by decide)).trans eg17
              have hgE := hgE.trans xg (by decide)
              have qL := q152
              have hSt := sv_mn hR hSt hOK qL xf
              have hOK := ok_mn (v := v) (pl := pl) (lo := 0) (hi := 7) hR.2.2 hOK
              refine z_goto (tgt := 162) (TX8_readPart_1.at 39 rfl) rfl ?_
              refine zm_vret (TX8_readPart_2.at 2 rfl) rfl hH hA ?_
              first | (exfalso; omega) | exact ⟨part_br (lw := false) (v := v) (by omega) ▸ hSt, hfE, hgE, rfl⟩ | exact ⟨part_no (lw := false) (v := v) (inner := (some G)) (by omega) (by unfold wLo wHi; simp only [reduceIte, Bool.false_eq_true]; omega) ▸ hSt, hfE, hgE, rfl⟩ | exact ⟨part_pl (lw := false) (v := v) (inner := (some G)) (by omega) (by unfold wLo wHi; simp only [reduceIte, Bool.false_eq_true]; omega) (fun z => by first | (cases z.1; done) | omega) (fun z => by first | (cases z.1; done) | omega) ▸ hSt, hfE, hgE, rfl⟩ | exact ⟨part_15 (c := c) (v := v) (inner := (some G)) (by omega) ▸ hSt, hfE, hgE, rfl⟩ | exact ⟨part_21 (c := c) (v := v) (inner := (some G)) (by omega) ▸ hSt, hfE, hgE, rfl⟩
          · skip
            refine z_ald_0 (TX8_readPart_1.at 25 rfl) ?_
            refine z_iconst (TX8_readPart_1.at 26 rfl) ?_
            refine z_bipush (by decide) (TX8_readPart_1.at 27 rfl) ?_
            refine zm_callV2 (m_mustNum eg15 eg16 eg17 rfl rfl (by omega) (by omega) (st_b hSt hOK hR.1.2) (sv_pl hR hSt hOK)) (TX8_readPart_1.at 28 rfl) c8_199 rfl rfl hH hA (by omega) (Nat.le_of_ble_eq_true rfl) (fun f132 g132 j132 h q132 hH hA => ?_)
            obtain ⟨q132, xf, xg, xj⟩ := q132
            rw [xj] at hH
            have ef8 := (xf 8 (by decide)).trans ef8
            have ef9 := (xf 9 (by decide)).trans ef9
            have ef10 := (xf 10 (by decide)).trans ef10
            have hfE := hfE.trans xf (by decide)
            have eg15 := (xg 15 (by decide)).trans eg15
            have eg16 := (xg 16 (by decide)).trans eg16
            have eg17 := (xg 17 (by decide)).trans eg17
            have hgE := hgE.trans xg (by decide)
            have qL := q132
            have hSt := sv_mn hR hSt hOK qL xf
            have hOK := ok_mn (v := v) (pl := pl) (lo := 0) (hi := 9) hR.2.2 hOK
            refine z_ald_0 (TX8_readPart_1.at 29 rfl) ?_
            refine zm_getIE ef10 (TX8_readPart_1.at 30 rfl) fl8_203 hH rfl (by decide) (fun r136 => ?_)
            refine z_if_eq (tgt := 162) (TX8_readPart_1.at 31 rfl) rfl (by omega) (fun c10 => absurd c10 (by omega)) (fun c10 => ?_)
            refine z_ild_2 (TX8_readPart_1.at 32 rfl) ?_
            refine z_bipush (by decide) (TX8_readPart_1.at 33 rfl) ?_
            refine z_icmp_ne (tgt := 162) (TX8_readPart_1.at 34 rfl) rfl (by omega) (by omega) (fun c11 => ?_) (fun c11 => ?_)
            · skip
              refine zm_vret (TX8_readPart_2.at 2 rfl) rfl hH hA ?_
              first | (exfalso; omega) | exact ⟨part_br (lw := false) (v := v) (by omega) ▸ hSt, hfE, hgE, rfl⟩ | exact ⟨part_no (lw := false) (v := v) (inner := (some G)) (by omega) (by unfold wLo wHi; simp only [reduceIte, Bool.false_eq_true]; omega) ▸ hSt, hfE, hgE, rfl⟩ | exact ⟨part_pl (lw := false) (v := v) (inner := (some G)) (by omega) (by unfold wLo wHi; simp only [reduceIte, Bool.false_eq_true]; omega) (fun z => by first | (cases z.1; done) | omega) (fun z => by first | (cases z.1; done) | omega) ▸ hSt, hfE, hgE, rfl⟩ | exact ⟨part_15 (c := c) (v := v) (inner := (some G)) (by omega) ▸ hSt, hfE, hgE, rfl⟩ | exact ⟨part_21 (c := c) (v := v) (inner := (some G)) (by omega) ▸ hSt, hfE, hgE, rfl⟩
            · skip
              refine z_ald_0 (TX8_readPart_1.at 35 rfl) ?_
              refine z_iconst (TX8_readPart_1.at 36 rfl) ?_
              refine z_bipush (by decide) (TX8_readPart_1.at 37 rfl) ?_
              refine zm_callV2 (m_mustNum eg15 eg16 eg17 rfl rfl (by omega) (by omega) (st_b hSt hOK hR.1.2) (sv_pl hR hSt hOK)) (TX8_readPart_1.at 38 rfl) c8_199 rfl rfl hH hA (by omega) (Nat.le_of_ble_eq_true rfl) (fun f152 g152 j152 h q152 hH hA => ?_)
              obtain ⟨q152, xf, xg, xj⟩ := q152
              rw [xj] at hH
              have ef8 := (xf 8 (by decide)).trans ef8
              have ef9 := (xf 9 (by decide)).trans ef9
              have ef10 := (xf 10 (by decide)).trans ef10
              have hfE := hfE.trans xf (by decide)
              have eg15 := (xg 15 (by decide)).trans eg15
              have eg16 := (xg 16 (by decide)).trans eg16
              have eg17 := (xg 17 (by decide)).trans eg17
              have hgE := hgE.trans xg (by decide)
              have qL := q152
              have hSt := sv_mn hR hSt hOK qL xf
              have hOK := ok_mn (v := v) (pl := pl) (lo := 0) (hi := 7) hR.2.2 hOK
              refine z_goto (tgt := 162) (TX8_readPart_1.at 39 rfl) rfl ?_
              refine zm_vret (TX8_readPart_2.at 2 rfl) rfl hH hA ?_
              first | (exfalso; omega) | exact ⟨part_br (lw := false) (v := v) (by omega) ▸ hSt, hfE, hgE, rfl⟩ | exact ⟨part_no (lw := false) (v := v) (inner := (some G)) (by omega) (by unfold wLo wHi; simp only [reduceIte, Bool.false_eq_true]; omega) ▸ hSt, hfE, hgE, rfl⟩ | exact ⟨part_pl (lw := false) (v := v) (inner := (some G)) (by omega) (by unfold wLo wHi; simp only [reduceIte, Bool.false_eq_true]; omega) (fun z => by first | (cases z.1; done) | omega) (fun z => by first | (cases z.1; done) | omega) ▸ hSt, hfE, hgE, rfl⟩ | exact ⟨part_15 (c := c) (v := v) (inner := (some G)) (by omega) ▸ hSt, hfE, hgE, rfl⟩ | exact ⟨part_21 (c := c) (v := v) (inner := (some G)) (by omega) ▸ hSt, hfE, hgE, rfl⟩
    · skip
      refine z_ald_0 (TX8_readPart_1.at 2 rfl) ?_
      refine zm_getA (TX8_readPart_1.at 3 rfl) fl8_57 hH (by decide) (by decide) ?_
      refine z_ald_0 (TX8_readPart_1.at 4 rfl) ?_
      refine zm_getIE ef19 (TX8_readPart_1.at 5 rfl) fl8_177 hH rfl (by decide) (fun r85 => ?_)
      refine zm_ialdE eg16 (TX8_readPart_1.at 6 rfl) hH rfl (by omega) (show _ < ((401 : Nat) : Int) by omega) (fun r88 => ?_)
      rw [x16] at r88 ⊢
      refine z_sipush (by decide) (TX8_readPart_1.at 7 rfl) ?_
      refine z_icmp_le (tgt := 111) (TX8_readPart_1.at 8 rfl) rfl (by omega) (by omega) (fun c12 => ?_) (fun c12 => ?_)
      · skip
        refine z_ald_0 (TX8_readPart_1.at 17 rfl) ?_
        refine zm_callV0 (m_leaf eg17 ef19 ef20 ef21 (by omega) (by omega) (by omega)) (TX8_readPart_1.at 18 rfl) c8_235 rfl rfl hH hA (by omega) (Nat.le_of_ble_eq_true rfl) (fun f112 g112 j112 h q112 hH hA => ?_)
        obtain ⟨q112, xf, xg, xj⟩ := q112
        rw [xj] at hH
        have ef8 := (xf 8 (by decide)).trans ef8
        have ef9 := (xf 9 (by decide)).trans ef9
        have ef10 := (xf 10 (by decide)).trans ef10
        have hfE := hfE.trans xf (by decide)
        have eg15 := (xg 15 (by decide)).trans eg15
        have eg16 := (xg 16 (by decide)).trans eg16
        have eg17 := (xg 17 (by decide)).trans eg17
        have hgE := hgE.trans xg (by decide)
        have qL := q112
        have hSt := sv_leaf hR hSt hOK (by rw [hSt.1, hSt.2.1, hSt.2.2]; exact qL)
        have hOK := ok_leaf (v := v) (pl := pl) hR hOK (show c t ≠ 0 by omega)
        refine z_ald_0 (TX8_readPart_1.at 19 rfl) ?_
        refine zm_getIE ef10 (TX8_readPart_1.at 20 rfl) fl8_203 hH rfl (by decide) (fun r116 => ?_)
        refine z_if_eq (tgt := 135) (TX8_readPart_1.at 21 rfl) rfl (by omega) (fun c13 => absurd c13 (by omega)) (fun c13 => ?_)
        refine z_ild_2 (TX8_readPart_1.at 22 rfl) ?_
        refine z_bipush (by decide) (TX8_readPart_1.at 23 rfl) ?_
        refine z_icmp_ne (tgt := 135) (TX8_readPart_1.at 24 rfl) rfl (by omega) (by omega) (fun c14 => ?_) (fun c14 => ?_)
        · skip
          refine z_ald_0 (TX8_readPart_1.at 29 rfl) ?_
          refine zm_getIE ef10 (TX8_readPart_1.at 30 rfl) fl8_203 hH rfl (by decide) (fun r136 => ?_)
          refine z_if_eq (tgt := 162) (TX8_readPart_1.at 31 rfl) rfl (by omega) (fun c15 => absurd c15 (by omega)) (fun c15 => ?_)
          refine z_ild_2 (TX8_readPart_1.at 32 rfl) ?_
          refine z_bipush (by decide) (TX8_readPart_1.at 33 rfl) ?_
          refine z_icmp_ne (tgt := 162) (TX8_readPart_1.at 34 rfl) rfl (by omega) (by omega) (fun c16 => ?_) (fun c16 => ?_)
          · skip
            refine zm_vret (TX8_readPart_2.at 2 rfl) rfl hH hA ?_
            first | (exfalso; omega) | exact ⟨part_br (lw := false) (v := v) (by omega) ▸ hSt, hfE, hgE, rfl⟩ | exact ⟨part_no (lw := false) (v := v) (inner := (some G)) (by omega) (by unfold wLo wHi; simp only [reduceIte, Bool.false_eq_true]; omega) ▸ hSt, hfE, hgE, rfl⟩ | exact ⟨part_pl (lw := false) (v := v) (inner := (some G)) (by omega) (by unfold wLo wHi; simp only [reduceIte, Bool.false_eq_true]; omega) (fun z => by first | (cases z.1; done) | omega) (fun z => by first | (cases z.1; done) | omega) ▸ hSt, hfE, hgE, rfl⟩ | exact ⟨part_15 (c := c) (v := v) (inner := (some G)) (by omega) ▸ hSt, hfE, hgE, rfl⟩ | exact ⟨part_21 (c := c) (v := v) (inner := (some G)) (by omega) ▸ hSt, hfE, hgE, rfl⟩
          · skip
            refine z_ald_0 (TX8_readPart_1.at 35 rfl) ?_
            refine z_iconst (TX8_readPart_1.at 36 rfl) ?_
            refine z_bipush (by decide) (TX8_readPart_1.at 37 rfl) ?_
            refine zm_callV2 (m_mustNum eg15 eg16 eg17 rfl rfl (by omega) (by omega) (st_b hSt hOK hR.1.2) (sv_pl hR hSt hOK)) (TX8_readPart_1.at 38 rfl) c8_199 rfl rfl hH hA (by omega) (Nat.le_of_ble_eq_true rfl) (fun f152 g152 j152 h q152 hH hA => ?_)
            obtain ⟨q152, xf, xg, xj⟩ := q152
            rw [xj] at hH
            have ef8 := (xf 8 (by decide)).trans ef8
            have ef9 := (xf 9 (by decide)).trans ef9
            have ef10 := (xf 10 (by decide)).trans ef10
            have hfE := hfE.trans xf (by decide)
            have eg15 := (xg 15 (by decide)).trans eg15
            have eg16 := (xg 16 (by decide)).trans eg16
            have eg17 := (xg 17 (by decide)).trans eg17
            have hgE := hgE.trans xg (by decide)
            have qL := q152
            have hSt := sv_mn hR hSt hOK qL xf
            have hOK := ok_mn (v := v) (pl := pl) (lo := 0) (hi := 7) hR.2.2 hOK
            refine z_goto (tgt := 162) (TX8_readPart_1.at 39 rfl) rfl ?_
            refine zm_vret (TX8_readPart_2.at 2 rfl) rfl hH hA ?_
            first | (exfalso; omega) | exact ⟨part_br (lw := false) (v := v) (by omega) ▸ hSt, hfE, hgE, rfl⟩ | exact ⟨part_no (lw := false) (v := v) (inner := (some G)) (by omega) (by unfold wLo wHi; simp only [reduceIte, Bool.false_eq_true]; omega) ▸ hSt, hfE, hgE, rfl⟩ | exact ⟨part_pl (lw := false) (v := v) (inner := (some G)) (by omega) (by unfold wLo wHi; simp only [reduceIte, Bool.false_eq_true]; omega) (fun z => by first | (cases z.1; done) | omega) (fun z => by first | (cases z.1; done) | omega) ▸ hSt, hfE, hgE, rfl⟩ | exact ⟨part_15 (c := c) (v := v) (inner := (some G)) (by omega) ▸ hSt, hfE, hgE, rfl⟩ | exact ⟨part_21 (c := c) (v := v) (inner := (some G)) (by omega) ▸ hSt, hfE, hgE, rfl⟩
        · skip
          refine z_ald_0 (TX8_readPart_1.at 25 rfl) ?_
          refine z_iconst (TX8_readPart_1.at 26 rfl) ?_
          refine z_bipush (by decide) (TX8_readPart_1.at 27 rfl) ?_
          refine zm_callV2 (m_mustNum eg15 eg16 eg17 rfl rfl (by omega) (by omega) (st_b hSt hOK hR.1.2) (sv_pl hR hSt hOK)) (TX8_readPart_1.at 28 rfl) c8_199 rfl rfl hH hA (by omega) (Nat.le_of_ble_eq_true rfl) (fun f132 g132 j132 h q132 hH hA => ?_)
          obtain ⟨q132, xf, xg, xj⟩ := q132
          rw [xj] at hH
          have ef8 := (xf 8 (by decide)).trans ef8
          have ef9 := (xf 9 (by decide)).trans ef9
          have ef10 := (xf 10 (by decide)).trans ef10
          have hfE := hfE.trans xf (by decide)
          have eg15 := (xg 15 (by decide)).trans eg15
          have eg16 := (xg 16 (by decide)).trans eg16
          have eg17 := (xg 17 (by decide)).trans eg17
          have hgE := hgE.trans xg (by decide)
          have qL := q132
          have hSt := sv_mn hR hSt hOK qL xf
          have hOK := ok_mn (v := v) (pl := pl) (lo := 0) (hi := 9) hR.2.2 hOK
          refine z_ald_0 (TX8_readPart_1.at 29 rfl) ?_
          refine zm_getIE ef10 (TX8_readPart_1.at 30 rfl) fl8_203 hH rfl (by decide) (fun r136 => ?_)
          refine z_if_eq (tgt := 162) (TX8_readPart_1.at 31 rfl) rfl (by omega) (fun c17 => absurd c17 (by omega)) (fun c17 => ?_)
          refine z_ild_2 (TX8_readPart_1.at 32 rfl) ?_
          refine z_bipush (by decide) (TX8_readPart_1.at 33 rfl) ?_
          refine z_icmp_ne (tgt := 162) (TX8_readPart_1.at 34 rfl) rfl (by omega) (by omega) (fun c18 => ?_) (fun c18 => ?_)
          · skip
            refine zm_vret (TX8_readPart_2.at 2 rfl) rfl hH hA ?_
            first | (exfalso; omega) | exact ⟨part_br (lw := false) (v := v) (by omega) ▸ hSt, hfE, hgE, rfl⟩ | exact ⟨part_no (lw := false) (v := v) (inner := (some G)) (by omega) (by unfold wLo wHi; simp only [reduceIte, Bool.false_eq_true]; omega) ▸ hSt, hfE, hgE, rfl⟩ | exact ⟨part_pl (lw := false) (v := v) (inner := (some G)) (by omega) (by unfold wLo wHi; simp only [reduceIte, Bool.false_eq_true]; omega) (fun z => by first | (cases z.1; done) | omega) (fun z => by first | (cases z.1; done) | omega) ▸ hSt, hfE, hgE, rfl⟩ | exact ⟨part_15 (c := c) (v := v) (inner := (some G)) (by omega) ▸ hSt, hfE, hgE, rfl⟩ | exact ⟨part_21 (c := c) (v := v) (inner := (some G)) (by omega) ▸ hSt, hfE, hgE, rfl⟩
          · skip
            refine z_ald_0 (TX8_readPart_1.at 35 rfl) ?_
            refine z_iconst (TX8_readPart_1.at 36 rfl) ?_
            refine z_bipush (by decide) (TX8_readPart_1.at 37 rfl) ?_
            refine zm_callV2 (m_mustNum eg15 eg16 eg17 rfl rfl (by omega) (by omega) (st_b hSt hOK hR.1.2) (sv_pl hR hSt hOK)) (TX8_readPart_1.at 38 rfl) c8_199 rfl rfl hH hA (by omega) (Nat.le_of_ble_eq_true rfl) (fun f152 g152 j152 h q152 hH hA => ?_)
            obtain ⟨q152, xf, xg, xj⟩ := q152
            rw [xj] at hH
            have ef8 := (xf 8 (by decide)).trans ef8
            have ef9 := (xf 9 (by decide)).trans ef9
            have ef10 := (xf 10 (by decide)).trans ef10
            have hfE := hfE.trans xf (by decide)
            have eg15 := (xg 15 (by decide)).trans eg15
            have eg16 := (xg 16 (by decide)).trans eg16
            have eg17 := (xg 17 (by decide)).trans eg17
            have hgE := hgE.trans xg (by decide)
            have qL := q152
            have hSt := sv_mn hR hSt hOK qL xf
            have hOK := ok_mn (v := v) (pl := pl) (lo := 0) (hi := 7) hR.2.2 hOK
            refine z_goto (tgt := 162) (TX8_readPart_1.at 39 rfl) rfl ?_
            refine zm_vret (TX8_readPart_2.at 2 rfl) rfl hH hA ?_
            first | (exfalso; omega) | exact ⟨part_br (lw := false) (v := v) (by omega) ▸ hSt, hfE, hgE, rfl⟩ | exact ⟨part_no (lw := false) (v := v) (inner := (some G)) (by omega) (by unfold wLo wHi; simp only [reduceIte, Bool.false_eq_true]; omega) ▸ hSt, hfE, hgE, rfl⟩ | exact ⟨part_pl (lw := false) (v := v) (inner := (some G)) (by omega) (by unfold wLo wHi; simp only [reduceIte, Bool.false_eq_true]; omega) (fun z => by first | (cases z.1; done) | omega) (fun z => by first | (cases z.1; done) | omega) ▸ hSt, hfE, hgE, rfl⟩ | exact ⟨part_15 (c := c) (v := v) (inner := (some G)) (by omega) ▸ hSt, hfE, hgE, rfl⟩ | exact ⟨part_21 (c := c) (v := v) (inner := (some G)) (by omega) ▸ hSt, hfE, hgE, rfl⟩
      · skip
        refine z_ild_2 (TX8_readPart_1.at 9 rfl) ?_
        refine z_ald_0 (TX8_readPart_1.at 10 rfl) ?_
        refine zm_getIE ef8 (TX8_readPart_1.at 11 rfl) fl8_229 hH rfl (by decide) (fun r97 => ?_)
        refine z_icmp_lt (tgt := 158) (TX8_readPart_1.at 12 rfl) rfl (by omega) (by omega) (fun c19 => ?_) (fun c19 => ?_)
        · skip
          refine z_ald_0 (TX8_readPart_2.at 0 rfl) ?_
          refine zm_callV0 (m_faults eg17 ef19 ef21 (by omega)) (TX8_readPart_2.at 1 rfl) c8_183 rfl rfl hH hA (by omega) (Nat.le_of_ble_eq_true rfl) (fun f159 g159 j159 h q159 hH hA => ?_)
          obtain ⟨q159, xf, xg, xj⟩ := q159
          rw [xj] at hH
          have ef8 := (xf 8 (by decide)).trans ef8
          have ef9 := (xf 9 (by decide)).trans ef9
          have ef10 := (xf 10 (by decide)).trans ef10
          have ef19 := (xf 19 (by decide)).trans ef19
          have ef20 := (xf 20 (by decide)).trans ef20
          have hfE := hfE.trans xf (by decide)
          have eg15 := (xg 15 (by decide)).trans eg15
          have eg16 := (xg 16 (by decide)).trans eg16
          have eg17 := (xg 17 (by decide)).trans eg17
          have hgE := hgE.trans xg (by decide)
          have qL := q159
          have hSt : St f159 (.error (pl t)) := ⟨by rw [qL, if_pos rfl, x17], by omega⟩
          have ef21 := hSt.1
          refine zm_vret (TX8_readPart_2.at 2 rfl) rfl hH hA ?_
          first | (exfalso; omega) | exact ⟨part_br (lw := false) (v := v) (by omega) ▸ hSt, hfE, hgE, rfl⟩ | exact ⟨part_no (lw := false) (v := v) (inner := (some G)) (by omega) (by unfold wLo wHi; simp only [reduceIte, Bool.false_eq_true]; omega) ▸ hSt, hfE, hgE, rfl⟩ | exact ⟨part_pl (lw := false) (v := v) (inner := (some G)) (by omega) (by unfold wLo wHi; simp only [reduceIte, Bool.false_eq_true]; omega) (fun z => by first | (cases z.1; done) | omega) (fun z => by first | (cases z.1; done) | omega) ▸ hSt, hfE, hgE, rfl⟩ | exact ⟨part_15 (c := c) (v := v) (inner := (some G)) (by omega) ▸ hSt, hfE, hgE, rfl⟩ | exact ⟨part_21 (c := c) (v := v) (inner := (some G)) (by omega) ▸ hSt, hfE, hgE, rfl⟩
        · skip
          refine z_ild_2 (TX8_readPart_1.at 13 rfl) ?_
          refine z_ald_0 (TX8_readPart_1.at 14 rfl) ?_
          refine zm_getIE ef9 (TX8_readPart_1.at 15 rfl) fl8_232 hH rfl (by decide) (fun r105 => ?_)
          refine z_icmp_gt (tgt := 158) (TX8_readPart_1.at 16 rfl) rfl (by omega) (by omega) (fun c20 => ?_) (fun c20 => ?_)
          · skip
            refine z_ald_0 (TX8_readPart_2.at 0 rfl) ?_
            refine zm_callV0 (m_faults eg17 ef19 ef21 (by omega)) (TX8_readPart_2.at 1 rfl) c8_183 rfl rfl hH hA (by omega) (Nat.le_of_ble_eq_true rfl) (fun f159 g159 j159 h q159 hH hA => ?_)
            obtain ⟨q159, xf, xg, xj⟩ := q159
            rw [xj] at hH
            have ef8 := (xf 8 (by decide)).trans ef8
            have ef9 := (xf 9 (by decide)).trans ef9
            have ef10 := (xf 10 (by decide)).trans ef10
            have ef19 := (xf 19 (by decide)).trans ef19
            have ef20 := (xf 20 (by decide)).trans ef20
            have hfE := hfE.trans xf (by decide)
            have eg15 := (xg 15 (by decide)).trans eg15
            have eg16 := (xg 16 (by decide)).trans eg16
            have eg17 := (xg 17 (by decide)).trans eg17
            have hgE := hgE.trans xg (by decide)
            have qL := q159
            have hSt : St f159 (.error (pl t)) := ⟨by rw [qL, if_pos rfl, x17], by omega⟩
            have ef21 := hSt.1
            refine zm_vret (TX8_readPart_2.at 2 rfl) rfl hH hA ?_
            first | (exfalso; omega) | exact ⟨part_br (lw := false) (v := v) (by omega) ▸ hSt, hfE, hgE, rfl⟩ | exact ⟨part_no (lw := false) (v := v) (inner := (some G)) (by omega) (by unfold wLo wHi; simp only [reduceIte, Bool.false_eq_true]; omega) ▸ hSt, hfE, hgE, rfl⟩ | exact ⟨part_pl (lw := false) (v := v) (inner := (some G)) (by omega) (by unfold wLo wHi; simp only [reduceIte, Bool.false_eq_true]; omega) (fun z => by first | (cases z.1; done) | omega) (fun z => by first | (cases z.1; done) | omega) ▸ hSt, hfE, hgE, rfl⟩ | exact ⟨part_15 (c := c) (v := v) (inner := (some G)) (by omega) ▸ hSt, hfE, hgE, rfl⟩ | exact ⟨part_21 (c := c) (v := v) (inner := (some G)) (by omega) ▸ hSt, hfE, hgE, rfl⟩
          · skip
            refine z_ald_0 (TX8_readPart_1.at 17 rfl) ?_
            refine zm_callV0 (m_leaf eg17 ef19 ef20 ef21 (by omega) (by omega) (by omega)) (TX8_readPart_1.at 18 rfl) c8_235 rfl rfl hH hA (by omega) (Nat.le_of_ble_eq_true rfl) (fun f112 g112 j112 h q112 hH hA => ?_)
            obtain ⟨q112, xf, xg, xj⟩ := q112
            rw [xj] at hH
            have ef8 := (xf 8 (by decide)).trans ef8
            have ef9 := (xf 9 (by decide)).trans ef9
            have ef10 := (xf 10 (by decide)).trans ef10
            have hfE := hfE.trans xf (by decide)
            have eg15 := (xg 15 (by decide)).trans eg15
            have eg16 := (xg 16 (by decide)).trans eg16
            have eg17 := (xg 17 (by decide)).trans eg17
            have hgE := hgE.trans xg (by decide)
            have qL := q112
            have hSt := sv_leaf hR hSt hOK (by rw [hSt.1, hSt.2.1, hSt.2.2]; exact qL)
            have hOK := ok_leaf (v := v) (pl := pl) hR hOK (show c t ≠ 0 by omega)
            refine z_ald_0 (TX8_readPart_1.at 19 rfl) ?_
            refine zm_getIE ef10 (TX8_readPart_1.at 20 rfl) fl8_203 hH rfl (by decide) (fun r116 => ?_)
            refine z_if_eq (tgt := 135) (TX8_readPart_1.at 21 rfl) rfl (by omega) (fun c21 => absurd c21 (by omega)) (fun c21 => ?_)
            refine z_ild_2 (TX8_readPart_1.at 22 rfl) ?_
            refine z_bipush (by decide) (TX8_readPart_1.at 23 rfl) ?_
            refine z_icmp_ne (tgt := 135) (TX8_readPart_1.at 24 rfl) rfl (by omega) (by omega) (fun c22 => ?_) (fun c22 => ?_)
            · skip
              refine z_ald_0 (TX8_readPart_1.at 29 rfl) ?_
              refine zm_getIE ef10 (TX8_readPart_1.at 30 rfl) fl8_203 hH rfl (by decide) (fun r136 => ?_)
              refine z_if_eq (tgt := 162) (TX8_readPart_1.at 31 rfl) rfl (by omega) (fun c23 => absurd c23 (by omega)) (fun c23 => ?_)
              refine z_ild_2 (TX8_readPart_1.at 32 rfl) ?_
              refine z_bipush (by decide) (TX8_readPart_1.at 33 rfl) ?_
              refine z_icmp_ne (tgt := 162) (TX8_readPart_1.at 34 rfl) rfl (by omega) (by omega) (fun c24 => ?_) (fun c24 => ?_)
              · skip
                refine zm_vret (TX8_readPart_2.at 2 rfl) rfl hH hA ?_
                first | (exfalso; omega) | exact ⟨part_br (lw := false) (v := v) (by omega) ▸ hSt, hfE, hgE, rfl⟩ | exact ⟨part_no (lw := false) (v := v) (inner := (some G)) (by omega) (by unfold wLo wHi; simp only [reduceIte, Bool.false_eq_true]; omega) ▸ hSt, hfE, hgE, rfl⟩ | exact ⟨part_pl (lw := false) (v := v) (inner := (some G)) (by omega) (by unfold wLo wHi; simp only [reduceIte, Bool.false_eq_true]; omega) (fun z => by first | (cases z.1; done) | omega) (fun z => by first | (cases z.1; done) | omega) ▸ hSt, hfE, hgE, rfl⟩ | exact ⟨part_15 (c := c) (v := v) (inner := (some G)) (by omega) ▸ hSt, hfE, hgE, rfl⟩ | exact ⟨part_21 (c := c) (v := v) (inner := (some G)) (by omega) ▸ hSt, hfE, hgE, rfl⟩
              · skip
                refine z_ald_0 (TX8_readPart_1.at 35 rfl) ?_
                refine z_iconst (TX8_readPart_1.at 36 rfl) ?_
                refine z_bipush (by decide) (TX8_readPart_1.at 37 rfl) ?_
                refine zm_callV2 (m_mustNum eg15 eg16 eg17 rfl rfl (by omega) (by omega) (st_b hSt hOK hR.1.2) (sv_pl hR hSt hOK)) (TX8_readPart_1.at 38 rfl) c8_199 rfl rfl hH hA (by omega) (Nat.le_of_ble_eq_true rfl) (fun f152 g152 j152 h q152 hH hA => ?_)
                obtain ⟨q152, xf, xg, xj⟩ := q152
                rw [xj] at hH
                have ef8 := (xf 8 (by decide)).trans ef8
                have ef9 := (xf 9 (by decide)).trans ef9
                have ef10 := (xf 10 (by decide)).trans ef10
                have hfE := hfE.trans xf (by decide)
                have eg15 := (xg 15 (by decide)).trans eg15
                have eg16 := (xg 16 (by decide)).trans eg16
                have eg17 := (xg 17 (by decide)).trans eg17
                have hgE := hgE.trans xg (by decide)
                have qL := q152
                have hSt := sv_mn hR hSt hOK qL xf
                have hOK := ok_mn (v := v) (pl := pl) (lo := 0) (hi := 7) hR.2.2 hOK
                refine z_goto (tgt := 162) (TX8_readPart_1.at 39 rfl) rfl ?_
                refine zm_vret (TX8_readPart_2.at 2 rfl) rfl hH hA ?_
                first | (exfalso; omega) | exact ⟨part_br (lw := false) (v := v) (by omega) ▸ hSt, hfE, hgE, rfl⟩ | exact ⟨part_no (lw := false) (v := v) (inner := (some G)) (by omega) (by unfold wLo wHi; simp only [reduceIte, Bool.false_eq_true]; omega) ▸ hSt, hfE, hgE, rfl⟩ | exact ⟨part_pl (lw := false) (v := v) (inner := (some G)) (by omega) (by unfold wLo wHi; simp only [reduceIte, Bool.false_eq_true]; omega) (fun z => by first | (cases z.1; done) | omega) (fun z => by first | (cases z.1; done) | omega) ▸ hSt, hfE, hgE, rfl⟩ | exact ⟨part_15 (c := c) (v := v) (inner := (some G)) (by omega) ▸ hSt, hfE, hgE, rfl⟩ | exact ⟨part_21 (c := c) (v := v) (inner := (some G)) (by omega) ▸ hSt, hfE, hgE, rfl⟩
            · skip
              refine z_ald_0 (TX8_readPart_1.at 25 rfl) ?_
              refine z_iconst (TX8_readPart_1.at 26 rfl) ?_
              refine z_bipush (by decide) (TX8_readPart_1.at 27 rfl) ?_
              refine zm_callV2 (m_mustNum eg15 eg16 eg17 rfl rfl (by omega) (by omega) (st_b hSt hOK hR.1.2) (sv_pl hR hSt hOK)) (TX8_readPart_1.at 28 rfl) c8_199 rfl rfl hH hA (by omega) (Nat.le_of_ble_eq_true rfl) (fun f132 g132 j132 h q132 hH hA => ?_)
              obtain ⟨q132, xf, xg, xj⟩ := q132
              rw [xj] at hH
              have ef8 := (xf 8 (by decide)).trans ef8
              have ef9 := (xf 9 (by decide)).trans ef9
              have ef10 := (xf 10 (by decide)).trans ef10
              have hfE := hfE.trans xf (by decide)
              have eg15 := (xg 15 (by decide)).trans eg15
              have eg16 := (xg 16 (by decide)).trans eg16
              have eg17 := (xg 17 (by decide)).trans eg17
              have hgE := hgE.trans xg (by decide)
              have qL := q132
              have hSt := sv_mn hR hSt hOK qL xf
              have hOK := ok_mn (v := v) (pl := pl) (lo := 0) (hi := 9) hR.2.2 hOK
              refine z_ald_0 (TX8_readPart_1.at 29 rfl) ?_
              refine zm_getIE ef10 (TX8_readPart_1.at 30 rfl) fl8_203 hH rfl (by decide) (fun r136 => ?_)
              refine z_if_eq (tgt := 162) (TX8_readPart_1.at 31 rfl) rfl (by omega) (fun c25 => absurd c25 (by omega)) (fun c25 => ?_)
              refine z_ild_2 (TX8_readPart_1.at 32 rfl) ?_
              refine z_bipush (by decide) (TX8_readPart_1.at 33 rfl) ?_
              refine z_icmp_ne (tgt := 162) (TX8_readPart_1.at 34 rfl) rfl (by omega) (by omega) (fun c26 => ?_) (fun c26 => ?_)
              · skip
                refine zm_vret (TX8_readPart_2.at 2 rfl) rfl hH hA ?_
                first | (exfalso; omega) | exact ⟨part_br (lw := false) (v := v) (by omega) ▸ hSt, hfE, hgE, rfl⟩ | exact ⟨part_no (lw := false) (v := v) (inner := (some G)) (by omega) (by unfold wLo wHi; simp only [reduceIte, Bool.false_eq_true]; omega) ▸ hSt, hfE, hgE, rfl⟩ | exact ⟨part_pl (lw := false) (v := v) (inner := (some G)) (by omega) (by unfold wLo wHi; simp only [reduceIte, Bool.false_eq_true]; omega) (fun z => by first | (cases z.1; done) | omega) (fun z => by first | (cases z.1; done) | omega) ▸ hSt, hfE, hgE, rfl⟩ | exact ⟨part_15 (c := c) (v := v) (inner := (some G)) (by omega) ▸ hSt, hfE, hgE, rfl⟩ | exact ⟨part_21 (c := c) (v := v) (inner := (some G)) (by omega) ▸ hSt, hfE, hgE, rfl⟩
              · skip
                refine z_ald_0 (TX8_readPart_1.at 35 rfl) ?_
                refine z_iconst (TX8_readPart_1.at 36 rfl) ?_
                refine z_bipush (by decide) (TX8_readPart_1.at 37 rfl) ?_
                refine zm_callV2 (m_mustNum eg15 eg16 eg17 rfl rfl (by omega) (by omega) (st_b hSt hOK hR.1.2) (sv_pl hR hSt hOK)) (TX8_readPart_1.at 38 rfl) c8_199 rfl rfl hH hA (by omega) (Nat.le_of_ble_eq_true rfl) (fun f152 g152 j152 h q152 hH hA => ?_)
                obtain ⟨q152, xf, xg, xj⟩ := q152
                rw [xj] at hH
                have ef8 := (xf 8 (by decide)).trans ef8
                have ef9 := (xf 9 (by decide)).trans ef9
                have ef10 := (xf 10 (by decide)).trans ef10
                have hfE := hfE.trans xf (by decide)
                have eg15 := (xg 15 (by decide)).trans eg15
                have eg16 := (xg 16 (by decide)).trans eg16
                have eg17 := (xg 17 (by decide)).trans eg17
                have hgE := hgE.trans xg (by decide)
                have qL := q152
                have hSt := sv_mn hR hSt hOK qL xf
                have hOK := ok_mn (v := v) (pl := pl) (lo := 0) (hi := 7) hR.2.2 hOK
                refine z_goto (tgt := 162) (TX8_readPart_1.at 39 rfl) rfl ?_
                refine zm_vret (TX8_readPart_2.at 2 rfl) rfl hH hA ?_
                first | (exfalso; omega) | exact ⟨part_br (lw := false) (v := v) (by omega) ▸ hSt, hfE, hgE, rfl⟩ | exact ⟨part_no (lw := false) (v := v) (inner := (some G)) (by omega) (by unfold wLo wHi; simp only [reduceIte, Bool.false_eq_true]; omega) ▸ hSt, hfE, hgE, rfl⟩ | exact ⟨part_pl (lw := false) (v := v) (inner := (some G)) (by omega) (by unfold wLo wHi; simp only [reduceIte, Bool.false_eq_true]; omega) (fun z => by first | (cases z.1; done) | omega) (fun z => by first | (cases z.1; done) | omega) ▸ hSt, hfE, hgE, rfl⟩ | exact ⟨part_15 (c := c) (v := v) (inner := (some G)) (by omega) ▸ hSt, hfE, hgE, rfl⟩ | exact ⟨part_21 (c := c) (v := v) (inner := (some G)) (by omega) ▸ hSt, hfE, hgE, rfl⟩
  · skip
    refine z_ild_1 (TX8_readPart_0.at 14 rfl) ?_
    refine z_bipush (by decide) (TX8_readPart_0.at 15 rfl) ?_
    refine z_icmp_ne (tgt := 37) (TX8_readPart_0.at 16 rfl) rfl (by omega) (by omega) (fun c27 => ?_) (fun c27 => absurd c27 (by omega))
    refine z_ald_0 (TX8_readPart_0.at 19 rfl) ?_
    refine zm_callI0 (m_fine ef21) (TX8_readPart_0.at 20 rfl) c8_173 rfl rfl hH hA (by omega) (Nat.le_of_ble_eq_true rfl) (fun x38 f38 g38 j38 h r38 q38 hH hA => ?_)
    obtain ⟨q38, xf, xg, xj⟩ := q38
    rw [xj] at hH
    have ef8 := (xf 8 (by decide)).trans ef8
    have ef9 := (xf 9 (by decide)).trans ef9
    have ef10 := (xf 10 (by decide)).trans ef10
    have ef19 := (xf 19 (by decide)).trans ef19
    have ef20 := (xf 20 (by decide)).trans ef20
    have ef21 := (xf 21 (by decide)).trans ef21
    have hfE := hfE.trans xf (by decide)
    have eg15 := (xg 15 (by decide)).trans eg15
    have eg16 := (xg 16 (by decide)).trans eg16
    have eg17 := (xg 17 (by decide)).trans eg17
    have hgE := hgE.trans xg (by decide)
    have qL := q38
    obtain rfl := qL
    have hSt := St_tr hSt xf
    refine z_if_neB (tgt := 45) (TX8_readPart_0.at 21 rfl) rfl (fun c28 => ?_) (fun c28 => absurd c28 (by omega))
    refine z_ald_0 (TX8_readPart_0.at 23 rfl) ?_
    refine z_dup rfl (TX8_readPart_0.at 24 rfl) ?_
    refine zm_getIE ef19 (TX8_readPart_0.at 25 rfl) fl8_177 hH rfl (by decide) (fun r47 => ?_)
    refine z_iconst (TX8_readPart_0.at 26 rfl) ?_
    refine z_iadd (TX8_readPart_0.at 27 rfl) ?_
    refine zm_putIE (TX8_readPart_0.at 28 rfl) fp8_177 hH hA rfl (by decide) (by first | omega | exact b2i_01 _) (fun h f52 e1 e2 hH hA => ?_)
    have ef8 := (e1 8 (by decide)).trans ef8
    have ef9 := (e1 9 (by decide)).trans ef9
    have ef10 := (e1 10 (by decide)).trans ef10
    have ef19 := e2
    have ef20 := (e1 20 (by decide)).trans ef20
    have ef21 := (e1 21 (by decide)).trans ef21
    have hfE := hfE.put e1 (by decide)
    have hSt : St f52 (.ok (t + 1, p)) := ⟨ef19, ef20, ef21⟩
    have hOK := ok_nx hR hOK (show c t ≠ 0 by omega) pp5
    refine z_ald_0 (TX8_readPart_0.at 29 rfl) ?_
    refine z_ild_1 (TX8_readPart_0.at 30 rfl) ?_
    refine z_iconst (TX8_readPart_0.at 31 rfl) ?_
    refine z_iadd (TX8_readPart_0.at 32 rfl) ?_
    refine zm_callV1 (hI _ _ _ _ eg15 eg16 eg17 ef8 ef9 ef10 hSt hOK) (TX8_readPart_0.at 33 rfl) c8_189 rfl rfl hH hA (by omega) (Nat.le_of_ble_eq_true rfl) (fun f59 g59 j59 h q59 hH hA => ?_)
    obtain ⟨q59, xf, xg, xj⟩ := q59
    rw [xj] at hH
    have ef8 := (xf 8 (by decide)).trans ef8
    have ef9 := (xf 9 (by decide)).trans ef9
    have ef10 := (xf 10 (by decide)).trans ef10
    have hfE := hfE.trans xf (by decide)
    have eg15 := (xg 15 (by decide)).trans eg15
    have eg16 := (xg 16 (by decide)).trans eg16
    have eg17 := (xg 17 (by decide)).trans eg17
    have hgE := hgE.trans xg (by decide)
    have qL := q59
    have hSt := qL
    have hOK := ok_bd (pl := pl) hR.2.2 hOK ha hp
    refine z_ald_0 (TX8_readPart_0.at 34 rfl) ?_
    refine z_bipush (by decide) (TX8_readPart_0.at 35 rfl) ?_
    refine zs_call1 (s_sign (by omega)) (TX8_readPart_0.at 36 rfl) c8_219 rfl (by omega) (Nat.le_of_ble_eq_true rfl) (fun r65 => ?_)
    simp only [Int.reduceAdd] at r65 ⊢
    refine zm_callV1 (m_must eg15 eg17 rfl rfl (by omega) (st_b hSt hOK hR.1.2)) (TX8_readPart_0.at 37 rfl) c8_193 rfl rfl hH hA (by omega) (Nat.le_of_ble_eq_true rfl) (fun f68 g68 j68 h q68 hH hA => ?_)
    obtain ⟨q68, xf, xg, xj⟩ := q68
    rw [xj] at hH
    have ef8 := (xf 8 (by decide)).trans ef8
    have ef9 := (xf 9 (by decide)).trans ef9
    have ef10 := (xf 10 (by decide)).trans ef10
    have hfE := hfE.trans xf (by decide)
    have eg15 := (xg 15 (by decide)).trans eg15
    have eg16 := (xg 16 (by decide)).trans eg16
    have eg17 := (xg 17 (by decide)).trans eg17
    have hgE := hgE.trans xg (by decide)
    have qL := q68
    have hSt := sv_must hR hSt hOK qL xf
    have hOK := ok_ms (pl := pl) (x := 193) hR.2.2 hOK (by decide)
    refine z_goto (tgt := 162) (TX8_readPart_0.at 38 rfl) rfl ?_
    refine zm_vret (TX8_readPart_2.at 2 rfl) rfl hH hA ?_
    first | (exfalso; omega) | exact ⟨part_br (lw := false) (v := v) (by omega) ▸ hSt, hfE, hgE, rfl⟩ | exact ⟨part_no (lw := false) (v := v) (inner := (some G)) (by omega) (by unfold wLo wHi; simp only [reduceIte, Bool.false_eq_true]; omega) ▸ hSt, hfE, hgE, rfl⟩ | exact ⟨part_pl (lw := false) (v := v) (inner := (some G)) (by omega) (by unfold wLo wHi; simp only [reduceIte, Bool.false_eq_true]; omega) (fun z => by first | (cases z.1; done) | omega) (fun z => by first | (cases z.1; done) | omega) ▸ hSt, hfE, hgE, rfl⟩ | exact ⟨part_15 (c := c) (v := v) (inner := (some G)) (by omega) ▸ hSt, hfE, hgE, rfl⟩ | exact ⟨part_21 (c := c) (v := v) (inner := (some G)) (by omega) ▸ hSt, hfE, hgE, rfl⟩

set_option maxHeartbeats 4000000 in
set_option maxRecDepth 100000 in
theorem readPart_f0 {l : Launch} {o : Nat} {ar : Nat → Nat} {f : mF} {g j : mA} {N : Int} {c v pl X15 X16 X17 : Int → Int} {w8 w9 io : Int} (hR : RdH N c v pl X15 X16 X17) {dp : Int} {t p : Nat} (hdp : dp = 8) (e8 : w8 = 15) (e9 : w9 = 21) (e10 : io = 1) (eg15 : g 15 = X15) (eg16 : g 16 = X16) (eg17 : g 17 = X17) (ef8 : f 8 = w8) (ef9 : f 9 = w9) (ef10 : f 10 = io) (hSt : St f (.ok (t, p))) (hOK : SOK N (.ok (t, p))) : MM l o ar MX8_readPart 4 [.ref o, vI dp] f g j (PV (fun f' g' j' => St f' (cvR pl (pPart false c v none t p)) ∧ eqx [19, 20, 21] f f' ∧ eqx [] g g' ∧ j' = j)) := by
  refine MM.intro [some (.ref o), some (vI dp), none] (by decide) (Nat.le_of_ble_eq_true rfl) rfl (fun d hd h0 h hH hA => ?_)
  have hfE : eqx [19, 20, 21] f f := eqx.rf
  have hgE : eqx [] g g := eqx.rf
  obtain ⟨tt0, ttN, tt4, x15, x16, x17, x0, pp5⟩ := bt_pl hR hOK
  have ef19 : f 19 = (t : Int) := hSt.1
  have ef20 : f 20 = (p : Int) := hSt.2.1
  have ef21 : f 21 = -1 := hSt.2.2
  refine z_ald_0 (TX8_readPart_0.at 0 rfl) ?_
  refine zm_callI0 (m_fine ef21) (TX8_readPart_0.at 1 rfl) c8_173 rfl rfl hH hA (by omega) (Nat.le_of_ble_eq_true rfl) (fun x1 f1 g1 j1 h r1 q1 hH hA => ?_)
  obtain ⟨q1, xf, xg, xj⟩ := q1
  rw [xj] at hH
  have ef8 := (xf 8 (by decide)).trans ef8
  have ef9 := (xf 9 (by decide)).trans ef9
  have ef10 := (xf 10 (by decide)).trans ef10
  have ef19 := (xf 19 (by decide)).trans ef19
  have ef20 := (xf 20 (by decide)).trans ef20
  have ef21 := (xf 21 (by decide)).trans ef21
  have hfE := hfE.trans xf (by decide)
  have eg15 := (xg 15 (by decide)).trans eg15
  have eg16 := (xg 16 (by decide)).trans eg16
  have eg17 := (xg 17 (by decide)).trans eg17
  have hgE := hgE.trans xg (by decide)
  have qL := q1
  obtain rfl := qL
  have hSt := St_tr hSt xf
  refine z_if_neB (tgt := 8) (TX8_readPart_0.at 2 rfl) rfl (fun c1 => ?_) (fun c1 => absurd c1 (by omega))
  refine z_ald_0 (TX8_readPart_0.at 4 rfl) ?_
  refine zm_getA (TX8_readPart_0.at 5 rfl) fl8_54 hH (by decide) (by decide) ?_
  refine z_ald_0 (TX8_readPart_0.at 6 rfl) ?_
  refine zm_getIE ef19 (TX8_readPart_0.at 7 rfl) fl8_177 hH rfl (by decide) (fun r13 => ?_)
  refine zm_ialdE eg15 (TX8_readPart_0.at 8 rfl) hH rfl (by omega) (show _ < ((401 : Nat) : Int) by omega) (fun r16 => ?_)
  refine z_ist_2 (TX8_readPart_0.at 9 rfl) (Nat.le_of_ble_eq_true rfl) rfl ?_
  rw [x15] at r16 ⊢
  refine z_ild_2 (TX8_readPart_0.at 10 rfl) ?_
  refine z_bipush (by decide) (TX8_readPart_0.at 11 rfl) ?_
  refine zs_call1 (s_sign (by omega)) (TX8_readPart_0.at 12 rfl) c8_219 rfl (by omega) (Nat.le_of_ble_eq_true rfl) (fun r21 => ?_)
  simp only [Int.reduceAdd] at r21 ⊢
  refine z_icmp_ne (tgt := 74) (TX8_readPart_0.at 13 rfl) rfl (by omega) (by omega) (fun c2 => ?_) (fun c2 => ?_)
  · skip
    refine z_ild_2 (TX8_readPart_0.at 39 rfl) ?_
    refine z_bipush (by decide) (TX8_readPart_1.at 0 rfl) ?_
    refine z_icmp_ne (tgt := 95) (TX8_readPart_1.at 1 rfl) rfl (by omega) (by omega) (fun c3 => ?_) (fun c3 => ?_)
    · skip
      refine z_ild_2 (TX8_readPart_1.at 9 rfl) ?_
      refine z_ald_0 (TX8_readPart_1.at 10 rfl) ?_
      refine zm_getIE ef8 (TX8_readPart_1.at 11 rfl) fl8_229 hH rfl (by decide) (fun r97 => ?_)
      refine z_icmp_lt (tgt := 158) (TX8_readPart_1.at 12 rfl) rfl (by omega) (by omega) (fun c4 => ?_) (fun c4 => ?_)
      · skip
        refine z_ald_0 (TX8_readPart_2.at 0 rfl) ?_
        refine zm_callV0 (m_faults eg17 ef19 ef21 (by omega)) (TX8_readPart_2.at 1 rfl) c8_183 rfl rfl hH hA (by omega) (Nat.le_of_ble_eq_true rfl) (fun f159 g159 j159 h q159 hH hA => ?_)
        obtain ⟨q159, xf, xg, xj⟩ := q159
        rw [xj] at hH
        have ef8 := (xf 8 (by decide)).trans ef8
        have ef9 := (xf 9 (by decide)).trans ef9
        have ef10 := (xf 10 (by decide)).trans ef10
        have ef19 := (xf 19 (by decide)).trans ef19
        have ef20 := (xf 20 (by decide)).trans ef20
        have hfE := hfE.trans xf (by decide)
        have eg15 := (xg 15 (by decide)).trans eg15
        have eg16 := (xg 16 (by decide)).trans eg16
        have eg17 := (xg 17 (by decide)).trans eg17
        have hgE := hgE.trans xg (by decide)
        have qL := q159
        have hSt : St f159 (.error (pl t)) := ⟨by rw [qL, if_pos rfl, x17], by omega⟩
        have ef21 := hSt.1
        refine zm_vret (TX8_readPart_2.at 2 rfl) rfl hH hA ?_
        first | (exfalso; omega) | exact ⟨part_no (lw := false) (v := v) (inner := none) (by omega) (by unfold wLo wHi; simp only [reduceIte, Bool.false_eq_true]; omega) ▸ hSt, hfE, hgE, rfl⟩ | exact ⟨part_pl (lw := false) (v := v) (inner := none) (by omega) (by unfold wLo wHi; simp only [reduceIte, Bool.false_eq_true]; omega) (fun z => by first | (cases z.1; done) | omega) (fun z => by first | (cases z.1; done) | omega) ▸ hSt, hfE, hgE, rfl⟩ | exact ⟨part_15 (c := c) (v := v) (inner := none) (by omega) ▸ hSt, hfE, hgE, rfl⟩ | exact ⟨part_21 (c := c) (v := v) (inner := none) (by omega) ▸ hSt, hfE, hgE, rfl⟩
      · skip
        refine z_ild_2 (TX8_readPart_1.at 13 rfl) ?_
        refine z_ald_0 (TX8_readPart_1.at 14 rfl) ?_
        refine zm_getIE ef9 (TX8_readPart_1.at 15 rfl) fl8_232 hH rfl (by decide) (fun r105 => ?_)
        refine z_icmp_gt (tgt := 158) (TX8_readPart_1.at 16 rfl) rfl (by omega) (by omega) (fun c5 => ?_) (fun c5 => ?_)
        · skip
          refine z_ald_0 (TX8_readPart_2.at 0 rfl) ?_
          refine zm_callV0 (m_faults eg17 ef19 ef21 (by omega)) (TX8_readPart_2.at 1 rfl) c8_183 rfl rfl hH hA (by omega) (Nat.le_of_ble_eq_true rfl) (fun f159 g159 j159 h q159 hH hA => ?_)
          obtain ⟨q159, xf, xg, xj⟩ := q159
          rw [xj] at hH
          have ef8 := (xf 8 (by decide)).trans ef8
          have ef9 := (xf 9 (by decide)).trans ef9
          have ef10 := (xf 10 (by decide)).trans ef10
          have ef19 := (xf 19 (by decide)).trans ef19
          have ef20 := (xf 20 (by decide)).trans ef20
          have hfE := hfE.trans xf (by decide)
          have eg15 := (xg 15 (by decide)).trans eg15
          have eg16 := (xg 16 (by decide)).trans eg16
          have eg17 := (xg 17 (by decide)).trans eg17
          have hgE := hgE.trans xg (by decide)
          have qL := q159
          have hSt : St f159 (.error (pl t)) := ⟨by rw [qL, if_pos rfl, x17], by omega⟩
          have ef21 := hSt.1
          refine zm_vret (TX8_readPart_2.at 2 rfl) rfl hH hA ?_
          first | (exfalso; omega) | exact ⟨part_no (lw := false) (v := v) (inner := none) (by omega) (by unfold wLo wHi; simp only [reduceIte, Bool.false_eq_true]; omega) ▸ hSt, hfE, hgE, rfl⟩ | exact ⟨part_pl (lw := false) (v := v) (inner := none) (by omega) (by unfold wLo wHi; simp only [reduceIte, Bool.false_eq_true]; omega) (fun z => by first | (cases z.1; done) | omega) (fun z => by first | (cases z.1; done) | omega) ▸ hSt, hfE, hgE, rfl⟩ | exact ⟨part_15 (c := c) (v := v) (inner := none) (by omega) ▸ hSt, hfE, hgE, rfl⟩ | exact ⟨part_21 (c := c) (v := v) (inner := none) (by omega) ▸ hSt, hfE, hgE, rfl⟩
        · skip
          refine z_ald_0 (TX8_readPart_1.at 17 rfl) ?_
          refine zm_callV0 (m_leaf eg17 ef19 ef20 ef21 (by omega) (by omega) (by omega)) (TX8_readPart_1.at 18 rfl) c8_235 rfl rfl hH hA (by omega) (Nat.le_of_ble_eq_true rfl) (fun f112 g112 j112 h q112 hH hA => ?_)
          obtain ⟨q112, xf, xg, xj⟩ := q112
          rw [xj] at hH
          have ef8 := (xf 8 (by decide)).trans ef8
          have ef9 := (xf 9 (by decide)).trans ef9
          have ef10 := (xf 10 (by decide)).trans ef10
          have hfE := hfE.trans xf (by decide)
          have eg15 := (xg 15 (by decide)).trans eg15
          have eg16 := (xg 16 (by decide)).trans eg16
          have eg17 := (xg 17 (by decide)).trans eg17
          have hgE := hgE.trans xg (by decide)
          have qL := q112
          have hSt := sv_leaf hR hSt hOK (by rw [hSt.1, hSt.2.1, hSt.2.2]; exact qL)
          have hOK := ok_leaf (v := v) (pl := pl) hR hOK (show c t ≠ 0 by omega)
          refine z_ald_0 (TX8_readPart_1.at 19 rfl) ?_
          refine zm_getIE ef10 (TX8_readPart_1.at 20 rfl) fl8_203 hH rfl (by decide) (fun r116 => ?_)
          refine z_if_eq (tgt := 135) (TX8_readPart_1.at 21 rfl) rfl (by omega) (fun c6 => absurd c6 (by omega)) (fun c6 => ?_)
          refine z_ild_2 (TX8_readPart_1.at 22 rfl) ?_
          refine z_bipush (by decide) (TX8_readPart_1.at 23 rfl) ?_
          refine z_icmp_ne (tgt := 135) (TX8_readPart_1.at 24 rfl) rfl (by omega) (by omega) (fun c7 => ?_) (fun c7 => ?_)
          · skip
            refine z_ald_0 (TX8_readPart_1.at 29 rfl) ?_
            refine zm_getIE ef10 (TX8_readPart_1.at 30 rfl) fl8_203 hH rfl (by decide) (fun r136 => ?_)
            refine z_if_eq (tgt := 162) (TX8_readPart_1.at 31 rfl) rfl (by omega) (fun c8 => absurd c8 (by omega)) (fun c8 => ?_)
            refine z_ild_2 (TX8_readPart_1.at 32 rfl) ?_
            refine z_bipush (by decide) (TX8_readPart_1.at 33 rfl) ?_
            refine z_icmp_ne (tgt := 162) (TX8_readPart_1.at 34 rfl) rfl (by omega) (by omega) (fun c9 => ?_) (fun c9 => ?_)
            · skip
              refine zm_vret (TX8_readPart_2.at 2 rfl) rfl hH hA ?_
              first | (exfalso; omega) | exact ⟨part_no (lw := false) (v := v) (inner := none) (by omega) (by unfold wLo wHi; simp only [reduceIte, Bool.false_eq_true]; omega) ▸ hSt, hfE, hgE, rfl⟩ | exact ⟨part_pl (lw := false) (v := v) (inner := none) (by omega) (by unfold wLo wHi; simp only [reduceIte, Bool.false_eq_true]; omega) (fun z => by first | (cases z.1; done) | omega) (fun z => by first | (cases z.1; done) | omega) ▸ hSt, hfE, hgE, rfl⟩ | exact ⟨part_15 (c := c) (v := v) (inner := none) (by omega) ▸ hSt, hfE, hgE, rfl⟩ | exact ⟨part_21 (c := c) (v := v) (inner := none) (by omega) ▸ hSt, hfE, hgE, rfl⟩
            · skip
              refine z_ald_0 (TX8_readPart_1.at 35 rfl) ?_
              refine z_iconst (TX8_readPart_1.at 36 rfl) ?_
              refine z_bipush (by decide) (TX8_readPart_1.at 37 rfl) ?_
              refine zm_callV2 (m_mustNum eg15 eg16 eg17 rfl rfl (by omega) (by omega) (st_b hSt hOK hR.1.2) (sv_pl hR hSt hOK)) (TX8_readPart_1.at 38 rfl) c8_199 rfl rfl hH hA (by omega) (Nat.le_of_ble_eq_true rfl) (fun f152 g152 j152 h q152 hH hA => ?_)
              obtain ⟨q152, xf, xg, xj⟩ := q152
              rw [xj] at hH
              have ef8 := (xf 8 (by decide)).trans ef8
              have ef9 := (xf 9 (by decide)).trans ef9
              have ef10 := (xf 10 (by decide)).trans ef10
              have hfE := hfE.trans xf (by decide)
              have eg15 := (xg 15 (by decide)).trans eg15
              have eg16 := (xg 16 (by decide)).trans eg16
              have eg17 := (xg 17 (by decide)).trans eg17
              have hgE := hgE.trans xg (by decide)
              have qL := q152
              have hSt := sv_mn hR hSt hOK qL xf
              have hOK := ok_mn (v := v) (pl := pl) (lo := 0) (hi := 7) hR.2.2 hOK
              refine z_goto (tgt := 162) (TX8_readPart_1.at 39 rfl) rfl ?_
              refine zm_vret (TX8_readPart_2.at 2 rfl) rfl hH hA ?_
              first | (exfalso; omega) | exact ⟨part_no (lw := false) (v := v) (inner := none) (by omega) (by unfold wLo wHi; simp only [reduceIte, Bool.false_eq_true]; omega) ▸ hSt, hfE, hgE, rfl⟩ | exact ⟨part_pl (lw := false) (v := v) (inner := none) (by omega) (by unfold wLo wHi; simp only [reduceIte, Bool.false_eq_true]; omega) (fun z => by first | (cases z.1; done) | omega) (fun z => by first | (cases z.1; done) | omega) ▸ hSt, hfE, hgE, rfl⟩ | exact ⟨part_15 (c := c) (v := v) (inner := none) (by omega) ▸ hSt, hfE, hgE, rfl⟩ | exact ⟨part_21 (c := c) (v := v) (inner := none) (by omega) ▸ hSt, hfE, hgE, rfl⟩
          · skip
            refine z_ald_0 (TX8_readPart_1.at 25 rfl) ?_
            refine z_iconst (TX8_readPart_1.at 26 rfl) ?_
            refine z_bipush (by decide) (TX8_readPart_1.at 27 rfl) ?_
            refine zm_callV2 (m_mustNum eg15 eg16 eg17 rfl rfl (by omega) (by omega) (st_b hSt hOK hR.1.2) (sv_pl hR hSt hOK)) (TX8_readPart_1.at 28 rfl) c8_199 rfl rfl hH hA (by omega) (Nat.le_of_ble_eq_true rfl) (fun f132 g132 j132 h q132 hH hA => ?_)
            obtain ⟨q132, xf, xg, xj⟩ := q132
            rw [xj] at hH
            have ef8 := (xf 8 (by decide)).trans ef8
            have ef9 := (xf 9 (by decide)).trans ef9
            have ef10 := (xf 10 (by decide)).trans ef10
            have hfE := hfE.trans xf (by decide)
            have eg15 := (xg 15 (by decide)).trans eg15
            have eg16 := (xg 16 (by decide)).trans eg16
            have eg17 := (xg 17 (by decide)).trans eg17
            have hgE := hgE.trans xg (by decide)
            have qL := q132
            have hSt := sv_mn hR hSt hOK qL xf
            have hOK := ok_mn (v := v) (pl := pl) (lo := 0) (hi := 9) hR.2.2 hOK
            refine z_ald_0 (TX8_readPart_1.at 29 rfl) ?_
            refine zm_getIE ef10 (TX8_readPart_1.at 30 rfl) fl8_203 hH rfl (by decide) (fun r136 => ?_)
            refine z_if_eq (tgt := 162) (TX8_readPart_1.at 31 rfl) rfl (by omega) (fun c10 => absurd c10 (by omega)) (fun c10 => ?_)
            refine z_ild_2 (TX8_readPart_1.at 32 rfl) ?_
            refine z_bipush (by decide) (TX8_readPart_1.at 33 rfl) ?_
            refine z_icmp_ne (tgt := 162) (TX8_readPart_1.at 34 rfl) rfl (by omega) (by omega) (fun c11 => ?_) (fun c11 => ?_)
            · skip
              refine zm_vret (TX8_readPart_2.at 2 rfl) rfl hH hA ?_
              first | (exfalso; omega) | exact ⟨part_no (lw := false) (v := v) (inner := none) (by omega) (by unfold wLo wHi; simp only [reduceIte, Bool.false_eq_true]; omega) ▸ hSt, hfE, hgE, rfl⟩ | exact ⟨part_pl (lw := false) (v := v) (inner := none) (by omega) (by unfold wLo wHi; simp only [reduceIte, Bool.false_eq_true]; omega) (fun z => by first | (cases z.1; done) | omega) (fun z => by first | (cases z.1; done) | omega) ▸ hSt, hfE, hgE, rfl⟩ | exact ⟨part_15 (c := c) (v := v) (inner := none) (by omega) ▸ hSt, hfE, hgE, rfl⟩ | exact ⟨part_21 (c := c) (v := v) (inner := none) (by omega) ▸ hSt, hfE, hgE, rfl⟩
            · skip
              refine z_ald_0 (TX8_readPart_1.at 35 rfl) ?_
              refine z_iconst (TX8_readPart_1.at 36 rfl) ?_
              refine z_bipush (by decide) (TX8_readPart_1.at 37 rfl) ?_
              refine zm_callV2 (m_mustNum eg15 eg16 eg17 rfl rfl (by omega) (by omega) (st_b hSt hOK hR.1.2) (sv_pl hR hSt hOK)) (TX8_readPart_1.at 38 rfl) c8_199 rfl rfl hH hA (by omega) (Nat.le_of_ble_eq_true rfl) (fun f152 g152 j152 h q152 hH hA => ?_)
              obtain ⟨q152, xf, xg, xj⟩ := q152
              rw [xj] at hH
              have ef8 := (xf 8 (by decide)).trans ef8
              have ef9 := (xf 9 (by decide)).trans ef9
              have ef10 := (xf 10 (by decide)).trans ef10
              have hfE := hfE.trans xf (by decide)
              have eg15 := (xg 15 (by decide)).trans eg15
              have eg16 := (xg 16 (by decide)).trans eg16
              have eg17 := (xg 17 (by decide)).trans eg17
              have hgE := hgE.trans xg (by decide)
              have qL := q152
              have hSt := sv_mn hR hSt hOK qL xf
              have hOK := ok_mn (v := v) (pl := pl) (lo := 0) (hi := 7) hR.2.2 hOK
              refine z_goto (tgt := 162) (TX8_readPart_1.at 39 rfl) rfl ?_
              refine zm_vret (TX8_readPart_2.at 2 rfl) rfl hH hA ?_
              first | (exfalso; omega) | exact ⟨part_no (lw := false) (v := v) (inner := none) (by omega) (by unfold wLo wHi; simp only [reduceIte, Bool.false_eq_true]; omega) ▸ hSt, hfE, hgE, rfl⟩ | exact ⟨part_pl (lw := false) (v := v) (inner := none) (by omega) (by unfold wLo wHi; simp only [reduceIte, Bool.false_eq_true]; omega) (fun z => by first | (cases z.1; done) | omega) (fun z => by first | (cases z.1; done) | omega) ▸ hSt, hfE, hgE, rfl⟩ | exact ⟨part_15 (c := c) (v := v) (inner := none) (by omega) ▸ hSt, hfE, hgE, rfl⟩ | exact ⟨part_21 (c := c) (v := v) (inner := none) (by omega) ▸ hSt, hfE, hgE, rfl⟩
    · skip
      refine z_ald_0 (TX8_readPart_1.at 2 rfl) ?_
      refine zm_getA (TX8_readPart_1.at 3 rfl) fl8_57 hH (by decide) (by decide) ?_
      refine z_ald_0 (TX8_readPart_1.at 4 rfl) ?_
      refine zm_getIE ef19 (TX8_readPart_1.at 5 rfl) fl8_177 hH rfl (by decide) (fun r85 => ?_)
      refine zm_ialdE eg16 (TX8_readPart_1.at 6 rfl) hH rfl (by omega) (show _ < ((401 : Nat) : Int) by omega) (fun r88 => ?_)
      rw [x16] at r88 ⊢
      refine z_sipush (by decide) (TX8_readPart_1.at 7 rfl) ?_
      refine z_icmp_le (tgt := 111) (TX8_readPart_1.at 8 rfl) rfl (by omega) (by omega) (fun c12 => ?_) (fun c12 => ?_)
      · skip
        refine z_ald_0 (TX8_readPart_1.at 17 rfl) ?_
        refine zm_callV0 (m_leaf eg17 ef19 ef20 ef21 (by omega) (by omega) (by omega)) (TX8_readPart_1.at 18 rfl) c8_235 rfl rfl hH hA (by omega) (Nat.le_of_ble_eq_true rfl) (fun f112 g112 j112 h q112 hH hA => ?_)
        obtain ⟨q112, xf, xg, xj⟩ := q112
        rw [xj] at hH
        have ef8 := (xf 8 (by decide)).trans ef8
        have ef9 := (xf 9 (by decide)).trans ef9
        have ef10 := (xf 10 (by decide)).trans ef10
        have hfE := hfE.trans xf (by decide)
        have eg15 := (xg 15 (by decide)).trans eg15
        have eg16 := (xg 16 (by decide)).trans eg16
        have eg17 := (xg 17 (by decide)).trans eg17
        have hgE := hgE.trans xg (by decide)
        have qL := q112
        have hSt := sv_leaf hR hSt hOK (by rw [hSt.1, hSt.2.1, hSt.2.2]; exact qL)
        have hOK := ok_leaf (v := v) (pl := pl) hR hOK (show c t ≠ 0 by omega)
        refine z_ald_0 (TX8_readPart_1.at 19 rfl) ?_
        refine zm_getIE ef10 (TX8_readPart_1.at 20 rfl) fl8_203 hH rfl (by decide) (fun r116 => ?_)
        refine z_if_eq (tgt := 135) (TX8_readPart_1.at 21 rfl) rfl (by omega) (fun c13 => absurd c13 (by omega)) (fun c13 => ?_)
        refine z_ild_2 (TX8_readPart_1.at 22 rfl) ?_
        refine z_bipush (by decide) (TX8_readPart_1.at 23 rfl) ?_
        refine z_icmp_ne (tgt := 135) (TX8_readPart_1.at 24 rfl) rfl (by omega) (by omega) (fun c14 => ?_) (fun c14 => ?_)
        · skip
          refine z_ald_0 (TX8_readPart_1.at 29 rfl) ?_
          refine zm_getIE ef10 (TX8_readPart_1.at 30 rfl) fl8_203 hH rfl (by decide) (fun r136 => ?_)
          refine z_if_eq (tgt := 162) (TX8_readPart_1.at 31 rfl) rfl (by omega) (fun c15 => absurd c15 (by omega)) (fun c15 => ?_)
          refine z_ild_2 (TX8_readPart_1.at 32 rfl) ?_
          refine z_bipush (by decide) (TX8_readPart_1.at 33 rfl) ?_
          refine z_icmp_ne (tgt := 162) (TX8_readPart_1.at 34 rfl) rfl (by omega) (by omega) (fun c16 => ?_) (fun c16 => ?_)
          · skip
            refine zm_vret (TX8_readPart_2.at 2 rfl) rfl hH hA ?_
            first | (exfalso; omega) | exact ⟨part_no (lw := false) (v := v) (inner := none) (by omega) (by unfold wLo wHi; simp only [reduceIte, Bool.false_eq_true]; omega) ▸ hSt, hfE, hgE, rfl⟩ | exact ⟨part_pl (lw := false) (v := v) (inner := none) (by omega) (by unfold wLo wHi; simp only [reduceIte, Bool.false_eq_true]; omega) (fun z => by first | (cases z.1; done) | omega) (fun z => by first | (cases z.1; done) | omega) ▸ hSt, hfE, hgE, rfl⟩ | exact ⟨part_15 (c := c) (v := v) (inner := none) (by omega) ▸ hSt, hfE, hgE, rfl⟩ | exact ⟨part_21 (c := c) (v := v) (inner := none) (by omega) ▸ hSt, hfE, hgE, rfl⟩
          · skip
            refine z_ald_0 (TX8_readPart_1.at 35 rfl) ?_
            refine z_iconst (TX8_readPart_1.at 36 rfl) ?_
            refine z_bipush (by decide) (TX8_readPart_1.at 37 rfl) ?_
            refine zm_callV2 (m_mustNum eg15 eg16 eg17 rfl rfl (by omega) (by omega) (st_b hSt hOK hR.1.2) (sv_pl hR hSt hOK)) (TX8_readPart_1.at 38 rfl) c8_199 rfl rfl hH hA (by omega) (Nat.le_of_ble_eq_true rfl) (fun f152 g152 j152 h q152 hH hA => ?_)
            obtain ⟨q152, xf, xg, xj⟩ := q152
            rw [xj] at hH
            have ef8 := (xf 8 (by decide)).trans ef8
            have ef9 := (xf 9 (by decide)).trans ef9
            have ef10 := (xf 10 (by decide)).trans ef10
            have hfE := hfE.trans xf (by decide)
            have eg15 := (xg 15 (by decide)).trans eg15
            have eg16 := (xg 16 (by decide)).trans eg16
            have eg17 := (xg 17 (by decide)).trans eg17
            have hgE := hgE.trans xg (by decide)
            have qL := q152
            have hSt := sv_mn hR hSt hOK qL xf
            have hOK := ok_mn (v := v) (pl := pl) (lo := 0) (hi := 7) hR.2.2 hOK
            refine z_goto (tgt := 162) (TX8_readPart_1.at 39 rfl) rfl ?_
            refine zm_vret (TX8_readPart_2.at 2 rfl) rfl hH hA ?_
            first | (exfalso; omega) | exact ⟨part_no (lw := false) (v := v) (inner := none) (by omega) (by unfold wLo wHi; simp only [reduceIte, Bool.false_eq_true]; omega) ▸ hSt, hfE, hgE, rfl⟩ | exact ⟨part_pl (lw := false) (v := v) (inner := none) (by omega) (by unfold wLo wHi; simp only [reduceIte, Bool.false_eq_true]; omega) (fun z => by first | (cases z.1; done) | omega) (fun z => by first | (cases z.1; done) | omega) ▸ hSt, hfE, hgE, rfl⟩ | exact ⟨part_15 (c := c) (v := v) (inner := none) (by omega) ▸ hSt, hfE, hgE, rfl⟩ | exact ⟨part_21 (c := c) (v := v) (inner := none) (by omega) ▸ hSt, hfE, hgE, rfl⟩
        · skip
          refine z_ald_0 (TX8_readPart_1.at 25 rfl) ?_
          refine z_iconst (TX8_readPart_1.at 26 rfl) ?_
          refine z_bipush (by decide) (TX8_readPart_1.at 27 rfl) ?_
          refine zm_callV2 (m_mustNum eg15 eg16 eg17 rfl rfl (by omega) (by omega) (st_b hSt hOK hR.1.2) (sv_pl hR hSt hOK)) (TX8_readPart_1.at 28 rfl) c8_199 rfl rfl hH hA (by omega) (Nat.le_of_ble_eq_true rfl) (fun f132 g132 j132 h q132 hH hA => ?_)
          obtain ⟨q132, xf, xg, xj⟩ := q132
          rw [xj] at hH
          have ef8 := (xf 8 (by decide)).trans ef8
          have ef9 := (xf 9 (by decide)).trans ef9
          have ef10 := (xf 10 (by decide)).trans ef10
          have hfE := hfE.trans xf (by decide)
          have eg15 := (xg 15 (by decide)).trans eg15
          have eg16 := (xg 16 (by decide)).trans eg16
          have eg17 := (xg 17 (by decide)).trans eg17
          have hgE := hgE.trans xg (by decide)
          have qL := q132
          have hSt := sv_mn hR hSt hOK qL xf
          have hOK := ok_mn (v := v) (pl := pl) (lo := 0) (hi := 9) hR.2.2 hOK
          refine z_ald_0 (TX8_readPart_1.at 29 rfl) ?_
          refine zm_getIE ef10 (TX8_readPart_1.at 30 rfl) fl8_203 hH rfl (by decide) (fun r136 => ?_)
          refine z_if_eq (tgt := 162) (TX8_readPart_1.at 31 rfl) rfl (by omega) (fun c17 => absurd c17 (by omega)) (fun c17 => ?_)
          refine z_ild_2 (TX8_readPart_1.at 32 rfl) ?_
          refine z_bipush (by decide) (TX8_readPart_1.at 33 rfl) ?_
          refine z_icmp_ne (tgt := 162) (TX8_readPart_1.at 34 rfl) rfl (by omega) (by omega) (fun c18 => ?_) (fun c18 => ?_)
          · skip
            refine zm_vret (TX8_readPart_2.at 2 rfl) rfl hH hA ?_
            first | (exfalso; omega) | exact ⟨part_no (lw := false) (v := v) (inner := none) (by omega) (by unfold wLo wHi; simp only [reduceIte, Bool.false_eq_true]; omega) ▸ hSt, hfE, hgE, rfl⟩ | exact ⟨part_pl (lw := false) (v := v) (inner := none) (by omega) (by unfold wLo wHi; simp only [reduceIte, Bool.false_eq_true]; omega) (fun z => by first | (cases z.1; done) | omega) (fun z => by first | (cases z.1; done) | omega) ▸ hSt, hfE, hgE, rfl⟩ | exact ⟨part_15 (c := c) (v := v) (inner := none) (by omega) ▸ hSt, hfE, hgE, rfl⟩ | exact ⟨part_21 (c := c) (v := v) (inner := none) (by omega) ▸ hSt, hfE, hgE, rfl⟩
          · skip
            refine z_ald_0 (TX8_readPart_1.at 35 rfl) ?_
            refine z_iconst (TX8_readPart_1.at 36 rfl) ?_
            refine z_bipush (by decide) (TX8_readPart_1.at 37 rfl) ?_
            refine zm_callV2 (m_mustNum eg15 eg16 eg17 rfl rfl (by omega) (by omega) (st_b hSt hOK hR.1.2) (sv_pl hR hSt hOK)) (TX8_readPart_1.at 38 rfl) c8_199 rfl rfl hH hA (by omega) (Nat.le_of_ble_eq_true rfl) (fun f152 g152 j152 h q152 hH hA => ?_)
            obtain ⟨q152, xf, xg, xj⟩ := q152
            rw [xj] at hH
            have ef8 := (xf 8 (by decide)).trans ef8
            have ef9 := (xf 9 (by decide)).trans ef9
            have ef10 := (xf 10 (by decide)).trans ef10
            have hfE := hfE.trans xf (by decide)
            have eg15 := (xg 15 (by decide)).trans eg15
            have eg16 := (xg 16 (by decide)).trans eg16
            have eg17 := (xg 17 (by decide)).trans eg17
            have hgE := hgE.trans xg (by decide)
            have qL := q152
            have hSt := sv_mn hR hSt hOK qL xf
            have hOK := ok_mn (v := v) (pl := pl) (lo := 0) (hi := 7) hR.2.2 hOK
            refine z_goto (tgt := 162) (TX8_readPart_1.at 39 rfl) rfl ?_
            refine zm_vret (TX8_readPart_2.at 2 rfl) rfl hH hA ?_
            first | (exfalso; omega) | exact ⟨part_no (lw := false) (v := v) (inner := none) (by omega) (by unfold wLo wHi; simp only [reduceIte, Bool.false_eq_true]; omega) ▸ hSt, hfE, hgE, rfl⟩ | exact ⟨part_pl (lw := false) (v := v) (inner := none) (by omega) (by unfold wLo wHi; simp only [reduceIte, Bool.false_eq_true]; omega) (fun z => by first | (cases z.1; done) | omega) (fun z => by first | (cases z.1; done) | omega) ▸ hSt, hfE, hgE, rfl⟩ | exact ⟨part_15 (c := c) (v := v) (inner := none) (by omega) ▸ hSt, hfE, hgE, rfl⟩ | exact ⟨part_21 (c := c) (v := v) (inner := none) (by omega) ▸ hSt, hfE, hgE, rfl⟩
      · skip
        refine z_ild_2 (TX8_readPart_1.at 9 rfl) ?_
        refine z_ald_0 (TX8_readPart_1.at 10 rfl) ?_
        refine zm_getIE ef8 (TX8_readPart_1.at 11 rfl) fl8_229 hH rfl (by decide) (fun r97 => ?_)
        refine z_icmp_lt (tgt := 158) (TX8_readPart_1.at 12 rfl) rfl (by omega) (by omega) (fun c19 => ?_) (fun c19 => ?_)
        · skip
          refine z_ald_0 (TX8_readPart_2.at 0 rfl) ?_
          refine zm_callV0 (m_faults eg17 ef19 ef21 (by omega)) (TX8_readPart_2.at 1 rfl) c8_183 rfl rfl hH hA (by omega) (Nat.le_of_ble_eq_true rfl) (fun f159 g159 j159 h q159 hH hA => ?_)
          obtain ⟨q159, xf, xg, xj⟩ := q159
          rw [xj] at hH
          have ef8 := (xf 8 (by decide)).trans ef8
          have ef9 := (xf 9 (by decide)).trans ef9
          have ef10 := (xf 10 (by decide)).trans ef10
          have ef19 := (xf 19 (by decide)).trans ef19
          have ef20 := (xf 20 (by decide)).trans ef20
          have hfE := hfE.trans xf (by decide)
          have eg15 := (xg 15 (by decide)).trans eg15
          have eg16 := (xg 16 (by decide)).trans eg16
          have eg17 := (xg 17 (by decide)).trans eg17
          have hgE := hgE.trans xg (by decide)
          have qL := q159
          have hSt : St f159 (.error (pl t)) := ⟨by rw [qL, if_pos rfl, x17], by omega⟩
          have ef21 := hSt.1
          refine zm_vret (TX8_readPart_2.at 2 rfl) rfl hH hA ?_
          first | (exfalso; omega) | exact ⟨part_no (lw := false) (v := v) (inner := none) (by omega) (by unfold wLo wHi; simp only [reduceIte, Bool.false_eq_true]; omega) ▸ hSt, hfE, hgE, rfl⟩ | exact ⟨part_pl (lw := false) (v := v) (inner := none) (by omega) (by unfold wLo wHi; simp only [reduceIte, Bool.false_eq_true]; omega) (fun z => by first | (cases z.1; done) | omega) (fun z => by first | (cases z.1; done) | omega) ▸ hSt, hfE, hgE, rfl⟩ | exact ⟨part_15 (c := c) (v := v) (inner := none) (by omega) ▸ hSt, hfE, hgE, rfl⟩ | exact ⟨part_21 (c := c) (v := v) (inner := none) (by omega) ▸ hSt, hfE, hgE, rfl⟩
        · skip
          refine z_ild_2 (TX8_readPart_1.at 13 rfl) ?_
          refine z_ald_0 (TX8_readPart_1.at 14 rfl) ?_
          refine zm_getIE ef9 (TX8_readPart_1.at 15 rfl) fl8_232 hH rfl (by decide) (fun r105 => ?_)
          refine z_icmp_gt (tgt := 158) (TX8_readPart_1.at 16 rfl) rfl (by omega) (by omega) (fun c20 => ?_) (fun c20 => ?_)
          · skip
            refine z_ald_0 (TX8_readPart_2.at 0 rfl) ?_
            refine zm_callV0 (m_faults eg17 ef19 ef21 (by omega)) (TX8_readPart_2.at 1 rfl) c8_183 rfl rfl hH hA (by omega) (Nat.le_of_ble_eq_true rfl) (fun f159 g159 j159 h q159 hH hA => ?_)
            obtain ⟨q159, xf, xg, xj⟩ := q159
            rw [xj] at hH
            have ef8 := (xf 8 (by decide)).trans ef8
            have ef9 := (xf 9 (by decide)).trans ef9
            have ef10 := (xf 10 (by decide)).trans ef10
            have ef19 := (xf 19 (by decide)).trans ef19
            have ef20 := (xf 20 (by decide)).trans ef20
            have hfE := hfE.trans xf (by decide)
            have eg15 := (xg 15 (by decide)).trans eg15
            have eg16 := (xg 16 (by decide)).trans eg16
            have eg17 := (xg 17 (by decide)).trans eg17
            have hgE := hgE.trans xg (by decide)
            have qL := q159
            have hSt : St f159 (.error (pl t)) := ⟨by rw [qL, if_pos rfl, x17], by omega⟩
            have ef21 := hSt.1
            refine zm_vret (TX8_readPart_2.at 2 rfl) rfl hH hA ?_
            first | (exfalso; omega) | exact ⟨part_no (lw := false) (v := v) (inner := none) (by omega) (by unfold wLo wHi; simp only [reduceIte, Bool.false_eq_true]; omega) ▸ hSt, hfE, hgE, rfl⟩ | exact ⟨part_pl (lw := false) (v := v) (inner := none) (by omega) (by unfold wLo wHi; simp only [reduceIte, Bool.false_eq_true]; omega) (fun z => by first | (cases z.1; done) | omega) (fun z => by first | (cases z.1; done) | omega) ▸ hSt, hfE, hgE, rfl⟩ | exact ⟨part_15 (c := c) (v := v) (inner := none) (by omega) ▸ hSt, hfE, hgE, rfl⟩ | exact ⟨part_21 (c := c) (v := v) (inner := none) (by omega) ▸ hSt, hfE, hgE, rfl⟩
          · skip
            refine z_ald_0 (TX8_readPart_1.at 17 rfl) ?_
            refine zm_callV0 (m_leaf eg17 ef19 ef20 ef21 (by omega) (by omega) (by omega)) (TX8_readPart_1.at 18 rfl) c8_235 rfl rfl hH hA (by omega) (Nat.le_of_ble_eq_true rfl) (fun f112 g112 j112 h q112 hH hA => ?_)
            obtain ⟨q112, xf, xg, xj⟩ := q112
            rw [xj] at hH
            have ef8 := (xf 8 (by decide)).trans ef8
            have ef9 := (xf 9 (by decide)).trans ef9
            have ef10 := (xf 10 (by decide)).trans ef10
            have hfE := hfE.trans xf (by decide)
            have eg15 := (xg 15 (by decide)).trans eg15
            have eg16 := (xg 16 (by decide)).trans eg16
            have eg17 := (xg 17 (by decide)).trans eg17
            have hgE := hgE.trans xg (by decide)
            have qL := q112
            have hSt := sv_leaf hR hSt hOK (by rw [hSt.1, hSt.2.1, hSt.2.2]; exact qL)
            have hOK := ok_leaf (v := v) (pl := pl) hR hOK (show c t ≠ 0 by omega)
            refine z_ald_0 (TX8_readPart_1.at 19 rfl) ?_
            refine zm_getIE ef10 (TX8_readPart_1.at 20 rfl) fl8_203 hH rfl (by decide) (fun r116 => ?_)
            refine z_if_eq (tgt := 135) (TX8_readPart_1.at 21 rfl) rfl (by omega) (fun c21 => absurd c21 (by omega)) (fun c21 => ?_)
            refine z_ild_2 (TX8_readPart_1.at 22 rfl) ?_
            refine z_bipush (by decide) (TX8_readPart_1.at 23 rfl) ?_
            refine z_icmp_ne (tgt := 135) (TX8_readPart_1.at 24 rfl) rfl (by omega) (by omega) (fun c22 => ?_) (fun c22 => ?_)
            · skip
              refine z_ald_0 (TX8_readPart_1.at 29 rfl) ?_
              refine zm_getIE ef10 (TX8_readPart_1.at 30 rfl) fl8_203 hH rfl (by decide) (fun r136 => ?_)
              refine z_if_eq (tgt := 162) (TX8_readPart_1.at 31 rfl) rfl (by omega) (fun c23 => absurd c23 (by omega)) (fun c23 => ?_)
              refine z_ild_2 (TX8_readPart_1.at 32 rfl) ?_
              refine z_bipush (by decide) (TX8_readPart_1.at 33 rfl) ?_
              refine z_icmp_ne (tgt := 162) (TX8_readPart_1.at 34 rfl) rfl (by omega) (by omega) (fun c24 => ?_) (fun c24 => ?_)
              · skip
                refine zm_vret (TX8_readPart_2.at 2 rfl) rfl hH hA ?_
                first | (exfalso; omega) | exact ⟨part_no (lw := false) (v := v) (inner := none) (by omega) (by unfold wLo wHi; simp only [reduceIte, Bool.false_eq_true]; omega) ▸ hSt, hfE, hgE, rfl⟩ | exact ⟨part_pl (lw := false) (v := v) (inner := none) (by omega) (by unfold wLo wHi; simp only [reduceIte, Bool.false_eq_true]; omega) (fun z => by first | (cases z.1; done) | omega) (fun z => by first | (cases z.1; done) | omega) ▸ hSt, hfE, hgE, rfl⟩ | exact ⟨part_15 (c := c) (v := v) (inner := none) (by omega) ▸ hSt, hfE, hgE, rfl⟩ | exact ⟨part_21 (c := c) (v := v) (inner := none) (by omega) ▸ hSt, hfE, hgE, rfl⟩
              · skip
                refine z_ald_0 (TX8_readPart_1.at 35 rfl) ?_
                refine z_iconst (TX8_readPart_1.at 36 rfl) ?_
                refine z_bipush (by decide) (TX8_readPart_1.at 37 rfl) ?_
                refine zm_callV2 (m_mustNum eg15 eg16 eg17 rfl rfl (by omega) (by omega) (st_b hSt hOK hR.1.2) (sv_pl hR hSt hOK)) (TX8_readPart_1.at 38 rfl) c8_199 rfl rfl hH hA (by omega) (Nat.le_of_ble_eq_true rfl) (fun f152 g152 j152 h q152 hH hA => ?_)
                obtain ⟨q152, xf, xg, xj⟩ := q152
                rw [xj] at hH
                have ef8 := (xf 8 (by decide)).trans ef8
                have ef9 := (xf 9 (by decide)).trans ef9
                have ef10 := (xf 10 (by decide)).trans ef10
                have hfE := hfE.trans xf (by decide)
                have eg15 := (xg 15 (by decide)).trans eg15
                have eg16 := (xg 16 (by decide)).trans eg16
                have eg17 := (xg 17 (by decide)).trans eg17
                have hgE := hgE.trans xg (by decide)
                have qL := q152
                have hSt := sv_mn hR hSt hOK qL xf
                have hOK := ok_mn (v := v) (pl := pl) (lo := 0) (hi := 7) hR.2.2 hOK
                refine z_goto (tgt := 162) (TX8_readPart_1.at 39 rfl) rfl ?_
                refine zm_vret (TX8_readPart_2.at 2 rfl) rfl hH hA ?_
                first | (exfalso; omega) | exact ⟨part_no (lw := false) (v := v) (inner := none) (by omega) (by unfold wLo wHi; simp only [reduceIte, Bool.false_eq_true]; omega) ▸ hSt, hfE, hgE, rfl⟩ | exact ⟨part_pl (lw := false) (v := v) (inner := none) (by omega) (by unfold wLo wHi; simp only [reduceIte, Bool.false_eq_true]; omega) (fun z => by first | (cases z.1; done) | omega) (fun z => by first | (cases z.1; done) | omega) ▸ hSt, hfE, hgE, rfl⟩ | exact ⟨part_15 (c := c) (v := v) (inner := none) (by omega) ▸ hSt, hfE, hgE, rfl⟩ | exact ⟨part_21 (c := c) (v := v) (inner := none) (by omega) ▸ hSt, hfE, hgE, rfl⟩
            · skip
              refine z_ald_0 (TX8_readPart_1.at 25 rfl) ?_
              refine z_iconst (TX8_readPart_1.at 26 rfl) ?_
              refine z_bipush (by decide) (TX8_readPart_1.at 27 rfl) ?_
              refine zm_callV2 (m_mustNum eg15 eg16 eg17 rfl rfl (by omega) (by omega) (st_b hSt hOK hR.1.2) (sv_pl hR hSt hOK)) (TX8_readPart_1.at 28 rfl) c8_199 rfl rfl hH hA (by omega) (Nat.le_of_ble_eq_true rfl) (fun f132 g132 j132 h q132 hH hA => ?_)
              obtain ⟨q132, xf, xg, xj⟩ := q132
              rw [xj] at hH
              have ef8 := (xf 8 (by decide)).trans ef8
              have ef9 := (xf 9 (by decide)).trans ef9
              have ef10 := (xf 10 (by decide)).trans ef10
              have hfE := hfE.trans xf (by decide)
              have eg15 := (xg 15 (by decide)).trans eg15
              have eg16 := (xg 16 (by decide)).trans eg16
              have eg17 := (xg 17 (by decide)).trans eg17
              have hgE := hgE.trans xg (by decide)
              have qL := q132
              have hSt := sv_mn hR hSt hOK qL xf
              have hOK := ok_mn (v := v) (pl := pl) (lo := 0) (hi := 9) hR.2.2 hOK
              refine z_ald_0 (TX8_readPart_1.at 29 rfl) ?_
              refine zm_getIE ef10 (TX8_readPart_1.at 30 rfl) fl8_203 hH rfl (by decide) (fun r136 => ?_)
              refine z_if_eq (tgt := 162) (TX8_readPart_1.at 31 rfl) rfl (by omega) (fun c25 => absurd c25 (by omega)) (fun c25 => ?_)
              refine z_ild_2 (TX8_readPart_1.at 32 rfl) ?_
              refine z_bipush (by decide) (TX8_readPart_1.at 33 rfl) ?_
              refine z_icmp_ne (tgt := 162) (TX8_readPart_1.at 34 rfl) rfl (by omega) (by omega) (fun c26 => ?_) (fun c26 => ?_)
              · skip
                refine zm_vret (TX8_readPart_2.at 2 rfl) rfl hH hA ?_
                first | (exfalso; omega) | exact ⟨part_no (lw := false) (v := v) (inner := none) (by omega) (by unfold wLo wHi; simp only [reduceIte, Bool.false_eq_true]; omega) ▸ hSt, hfE, hgE, rfl⟩ | exact ⟨part_pl (lw := false) (v := v) (inner := none) (by omega) (by unfold wLo wHi; simp only [reduceIte, Bool.false_eq_true]; omega) (fun z => by first | (cases z.1; done) | omega) (fun z => by first | (cases z.1; done) | omega) ▸ hSt, hfE, hgE, rfl⟩ | exact ⟨part_15 (c := c) (v := v) (inner := none) (by omega) ▸ hSt, hfE, hgE, rfl⟩ | exact ⟨part_21 (c := c) (v := v) (inner := none) (by omega) ▸ hSt, hfE, hgE, rfl⟩
              · skip
                refine z_ald_0 (TX8_readPart_1.at 35 rfl) ?_
                refine z_iconst (TX8_readPart_1.at 36 rfl) ?_
                refine z_bipush (by decide) (TX8_readPart_1.at 37 rfl) ?_
                refine zm_callV2 (m_mustNum eg15 eg16 eg17 rfl rfl (by omega) (by omega) (st_b hSt hOK hR.1.2) (sv_pl hR hSt hOK)) (TX8_readPart_1.at 38 rfl) c8_199 rfl rfl hH hA (by omega) (Nat.le_of_ble_eq_true rfl) (fun f152 g152 j152 h q152 hH hA => ?_)
                obtain ⟨q152, xf, xg, xj⟩ := q152
                rw [xj] at hH
                have ef8 := (xf 8 (by decide)).trans ef8
                have ef9 := (xf 9 (by decide)).trans ef9
                have ef10 := (xf 10 (by decide)).trans ef10
                have hfE := hfE.trans xf (by decide)
                have eg15 := (xg 15 (by decide)).trans eg15
                have eg16 := (xg 16 (by decide)).trans eg16
                have eg17 := (xg 17 (by decide)).trans eg17
                have hgE := hgE.trans xg (by decide)
                have qL := q152
                have hSt := sv_mn hR hSt hOK qL xf
                have hOK := ok_mn (v := v) (pl := pl) (lo := 0) (hi := 7) hR.2.2 hOK
                refine z_goto (tgt := 162) (TX8_readPart_1.at 39 rfl) rfl ?_
                refine zm_vret (TX8_readPart_2.at 2 rfl) rfl hH hA ?_
                first | (exfalso; omega) | exact ⟨part_no (lw := false) (v := v) (inner := none) (by omega) (by unfold wLo wHi; simp only [reduceIte, Bool.false_eq_true]; omega) ▸ hSt, hfE, hgE, rfl⟩ | exact ⟨part_pl (lw := false) (v := v) (inner := none) (by omega) (by unfold wLo wHi; simp only [reduceIte, Bool.false_eq_true]; omega) (fun z => by first | (cases z.1; done) | omega) (fun z => by first | (cases z.1; done) | omega) ▸ hSt, hfE, hgE, rfl⟩ | exact ⟨part_15 (c := c) (v := v) (inner := none) (by omega) ▸ hSt, hfE, hgE, rfl⟩ | exact ⟨part_21 (c := c) (v := v) (inner := none) (by omega) ▸ hSt, hfE, hgE, rfl⟩
  · skip
    refine z_ild_1 (TX8_readPart_0.at 14 rfl) ?_
    refine z_bipush (by decide) (TX8_readPart_0.at 15 rfl) ?_
    refine z_icmp_ne (tgt := 37) (TX8_readPart_0.at 16 rfl) rfl (by omega) (by omega) (fun c27 => absurd c27 (by omega)) (fun c27 => ?_)
    refine z_ald_0 (TX8_readPart_0.at 17 rfl) ?_
    refine zm_callV0 (m_faults eg17 ef19 ef21 (by omega)) (TX8_readPart_0.at 18 rfl) c8_183 rfl rfl hH hA (by omega) (Nat.le_of_ble_eq_true rfl) (fun f34 g34 j34 h q34 hH hA => ?_)
    obtain ⟨q34, xf, xg, xj⟩ := q34
    rw [xj] at hH
    have ef8 := (xf 8 (by decide)).trans ef8
    have ef9 := (xf 9 (by decide)).trans ef9
    have ef10 := (xf 10 (by decide)).trans ef10
    have ef19 := (xf 19 (by decide)).trans ef19
    have ef20 := (xf 20 (by decide)).trans ef20
    have hfE := hfE.trans xf (by decide)
    have eg15 := (xg 15 (by decide)).trans eg15
    have eg16 := (xg 16 (by decide)).trans eg16
    have eg17 := (xg 17 (by decide)).trans eg17
    have hgE := hgE.trans xg (by decide)
    have qL := q34
    have hSt : St f34 (.error (pl t)) := ⟨by rw [qL, if_pos rfl, x17], by omega⟩
    have ef21 := hSt.1
    refine z_ald_0 (TX8_readPart_0.at 19 rfl) ?_
    refine zm_callI0 (m_fine ef21) (TX8_readPart_0.at 20 rfl) c8_173 rfl rfl hH hA (by omega) (Nat.le_of_ble_eq_true rfl) (fun x38 f38 g38 j38 h r38 q38 hH hA => ?_)
    obtain ⟨q38, xf, xg, xj⟩ := q38
    rw [xj] at hH
    have ef8 := (xf 8 (by decide)).trans ef8
    have ef9 := (xf 9 (by decide)).trans ef9
    have ef10 := (xf 10 (by decide)).trans ef10
    have ef19 := (xf 19 (by decide)).trans ef19
    have ef20 := (xf 20 (by decide)).trans ef20
    have ef21 := (xf 21 (by decide)).trans ef21
    have hfE := hfE.trans xf (by decide)
    have eg15 := (xg 15 (by decide)).trans eg15
    have eg16 := (xg 16 (by decide)).trans eg16
    have eg17 := (xg 17 (by decide)).trans eg17
    have hgE := hgE.trans xg (by decide)
    have qL := q38
    obtain rfl := qL
    have hSt := St_tr hSt xf
    refine z_if_neB (tgt := 45) (TX8_readPart_0.at 21 rfl) rfl (fun c28 => absurd c28 (by omega)) (fun c28 => ?_)
    refine zm_vret (TX8_readPart_0.at 22 rfl) rfl hH hA ?_
    exact ⟨part_b0 (lw := false) (v := v) (by omega) ▸ hSt, hfE, hgE, rfl⟩

theorem rreadPart {l : Launch} {o : Nat} {ar : Nat → Nat} {N : Int} {c v pl X15 X16 X17 : Int → Int} {w8 w9 io : Int} (hR : RdH N c v pl X15 X16 X17) {lw : Bool} {dp : Int} {inner : Option (Nat → Nat → PR)} {m : Nat} (e8 : w8 = wLo lw) (e9 : w9 = wHi lw) (e10 : io = inL lw) (hin : (dp = 8 ∧ inner = none ∧ m = 0) ∨ ((0 ≤ dp ∧ dp < 8) ∧ ∃ G, inner = some G ∧ RdM l o ar MX8_readSum m [vI (dp + 1)] N pl X15 X16 X17 w8 w9 io G ∧ Adv c G ∧ Pk G)) : RdM l o ar MX8_readPart (m + 4) [vI dp] N pl X15 X16 X17 w8 w9 io (pPart lw c v inner) := by
  intro f g j s eg15 eg16 eg17 ef8 ef9 ef10 hSt hOK
  match s, hSt, hOK with
  | .error b, hSt, hOK => exact fun d hd => readPart_e hR eg15 eg16 eg17 ef8 ef9 ef10 hSt hOK d (by omega)
  | .ok (t, p), hSt, hOK =>
    show MM l o ar MX8_readPart (m + 4) [.ref o, vI dp] f g j (PV (fun f' g' j' => St f' (cvR pl (pPart lw c v inner t p)) ∧ eqx [19, 20, 21] f f' ∧ eqx [] g g' ∧ j' = j))
    rcases hin with ⟨h1, rfl, rfl⟩ | ⟨h1, G, rfl, hI, ha, hp⟩
    · cases lw with
      | true => exact readPart_t0 hR h1 e8 e9 e10 eg15 eg16 eg17 ef8 ef9 ef10 hSt hOK
      | false => exact readPart_f0 hR h1 e8 e9 e10 eg15 eg16 eg17 ef8 ef9 ef10 hSt hOK
    · cases lw with
      | true => exact readPart_t1 hR h1 hI ha hp e8 e9 e10 eg15 eg16 eg17 ef8 ef9 ef10 hSt hOK
      | false => exact readPart_f1 hR h1 hI ha hp e8 e9 e10 eg15 eg16 eg17 ef8 ef9 ef10 hSt hOK
def ntS (c : Int → Int) (n : Nat) (b : Bool) (s : RS) : RS := match s with
  | .error e => .error e
  | .ok (t, p) => .ok ((pNots c n t b).1, p)
theorem ntS_s {c : Int → Int} {n : Nat} {b : Bool} {s : RS} (h : tkB c s 7 = true) : ntS c (n + 1) b s = ntS c n (!b) (tkS s) := by
  match s, h with
  | .ok (t, p), h =>
    have hc : c t = 7 := of_decide_eq_true h
    show Except.ok ((pNots c (n + 1) t b).1, p) = Except.ok ((pNots c n (t + 1) (!b)).1, p)
    simp only [pNots]
    rw [if_pos hc]
theorem ntS_e {c : Int → Int} {n : Nat} {b : Bool} {s : RS} (h : ¬ tkB c s 7 = true) : ntS c (n + 1) b s = s := by
  match s, h with
  | .error e, h => rfl
  | .ok (t, p), h =>
    show Except.ok ((pNots c (n + 1) t b).1, p) = _
    simp only [pNots]
    rw [if_neg (fun z => h (decide_eq_true z))]
theorem far_t {N : Int} {n : Nat} {s : RS} (h : far N (n + 1) s) : far N n (tkS s) := by
  match s, h with
  | .error b, _ => exact trivial
  | .ok (t, p), h =>
    have h2 : N < (t : Int) + ((n + 1 : Nat) : Int) := h
    show N < ((t + 1 : Nat) : Int) + n
    omega
theorem plain_br {c pl : Int → Int} {sum G : Nat → Nat → PR} {t t1 p : Nat} {b : Bool} (hq : pNots c 401 t false = (t1, b)) (h : c t1 = 140) : msS c pl (bdR pl (.ok (t1 + 1, p)) G) 141 = cvR pl (pPlain c sum (some G) t p) := by
  unfold pPlain
  rw [hq]
  simp only
  rw [if_pos h]
  show msS c pl (cvR pl (G (t1 + 1) p)) 141 = _
  cases hg : G (t1 + 1) p with
  | error e => rfl
  | ok r =>
    obtain ⟨t', p', k⟩ := r
    show (if c t' = 141 then Except.ok (t' + 1, p') else Except.error (pl t')) = _
    simp only
    split <;> rfl
theorem plain_b0 {c pl : Int → Int} {sum : Nat → Nat → PR} {t t1 p : Nat} {b : Bool} (hq : pNots c 401 t false = (t1, b)) (h : c t1 = 140) : (.error (pl t1) : RS) = cvR pl (pPlain c sum none t p) := by
  unfold pPlain
  rw [hq]
  simp only
  rw [if_pos h]
  rfl
theorem plain_t {c pl : Int → Int} {sum : Nat → Nat → PR} {inner : Option (Nat → Nat → PR)} {t t1 p : Nat} {b : Bool} {x : Int} (hq : pNots c 401 t false = (t1, b)) (h : ¬ c t1 = 140) (hk : tkB c (bdR pl (.ok (t1, p)) sum) x = true) (ho : cmpOp x ≠ none) : bdR pl (tkS (bdR pl (.ok (t1, p)) sum)) sum = cvR pl (pPlain c sum inner t p) := by
  unfold pPlain
  rw [hq]
  simp only
  rw [if_neg h]
  have hk2 : tkB c (cvR pl (sum t1 p)) x = true := hk
  show bdR pl (tkS (cvR pl (sum t1 p))) sum = _
  cases hg : sum t1 p with
  | error e => rfl
  | ok r =>
    obtain ⟨t2, p2, k⟩ := r
    rw [hg] at hk2
    have hc : c t2 = x := of_decide_eq_true hk2
    show cvR pl (sum (t2 + 1) p2) = _
    simp only
    rw [hc]
    cases ho2 : cmpOp x with
    | none => exact absurd ho2 ho
    | some o =>
      simp only
      cases hg2 : sum (t2 + 1) p2 with
      | error e => rfl
      | ok r => rfl
theorem plain_m {c pl : Int → Int} {sum : Nat → Nat → PR} {inner : Option (Nat → Nat → PR)} {t t1 p : Nat} {b : Bool} (hq : pNots c 401 t false = (t1, b)) (h : ¬ c t1 = 140) (h1 : ¬ tkB c (bdR pl (.ok (t1, p)) sum) 160 = true) (h2 : ¬ tkB c (bdR pl (.ok (t1, p)) sum) 162 = true) : bdR pl (msS c pl (bdR pl (.ok (t1, p)) sum) 161) sum = cvR pl (pPlain c sum inner t p) := by
  unfold pPlain
  rw [hq]
  simp only
  rw [if_neg h]
  have h12 : ¬ tkB c (cvR pl (sum t1 p)) 160 = true := h1
  have h22 : ¬ tkB c (cvR pl (sum t1 p)) 162 = true := h2
  show bdR pl (msS c pl (cvR pl (sum t1 p)) 161) sum = _
  cases hg : sum t1 p with
  | error e => rfl
  | ok r =>
    obtain ⟨t2, p2, k⟩ := r
    rw [hg] at h12 h22
    have n1 : ¬ c t2 = 160 := fun z => h12 (decide_eq_true z)
    have n2 : ¬ c t2 = 162 := fun z => h22 (decide_eq_true z)
    show bdR pl (if c t2 = 161 then Except.ok (t2 + 1, p2) else Except.error (pl t2)) sum = _
    simp only
    unfold cmpOp
    rw [if_neg n1, if_neg n2]
    by_cases e : c t2 = 161
    · rw [if_pos e, if_pos e]
      show cvR pl (sum (t2 + 1) p2) = _
      simp only
      cases hg2 : sum (t2 + 1) p2 with
      | error e => rfl
      | ok r => rfl
    · rw [if_neg e, if_neg e]
      rfl
set_option maxHeartbeats 4000000 in
set_option maxRecDepth 100000 in
theorem lp_readPlain {l : Launch} {o : Nat} {ar : Nat → Nat} {N : Int} {c v pl X15 X16 X17 : Int → Int} {w8 w9 io : Int} (hR : RdH N c v pl X15 X16 X17) {dp : Int} {d : Nat} {Pz : Option Value → zH → Prop} {h0 : zH} {f0 : mF} {g0 j : mA} {fin : RS} (hd : 3 ≤ d) (kz : ∀ (f : mF) (g : mA) (h : zH), St f fin → SOK N fin → g 15 = X15 → g 16 = X16 → g 17 = X17 → f 8 = w8 → f 9 = w9 → f 10 = io → eqx [19, 20, 21] f0 f → eqx [] g0 g → HM o ar f g j h → zAg o ar h0 h → Z l MX8_readPlain d 0 0 Pz 2 [some (.ref o), some (vI dp), some (vI 0), none] [] h 0 0) : ∀ (n : Nat) (b : Bool) (s : RS) (mo : Int) (f : mF) (g : mA) (h : zH) (hmo : mo = 1 ∨ mo = 2) (hSt : St f s) (hOK : SOK N s) (hfar : far N n s) (hfin : fin = ntS c n b s) (eg15 : g 15 = X15) (eg16 : g 16 = X16) (eg17 : g 17 = X17) (ef8 : f 8 = w8) (ef9 : f 9 = w9) (ef10 : f 10 = io) (hfE : eqx [19, 20, 21] f0 f) (hgE : eqx [] g0 g) (hH : HM o ar f g j h) (hA : zAg o ar h0 h), Z l MX8_readPlain d 0 0 Pz 2 [some (.ref o), some (vI dp), some (vI mo), none] [] h 0 0 := by
  intro n
  induction n with
  | zero =>
    intro b s mo f g h hmo hSt hOK hfar hfin eg15 eg16 eg17 ef8 ef9 ef10 hfE hgE hH hA
    obtain ⟨bb, rfl⟩ := far_0 hfar hOK
    have hfin2 : fin = .error bb := hfin
    have hno : ∀ x, ¬ tkB c (.error bb) x = true := fun x z => by cases z
    refine z_ild_2 (TX8_readPlain_0.at 2 rfl) ?_
    refine z_if_eq (tgt := 16) (TX8_readPlain_0.at 3 rfl) rfl (by omega) (fun c1 => absurd c1 (by omega)) (fun c1 => ?_)
    refine z_ald_0 (TX8_readPlain_0.at 4 rfl) ?_
    refine z_bipush (by decide) (TX8_readPlain_0.at 5 rfl) ?_
    refine zm_callI1 (m_takes0 eg15 rfl rfl (by omega) (st_b hSt hOK hR.1.2)) (TX8_readPlain_0.at 6 rfl) c8_180 rfl rfl hH hA (by omega) (Nat.le_of_ble_eq_true rfl) (fun x9 f9 g9 j9 h r9 q9 hH hA => ?_)
    obtain ⟨q9, xf, xg, xj⟩ := q9
    rw [xj] at hH
    have ef8 := (xf 8 (by decide)).trans ef8
    have ef9 := (xf 9 (by decide)).trans ef9
    have ef10 := (xf 10 (by decide)).trans ef10
    have hfE := hfE.trans xf (by decide)
    have eg15 := (xg 15 (by decide)).trans eg15
    have eg16 := (xg 16 (by decide)).trans eg16
    have eg17 := (xg 17 (by decide)).trans eg17
    have hgE := hgE.trans xg (by decide)
    have qL := q9
    have hT9 := sv_takes hR hSt hOK qL xf
    rw [hT9.1] at r9 ⊢
    have hSt := hT9.2.2 (hno _)
    rw [b2i_f (hno _)]
    refine z_ist_2 (TX8_readPlain_0.at 7 rfl) (Nat.le_of_ble_eq_true rfl) rfl ?_
    refine z_goto (tgt := 2) (TX8_readPlain_0.at 8 rfl) rfl ?_
    exact kz _ _ _ (hfin2 ▸ hSt) (hfin2 ▸ hOK) eg15 eg16 eg17 ef8 ef9 ef10 hfE hgE hH hA
  | succ n ih =>
    intro b s mo f g h hmo hSt hOK hfar hfin eg15 eg16 eg17 ef8 ef9 ef10 hfE hgE hH hA
    refine z_ild_2 (TX8_readPlain_0.at 2 rfl) ?_
    refine z_if_eq (tgt := 16) (TX8_readPlain_0.at 3 rfl) rfl (by omega) (fun c1 => absurd c1 (by omega)) (fun c1 => ?_)
    refine z_ald_0 (TX8_readPlain_0.at 4 rfl) ?_
    refine z_bipush (by decide) (TX8_readPlain_0.at 5 rfl) ?_
    refine zm_callI1 (m_takes0 eg15 rfl rfl (by omega) (st_b hSt hOK hR.1.2)) (TX8_readPlain_0.at 6 rfl) c8_180 rfl rfl hH hA (by omega) (Nat.le_of_ble_eq_true rfl) (fun x9 f9 g9 j9 h r9 q9 hH hA => ?_)
    obtain ⟨q9, xf, xg, xj⟩ := q9
    rw [xj] at hH
    have ef8 := (xf 8 (by decide)).trans ef8
    have ef9 := (xf 9 (by decide)).trans ef9
    have ef10 := (xf 10 (by decide)).trans ef10
    have hfE := hfE.trans xf (by decide)
    have eg15 := (xg 15 (by decide)).trans eg15
    have eg16 := (xg 16 (by decide)).trans eg16
    have eg17 := (xg 17 (by decide)).trans eg17
    have hgE := hgE.trans xg (by decide)
    have qL := q9
    have hT9 := sv_takes hR hSt hOK qL xf
    rw [hT9.1] at r9 ⊢
    refine z_ist_2 (TX8_readPlain_0.at 7 rfl) (Nat.le_of_ble_eq_true rfl) rfl ?_
    refine z_goto (tgt := 2) (TX8_readPlain_0.at 8 rfl) rfl ?_
    by_cases hc7 : tkB c s 7 = true
    · have hSt := hT9.2.1 hc7
      have hOK := ok_tk hR.2.2 hOK (by decide) hc7
      rw [b2i_t hc7]
      exact ih (!b) _ _ _ _ _ (Or.inl rfl) hSt hOK (far_t hfar) (hfin.trans (ntS_s hc7)) eg15 eg16 eg17 ef8 ef9 ef10 hfE hgE hH hA
    · have hSt := hT9.2.2 hc7
      rw [b2i_f hc7]
      exact kz _ _ _ ((hfin.trans (ntS_e hc7)) ▸ hSt) ((hfin.trans (ntS_e hc7)) ▸ hOK) eg15 eg16 eg17 ef8 ef9 ef10 hfE hgE hH hA

set_option maxHeartbeats 4000000 in
set_option maxRecDepth 100000 in
theorem readPlain_e {l : Launch} {o : Nat} {ar : Nat → Nat} {f : mF} {g j : mA} {N : Int} {c v pl X15 X16 X17 : Int → Int} {w8 w9 io : Int} (hR : RdH N c v pl X15 X16 X17) {dp b : Int} (eg15 : g 15 = X15) (eg16 : g 16 = X16) (eg17 : g 17 = X17) (ef8 : f 8 = w8) (ef9 : f 9 = w9) (ef10 : f 10 = io) (hSt : St f (.error b)) (hOK : SOK N (.error b)) : MM l o ar MX8_readPlain 4 [.ref o, vI dp] f g j (PV (fun f' g' j' => St f' (.error b) ∧ eqx [19, 20, 21] f f' ∧ eqx [] g g' ∧ j' = j)) := by
  refine MM.intro [some (.ref o), some (vI dp), none, none] (by decide) (Nat.le_of_ble_eq_true rfl) rfl (fun d hd h0 h hH hA => ?_)
  have hfE : eqx [19, 20, 21] f f := eqx.rf
  have hgE : eqx [] g g := eqx.rf
  refine z_iconst (TX8_readPlain_0.at 0 rfl) ?_
  refine z_ist_2 (TX8_readPlain_0.at 1 rfl) (Nat.le_of_ble_eq_true rfl) rfl ?_
  refine lp_readPlain (dp := dp) (fin := .error b) hR (by omega) (fun f3 g3 h3 hSt hOK eg15 eg16 eg17 ef8 ef9 ef10 hfE hgE hH hA => ?_) 401 false _ _ _ _ _ (Or.inl rfl) hSt hOK (far_401 hR.1.2) rfl eg15 eg16 eg17 ef8 ef9 ef10 hfE hgE hH hA
  refine z_ild_2 (TX8_readPlain_0.at 2 rfl) ?_
  refine z_if_eq (tgt := 16) (TX8_readPlain_0.at 3 rfl) rfl (by omega) (fun c1 => ?_) (fun c1 => absurd c1 (by decide))
  refine z_ald_0 (TX8_readPlain_0.at 9 rfl) ?_
  refine zm_callI0 (m_fine rfl) (TX8_readPlain_0.at 10 rfl) c8_173 rfl rfl hH hA (by omega) (Nat.le_of_ble_eq_true rfl) (fun x17 f17 g17 j17 h r17 q17 hH hA => ?_)
  obtain ⟨q17, xf, xg, xj⟩ := q17
  rw [xj] at hH
  have ef8 := (xf 8 (by decide)).trans ef8
  have ef9 := (xf 9 (by decide)).trans ef9
  have ef10 := (xf 10 (by decide)).trans ef10
  have hfE := hfE.trans xf (by decide)
  have eg15 := (xg 15 (by decide)).trans eg15
  have eg16 := (xg 16 (by decide)).trans eg16
  have eg17 := (xg 17 (by decide)).trans eg17
  have hgE := hgE.trans xg (by decide)
  have qL := q17
  obtain rfl := qL
  have hS0 := hSt
  have hSt := St_tr hSt xf
  refine z_if_neB (tgt := 24) (TX8_readPlain_0.at 11 rfl) rfl (fun c2 => absurd c2 (fun z => hS0.2 (hS0.1.symm.trans z))) (fun c2 => ?_)
  refine zm_vret (TX8_readPlain_0.at 12 rfl) rfl hH hA ?_
  exact ⟨hSt, hfE, hgE, rfl⟩

set_option maxHeartbeats 4000000 in
set_option maxRecDepth 100000 in
theorem readPlain_1 {l : Launch} {o : Nat} {ar : Nat → Nat} {f : mF} {g j : mA} {N : Int} {c v pl X15 X16 X17 : Int → Int} {w8 w9 io : Int} (hR : RdH N c v pl X15 X16 X17) {dp : Int} {t p : Nat} {sum : Nat → Nat → PR} {m : Nat} (hdp : 0 ≤ dp ∧ dp ≤ 8) (hS : RdM l o ar MX8_readSum m [vI dp] N pl X15 X16 X17 w8 w9 io sum) (hsa : Adv c sum) (hsp : Pk sum) {G : Nat → Nat → PR} (hdp2 : dp < 8) (hI : RdM l o ar MX8_readTest m [vI (dp + 1)] N pl X15 X16 X17 w8 w9 io G) (ha : Adv c G) (hp : Pk G)  (eg15 : g 15 = X15) (eg16 : g 16 = X16) (eg17 : g 17 = X17) (ef8 : f 8 = w8) (ef9 : f 9 = w9) (ef10 : f 10 = io) (hSt : St f (.ok (t, p))) (hOK : SOK N (.ok (t, p))) : MM l o ar MX8_readPlain (m + 4) [.ref o, vI dp] f g j (PV (fun f' g' j' => St f' (cvR pl (pPlain c sum (some G) t p)) ∧ eqx [19, 20, 21] f f' ∧ eqx [] g g' ∧ j' = j)) := by
  refine MM.intro [some (.ref o), some (vI dp), none, none] (by decide) (Nat.le_of_ble_eq_true rfl) rfl (fun d hd h0 h hH hA => ?_)
  have hfE : eqx [19, 20, 21] f f := eqx.rf
  have hgE : eqx [] g g := eqx.rf
  refine z_iconst (TX8_readPlain_0.at 0 rfl) ?_
  refine z_ist_2 (TX8_readPlain_0.at 1 rfl) (Nat.le_of_ble_eq_true rfl) rfl ?_
  obtain ⟨t1, nb, hq⟩ : ∃ t1 nb, pNots c 401 t false = (t1, nb) := ⟨_, _, rfl⟩
  refine lp_readPlain (dp := dp) (fin := .ok (t1, p)) hR (by omega) (fun f3 g3 h3 hSt hOK eg15 eg16 eg17 ef8 ef9 ef10 hfE hgE hH hA => ?_) 401 false (.ok (t, p)) _ _ _ _ (Or.inl rfl) hSt hOK (far_401 hR.1.2) (by show _ = Except.ok ((pNots c 401 t false).1, p); rw [hq]) eg15 eg16 eg17 ef8 ef9 ef10 hfE hgE hH hA
  obtain ⟨tt0, ttN, tt4, x15, x16, x17, x0, pp5⟩ := bt_pl hR hOK
  have ef19 := hSt.1
  have ef20 := hSt.2.1
  have ef21 := hSt.2.2
  refine z_ild_2 (TX8_readPlain_0.at 2 rfl) ?_
  refine z_if_eq (tgt := 16) (TX8_readPlain_0.at 3 rfl) rfl (by omega) (fun c1 => ?_) (fun c1 => absurd c1 (by decide))
  refine z_ald_0 (TX8_readPlain_0.at 9 rfl) ?_
  refine zm_callI0 (m_fine ef21) (TX8_readPlain_0.at 10 rfl) c8_173 rfl rfl hH hA (by omega) (Nat.le_of_ble_eq_true rfl) (fun x17 f17 g17 j17 h r17 q17 hH hA => ?_)
  obtain ⟨q17, xf, xg, xj⟩ := q17
  rw [xj] at hH
  have ef8 := (xf 8 (by decide)).trans ef8
  have ef9 := (xf 9 (by decide)).trans ef9
  have ef10 := (xf 10 (by decide)).trans ef10
  have ef19 := (xf 19 (by decide)).trans ef19
  have ef20 := (xf 20 (by decide)).trans ef20
  have ef21 := (xf 21 (by decide)).trans ef21
  have hfE := hfE.trans xf (by decide)
  have eg15 := (xg 15 (by decide)).trans eg15
  have eg16 := (xg 16 (by decide)).trans eg16
  have eg17 := (xg 17 (by decide)).trans eg17
  have hgE := hgE.trans xg (by decide)
  have qL := q17
  obtain rfl := qL
  have hSt := St_tr hSt xf
  refine z_if_neB (tgt := 24) (TX8_readPlain_0.at 11 rfl) rfl (fun c2 => ?_) (fun c2 => absurd c2 (by omega))
  refine z_ald_0 (TX8_readPlain_0.at 13 rfl) ?_
  refine zm_getA (TX8_readPlain_0.at 14 rfl) fl8_54 hH (by decide) (by decide) ?_
  refine z_ald_0 (TX8_readPlain_0.at 15 rfl) ?_
  refine zm_getIE ef19 (TX8_readPlain_0.at 16 rfl) fl8_177 hH rfl (by decide) (fun r29 => ?_)
  refine zm_ialdE eg15 (TX8_readPlain_0.at 17 rfl) hH rfl (by omega) (show _ < ((401 : Nat) : Int) by omega) (fun r32 => ?_)
  refine z_ist_3 (TX8_readPlain_0.at 18 rfl) (Nat.le_of_ble_eq_true rfl) rfl ?_
  rw [x15] at r32 ⊢
  refine z_ild_3 (TX8_readPlain_0.at 19 rfl) ?_
  refine z_bipush (by decide) (TX8_readPlain_0.at 20 rfl) ?_
  refine zs_call1 (s_sign (by omega)) (TX8_readPlain_0.at 21 rfl) c8_219 rfl (by omega) (Nat.le_of_ble_eq_true rfl) (fun r37 => ?_)
  simp only [Int.reduceAdd] at r37 ⊢
  refine z_icmp_ne (tgt := 90) (TX8_readPlain_0.at 22 rfl) rfl (by omega) (by omega) (fun c3 => ?_) (fun c3 => ?_)
  · skip
    refine z_ald_0 (TX8_readPlain_1.at 8 rfl) ?_
    refine z_ild_1 (TX8_readPlain_1.at 9 rfl) ?_
    refine zm_callV1 (hS _ _ _ _ eg15 eg16 eg17 ef8 ef9 ef10 hSt hOK) (TX8_readPlain_1.at 10 rfl) c8_189 rfl rfl hH hA (by omega) (Nat.le_of_ble_eq_true rfl) (fun f92 g92 j92 h q92 hH hA => ?_)
    obtain ⟨q92, xf, xg, xj⟩ := q92
    rw [xj] at hH
    have ef8 := (xf 8 (by decide)).trans ef8
    have ef9 := (xf 9 (by decide)).trans ef9
    have ef10 := (xf 10 (by decide)).trans ef10
    have hfE := hfE.trans xf (by decide)
    have eg15 := (xg 15 (by decide)).trans eg15
    have eg16 := (xg 16 (by decide)).trans eg16
    have eg17 := (xg 17 (by decide)).trans eg17
    have hgE := hgE.trans xg (by decide)
    have qL := q92
    have hSt := qL
    have hOK := ok_bd (pl := pl) hR.2.2 hOK hsa hsp
    refine z_ald_0 (TX8_readPlain_1.at 11 rfl) ?_
    refine z_bipush (by decide) (TX8_readPlain_1.at 12 rfl) ?_
    refine zs_call1 (s_sign (by omega)) (TX8_readPlain_1.at 13 rfl) c8_219 rfl (by omega) (Nat.le_of_ble_eq_true rfl) (fun r98 => ?_)
    simp only [Int.reduceAdd] at r98 ⊢
    refine zm_callI1 (m_takes0 eg15 rfl rfl (by omega) (st_b hSt hOK hR.1.2)) (TX8_readPlain_1.at 14 rfl) c8_180 rfl rfl hH hA (by omega) (Nat.le_of_ble_eq_true rfl) (fun x101 f101 g101 j101 h r101 q101 hH hA => ?_)
    obtain ⟨q101, xf, xg, xj⟩ := q101
    rw [xj] at hH
    have ef8 := (xf 8 (by decide)).trans ef8
    have ef9 := (xf 9 (by decide)).trans ef9
    have ef10 := (xf 10 (by decide)).trans ef10
    have hfE := hfE.trans xf (by decide)
    have eg15 := (xg 15 (by decide)).trans eg15
    have eg16 := (xg 16 (by decide)).trans eg16
    have eg17 := (xg 17 (by decide)).trans eg17
    have hgE := hgE.trans xg (by decide)
    have qL := q101
    have hT101 := sv_takes hR hSt hOK qL xf
    rw [hT101.1] at r101 ⊢
    refine z_if_neB (tgt := 128) (TX8_readPlain_1.at 15 rfl) rfl (fun c4 => ?_) (fun c4 => ?_)
    · skip
      have hSt := hT101.2.1 c4
      have hk1 := c4
      have hOK := ok_tk hR.2.2 hOK (by decide) hk1
      refine z_ald_0 (TX8_readPlain_1.at 25 rfl) ?_
      refine z_ild_1 (TX8_readPlain_1.at 26 rfl) ?_
      refine zm_callV1 (hS _ _ _ _ eg15 eg16 eg17 ef8 ef9 ef10 hSt hOK) (TX8_readPlain_1.at 27 rfl) c8_189 rfl rfl hH hA (by omega) (Nat.le_of_ble_eq_true rfl) (fun f130 g130 j130 h q130 hH hA => ?_)
      obtain ⟨q130, xf, xg, xj⟩ := q130
      rw [xj] at hH
      have ef8 := (xf 8 (by decide)).trans ef8
      have ef9 := (xf 9 (by decide)).trans ef9
      have ef10 := (xf 10 (by decide)).trans ef10
      have hfE := hfE.trans xf (by decide)
      have eg15 := (xg 15 (by decide)).trans eg15
      have eg16 := (xg 16 (by decide)).trans eg16
      have eg17 := (xg 17 (by decide)).trans eg17
      have hgE := hgE.trans xg (by decide)
      have qL := q130
      have hSt := qL
      have hOK := ok_bd (pl := pl) hR.2.2 hOK hsa hsp
      refine zm_vret (TX8_readPlain_1.at 28 rfl) rfl hH hA ?_
      first | exact ⟨plain_t (inner := (some G)) hq (by omega) hk1 (by decide) ▸ hSt, hfE, hgE, rfl⟩ | exact ⟨plain_m (inner := (some G)) hq (by omega) c4 c5 ▸ hSt, hfE, hgE, rfl⟩ | exact ⟨plain_br (sum := sum) hq (by omega) ▸ hSt, hfE, hgE, rfl⟩
    · skip
      have hSt := hT101.2.2 c4
      refine z_ald_0 (TX8_readPlain_1.at 16 rfl) ?_
      refine z_bipush (by decide) (TX8_readPlain_1.at 17 rfl) ?_
      refine zs_call1 (s_sign (by omega)) (TX8_readPlain_1.at 18 rfl) c8_219 rfl (by omega) (Nat.le_of_ble_eq_true rfl) (fun r110 => ?_)
      simp only [Int.reduceAdd] at r110 ⊢
      refine zm_callI1 (m_takes0 eg15 rfl rfl (by omega) (st_b hSt hOK hR.1.2)) (TX8_readPlain_1.at 19 rfl) c8_180 rfl rfl hH hA (by omega) (Nat.le_of_ble_eq_true rfl) (fun x113 f113 g113 j113 h r113 q113 hH hA => ?_)
      obtain ⟨q113, xf, xg, xj⟩ := q113
      rw [xj] at hH
      have ef8 := (xf 8 (by decide)).trans ef8
      have ef9 := (xf 9 (by decide)).trans ef9
      have ef10 := (xf 10 (by decide)).trans ef10
      have hfE := hfE.trans xf (by decide)
      have eg15 := (xg 15 (by decide)).trans eg15
      have eg16 := (xg 16 (by decide)).trans eg16
      have eg17 := (xg 17 (by decide)).trans eg17
      have hgE := hgE.trans xg (by decide)
      have qL := q113
      have hT113 := sv_takes hR hSt hOK qL xf
      rw [hT113.1] at r113 ⊢
      refine z_if_neB (tgt := 128) (TX8_readPlain_1.at 20 rfl) rfl (fun c5 => ?_) (fun c5 => ?_)
      · skip
        have hSt := hT113.2.1 c5
        have hk1 := c5
        have hOK := ok_tk hR.2.2 hOK (by decide) hk1
        refine z_ald_0 (TX8_readPlain_1.at 25 rfl) ?_
        refine z_ild_1 (TX8_readPlain_1.at 26 rfl) ?_
        refine zm_callV1 (hS _ _ _ _ eg15 eg16 eg17 ef8 ef9 ef10 hSt hOK) (TX8_readPlain_1.at 27 rfl) c8_189 rfl rfl hH hA (by omega) (Nat.le_of_ble_eq_true rfl) (fun f130 g130 j130 h q130 hH hA => ?_)
        obtain ⟨q130, xf, xg, xj⟩ := q130
        rw [xj] at hH
        have ef8 := (xf 8 (by decide)).trans ef8
        have ef9 := (xf 9 (by decide)).trans ef9
        have ef10 := (xf 10 (by decide)).trans ef10
        have hfE := hfE.trans xf (by decide)
        have eg15 := (xg 15 (by decide)).trans eg15
        have eg16 := (xg 16 (by decide)).trans eg16
        have eg17 := (xg 17 (by decide)).trans eg17
        have hgE := hgE.trans xg (by decide)
        have qL := q130
        have hSt := qL
        have hOK := ok_bd (pl := pl) hR.2.2 hOK hsa hsp
        refine zm_vret (TX8_readPlain_1.at 28 rfl) rfl hH hA ?_
        first | exact ⟨plain_t (inner := (some G)) hq (by omega) hk1 (by decide) ▸ hSt, hfE, hgE, rfl⟩ | exact ⟨plain_m (inner := (some G)) hq (by omega) c4 c5 ▸ hSt, hfE, hgE, rfl⟩ | exact ⟨plain_br (sum := sum) hq (by omega) ▸ hSt, hfE, hgE, rfl⟩
      · skip
        have hSt := hT113.2.2 c5
        refine z_ald_0 (TX8_readPlain_1.at 21 rfl) ?_
        refine z_bipush (by decide) (TX8_readPlain_1.at 22 rfl) ?_
        refine zs_call1 (s_sign (by omega)) (TX8_readPlain_1.at 23 rfl) c8_219 rfl (by omega) (Nat.le_of_ble_eq_true rfl) (fun r122 => ?_)
        simp only [Int.reduceAdd] at r122 ⊢
        refine zm_callV1 (m_must eg15 eg17 rfl rfl (by omega) (st_b hSt hOK hR.1.2)) (TX8_readPlain_1.at 24 rfl) c8_193 rfl rfl hH hA (by omega) (Nat.le_of_ble_eq_true rfl) (fun f125 g125 j125 h q125 hH hA => ?_)
        obtain ⟨q125, xf, xg, xj⟩ := q125
        rw [xj] at hH
        have ef8 := (xf 8 (by decide)).trans ef8
        have ef9 := (xf 9 (by decide)).trans ef9
        have ef10 := (xf 10 (by decide)).trans ef10
        have hfE := hfE.trans xf (by decide)
        have eg15 := (xg 15 (by decide)).trans eg15
        have eg16 := (xg 16 (by decide)).trans eg16
        have eg17 := (xg 17 (by decide)).trans eg17
        have hgE := hgE.trans xg (by decide)
        have qL := q125
        have hSt := sv_must hR hSt hOK qL xf
        have hOK := ok_ms (pl := pl) (x := 161) hR.2.2 hOK (by decide)
        skip
        refine z_ald_0 (TX8_readPlain_1.at 25 rfl) ?_
        refine z_ild_1 (TX8_readPlain_1.at 26 rfl) ?_
        refine zm_callV1 (hS _ _ _ _ eg15 eg16 eg17 ef8 ef9 ef10 hSt hOK) (TX8_readPlain_1.at 27 rfl) c8_189 rfl rfl hH hA (by omega) (Nat.le_of_ble_eq_true rfl) (fun f130 g130 j130 h q130 hH hA => ?_)
        obtain ⟨q130, xf, xg, xj⟩ := q130
        rw [xj] at hH
        have ef8 := (xf 8 (by decide)).trans ef8
        have ef9 := (xf 9 (by decide)).trans ef9
        have ef10 := (xf 10 (by decide)).trans ef10
        have hfE := hfE.trans xf (by decide)
        have eg15 := (xg 15 (by decide)).trans eg15
        have eg16 := (xg 16 (by decide)).trans eg16
        have eg17 := (xg 17 (by decide)).trans eg17
        have hgE := hgE.trans xg (by decide)
        have qL := q130
        have hSt := qL
        have hOK := ok_bd (pl := pl) hR.2.2 hOK hsa hsp
        refine zm_vret (TX8_readPlain_1.at 28 rfl) rfl hH hA ?_
        first | exact ⟨plain_t (inner := (some G)) hq (by omega) hk1 (by decide) ▸ hSt, hfE, hgE, rfl⟩ | exact ⟨plain_m (inner := (some G)) hq (by omega) c4 c5 ▸ hSt, hfE, hgE, rfl⟩ | exact ⟨plain_br (sum := sum) hq (by omega) ▸ hSt, hfE, hgE, rfl⟩
  · skip
    refine z_ild_1 (TX8_readPlain_0.at 23 rfl) ?_
    refine z_bipush (by decide) (TX8_readPlain_0.at 24 rfl) ?_
    refine z_icmp_ne (tgt := 53) (TX8_readPlain_0.at 25 rfl) rfl (by omega) (by omega) (fun c6 => ?_) (fun c6 => absurd c6 (by omega))
    refine z_ald_0 (TX8_readPlain_0.at 28 rfl) ?_
    refine zm_callI0 (m_fine ef21) (TX8_readPlain_0.at 29 rfl) c8_173 rfl rfl hH hA (by omega) (Nat.le_of_ble_eq_true rfl) (fun x54 f54 g54 j54 h r54 q54 hH hA => ?_)
    obtain ⟨q54, xf, xg, xj⟩ := q54
    rw [xj] at hH
    have ef8 := (xf 8 (by decide)).trans ef8
    have ef9 := (xf 9 (by decide)).trans ef9
    have ef10 := (xf 10 (by decide)).trans ef10
    have ef19 := (xf 19 (by decide)).trans ef19
    have ef20 := (xf 20 (by decide)).trans ef20
    have ef21 := (xf 21 (by decide)).trans ef21
    have hfE := hfE.trans xf (by decide)
    have eg15 := (xg 15 (by decide)).trans eg15
    have eg16 := (xg 16 (by decide)).trans eg16
    have eg17 := (xg 17 (by decide)).trans eg17
    have hgE := hgE.trans xg (by decide)
    have qL := q54
    obtain rfl := qL
    have hSt := St_tr hSt xf
    refine z_if_neB (tgt := 61) (TX8_readPlain_0.at 30 rfl) rfl (fun c7 => ?_) (fun c7 => absurd c7 (by omega))
    refine z_ald_0 (TX8_readPlain_0.at 32 rfl) ?_
    refine z_dup rfl (TX8_readPlain_0.at 33 rfl) ?_
    refine zm_getIE ef19 (TX8_readPlain_0.at 34 rfl) fl8_177 hH rfl (by decide) (fun r63 => ?_)
    refine z_iconst (TX8_readPlain_0.at 35 rfl) ?_
    refine z_iadd (TX8_readPlain_0.at 36 rfl) ?_
    refine zm_putIE (TX8_readPlain_0.at 37 rfl) fp8_177 hH hA rfl (by decide) (by first | omega | exact b2i_01 _) (fun h f68 e1 e2 hH hA => ?_)
    have ef8 := (e1 8 (by decide)).trans ef8
    have ef9 := (e1 9 (by decide)).trans ef9
    have ef10 := (e1 10 (by decide)).trans ef10
    have ef19 := e2
    have ef20 := (e1 20 (by decide)).trans ef20
    have ef21 := (e1 21 (by decide)).trans ef21
    have hfE := hfE.put e1 (by decide)
    have hSt : St f68 (.ok (t1 + 1, p)) := ⟨ef19, ef20, ef21⟩
    have hOK := ok_nx hR hOK (show c t1 ≠ 0 by omega) pp5
    refine z_ald_0 (TX8_readPlain_0.at 38 rfl) ?_
    refine z_ild_1 (TX8_readPlain_0.at 39 rfl) ?_
    refine z_iconst (TX8_readPlain_1.at 0 rfl) ?_
    refine z_iadd (TX8_readPlain_1.at 1 rfl) ?_
    refine zm_callV1 (hI _ _ _ _ eg15 eg16 eg17 ef8 ef9 ef10 hSt hOK) (TX8_readPlain_1.at 2 rfl) c8_196 rfl rfl hH hA (by omega) (Nat.le_of_ble_eq_true rfl) (fun f75 g75 j75 h q75 hH hA => ?_)
    obtain ⟨q75, xf, xg, xj⟩ := q75
    rw [xj] at hH
    have ef8 := (xf 8 (by decide)).trans ef8
    have ef9 := (xf 9 (by decide)).trans ef9
    have ef10 := (xf 10 (by decide)).trans ef10
    have hfE := hfE.trans xf (by decide)
    have eg15 := (xg 15 (by decide)).trans eg15
    have eg16 := (xg 16 (by decide)).trans eg16
    have eg17 := (xg 17 (by decide)).trans eg17
    have hgE := hgE.trans xg (by decide)
    have qL := q75
    have hSt := qL
    have hOK := ok_bd (pl := pl) hR.2.2 hOK ha hp
    refine z_ald_0 (TX8_readPlain_1.at 3 rfl) ?_
    refine z_bipush (by decide) (TX8_readPlain_1.at 4 rfl) ?_
    refine zs_call1 (s_sign (by omega)) (TX8_readPlain_1.at 5 rfl) c8_219 rfl (by omega) (Nat.le_of_ble_eq_true rfl) (fun r81 => ?_)
    simp only [Int.reduceAdd] at r81 ⊢
    refine zm_callV1 (m_must eg15 eg17 rfl rfl (by omega) (st_b hSt hOK hR.1.2)) (TX8_readPlain_1.at 6 rfl) c8_193 rfl rfl hH hA (by omega) (Nat.le_of_ble_eq_true rfl) (fun f84 g84 j84 h q84 hH hA => ?_)
    obtain ⟨q84, xf, xg, xj⟩ := q84
    rw [xj] at hH
    have ef8 := (xf 8 (by decide)).trans ef8
    have ef9 := (xf 9 (by decide)).trans ef9
    have ef10 := (xf 10 (by decide)).trans ef10
    have hfE := hfE.trans xf (by decide)
    have eg15 := (xg 15 (by decide)).trans eg15
    have eg16 := (xg 16 (by decide)).trans eg16
    have eg17 := (xg 17 (by decide)).trans eg17
    have hgE := hgE.trans xg (by decide)
    have qL := q84
    have hSt := sv_must hR hSt hOK qL xf
    have hOK := ok_ms (pl := pl) (x := 141) hR.2.2 hOK (by decide)
    refine z_goto (tgt := 133) (TX8_readPlain_1.at 7 rfl) rfl ?_
    refine zm_vret (TX8_readPlain_1.at 28 rfl) rfl hH hA ?_
    first | exact ⟨plain_t (inner := (some G)) hq (by omega) hk1 (by decide) ▸ hSt, hfE, hgE, rfl⟩ | exact ⟨plain_m (inner := (some G)) hq (by omega) c4 c5 ▸ hSt, hfE, hgE, rfl⟩ | exact ⟨plain_br (sum := sum) hq (by omega) ▸ hSt, hfE, hgE, rfl⟩

set_option maxHeartbeats 4000000 in
set_option maxRecDepth 100000 in
theorem readPlain_0 {l : Launch} {o : Nat} {ar : Nat → Nat} {f : mF} {g j : mA} {N : Int} {c v pl X15 X16 X17 : Int → Int} {w8 w9 io : Int} (hR : RdH N c v pl X15 X16 X17) {dp : Int} {t p : Nat} {sum : Nat → Nat → PR} {m : Nat} (hdp : 0 ≤ dp ∧ dp ≤ 8) (hS : RdM l o ar MX8_readSum m [vI dp] N pl X15 X16 X17 w8 w9 io sum) (hsa : Adv c sum) (hsp : Pk sum) (hdp2 : dp = 8)  (eg15 : g 15 = X15) (eg16 : g 16 = X16) (eg17 : g 17 = X17) (ef8 : f 8 = w8) (ef9 : f 9 = w9) (ef10 : f 10 = io) (hSt : St f (.ok (t, p))) (hOK : SOK N (.ok (t, p))) : MM l o ar MX8_readPlain (m + 4) [.ref o, vI dp] f g j (PV (fun f' g' j' => St f' (cvR pl (pPlain c sum none t p)) ∧ eqx [19, 20, 21] f f' ∧ eqx [] g g' ∧ j' = j)) := by
  refine MM.intro [some (.ref o), some (vI dp), none, none] (by decide) (Nat.le_of_ble_eq_true rfl) rfl (fun d hd h0 h hH hA => ?_)
  have hfE : eqx [19, 20, 21] f f := eqx.rf
  have hgE : eqx [] g g := eqx.rf
  refine z_iconst (TX8_readPlain_0.at 0 rfl) ?_
  refine z_ist_2 (TX8_readPlain_0.at 1 rfl) (Nat.le_of_ble_eq_true rfl) rfl ?_
  obtain ⟨t1, nb, hq⟩ : ∃ t1 nb, pNots c 401 t false = (t1, nb) := ⟨_, _, rfl⟩
  refine lp_readPlain (dp := dp) (fin := .ok (t1, p)) hR (by omega) (fun f3 g3 h3 hSt hOK eg15 eg16 eg17 ef8 ef9 ef10 hfE hgE hH hA => ?_) 401 false (.ok (t, p)) _ _ _ _ (Or.inl rfl) hSt hOK (far_401 hR.1.2) (by show _ = Except.ok ((pNots c 401 t false).1, p); rw [hq]) eg15 eg16 eg17 ef8 ef9 ef10 hfE hgE hH hA
  obtain ⟨tt0, ttN, tt4, x15, x16, x17, x0, pp5⟩ := bt_pl hR hOK
  have ef19 := hSt.1
  have ef20 := hSt.2.1
  have ef21 := hSt.2.2
  refine z_ild_2 (TX8_readPlain_0.at 2 rfl) ?_
  refine z_if_eq (tgt := 16) (TX8_readPlain_0.at 3 rfl) rfl (by omega) (fun c1 => ?_) (fun c1 => absurd c1 (by decide))
  refine z_ald_0 (TX8_readPlain_0.at 9 rfl) ?_
  refine zm_callI0 (m_fine ef21) (TX8_readPlain_0.at 10 rfl) c8_173 rfl rfl hH hA (by omega) (Nat.le_of_ble_eq_true rfl) (fun x17 f17 g17 j17 h r17 q17 hH hA => ?_)
  obtain ⟨q17, xf, xg, xj⟩ := q17
  rw [xj] at hH
  have ef8 := (xf 8 (by decide)).trans ef8
  have ef9 := (xf 9 (by decide)).trans ef9
  have ef10 := (xf 10 (by decide)).trans ef10
  have ef19 := (xf 19 (by decide)).trans ef19
  have ef20 := (xf 20 (by decide)).trans ef20
  have ef21 := (xf 21 (by decide)).trans ef21
  have hfE := hfE.trans xf (by decide)
  have eg15 := (xg 15 (by decide)).trans eg15
  have eg16 := (xg 16 (by decide)).trans eg16
  have eg17 := (xg 17 (by decide)).trans eg17
  have hgE := hgE.trans xg (by decide)
  have qL := q17
  obtain rfl := qL
  have hSt := St_tr hSt xf
  refine z_if_neB (tgt := 24) (TX8_readPlain_0.at 11 rfl) rfl (fun c2 => ?_) (fun c2 => absurd c2 (by omega))
  refine z_ald_0 (TX8_readPlain_0.at 13 rfl) ?_
  refine zm_getA (TX8_readPlain_0.at 14 rfl) fl8_54 hH (by decide) (by decide) ?_
  refine z_ald_0 (TX8_readPlain_0.at 15 rfl) ?_
  refine zm_getIE ef19 (TX8_readPlain_0.at 16 rfl) fl8_177 hH rfl (by decide) (fun r29 => ?_)
  refine zm_ialdE eg15 (TX8_readPlain_0.at 17 rfl) hH rfl (by omega) (show _ < ((401 : Nat) : Int) by omega) (fun r32 => ?_)
  refine z_ist_3 (TX8_readPlain_0.at 18 rfl) (Nat.le_of_ble_eq_true rfl) rfl ?_
  rw [x15] at r32 ⊢
  refine z_ild_3 (TX8_readPlain_0.at 19 rfl) ?_
  refine z_bipush (by decide) (TX8_readPlain_0.at 20 rfl) ?_
  refine zs_call1 (s_sign (by omega)) (TX8_readPlain_0.at 21 rfl) c8_219 rfl (by omega) (Nat.le_of_ble_eq_true rfl) (fun r37 => ?_)
  simp only [Int.reduceAdd] at r37 ⊢
  refine z_icmp_ne (tgt := 90) (TX8_readPlain_0.at 22 rfl) rfl (by omega) (by omega) (fun c3 => ?_) (fun c3 => ?_)
  · skip
    refine z_ald_0 (TX8_readPlain_1.at 8 rfl) ?_
    refine z_ild_1 (TX8_readPlain_1.at 9 rfl) ?_
    refine zm_callV1 (hS _ _ _ _ eg15 eg16 eg17 ef8 ef9 ef10 hSt hOK) (TX8_readPlain_1.at 10 rfl) c8_189 rfl rfl hH hA (by omega) (Nat.le_of_ble_eq_true rfl) (fun f92 g92 j92 h q92 hH hA => ?_)
    obtain ⟨q92, xf, xg, xj⟩ := q92
    rw [xj] at hH
    have ef8 := (xf 8 (by decide)).trans ef8
    have ef9 := (xf 9 (by decide)).trans ef9
    have ef10 := (xf 10 (by decide)).trans ef10
    have hfE := hfE.trans xf (by decide)
    have eg15 := (xg 15 (by decide)).trans eg15
    have eg16 := (xg 16 (by decide)).trans eg16
    have eg17 := (xg 17 (by decide)).trans eg17
    have hgE := hgE.trans xg (by decide)
    have qL := q92
    have hSt := qL
    have hOK := ok_bd (pl := pl) hR.2.2 hOK hsa hsp
    refine z_ald_0 (TX8_readPlain_1.at 11 rfl) ?_
    refine z_bipush (by decide) (TX8_readPlain_1.at 12 rfl) ?_
    refine zs_call1 (s_sign (by omega)) (TX8_readPlain_1.at 13 rfl) c8_219 rfl (by omega) (Nat.le_of_ble_eq_true rfl) (fun r98 => ?_)
    simp only [Int.reduceAdd] at r98 ⊢
    refine zm_callI1 (m_takes0 eg15 rfl rfl (by omega) (st_b hSt hOK hR.1.2)) (TX8_readPlain_1.at 14 rfl) c8_180 rfl rfl hH hA (by omega) (Nat.le_of_ble_eq_true rfl) (fun x101 f101 g101 j101 h r101 q101 hH hA => ?_)
    obtain ⟨q101, xf, xg, xj⟩ := q101
    rw [xj] at hH
    have ef8 := (xf 8 (by decide)).trans ef8
    have ef9 := (xf 9 (by decide)).trans ef9
    have ef10 := (xf 10 (by decide)).trans ef10
    have hfE := hfE.trans xf (by decide)
    have eg15 := (xg 15 (by decide)).trans eg15
    have eg16 := (xg 16 (by decide)).trans eg16
    have eg17 := (xg 17 (by decide)).trans eg17
    have hgE := hgE.trans xg (by decide)
    have qL := q101
    have hT101 := sv_takes hR hSt hOK qL xf
    rw [hT101.1] at r101 ⊢
    refine z_if_neB (tgt := 128) (TX8_readPlain_1.at 15 rfl) rfl (fun c4 => ?_) (fun c4 => ?_)
    · skip
      have hSt := hT101.2.1 c4
      have hk1 := c4
      have hOK := ok_tk hR.2.2 hOK (by decide) hk1
      refine z_ald_0 (TX8_readPlain_1.at 25 rfl) ?_
      refine z_ild_1 (TX8_readPlain_1.at 26 rfl) ?_
      refine zm_callV1 (hS _ _ _ _ eg15 eg16 eg17 ef8 ef9 ef10 hSt hOK) (TX8_readPlain_1.at 27 rfl) c8_189 rfl rfl hH hA (by omega) (Nat.le_of_ble_eq_true rfl) (fun f130 g130 j130 h q130 hH hA => ?_)
      obtain ⟨q130, xf, xg, xj⟩ := q130
      rw [xj] at hH
      have ef8 := (xf 8 (by decide)).trans ef8
      have ef9 := (xf 9 (by decide)).trans ef9
      have ef10 := (xf 10 (by decide)).trans ef10
      have hfE := hfE.trans xf (by decide)
      have eg15 := (xg 15 (by decide)).trans eg15
      have eg16 := (xg 16 (by decide)).trans eg16
      have eg17 := (xg 17 (by decide)).trans eg17
      have hgE := hgE.trans xg (by decide)
      have qL := q130
      have hSt := qL
      have hOK := ok_bd (pl := pl) hR.2.2 hOK hsa hsp
      refine zm_vret (TX8_readPlain_1.at 28 rfl) rfl hH hA ?_
      first | exact ⟨plain_t (inner := none) hq (by omega) hk1 (by decide) ▸ hSt, hfE, hgE, rfl⟩ | exact ⟨plain_m (inner := none) hq (by omega) c4 c5 ▸ hSt, hfE, hgE, rfl⟩
    · skip
      have hSt := hT101.2.2 c4
      refine z_ald_0 (TX8_readPlain_1.at 16 rfl) ?_
      refine z_bipush (by decide) (TX8_readPlain_1.at 17 rfl) ?_
      refine zs_call1 (s_sign (by omega)) (TX8_readPlain_1.at 18 rfl) c8_219 rfl (by omega) (Nat.le_of_ble_eq_true rfl) (fun r110 => ?_)
      simp only [Int.reduceAdd] at r110 ⊢
      refine zm_callI1 (m_takes0 eg15 rfl rfl (by omega) (st_b hSt hOK hR.1.2)) (TX8_readPlain_1.at 19 rfl) c8_180 rfl rfl hH hA (by omega) (Nat.le_of_ble_eq_true rfl) (fun x113 f113 g113 j113 h r113 q113 hH hA => ?_)
      obtain ⟨q113, xf, xg, xj⟩ := q113
      rw [xj] at hH
      have ef8 := (xf 8 (by decide)).trans ef8
      have ef9 := (xf 9 (by decide)).trans ef9
      have ef10 := (xf 10 (by decide)).trans ef10
      have hfE := hfE.trans xf (by decide)
      have eg15 := (xg 15 (by decide)).trans eg15
      have eg16 := (xg 16 (by decide)).trans eg16
      have eg17 := (xg 17 (by decide)).trans eg17
      have hgE := hgE.trans xg (by decide)
      have qL := q113
      have hT113 := sv_takes hR hSt hOK qL xf
      rw [hT113.1] at r113 ⊢
      refine z_if_neB (tgt := 128) (TX8_readPlain_1.at 20 rfl) rfl (fun c5 => ?_) (fun c5 => ?_)
      · skip
        have hSt := hT113.2.1 c5
        have hk1 := c5
        have hOK := ok_tk hR.2.2 hOK (by decide) hk1
        refine z_ald_0 (TX8_readPlain_1.at 25 rfl) ?_
        refine z_ild_1 (TX8_readPlain_1.at 26 rfl) ?_
        refine zm_callV1 (hS _ _ _ _ eg15 eg16 eg17 ef8 ef9 ef10 hSt hOK) (TX8_readPlain_1.at 27 rfl) c8_189 rfl rfl hH hA (by omega) (Nat.le_of_ble_eq_true rfl) (fun f130 g130 j130 h q130 hH hA => ?_)
        obtain ⟨q130, xf, xg, xj⟩ := q130
        rw [xj] at hH
        have ef8 := (xf 8 (by decide)).trans ef8
        have ef9 := (xf 9 (by decide)).trans ef9
        have ef10 := (xf 10 (by decide)).trans ef10
        have hfE := hfE.trans xf (by decide)
        have eg15 := (xg 15 (by decide)).trans eg15
        have eg16 := (xg 16 (by decide)).trans eg16
        have eg17 := (xg 17 (by decide)).trans eg17
        have hgE := hgE.trans xg (by decide)
        have qL := q130
        have hSt := qL
        have hOK := ok_bd (pl := pl) hR.2.2 hOK hsa hsp
        refine zm_vret (TX8_readPlain_1.at 28 rfl) rfl hH hA ?_
        first | exact ⟨plain_t (inner := none) hq (by omega) hk1 (by decide) ▸ hSt, hfE, hgE, rfl⟩ | exact ⟨plain_m (inner := none) hq (by omega) c4 c5 ▸ hSt, hfE, hgE, rfl⟩
      · skip
        have hSt := hT113.2.2 c5
        refine z_ald_0 (TX8_readPlain_1.at 21 rfl) ?_
        refine z_bipush (by decide) (TX8_readPlain_1.at 22 rfl) ?_
        refine zs_call1 (s_sign (by omega)) (TX8_readPlain_1.at 23 rfl) c8_219 rfl (by omega) (Nat.le_of_ble_eq_true rfl) (fun r122 => ?_)
        simp only [Int.reduceAdd] at r122 ⊢
        refine zm_callV1 (m_must eg15 eg17 rfl rfl (by omega) (st_b hSt hOK hR.1.2)) (TX8_readPlain_1.at 24 rfl) c8_193 rfl rfl hH hA (by omega) (Nat.le_of_ble_eq_true rfl) (fun f125 g125 j125 h q125 hH hA => ?_)
        obtain ⟨q125, xf, xg, xj⟩ := q125
        rw [xj] at hH
        have ef8 := (xf 8 (by decide)).trans ef8
        have ef9 := (xf 9 (by decide)).trans ef9
        have ef10 := (xf 10 (by decide)).trans ef10
        have hfE := hfE.trans xf (by decide)
        have eg15 := (xg 15 (by decide)).trans eg15
        have eg16 := (xg 16 (by decide)).trans eg16
        have eg17 := (xg 17 (by decide)).trans eg17
        have hgE := hgE.trans xg (by decide)
        have qL := q125
        have hSt := sv_must hR hSt hOK qL xf
        have hOK := ok_ms (pl := pl) (x := 161) hR.2.2 hOK (by decide)
        skip
        refine z_ald_0 (TX8_readPlain_1.at 25 rfl) ?_
        refine z_ild_1 (TX8_readPlain_1.at 26 rfl) ?_
        refine zm_callV1 (hS _ _ _ _ eg15 eg16 eg17 ef8 ef9 ef10 hSt hOK) (TX8_readPlain_1.at 27 rfl) c8_189 rfl rfl hH hA (by omega) (Nat.le_of_ble_eq_true rfl) (fun f130 g130 j130 h q130 hH hA => ?_)
        obtain ⟨q130, xf, xg, xj⟩ := q130
        rw [xj] at hH
        have ef8 := (xf 8 (by decide)).trans ef8
        have ef9 := (xf 9 (by decide)).trans ef9
        have ef10 := (xf 10 (by decide)).trans ef10
        have hfE := hfE.trans xf (by decide)
        have eg15 := (xg 15 (by decide)).trans eg15
        have eg16 := (xg 16 (by decide)).trans eg16
        have eg17 := (xg 17 (by decide)).trans eg17
        have hgE := hgE.trans xg (by decide)
        have qL := q130
        have hSt := qL
        have hOK := ok_bd (pl := pl) hR.2.2 hOK hsa hsp
        refine zm_vret (TX8_readPlain_1.at 28 rfl) rfl hH hA ?_
        first | exact ⟨plain_t (inner := none) hq (by omega) hk1 (by decide) ▸ hSt, hfE, hgE, rfl⟩ | exact ⟨plain_m (inner := none) hq (by omega) c4 c5 ▸ hSt, hfE, hgE, rfl⟩
  · skip
    refine z_ild_1 (TX8_readPlain_0.at 23 rfl) ?_
    refine z_bipush (by decide) (TX8_readPlain_0.at 24 rfl) ?_
    refine z_icmp_ne (tgt := 53) (TX8_readPlain_0.at 25 rfl) rfl (by omega) (by omega) (fun c6 => absurd c6 (by omega)) (fun c6 => ?_)
    refine z_ald_0 (TX8_readPlain_0.at 26 rfl) ?_
    refine zm_callV0 (m_faults eg17 ef19 ef21 (by omega)) (TX8_readPlain_0.at 27 rfl) c8_183 rfl rfl hH hA (by omega) (Nat.le_of_ble_eq_true rfl) (fun f50 g50 j50 h q50 hH hA => ?_)
    obtain ⟨q50, xf, xg, xj⟩ := q50
    rw [xj] at hH
    have ef8 := (xf 8 (by decide)).trans ef8
    have ef9 := (xf 9 (by decide)).trans ef9
    have ef10 := (xf 10 (by decide)).trans ef10
    have ef19 := (xf 19 (by decide)).trans ef19
    have ef20 := (xf 20 (by decide)).trans ef20
    have hfE := hfE.trans xf (by decide)
    have eg15 := (xg 15 (by decide)).trans eg15
    have eg16 := (xg 16 (by decide)).trans eg16
    have eg17 := (xg 17 (by decide)).trans eg17
    have hgE := hgE.trans xg (by decide)
    have qL := q50
    have hSt : St f50 (.error (pl t1)) := ⟨by rw [qL, if_pos rfl, x17], by omega⟩
    have ef21 := hSt.1
    refine z_ald_0 (TX8_readPlain_0.at 28 rfl) ?_
    refine zm_callI0 (m_fine ef21) (TX8_readPlain_0.at 29 rfl) c8_173 rfl rfl hH hA (by omega) (Nat.le_of_ble_eq_true rfl) (fun x54 f54 g54 j54 h r54 q54 hH hA => ?_)
    obtain ⟨q54, xf, xg, xj⟩ := q54
    rw [xj] at hH
    have ef8 := (xf 8 (by decide)).trans ef8
    have ef9 := (xf 9 (by decide)).trans ef9
    have ef10 := (xf 10 (by decide)).trans ef10
    have ef19 := (xf 19 (by decide)).trans ef19
    have ef20 := (xf 20 (by decide)).trans ef20
    have ef21 := (xf 21 (by decide)).trans ef21
    have hfE := hfE.trans xf (by decide)
    have eg15 := (xg 15 (by decide)).trans eg15
    have eg16 := (xg 16 (by decide)).trans eg16
    have eg17 := (xg 17 (by decide)).trans eg17
    have hgE := hgE.trans xg (by decide)
    have qL := q54
    obtain rfl := qL
    have hSt := St_tr hSt xf
    refine z_if_neB (tgt := 61) (TX8_readPlain_0.at 30 rfl) rfl (fun c7 => absurd c7 (by omega)) (fun c7 => ?_)
    refine zm_vret (TX8_readPlain_0.at 31 rfl) rfl hH hA ?_
    exact ⟨plain_b0 (sum := sum) hq (by omega) ▸ hSt, hfE, hgE, rfl⟩

theorem rreadPlain {l : Launch} {o : Nat} {ar : Nat → Nat} {N : Int} {c v pl X15 X16 X17 : Int → Int} {w8 w9 io : Int} (hR : RdH N c v pl X15 X16 X17) {dp : Int} {sum : Nat → Nat → PR} {inner : Option (Nat → Nat → PR)} {m : Nat} (hdp : 0 ≤ dp ∧ dp ≤ 8) (hS : RdM l o ar MX8_readSum m [vI dp] N pl X15 X16 X17 w8 w9 io sum) (hsa : Adv c sum) (hsp : Pk sum) (hin : (dp = 8 ∧ inner = none) ∨ (dp < 8 ∧ ∃ G, inner = some G ∧ RdM l o ar MX8_readTest m [vI (dp + 1)] N pl X15 X16 X17 w8 w9 io G ∧ Adv c G ∧ Pk G)) : RdM l o ar MX8_readPlain (m + 4) [vI dp] N pl X15 X16 X17 w8 w9 io (pPlain c sum inner) := by
  intro f g j s eg15 eg16 eg17 ef8 ef9 ef10 hSt hOK
  match s, hSt, hOK with
  | .error b, hSt, hOK => exact fun d hd => readPlain_e hR eg15 eg16 eg17 ef8 ef9 ef10 hSt hOK d (by omega)
  | .ok (t, p), hSt, hOK =>
    show MM l o ar MX8_readPlain (m + 4) [.ref o, vI dp] f g j (PV (fun f' g' j' => St f' (cvR pl (pPlain c sum inner t p)) ∧ eqx [19, 20, 21] f f' ∧ eqx [] g g' ∧ j' = j))
    rcases hin with ⟨h1, rfl⟩ | ⟨h1, G, rfl, hI, ha, hp⟩
    · exact readPlain_0 hR hdp hS hsa hsp h1 eg15 eg16 eg17 ef8 ef9 ef10 hSt hOK
    · exact readPlain_1 hR hdp hS hsa hsp h1 hI ha hp eg15 eg16 eg17 ef8 ef9 ef10 hSt hOK
theorem Rd_mono {l : Launch} {o : Nat} {ar : Nat → Nat} {M : zM} {n n' : Nat} {as : List Value} {N : Int} {pl X15 X16 X17 : Int → Int} {w8 w9 io : Int} {G : Nat → Nat → PR} (h : RdM l o ar M n as N pl X15 X16 X17 w8 w9 io G) (hn : n ≤ n') : RdM l o ar M n' as N pl X15 X16 X17 w8 w9 io G :=
  fun f g j s a1 a2 a3 a4 a5 a6 a7 a8 d hd => h f g j s a1 a2 a3 a4 a5 a6 a7 a8 d (by omega)
theorem Adv_partD (lw : Bool) (c v : Int → Int) (d : Nat) : Adv c (pPart lw c v (pIn lw c v d)) := Adv_part (fun g h => by cases d with
  | zero => cases h
  | succ d => cases h; exact Adv_sum lw c v d)
theorem Pk_partD (lw : Bool) (c v : Int → Int) (d : Nat) : Pk (pPart lw c v (pIn lw c v d)) := Pk_part (fun g h => by cases d with
  | zero => cases h
  | succ d => cases h; exact Pk_sum lw c v d)
theorem rd_sum {l : Launch} {o : Nat} {ar : Nat → Nat} {N : Int} {c v pl X15 X16 X17 : Int → Int} {w8 w9 io : Int} (hR : RdH N c v pl X15 X16 X17) {lw : Bool} (e8 : w8 = wLo lw) (e9 : w9 = wHi lw) (e10 : io = inL lw) : ∀ d : Nat, d ≤ 8 → RdM l o ar MX8_readSum (6 * d + 6) [vI (8 - (d : Int))] N pl X15 X16 X17 w8 w9 io (pSumD lw c v d) := by
  intro d
  induction d with
  | zero =>
    intro _
    have hp := rreadPart (l := l) (o := o) (ar := ar) hR (lw := lw) (dp := 8 - ((0 : Nat) : Int)) (inner := pIn lw c v 0) (m := 0) e8 e9 e10 (Or.inl ⟨by omega, rfl, rfl⟩)
    have ht := r_readTerm hR (by omega) (by omega) hp (Adv_partD lw c v 0) (Pk_partD lw c v 0)
    exact r_readSum hR (by omega) (by omega) ht (Adv_row (fun x o h => op_ne.1 h) (Adv_partD lw c v 0)) (Pk_row (Pk_partD lw c v 0))
  | succ d ih =>
    intro hd
    have i := ih (by omega)
    have hp := rreadPart (l := l) (o := o) (ar := ar) hR (lw := lw) (dp := 8 - ((d + 1 : Nat) : Int)) (inner := pIn lw c v (d + 1)) (m := 6 * d + 6) e8 e9 e10 (Or.inr ⟨by omega, pSumD lw c v d, rfl, by rw [show 8 - ((d + 1 : Nat) : Int) + 1 = 8 - (d : Int) by omega]; exact i, Adv_sum lw c v d, Pk_sum lw c v d⟩)
    have ht := r_readTerm hR (by omega) (by omega) hp (Adv_partD lw c v (d + 1)) (Pk_partD lw c v (d + 1))
    exact Rd_mono (r_readSum hR (by omega) (by omega) ht (Adv_row (fun x o h => op_ne.1 h) (Adv_partD lw c v (d + 1))) (Pk_row (Pk_partD lw c v (d + 1)))) (by omega)
theorem Adv_plainD (lw : Bool) (c v : Int → Int) (d : Nat) : Adv c (pPlain c (pSumD lw c v d) (pInT lw c v d)) := Adv_plain (Adv_sum lw c v d) (fun g h => by cases d with
  | zero => cases h
  | succ d => cases h; exact Adv_test lw c v d)
theorem Pk_plainD (lw : Bool) (c v : Int → Int) (d : Nat) : Pk (pPlain c (pSumD lw c v d) (pInT lw c v d)) := Pk_plain (Pk_sum lw c v d) (fun g h => by cases d with
  | zero => cases h
  | succ d => cases h; exact Pk_test lw c v d)
theorem rd_test {l : Launch} {o : Nat} {ar : Nat → Nat} {N : Int} {c v pl X15 X16 X17 : Int → Int} {w8 w9 io : Int} (hR : RdH N c v pl X15 X16 X17) {lw : Bool} (e8 : w8 = wLo lw) (e9 : w9 = wHi lw) (e10 : io = inL lw) : ∀ d : Nat, d ≤ 8 → RdM l o ar MX8_readTest (6 * d + 12) [vI (8 - (d : Int))] N pl X15 X16 X17 w8 w9 io (pTestD lw c v d) := by
  intro d
  induction d with
  | zero =>
    intro _
    have hs := rd_sum (l := l) (o := o) (ar := ar) hR e8 e9 e10 0 (by omega)
    have hp := rreadPlain hR (dp := 8 - ((0 : Nat) : Int)) (inner := pInT lw c v 0) (by omega) hs (Adv_sum lw c v 0) (Pk_sum lw c v 0) (Or.inl ⟨by omega, rfl⟩)
    have hb := r_readBoth hR (by omega) (by omega) hp (Adv_plainD lw c v 0) (Pk_plainD lw c v 0)
    exact Rd_mono (r_readTest hR (by omega) (by omega) hb (Adv_rowB (by decide) (Adv_plainD lw c v 0)) (Pk_rowB (Pk_plainD lw c v 0))) (by omega)
  | succ d ih =>
    intro hd
    have i := ih (by omega)
    have hs := rd_sum (l := l) (o := o) (ar := ar) hR e8 e9 e10 (d + 1) (by omega)
    have hp := rreadPlain hR (dp := 8 - ((d + 1 : Nat) : Int)) (inner := pInT lw c v (d + 1)) (m := 6 * d + 12) (by omega) (Rd_mono hs (by omega)) (Adv_sum lw c v (d + 1)) (Pk_sum lw c v (d + 1)) (Or.inr ⟨by omega, pTestD lw c v d, rfl, by rw [show 8 - ((d + 1 : Nat) : Int) + 1 = 8 - (d : Int) by omega]; exact i, Adv_test lw c v d, Pk_test lw c v d⟩)
    have hb := r_readBoth hR (by omega) (by omega) hp (Adv_plainD lw c v (d + 1)) (Pk_plainD lw c v (d + 1))
    exact Rd_mono (r_readTest hR (by omega) (by omega) hb (Adv_rowB (by decide) (Adv_plainD lw c v (d + 1))) (Pk_rowB (Pk_plainD lw c v (d + 1)))) (by omega)
