/-! ===== the reference reads: tokens, one by one ===== -/
/-- where reading stands: a fault's place, or the token and how many parts there were -/
abbrev RS : Type := Except Int (Nat × Nat)
def cvR (pl : Int → Int) (r : PR) : RS := match r with
  | .error e => .error (pl e)
  | .ok (t, p, _) => .ok (t, p)
def bdR (pl : Int → Int) (s : RS) (g : Nat → Nat → PR) : RS := match s with
  | .error b => .error b
  | .ok (t, p) => cvR pl (g t p)
def St (f : mF) (s : RS) : Prop := match s with
  | .error b => f 21 = b ∧ b ≠ -1
  | .ok (t, p) => f 19 = (t : Int) ∧ f 20 = (p : Int) ∧ f 21 = -1
def SOK (N : Int) (s : RS) : Prop := match s with
  | .error _ => True
  | .ok (t, p) => (t : Int) ≤ N ∧ p ≤ 50
def tkB (c : Int → Int) (s : RS) (x : Int) : Bool := match s with
  | .error _ => false
  | .ok (t, _) => decide (c t = x)
def tkS (s : RS) : RS := match s with
  | .error b => .error b
  | .ok (t, p) => .ok (t + 1, p)
def msS (c pl : Int → Int) (s : RS) (x : Int) : RS := match s with
  | .error b => .error b
  | .ok (t, p) => if c t = x then .ok (t + 1, p) else .error (pl t)
def mnS (c v pl : Int → Int) (s : RS) (lo hi : Int) : RS := match s with
  | .error b => .error b
  | .ok (t, p) => if c t = 50 ∧ lo ≤ v t ∧ v t ≤ hi then .ok (t + 1, p) else .error (pl t)
def faS (pl : Int → Int) (s : RS) : RS := match s with
  | .error b => .error b
  | .ok (t, _) => .error (pl t)
/-- what reading has before it -/
def RdH (N : Int) (c v pl X15 X16 X17 : Int → Int) : Prop := (0 ≤ N ∧ N ≤ 400) ∧ (∀ i : Int, 0 ≤ i → i ≤ N → X15 i = c i ∧ X16 i = v i ∧ X17 i = pl i ∧ 0 ≤ pl i) ∧ ∀ i : Int, N ≤ i → c i = 0
theorem st_b {f : mF} {s : RS} {N : Int} (h : St f s) (h2 : SOK N s) (hN : N ≤ 400) : f 21 = -1 → 0 ≤ f 19 ∧ f 19 ≤ 400 := by
  intro e
  match s, h, h2 with
  | .error b, h, _ => exact absurd (h.1.symm.trans e) h.2
  | .ok (t, p), h, h2 =>
    have h1 : f 19 = (t : Int) := h.1
    have h3 : (t : Int) ≤ N := h2.1
    omega
theorem nz_le {c : Int → Int} {N : Int} {t e : Nat} (hz : ∀ i : Int, N ≤ i → c i = 0) (ht : (t : Int) ≤ N) (h : nz c t e) : (e : Int) ≤ N := by
  rcases Nat.lt_or_ge N.toNat e with q | q
  · exfalso
    have := h N.toNat (by omega) q
    exact this (hz _ (by omega))
  · omega
/-- parts stay at most fifty -/
def pk50 (r : PR) : Prop := match r with
  | .error _ => True
  | .ok (_, p', _) => p' ≤ 50
def Pk (g : Nat → Nat → PR) : Prop := ∀ t p, p ≤ 50 → pk50 (g t p)
theorem Pk_part {lw : Bool} {c v : Int → Int} {inner : Option (Nat → Nat → PR)} (h : ∀ g, inner = some g → Pk g) : Pk (pPart lw c v inner) := by
  intro t p hp
  unfold pPart
  split
  · cases inner with
    | none => exact True.intro
    | some g =>
      have a := h g rfl (t + 1) p hp
      simp only
      cases hg : g (t + 1) p with
      | error e => exact True.intro
      | ok r =>
        obtain ⟨t', p', k⟩ := r
        rw [hg] at a
        simp only at a ⊢
        split
        · exact a
        · exact True.intro
  · split
    · split
      · exact True.intro
      · rename_i h50
        have : p + 1 ≤ 50 := by omega
        split
        · split
          · exact this
          · exact True.intro
        · split
          · split
            · exact this
            · exact True.intro
          · exact this
    · exact True.intro
theorem Pk_loop {op : Int → Option Int} {c : Int → Int} {item : Nat → Nat → PR} (hi : Pk item) : ∀ (m t p : Nat) (k : Den), p ≤ 50 → pk50 (pLoop op c item m t p k) := by
  intro m
  induction m with
  | zero => intro t p k hp; exact hp
  | succ m ih =>
    intro t p k hp
    simp only [pLoop]
    cases op (c t) with
    | none => exact hp
    | some o =>
      have a := hi (t + 1) p hp
      simp only
      cases hg : item (t + 1) p with
      | error e => exact True.intro
      | ok r =>
        obtain ⟨t', p', k'⟩ := r
        rw [hg] at a
        exact ih t' p' _ a
theorem Pk_row {op : Int → Option Int} {c : Int → Int} {item : Nat → Nat → PR} (hi : Pk item) : Pk (pRow op c item) := by
  intro t p hp
  have a := hi t p hp
  unfold pRow
  cases hg : item t p with
  | error e => exact True.intro
  | ok r =>
    obtain ⟨t', p', k⟩ := r
    rw [hg] at a
    exact Pk_loop hi 401 t' p' k a
theorem Pk_loopB {w : Int} {join : Den → Den → Den} {c : Int → Int} {item : Nat → Nat → PR} (hi : Pk item) : ∀ (m t p : Nat) (k : Den), p ≤ 50 → pk50 (pLoopB w join c item m t p k) := by
  intro m
  induction m with
  | zero => intro t p k hp; exact hp
  | succ m ih =>
    intro t p k hp
    simp only [pLoopB]
    split
    · have a := hi (t + 1) p hp
      cases hg : item (t + 1) p with
      | error e => exact True.intro
      | ok r =>
        obtain ⟨t', p', k'⟩ := r
        rw [hg] at a
        exact ih t' p' _ a
    · exact hp
theorem Pk_rowB {w : Int} {join : Den → Den → Den} {c : Int → Int} {item : Nat → Nat → PR} (hi : Pk item) : Pk (pRowB w join c item) := by
  intro t p hp
  have a := hi t p hp
  unfold pRowB
  cases hg : item t p with
  | error e => exact True.intro
  | ok r =>
    obtain ⟨t', p', k⟩ := r
    rw [hg] at a
    exact Pk_loopB hi 401 t' p' k a
theorem Pk_plain {c : Int → Int} {sum : Nat → Nat → PR} {inner : Option (Nat → Nat → PR)} (hs : Pk sum) (h : ∀ g, inner = some g → Pk g) : Pk (pPlain c sum inner) := by
  intro t p hp
  unfold pPlain
  generalize pNots c 401 t false = q
  obtain ⟨t1, b⟩ := q
  simp only
  split
  · cases inner with
    | none => exact True.intro
    | some g =>
      have a := h g rfl (t1 + 1) p hp
      simp only
      cases hg : g (t1 + 1) p with
      | error e => exact True.intro
      | ok r =>
        obtain ⟨t', p', k⟩ := r
        rw [hg] at a
        simp only at a ⊢
        split
        · exact a
        · exact True.intro
  · have a := hs t1 p hp
    cases hg : sum t1 p with
    | error e => exact True.intro
    | ok r =>
      obtain ⟨t2, p2, k1⟩ := r
      rw [hg] at a
      simp only
      cases cmpOp (c t2) with
      | none => exact True.intro
      | some o =>
        have b := hs (t2 + 1) p2 a
        simp only
        cases hg2 : sum (t2 + 1) p2 with
        | error e => exact True.intro
        | ok r =>
          obtain ⟨t3, p3, k2⟩ := r
          rw [hg2] at b
          exact b
theorem Pk_sum (lw : Bool) (c v : Int → Int) (d : Nat) : Pk (pSumD lw c v d) := by
  induction d with
  | zero => exact Pk_row (Pk_row (Pk_part (fun g h => by cases h)))
  | succ d ih => exact Pk_row (Pk_row (Pk_part (fun g h => by cases h; exact ih)))
theorem Pk_test (lw : Bool) (c v : Int → Int) (d : Nat) : Pk (pTestD lw c v d) := by
  induction d with
  | zero => exact Pk_rowB (Pk_rowB (Pk_plain (Pk_sum lw c v 0) (fun g h => by cases h)))
  | succ d ih => exact Pk_rowB (Pk_rowB (Pk_plain (Pk_sum lw c v (d + 1)) (fun g h => by cases h; exact ih)))
theorem ok_bd {pl c : Int → Int} {N : Int} {s : RS} {g : Nat → Nat → PR} (hz : ∀ i : Int, N ≤ i → c i = 0) (h : SOK N s) (ha : Adv c g) (hp : Pk g) : SOK N (bdR pl s g) := by
  match s, h with
  | .error b, _ => exact trivial
  | .ok (t, p), h =>
    have a := ha t p
    have b := hp t p h.2
    show SOK N (cvR pl (g t p))
    cases hg : g t p with
    | error e => exact trivial
    | ok r =>
      obtain ⟨t', p', k⟩ := r
      rw [hg] at a b
      exact ⟨nz_le hz h.1 a.2, b⟩
theorem ok_tk {c : Int → Int} {N : Int} {s : RS} {x : Int} (hz : ∀ i : Int, N ≤ i → c i = 0) (h : SOK N s) (hx : x ≠ 0) (hb : tkB c s x = true) : SOK N (tkS s) := by
  match s, h, hb with
  | .ok (t, p), h, hb =>
    have h1 : (t : Int) ≤ N := h.1
    have hb2 : c t = x := of_decide_eq_true hb
    refine ⟨?_, h.2⟩
    rcases (show (t : Int) < N ∨ (t : Int) = N by omega) with q | q
    · show ((t + 1 : Nat) : Int) ≤ N
      omega
    · exact absurd (hb2.symm.trans (hz t (by omega))) hx
theorem ok_ms {c pl : Int → Int} {N : Int} {s : RS} {x : Int} (hz : ∀ i : Int, N ≤ i → c i = 0) (h : SOK N s) (hx : x ≠ 0) : SOK N (msS c pl s x) := by
  match s, h with
  | .error b, _ => exact trivial
  | .ok (t, p), h =>
    show SOK N (if c t = x then .ok (t + 1, p) else .error (pl t))
    split
    · rename_i e; exact ok_tk (s := .ok (t, p)) hz h hx (decide_eq_true e)
    · exact trivial
theorem ok_mn {c v pl : Int → Int} {N : Int} {s : RS} {lo hi : Int} (hz : ∀ i : Int, N ≤ i → c i = 0) (h : SOK N s) : SOK N (mnS c v pl s lo hi) := by
  match s, h with
  | .error b, _ => exact trivial
  | .ok (t, p), h =>
    show SOK N (if c t = 50 ∧ lo ≤ v t ∧ v t ≤ hi then .ok (t + 1, p) else .error (pl t))
    split
    · rename_i e; exact ok_tk (s := .ok (t, p)) hz h (x := 50) (by decide) (decide_eq_true e.1)
    · exact trivial
set_option maxHeartbeats 4000000 in
set_option maxRecDepth 100000 in
theorem m_fine {l : Launch} {o : Nat} {ar : Nat → Nat} {f : mF} {g j : mA} {b21 : Int}  (ef21 : f 21 = b21)  : MM l o ar MX8_fine 0 [.ref o] f g j (PI (fun r f' g' j' => (r = b2i (b21 = -1)) ∧ eqx [] f f' ∧ eqx [] g g' ∧ j' = j)) := by
  refine MM.intro [some (.ref o)] (by decide) (Nat.le_of_ble_eq_true rfl) rfl (fun d hd h0 h hH hA => ?_)
  have hfE : eqx [] f f := eqx.rf
  have hgE : eqx [] g g := eqx.rf
  refine z_ald_0 (TX8_fine.at 0 rfl) ?_
  refine zm_getIE ef21 (TX8_fine.at 1 rfl) fl8_170 hH rfl (by decide) (fun r1 => ?_)
  refine z_iconst (TX8_fine.at 2 rfl) ?_
  refine z_icmp_ne (tgt := 12) (TX8_fine.at 3 rfl) rfl (by omega) (by omega) (fun c1 => ?_) (fun c1 => ?_)
  · skip
    refine z_iconst (TX8_fine.at 6 rfl) ?_
    refine zm_zret (TX8_fine.at 7 rfl) rfl hH hA (by first | omega | exact b2i_01 _) ?_
    exact ⟨by first | (rw [b2i_t (by omega)]; done) | (rw [b2i_f (by omega)]; done), hfE, hgE, rfl⟩
  · skip
    refine z_iconst (TX8_fine.at 4 rfl) ?_
    refine z_goto (tgt := 13) (TX8_fine.at 5 rfl) rfl ?_
    refine zm_zret (TX8_fine.at 7 rfl) rfl hH hA (by first | omega | exact b2i_01 _) ?_
    exact ⟨by first | (rw [b2i_t (by omega)]; done) | (rw [b2i_f (by omega)]; done), hfE, hgE, rfl⟩

set_option maxHeartbeats 4000000 in
set_option maxRecDepth 100000 in
theorem m_faults {l : Launch} {o : Nat} {ar : Nat → Nat} {f : mF} {g j : mA} {X17 : Int → Int} {t19 : Int} {b21 : Int}  (eg17 : g 17 = X17) (ef19 : f 19 = t19) (ef21 : f 21 = b21) (hb4 : b21 = -1 → 0 ≤ t19 ∧ t19 ≤ 400) : MM l o ar MX8_faults 1 [.ref o] f g j (PV (fun f' g' j' => (f' 21 = if b21 = -1 then X17 t19 else b21) ∧ eqx [21] f f' ∧ eqx [] g g' ∧ j' = j)) := by
  refine MM.intro [some (.ref o)] (by decide) (Nat.le_of_ble_eq_true rfl) rfl (fun d hd h0 h hH hA => ?_)
  have hfE : eqx [21] f f := eqx.rf
  have hgE : eqx [] g g := eqx.rf
  refine z_ald_0 (TX8_faults.at 0 rfl) ?_
  refine zm_callI0 (m_fine ef21) (TX8_faults.at 1 rfl) c8_173 rfl rfl hH hA (by omega) (Nat.le_of_ble_eq_true rfl) (fun x1 f1 g1 j1 h r1 q1 hH hA => ?_)
  obtain ⟨q1, xf, xg, xj⟩ := q1
  rw [xj] at hH
  have ef19 := (xf 19 (by decide)).trans ef19
  have ef21 := (xf 21 (by decide)).trans ef21
  have hfE := hfE.trans xf (by decide)
  have eg17 := (xg 17 (by decide)).trans eg17
  have hgE := hgE.trans xg (by decide)
  have qL := q1
  obtain rfl := qL
  refine z_if_eqB (tgt := 20) (TX8_faults.at 2 rfl) rfl (fun c1 => ?_) (fun c1 => ?_)
  · skip
    refine zm_vret (TX8_faults.at 10 rfl) rfl hH hA ?_
    exact ⟨by first | (rw [if_pos (by omega)]; exact ef21) | (rw [if_neg (by omega)]; exact ef21), hfE, hgE, rfl⟩
  · skip
    refine z_ald_0 (TX8_faults.at 3 rfl) ?_
    refine z_ald_0 (TX8_faults.at 4 rfl) ?_
    refine zm_getA (TX8_faults.at 5 rfl) fl8_60 hH (by decide) (by decide) ?_
    refine z_ald_0 (TX8_faults.at 6 rfl) ?_
    refine zm_getIE ef19 (TX8_faults.at 7 rfl) fl8_177 hH rfl (by decide) (fun r13 => ?_)
    refine zm_ialdE eg17 (TX8_faults.at 8 rfl) hH rfl (by omega) (show _ < ((401 : Nat) : Int) by omega) (fun r16 => ?_)
    refine zm_putIE (TX8_faults.at 9 rfl) fp8_170 hH hA rfl (by decide) (by first | omega | exact b2i_01 _) (fun h f17 e1 e2 hH hA => ?_)
    have ef19 := (e1 19 (by decide)).trans ef19
    have ef21 := e2
    have hfE := hfE.put e1 (by decide)
    refine zm_vret (TX8_faults.at 10 rfl) rfl hH hA ?_
    exact ⟨by first | (rw [if_pos (by omega)]; exact ef21) | (rw [if_neg (by omega)]; exact ef21), hfE, hgE, rfl⟩

set_option maxHeartbeats 4000000 in
set_option maxRecDepth 100000 in
theorem m_takes0 {l : Launch} {o : Nat} {ar : Nat → Nat} {f : mF} {g j : mA} {X15 : Int → Int} {t19 : Int} {b21 : Int} {x : Int}  (eg15 : g 15 = X15) (ef19 : f 19 = t19) (ef21 : f 21 = b21) (hx : zIn x) (hb4 : b21 = -1 → 0 ≤ t19 ∧ t19 ≤ 400) : MM l o ar MX8_takes0 1 [.ref o, vI x] f g j (PI (fun r f' g' j' => (r = b2i (b21 = -1 ∧ X15 t19 = x) ∧ f' 19 = t19 + b2i (b21 = -1 ∧ X15 t19 = x)) ∧ eqx [19] f f' ∧ eqx [] g g' ∧ j' = j)) := by
  refine MM.intro [some (.ref o), some (vI x), none] (by decide) (Nat.le_of_ble_eq_true rfl) rfl (fun d hd h0 h hH hA => ?_)
  have hfE : eqx [19] f f := eqx.rf
  have hgE : eqx [] g g := eqx.rf
  refine z_ald_0 (TX8_takes0.at 0 rfl) ?_
  refine zm_callI0 (m_fine ef21) (TX8_takes0.at 1 rfl) c8_173 rfl rfl hH hA (by omega) (Nat.le_of_ble_eq_true rfl) (fun x1 f1 g1 j1 h r1 q1 hH hA => ?_)
  obtain ⟨q1, xf, xg, xj⟩ := q1
  rw [xj] at hH
  have ef19 := (xf 19 (by decide)).trans ef19
  have ef21 := (xf 21 (by decide)).trans ef21
  have hfE := hfE.trans xf (by decide)
  have eg15 := (xg 15 (by decide)).trans eg15
  have hgE := hgE.trans xg (by decide)
  have qL := q1
  obtain rfl := qL
  refine z_if_eqB (tgt := 24) (TX8_takes0.at 2 rfl) rfl (fun c1 => ?_) (fun c1 => ?_)
  · skip
    refine z_iconst (TX8_takes0.at 12 rfl) ?_
    refine z_ist_2 (TX8_takes0.at 13 rfl) (Nat.le_of_ble_eq_true rfl) rfl ?_
    refine z_ild_2 (TX8_takes0.at 14 rfl) ?_
    refine z_if_eq (tgt := 40) (TX8_takes0.at 15 rfl) rfl (by decide) (fun c2 => ?_) (fun c2 => absurd c2 (by decide))
    refine z_ild_2 (TX8_takes0.at 22 rfl) ?_
    refine zm_zret (TX8_takes0.at 23 rfl) rfl hH hA (by first | omega | exact b2i_01 _) ?_
    exact ⟨by first | (exfalso; omega) | (rw [b2i_t ⟨by omega, by omega⟩]; exact ⟨rfl, ef19⟩) | (rw [b2i_f (fun z => by omega)]; exact ⟨rfl, by omega⟩), hfE, hgE, rfl⟩
  · skip
    refine z_ald_0 (TX8_takes0.at 3 rfl) ?_
    refine zm_getA (TX8_takes0.at 4 rfl) fl8_54 hH (by decide) (by decide) ?_
    refine z_ald_0 (TX8_takes0.at 5 rfl) ?_
    refine zm_getIE ef19 (TX8_takes0.at 6 rfl) fl8_177 hH rfl (by decide) (fun r12 => ?_)
    refine zm_ialdE eg15 (TX8_takes0.at 7 rfl) hH rfl (by omega) (show _ < ((401 : Nat) : Int) by omega) (fun r15 => ?_)
    refine z_ild_1 (TX8_takes0.at 8 rfl) ?_
    refine z_icmp_ne (tgt := 24) (TX8_takes0.at 9 rfl) rfl (by omega) (by omega) (fun c3 => ?_) (fun c3 => ?_)
    · skip
      refine z_iconst (TX8_takes0.at 12 rfl) ?_
      refine z_ist_2 (TX8_takes0.at 13 rfl) (Nat.le_of_ble_eq_true rfl) rfl ?_
      refine z_ild_2 (TX8_takes0.at 14 rfl) ?_
      refine z_if_eq (tgt := 40) (TX8_takes0.at 15 rfl) rfl (by decide) (fun c4 => ?_) (fun c4 => absurd c4 (by decide))
      refine z_ild_2 (TX8_takes0.at 22 rfl) ?_
      refine zm_zret (TX8_takes0.at 23 rfl) rfl hH hA (by first | omega | exact b2i_01 _) ?_
      exact ⟨by first | (exfalso; omega) | (rw [b2i_t ⟨by omega, by omega⟩]; exact ⟨rfl, ef19⟩) | (rw [b2i_f (fun z => by omega)]; exact ⟨rfl, by omega⟩), hfE, hgE, rfl⟩
    · skip
      refine z_iconst (TX8_takes0.at 10 rfl) ?_
      refine z_goto (tgt := 25) (TX8_takes0.at 11 rfl) rfl ?_
      refine z_ist_2 (TX8_takes0.at 13 rfl) (Nat.le_of_ble_eq_true rfl) rfl ?_
      refine z_ild_2 (TX8_takes0.at 14 rfl) ?_
      refine z_if_eq (tgt := 40) (TX8_takes0.at 15 rfl) rfl (by decide) (fun c5 => absurd c5 (by decide)) (fun c5 => ?_)
      refine z_ald_0 (TX8_takes0.at 16 rfl) ?_
      refine z_dup rfl (TX8_takes0.at 17 rfl) ?_
      refine zm_getIE ef19 (TX8_takes0.at 18 rfl) fl8_177 hH rfl (by decide) (fun r32 => ?_)
      refine z_iconst (TX8_takes0.at 19 rfl) ?_
      refine z_iadd (TX8_takes0.at 20 rfl) ?_
      refine zm_putIE (TX8_takes0.at 21 rfl) fp8_177 hH hA rfl (by decide) (by first | omega | exact b2i_01 _) (fun h f37 e1 e2 hH hA => ?_)
      have ef19 := e2
      have ef21 := (e1 21 (by decide)).trans ef21
      have hfE := hfE.put e1 (by decide)
      refine z_ild_2 (TX8_takes0.at 22 rfl) ?_
      refine zm_zret (TX8_takes0.at 23 rfl) rfl hH hA (by first | omega | exact b2i_01 _) ?_
      exact ⟨by first | (exfalso; omega) | (rw [b2i_t ⟨by omega, by omega⟩]; exact ⟨rfl, ef19⟩) | (rw [b2i_f (fun z => by omega)]; exact ⟨rfl, by omega⟩), hfE, hgE, rfl⟩

set_option maxHeartbeats 4000000 in
set_option maxRecDepth 100000 in
theorem m_must {l : Launch} {o : Nat} {ar : Nat → Nat} {f : mF} {g j : mA} {X15 : Int → Int} {X17 : Int → Int} {t19 : Int} {b21 : Int} {x : Int}  (eg15 : g 15 = X15) (eg17 : g 17 = X17) (ef19 : f 19 = t19) (ef21 : f 21 = b21) (hx : zIn x) (hb4 : b21 = -1 → 0 ≤ t19 ∧ t19 ≤ 400) : MM l o ar MX8_must 2 [.ref o, vI x] f g j (PV (fun f' g' j' => ((b21 = -1 ∧ X15 t19 = x ∧ f' 19 = t19 + 1 ∧ f' 21 = b21) ∨ (¬ (b21 = -1 ∧ X15 t19 = x) ∧ f' 21 = if b21 = -1 then X17 t19 else b21)) ∧ eqx [19, 21] f f' ∧ eqx [] g g' ∧ j' = j)) := by
  refine MM.intro [some (.ref o), some (vI x)] (by decide) (Nat.le_of_ble_eq_true rfl) rfl (fun d hd h0 h hH hA => ?_)
  have hfE : eqx [19, 21] f f := eqx.rf
  have hgE : eqx [] g g := eqx.rf
  refine z_ald_0 (TX8_must.at 0 rfl) ?_
  refine z_ild_1 (TX8_must.at 1 rfl) ?_
  refine zm_callI1 (m_takes0 eg15 ef19 ef21 (by omega) hb4) (TX8_must.at 2 rfl) c8_180 rfl rfl hH hA (by omega) (Nat.le_of_ble_eq_true rfl) (fun x2 f2 g2 j2 h r2 q2 hH hA => ?_)
  obtain ⟨q2, xf, xg, xj⟩ := q2
  rw [xj] at hH
  have ef21 := (xf 21 (by decide)).trans ef21
  have hfE := hfE.trans xf (by decide)
  have eg15 := (xg 15 (by decide)).trans eg15
  have eg17 := (xg 17 (by decide)).trans eg17
  have hgE := hgE.trans xg (by decide)
  have qL := q2
  obtain ⟨qr, ef19⟩ := qL
  subst qr
  refine z_if_neB (tgt := 12) (TX8_must.at 3 rfl) rfl (fun c1 => ?_) (fun c1 => ?_)
  · skip
    rw [b2i_t c1] at ef19
    refine zm_vret (TX8_must.at 6 rfl) rfl hH hA ?_
    exact ⟨by first | exact Or.inl ⟨c1.1, c1.2, ef19, ef21⟩ | exact Or.inr ⟨c1, ef21⟩, hfE, hgE, rfl⟩
  · skip
    rw [b2i_f c1, Int.add_zero] at ef19
    refine z_ald_0 (TX8_must.at 4 rfl) ?_
    refine zm_callV0 (m_faults eg17 ef19 ef21 (by omega)) (TX8_must.at 5 rfl) c8_183 rfl rfl hH hA (by omega) (Nat.le_of_ble_eq_true rfl) (fun f9 g9 j9 h q9 hH hA => ?_)
    obtain ⟨q9, xf, xg, xj⟩ := q9
    rw [xj] at hH
    have ef19 := (xf 19 (by decide)).trans ef19
    have hfE := hfE.trans xf (by decide)
    have eg15 := (xg 15 (by decide)).trans eg15
    have eg17 := (xg 17 (by decide)).trans eg17
    have hgE := hgE.trans xg (by decide)
    have qL := q9
    have ef21 := qL
    skip
    refine zm_vret (TX8_must.at 6 rfl) rfl hH hA ?_
    exact ⟨by first | exact Or.inl ⟨c1.1, c1.2, ef19, ef21⟩ | exact Or.inr ⟨c1, ef21⟩, hfE, hgE, rfl⟩

set_option maxHeartbeats 4000000 in
set_option maxRecDepth 100000 in
theorem m_leaf {l : Launch} {o : Nat} {ar : Nat → Nat} {f : mF} {g j : mA} {X17 : Int → Int} {t19 : Int} {p20 : Int} {b21 : Int}  (eg17 : g 17 = X17) (ef19 : f 19 = t19) (ef20 : f 20 = p20) (ef21 : f 21 = b21) (hb4 : b21 = -1 → 0 ≤ t19 ∧ t19 ≤ 400) (hp5 : 0 ≤ p20 ∧ p20 ≤ 50) (hpl : b21 = -1 → 0 ≤ X17 t19) : MM l o ar MX8_leaf 2 [.ref o] f g j (PV (fun f' g' j' => (f' 20 = p20 + 1 ∧ f' 21 = (if b21 = -1 ∧ p20 = 50 then X17 t19 else b21) ∧ f' 19 = (if b21 = -1 ∧ ¬ p20 = 50 then t19 + 1 else t19)) ∧ eqx [19, 20, 21] f f' ∧ eqx [] g g' ∧ j' = j)) := by
  refine MM.intro [some (.ref o)] (by decide) (Nat.le_of_ble_eq_true rfl) rfl (fun d hd h0 h hH hA => ?_)
  have hfE : eqx [19, 20, 21] f f := eqx.rf
  have hgE : eqx [] g g := eqx.rf
  refine z_ald_0 (TX8_leaf.at 0 rfl) ?_
  refine zm_getIE ef20 (TX8_leaf.at 1 rfl) fl8_186 hH rfl (by decide) (fun r1 => ?_)
  refine z_bipush (by decide) (TX8_leaf.at 2 rfl) ?_
  refine z_icmp_ne (tgt := 13) (TX8_leaf.at 3 rfl) rfl (by omega) (by omega) (fun c1 => ?_) (fun c1 => ?_)
  · skip
    refine z_ald_0 (TX8_leaf.at 6 rfl) ?_
    refine z_dup rfl (TX8_leaf.at 7 rfl) ?_
    refine zm_getIE ef20 (TX8_leaf.at 8 rfl) fl8_186 hH rfl (by decide) (fun r15 => ?_)
    refine z_iconst (TX8_leaf.at 9 rfl) ?_
    refine z_iadd (TX8_leaf.at 10 rfl) ?_
    refine zm_putIE (TX8_leaf.at 11 rfl) fp8_186 hH hA rfl (by decide) (by first | omega | exact b2i_01 _) (fun h f20 e1 e2 hH hA => ?_)
    have ef19 := (e1 19 (by decide)).trans ef19
    have ef20 := e2
    have ef21 := (e1 21 (by decide)).trans ef21
    have hfE := hfE.put e1 (by decide)
    refine z_ald_0 (TX8_leaf.at 12 rfl) ?_
    refine zm_callI0 (m_fine ef21) (TX8_leaf.at 13 rfl) c8_173 rfl rfl hH hA (by omega) (Nat.le_of_ble_eq_true rfl) (fun x24 f24 g24 j24 h r24 q24 hH hA => ?_)
    obtain ⟨q24, xf, xg, xj⟩ := q24
    rw [xj] at hH
    have ef19 := (xf 19 (by decide)).trans ef19
    have ef20 := (xf 20 (by decide)).trans ef20
    have ef21 := (xf 21 (by decide)).trans ef21
    have hfE := hfE.trans xf (by decide)
    have eg17 := (xg 17 (by decide)).trans eg17
    have hgE := hgE.trans xg (by decide)
    have qL := q24
    obtain rfl := qL
    refine z_if_eqB (tgt := 40) (TX8_leaf.at 14 rfl) rfl (fun c2 => ?_) (fun c2 => ?_)
    · skip
      refine zm_vret (TX8_leaf.at 21 rfl) rfl hH hA ?_
      exact ⟨by refine ⟨ef20, ?_, ?_⟩ <;> (split at * <;> omega), hfE, hgE, rfl⟩
    · skip
      refine z_ald_0 (TX8_leaf.at 15 rfl) ?_
      refine z_dup rfl (TX8_leaf.at 16 rfl) ?_
      refine zm_getIE ef19 (TX8_leaf.at 17 rfl) fl8_177 hH rfl (by decide) (fun r32 => ?_)
      refine z_iconst (TX8_leaf.at 18 rfl) ?_
      refine z_iadd (TX8_leaf.at 19 rfl) ?_
      refine zm_putIE (TX8_leaf.at 20 rfl) fp8_177 hH hA rfl (by decide) (by first | omega | exact b2i_01 _) (fun h f37 e1 e2 hH hA => ?_)
      have ef19 := e2
      have ef20 := (e1 20 (by decide)).trans ef20
      have ef21 := (e1 21 (by decide)).trans ef21
      have hfE := hfE.put e1 (by decide)
      refine zm_vret (TX8_leaf.at 21 rfl) rfl hH hA ?_
      exact ⟨by refine ⟨ef20, ?_, ?_⟩ <;> (split at * <;> omega), hfE, hgE, rfl⟩
  · skip
    refine z_ald_0 (TX8_leaf.at 4 rfl) ?_
    refine zm_callV0 (m_faults eg17 ef19 ef21 (by omega)) (TX8_leaf.at 5 rfl) c8_183 rfl rfl hH hA (by omega) (Nat.le_of_ble_eq_true rfl) (fun f10 g10 j10 h q10 hH hA => ?_)
    obtain ⟨q10, xf, xg, xj⟩ := q10
    rw [xj] at hH
    have ef19 := (xf 19 (by decide)).trans ef19
    have ef20 := (xf 20 (by decide)).trans ef20
    have hfE := hfE.trans xf (by decide)
    have eg17 := (xg 17 (by decide)).trans eg17
    have hgE := hgE.trans xg (by decide)
    have qL := q10
    have ef21 := qL
    refine z_ald_0 (TX8_leaf.at 6 rfl) ?_
    refine z_dup rfl (TX8_leaf.at 7 rfl) ?_
    refine zm_getIE ef20 (TX8_leaf.at 8 rfl) fl8_186 hH rfl (by decide) (fun r15 => ?_)
    refine z_iconst (TX8_leaf.at 9 rfl) ?_
    refine z_iadd (TX8_leaf.at 10 rfl) ?_
    refine zm_putIE (TX8_leaf.at 11 rfl) fp8_186 hH hA rfl (by decide) (by first | omega | exact b2i_01 _) (fun h f20 e1 e2 hH hA => ?_)
    have ef19 := (e1 19 (by decide)).trans ef19
    have ef20 := e2
    have ef21 := (e1 21 (by decide)).trans ef21
    have hfE := hfE.put e1 (by decide)
    refine z_ald_0 (TX8_leaf.at 12 rfl) ?_
    refine zm_callI0 (m_fine ef21) (TX8_leaf.at 13 rfl) c8_173 rfl rfl hH hA (by omega) (Nat.le_of_ble_eq_true rfl) (fun x24 f24 g24 j24 h r24 q24 hH hA => ?_)
    obtain ⟨q24, xf, xg, xj⟩ := q24
    rw [xj] at hH
    have ef19 := (xf 19 (by decide)).trans ef19
    have ef20 := (xf 20 (by decide)).trans ef20
    have ef21 := (xf 21 (by decide)).trans ef21
    have hfE := hfE.trans xf (by decide)
    have eg17 := (xg 17 (by decide)).trans eg17
    have hgE := hgE.trans xg (by decide)
    have qL := q24
    obtain rfl := qL
    refine z_if_eqB (tgt := 40) (TX8_leaf.at 14 rfl) rfl (fun c3 => ?_) (fun c3 => ?_)
    · skip
      refine zm_vret (TX8_leaf.at 21 rfl) rfl hH hA ?_
      exact ⟨by refine ⟨ef20, ?_, ?_⟩ <;> (split at * <;> omega), hfE, hgE, rfl⟩
    · skip
      refine z_ald_0 (TX8_leaf.at 15 rfl) ?_
      refine z_dup rfl (TX8_leaf.at 16 rfl) ?_
      refine zm_getIE ef19 (TX8_leaf.at 17 rfl) fl8_177 hH rfl (by decide) (fun r32 => ?_)
      refine z_iconst (TX8_leaf.at 18 rfl) ?_
      refine z_iadd (TX8_leaf.at 19 rfl) ?_
      refine zm_putIE (TX8_leaf.at 20 rfl) fp8_177 hH hA rfl (by decide) (by first | omega | exact b2i_01 _) (fun h f37 e1 e2 hH hA => ?_)
      have ef19 := e2
      have ef20 := (e1 20 (by decide)).trans ef20
      have ef21 := (e1 21 (by decide)).trans ef21
      have hfE := hfE.put e1 (by decide)
      refine zm_vret (TX8_leaf.at 21 rfl) rfl hH hA ?_
      exact ⟨by refine ⟨ef20, ?_, ?_⟩ <;> (split at * <;> omega), hfE, hgE, rfl⟩

set_option maxHeartbeats 4000000 in
set_option maxRecDepth 100000 in
theorem m_mustNum {l : Launch} {o : Nat} {ar : Nat → Nat} {f : mF} {g j : mA} {X15 : Int → Int} {X16 : Int → Int} {X17 : Int → Int} {t19 : Int} {b21 : Int} {lo hi : Int}  (eg15 : g 15 = X15) (eg16 : g 16 = X16) (eg17 : g 17 = X17) (ef19 : f 19 = t19) (ef21 : f 21 = b21) (hlo : zIn lo) (hhi : zIn hi) (hb4 : b21 = -1 → 0 ≤ t19 ∧ t19 ≤ 400) (hpl : b21 = -1 → 0 ≤ X17 t19) : MM l o ar MX8_mustNumber 2 [.ref o, vI lo, vI hi] f g j (PV (fun f' g' j' => ((b21 = -1 ∧ (X15 t19 = 50 ∧ lo ≤ X16 t19 ∧ X16 t19 ≤ hi) ∧ f' 19 = t19 + 1 ∧ f' 21 = b21) ∨ (¬ (b21 = -1 ∧ X15 t19 = 50 ∧ lo ≤ X16 t19 ∧ X16 t19 ≤ hi) ∧ f' 21 = if b21 = -1 then X17 t19 else b21)) ∧ eqx [19, 21] f f' ∧ eqx [] g g' ∧ j' = j)) := by
  refine MM.intro [some (.ref o), some (vI lo), some (vI hi)] (by decide) (Nat.le_of_ble_eq_true rfl) rfl (fun d hd h0 h hH hA => ?_)
  have hfE : eqx [19, 21] f f := eqx.rf
  have hgE : eqx [] g g := eqx.rf
  refine z_ald_0 (TX8_mustNumber.at 0 rfl) ?_
  refine zm_callI0 (m_fine ef21) (TX8_mustNumber.at 1 rfl) c8_173 rfl rfl hH hA (by omega) (Nat.le_of_ble_eq_true rfl) (fun x1 f1 g1 j1 h r1 q1 hH hA => ?_)
  obtain ⟨q1, xf, xg, xj⟩ := q1
  rw [xj] at hH
  have ef19 := (xf 19 (by decide)).trans ef19
  have ef21 := (xf 21 (by decide)).trans ef21
  have hfE := hfE.trans xf (by decide)
  have eg15 := (xg 15 (by decide)).trans eg15
  have eg16 := (xg 16 (by decide)).trans eg16
  have eg17 := (xg 17 (by decide)).trans eg17
  have hgE := hgE.trans xg (by decide)
  have qL := q1
  obtain rfl := qL
  refine z_if_eqB (tgt := 42) (TX8_mustNumber.at 2 rfl) rfl (fun c1 => ?_) (fun c1 => ?_)
  · skip
    refine z_ald_0 (TX8_mustNumber.at 21 rfl) ?_
    refine zm_callI0 (m_fine ef21) (TX8_mustNumber.at 22 rfl) c8_173 rfl rfl hH hA (by omega) (Nat.le_of_ble_eq_true rfl) (fun x43 f43 g43 j43 h r43 q43 hH hA => ?_)
    obtain ⟨q43, xf, xg, xj⟩ := q43
    rw [xj] at hH
    have ef19 := (xf 19 (by decide)).trans ef19
    have ef21 := (xf 21 (by decide)).trans ef21
    have hfE := hfE.trans xf (by decide)
    have eg15 := (xg 15 (by decide)).trans eg15
    have eg16 := (xg 16 (by decide)).trans eg16
    have eg17 := (xg 17 (by decide)).trans eg17
    have hgE := hgE.trans xg (by decide)
    have qL := q43
    obtain rfl := qL
    refine z_if_eqB (tgt := 59) (TX8_mustNumber.at 23 rfl) rfl (fun c2 => ?_) (fun c2 => ?_)
    · skip
      refine zm_vret (TX8_mustNumber.at 30 rfl) rfl hH hA ?_
      exact ⟨by first | (exfalso; split at * <;> omega) | exact Or.inl ⟨by omega, by omega, ef19, ef21⟩ | exact Or.inr ⟨by omega, ef21⟩ | exact Or.inr ⟨by omega, by rw [if_neg (by omega)]; exact ef21⟩, hfE, hgE, rfl⟩
    · skip
      refine z_ald_0 (TX8_mustNumber.at 24 rfl) ?_
      refine z_dup rfl (TX8_mustNumber.at 25 rfl) ?_
      refine zm_getIE ef19 (TX8_mustNumber.at 26 rfl) fl8_177 hH rfl (by decide) (fun r51 => ?_)
      refine z_iconst (TX8_mustNumber.at 27 rfl) ?_
      refine z_iadd (TX8_mustNumber.at 28 rfl) ?_
      refine zm_putIE (TX8_mustNumber.at 29 rfl) fp8_177 hH hA rfl (by decide) (by first | omega | exact b2i_01 _) (fun h f56 e1 e2 hH hA => ?_)
      have ef19 := e2
      have ef21 := (e1 21 (by decide)).trans ef21
      have hfE := hfE.put e1 (by decide)
      refine zm_vret (TX8_mustNumber.at 30 rfl) rfl hH hA ?_
      exact ⟨by first | (exfalso; split at * <;> omega) | exact Or.inl ⟨by omega, by omega, ef19, ef21⟩ | exact Or.inr ⟨by omega, ef21⟩ | exact Or.inr ⟨by omega, by rw [if_neg (by omega)]; exact ef21⟩, hfE, hgE, rfl⟩
  · skip
    refine z_ald_0 (TX8_mustNumber.at 3 rfl) ?_
    refine zm_getA (TX8_mustNumber.at 4 rfl) fl8_54 hH (by decide) (by decide) ?_
    refine z_ald_0 (TX8_mustNumber.at 5 rfl) ?_
    refine zm_getIE ef19 (TX8_mustNumber.at 6 rfl) fl8_177 hH rfl (by decide) (fun r12 => ?_)
    refine zm_ialdE eg15 (TX8_mustNumber.at 7 rfl) hH rfl (by omega) (show _ < ((401 : Nat) : Int) by omega) (fun r15 => ?_)
    refine z_bipush (by decide) (TX8_mustNumber.at 8 rfl) ?_
    refine z_icmp_ne (tgt := 38) (TX8_mustNumber.at 9 rfl) rfl (by omega) (by omega) (fun c3 => ?_) (fun c3 => ?_)
    · skip
      refine z_ald_0 (TX8_mustNumber.at 19 rfl) ?_
      refine zm_callV0 (m_faults eg17 ef19 ef21 (by omega)) (TX8_mustNumber.at 20 rfl) c8_183 rfl rfl hH hA (by omega) (Nat.le_of_ble_eq_true rfl) (fun f39 g39 j39 h q39 hH hA => ?_)
      obtain ⟨q39, xf, xg, xj⟩ := q39
      rw [xj] at hH
      have ef19 := (xf 19 (by decide)).trans ef19
      have hfE := hfE.trans xf (by decide)
      have eg15 := (xg 15 (by decide)).trans eg15
      have eg16 := (xg 16 (by decide)).trans eg16
      have eg17 := (xg 17 (by decide)).trans eg17
      have hgE := hgE.trans xg (by decide)
      have qL := q39
      have ef21 := qL
      refine z_ald_0 (TX8_mustNumber.at 21 rfl) ?_
      refine zm_callI0 (m_fine ef21) (TX8_mustNumber.at 22 rfl) c8_173 rfl rfl hH hA (by omega) (Nat.le_of_ble_eq_true rfl) (fun x43 f43 g43 j43 h r43 q43 hH hA => ?_)
      obtain ⟨q43, xf, xg, xj⟩ := q43
      rw [xj] at hH
      have ef19 := (xf 19 (by decide)).trans ef19
      have ef21 := (xf 21 (by decide)).trans ef21
      have hfE := hfE.trans xf (by decide)
      have eg15 := (xg 15 (by decide)).trans eg15
      have eg16 := (xg 16 (by decide)).trans eg16
      have eg17 := (xg 17 (by decide)).trans eg17
      have hgE := hgE.trans xg (by decide)
      have qL := q43
      obtain rfl := qL
      refine z_if_eqB (tgt := 59) (TX8_mustNumber.at 23 rfl) rfl (fun c4 => ?_) (fun c4 => ?_)
      · skip
        refine zm_vret (TX8_mustNumber.at 30 rfl) rfl hH hA ?_
        exact ⟨by first | (exfalso; split at * <;> omega) | exact Or.inl ⟨by omega, by omega, ef19, ef21⟩ | exact Or.inr ⟨by omega, ef21⟩ | exact Or.inr ⟨by omega, by rw [if_neg (by omega)]; exact ef21⟩, hfE, hgE, rfl⟩
      · skip
        refine z_ald_0 (TX8_mustNumber.at 24 rfl) ?_
        refine z_dup rfl (TX8_mustNumber.at 25 rfl) ?_
        refine zm_getIE ef19 (TX8_mustNumber.at 26 rfl) fl8_177 hH rfl (by decide) (fun r51 => ?_)
        refine z_iconst (TX8_mustNumber.at 27 rfl) ?_
        refine z_iadd (TX8_mustNumber.at 28 rfl) ?_
        refine zm_putIE (TX8_mustNumber.at 29 rfl) fp8_177 hH hA rfl (by decide) (by first | omega | exact b2i_01 _) (fun h f56 e1 e2 hH hA => ?_)
        have ef19 := e2
        have ef21 := (e1 21 (by decide)).trans ef21
        have hfE := hfE.put e1 (by decide)
        refine zm_vret (TX8_mustNumber.at 30 rfl) rfl hH hA ?_
        exact ⟨by first | (exfalso; split at * <;> omega) | exact Or.inl ⟨by omega, by omega, ef19, ef21⟩ | exact Or.inr ⟨by omega, ef21⟩ | exact Or.inr ⟨by omega, by rw [if_neg (by omega)]; exact ef21⟩, hfE, hgE, rfl⟩
    · skip
      refine z_ald_0 (TX8_mustNumber.at 10 rfl) ?_
      refine zm_getA (TX8_mustNumber.at 11 rfl) fl8_57 hH (by decide) (by decide) ?_
      refine z_ald_0 (TX8_mustNumber.at 12 rfl) ?_
      refine zm_getIE ef19 (TX8_mustNumber.at 13 rfl) fl8_177 hH rfl (by decide) (fun r26 => ?_)
      refine zm_ialdE eg16 (TX8_mustNumber.at 14 rfl) hH rfl (by omega) (show _ < ((401 : Nat) : Int) by omega) (fun r29 => ?_)
      refine z_ild_1 (TX8_mustNumber.at 15 rfl) ?_
      refine z_ild_2 (TX8_mustNumber.at 16 rfl) ?_
      refine zs_call3 (s_lies (by omega) (by omega) (by omega)) (TX8_mustNumber.at 17 rfl) c8_18 rfl (by omega) (Nat.le_of_ble_eq_true rfl) (fun r32 => ?_)
      refine z_if_neB (tgt := 42) (TX8_mustNumber.at 18 rfl) rfl (fun c5 => ?_) (fun c5 => ?_)
      · skip
        refine z_ald_0 (TX8_mustNumber.at 21 rfl) ?_
        refine zm_callI0 (m_fine ef21) (TX8_mustNumber.at 22 rfl) c8_173 rfl rfl hH hA (by omega) (Nat.le_of_ble_eq_true rfl) (fun x43 f43 g43 j43 h r43 q43 hH hA => ?_)
        obtain ⟨q43, xf, xg, xj⟩ := q43
        rw [xj] at hH
        have ef19 := (xf 19 (by decide)).trans ef19
        have ef21 := (xf 21 (by decide)).trans ef21
        have hfE := hfE.trans xf (by decide)
        have eg15 := (xg 15 (by decide)).trans eg15
        have eg16 := (xg 16 (by decide)).trans eg16
        have eg17 := (xg 17 (by decide)).trans eg17
        have hgE := hgE.trans xg (by decide)
        have qL := q43
        obtain rfl := qL
        refine z_if_eqB (tgt := 59) (TX8_mustNumber.at 23 rfl) rfl (fun c6 => ?_) (fun c6 => ?_)
        · skip
          refine zm_vret (TX8_mustNumber.at 30 rfl) rfl hH hA ?_
          exact ⟨by first | (exfalso; split at * <;> omega) | exact Or.inl ⟨by omega, by omega, ef19, ef21⟩ | exact Or.inr ⟨by omega, ef21⟩ | exact Or.inr ⟨by omega, by rw [if_neg (by omega)]; exact ef21⟩, hfE, hgE, rfl⟩
        · skip
          refine z_ald_0 (TX8_mustNumber.at 24 rfl) ?_
          refine z_dup rfl (TX8_mustNumber.at 25 rfl) ?_
          refine zm_getIE ef19 (TX8_mustNumber.at 26 rfl) fl8_177 hH rfl (by decide) (fun r51 => ?_)
          refine z_iconst (TX8_mustNumber.at 27 rfl) ?_
          refine z_iadd (TX8_mustNumber.at 28 rfl) ?_
          refine zm_putIE (TX8_mustNumber.at 29 rfl) fp8_177 hH hA rfl (by decide) (by first | omega | exact b2i_01 _) (fun h f56 e1 e2 hH hA => ?_)
          have ef19 := e2
          have ef21 := (e1 21 (by decide)).trans ef21
          have hfE := hfE.put e1 (by decide)
          refine zm_vret (TX8_mustNumber.at 30 rfl) rfl hH hA ?_
          exact ⟨by first | (exfalso; split at * <;> omega) | exact Or.inl ⟨by omega, by omega, ef19, ef21⟩ | exact Or.inr ⟨by omega, ef21⟩ | exact Or.inr ⟨by omega, by rw [if_neg (by omega)]; exact ef21⟩, hfE, hgE, rfl⟩
      · skip
        refine z_ald_0 (TX8_mustNumber.at 19 rfl) ?_
        refine zm_callV0 (m_faults eg17 ef19 ef21 (by omega)) (TX8_mustNumber.at 20 rfl) c8_183 rfl rfl hH hA (by omega) (Nat.le_of_ble_eq_true rfl) (fun f39 g39 j39 h q39 hH hA => ?_)
        obtain ⟨q39, xf, xg, xj⟩ := q39
        rw [xj] at hH
        have ef19 := (xf 19 (by decide)).trans ef19
        have hfE := hfE.trans xf (by decide)
        have eg15 := (xg 15 (by decide)).trans eg15
        have eg16 := (xg 16 (by decide)).trans eg16
        have eg17 := (xg 17 (by decide)).trans eg17
        have hgE := hgE.trans xg (by decide)
        have qL := q39
        have ef21 := qL
        refine z_ald_0 (TX8_mustNumber.at 21 rfl) ?_
        refine zm_callI0 (m_fine ef21) (TX8_mustNumber.at 22 rfl) c8_173 rfl rfl hH hA (by omega) (Nat.le_of_ble_eq_true rfl) (fun x43 f43 g43 j43 h r43 q43 hH hA => ?_)
        obtain ⟨q43, xf, xg, xj⟩ := q43
        rw [xj] at hH
        have ef19 := (xf 19 (by decide)).trans ef19
        have ef21 := (xf 21 (by decide)).trans ef21
        have hfE := hfE.trans xf (by decide)
        have eg15 := (xg 15 (by decide)).trans eg15
        have eg16 := (xg 16 (by decide)).trans eg16
        have eg17 := (xg 17 (by decide)).trans eg17
        have hgE := hgE.trans xg (by decide)
        have qL := q43
        obtain rfl := qL
        refine z_if_eqB (tgt := 59) (TX8_mustNumber.at 23 rfl) rfl (fun c7 => ?_) (fun c7 => ?_)
        · skip
          refine zm_vret (TX8_mustNumber.at 30 rfl) rfl hH hA ?_
          exact ⟨by first | (exfalso; split at * <;> omega) | exact Or.inl ⟨by omega, by omega, ef19, ef21⟩ | exact Or.inr ⟨by omega, ef21⟩ | exact Or.inr ⟨by omega, by rw [if_neg (by omega)]; exact ef21⟩, hfE, hgE, rfl⟩
        · skip
          refine z_ald_0 (TX8_mustNumber.at 24 rfl) ?_
          refine z_dup rfl (TX8_mustNumber.at 25 rfl) ?_
          refine zm_getIE ef19 (TX8_mustNumber.at 26 rfl) fl8_177 hH rfl (by decide) (fun r51 => ?_)
          refine z_iconst (TX8_mustNumber.at 27 rfl) ?_
          refine z_iadd (TX8_mustNumber.at 28 rfl) ?_
          refine zm_putIE (TX8_mustNumber.at 29 rfl) fp8_177 hH hA rfl (by decide) (by first | omega | exact b2i_01 _) (fun h f56 e1 e2 hH hA => ?_)
          have ef19 := e2
          have ef21 := (e1 21 (by decide)).trans ef21
          have hfE := hfE.put e1 (by decide)
          refine zm_vret (TX8_mustNumber.at 30 rfl) rfl hH hA ?_
          exact ⟨by first | (exfalso; split at * <;> omega) | exact Or.inl ⟨by omega, by omega, ef19, ef21⟩ | exact Or.inr ⟨by omega, ef21⟩ | exact Or.inr ⟨by omega, by rw [if_neg (by omega)]; exact ef21⟩, hfE, hgE, rfl⟩

