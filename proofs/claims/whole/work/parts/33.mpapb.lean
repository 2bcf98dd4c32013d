/-! ===== the reference on paper ===== -/
def cmP (K : Int → Int) (cl : List Cla) (q : Int) : Int → Int := dK K cl (ctS K cl) (src q)
def otP (K : Int → Int) (cl : List Cla) (q x : Int) : Int := oK K cl (ctS K cl) (cmP K cl q) x
theorem cmP_ok {K : Int → Int} {cl : List Cla} {q : Int} (h : KOK K) : COK (cmP K cl q) := (dist_ok h.fr (COK_src q)).1
theorem dK_ok {K : Int → Int} {cl : List Cla} {q S : Int} (h : KOK K) : COK (dK K cl S (src q)) := (dist_ok h.fr (COK_src q)).1
def lastN (v : Int → Int) (S : Int) : Nat → Int
  | 0 => 0
  | n + 1 => if bt S n then max (lastN v S n) (v n) else lastN v S n
theorem lastN_s {v : Int → Int} {S i : Int} (h : 0 ≤ i) : lastN v S (i + 1).toNat = if bt S i then max (lastN v S i.toNat) (v i) else lastN v S i.toNat := by
  rw [show (i + 1).toNat = i.toNat + 1 by omega, lastN, show ((i.toNat : Nat) : Int) = i by omega]
theorem lastN_in {v : Int → Int} {S b : Int} (hb : 0 ≤ b) : ∀ n : Nat, (∀ t : Int, 0 ≤ t → t < n → v t ≤ b) → 0 ≤ lastN v S n ∧ lastN v S n ≤ b := by
  intro n
  induction n with
  | zero => intro _; exact ⟨by simp [lastN], hb⟩
  | succ n ih =>
    intro h
    have a := ih (fun t h1 h2 => h t h1 (by omega))
    have c := h n (by omega) (by omega)
    simp only [lastN]
    split <;> omega
theorem lastN_cg {v v' : Int → Int} {S S' : Int} : ∀ n : Nat, (∀ t : Int, 0 ≤ t → t < n → v t = v' t ∧ (bt S t ↔ bt S' t)) → lastN v S n = lastN v' S' n := by
  intro n
  induction n with
  | zero => intro _; rfl
  | succ n ih =>
    intro h
    have a := h n (by omega) (by omega)
    simp only [lastN]
    rw [ih (fun t h1 h2 => h t h1 (by omega)), a.1]
    by_cases e : bt S n
    · rw [if_pos e, if_pos (a.2.mp e)]
    · rw [if_neg e, if_neg (fun z => e (a.2.mpr z))]
def laP (K : Int → Int) (cl : List Cla) (q s : Int) : Int := lastN (otP K cl q) s (K 76).toNat
def mosN (v : Int → Int) : Nat → Int
  | 0 => 0
  | n + 1 => max (mosN v n) (v n)
def leaN (v : Int → Int) : Nat → Int
  | 0 => 1000000
  | n + 1 => min (leaN v n) (v n)
theorem mosN_s {v : Int → Int} {i : Int} (h : 0 ≤ i) : mosN v (i + 1).toNat = max (mosN v i.toNat) (v i) := by
  rw [show (i + 1).toNat = i.toNat + 1 by omega, mosN, show ((i.toNat : Nat) : Int) = i by omega]
theorem leaN_s {v : Int → Int} {i : Int} (h : 0 ≤ i) : leaN v (i + 1).toNat = min (leaN v i.toNat) (v i) := by
  rw [show (i + 1).toNat = i.toNat + 1 by omega, leaN, show ((i.toNat : Nat) : Int) = i by omega]
theorem mosN_in {v : Int → Int} {b : Int} (hb : 0 ≤ b) : ∀ n : Nat, (∀ t : Int, 0 ≤ t → t < n → v t ≤ b) → 0 ≤ mosN v n ∧ mosN v n ≤ b := by
  intro n
  induction n with
  | zero => intro _; exact ⟨by simp [mosN], hb⟩
  | succ n ih =>
    intro h
    have a := ih (fun t h1 h2 => h t h1 (by omega))
    have c := h n (by omega) (by omega)
    simp only [mosN]
    omega
theorem leaN_in {v : Int → Int} : ∀ n : Nat, (∀ t : Int, 0 ≤ t → t < n → 0 ≤ v t) → 0 ≤ leaN v n ∧ leaN v n ≤ 1000000 := by
  intro n
  induction n with
  | zero => intro _; exact ⟨by simp [leaN], by simp [leaN]⟩
  | succ n ih =>
    intro h
    have a := ih (fun t h1 h2 => h t h1 (by omega))
    have c := h n (by omega) (by omega)
    simp only [leaN]
    omega
/-- the first that is least, and its place -/
def srch (p : Int → Bool) (v : Int → Int) : Nat → Int × Int
  | 0 => (1000000, -1)
  | m + 1 => if p m = true ∧ v m < (srch p v m).1 then (v m, (m : Int)) else srch p v m
theorem srch_t {p : Int → Bool} {v : Int → Int} {i a b : Int} (h : 0 ≤ i) (e : (a, b) = srch p v i.toNat) (hp : p i = true) (hv : v i < a) : (v i, i) = srch p v (i + 1).toNat := by
  rw [show (i + 1).toNat = i.toNat + 1 by omega, srch, ← e, show ((i.toNat : Nat) : Int) = i by omega, if_pos ⟨hp, hv⟩]
theorem srch_f {p : Int → Bool} {v : Int → Int} {i a b : Int} (h : 0 ≤ i) (e : (a, b) = srch p v i.toNat) (hn : ¬ (p i = true ∧ v i < a)) : (a, b) = srch p v (i + 1).toNat := by
  rw [show (i + 1).toNat = i.toNat + 1 by omega, srch, ← e, show ((i.toNat : Nat) : Int) = i by omega, if_neg hn]
theorem srch_in {p : Int → Bool} {v : Int → Int} : ∀ m : Nat, (∀ t : Int, 0 ≤ t → t < m → 0 ≤ v t) → 0 ≤ (srch p v m).1 ∧ (srch p v m).1 ≤ 1000000 ∧ -1 ≤ (srch p v m).2 ∧ (srch p v m).2 < m := by
  intro m
  induction m with
  | zero => intro _; simp [srch]
  | succ m ih =>
    intro h
    have a := ih (fun t h1 h2 => h t h1 (by omega))
    have c := h m (by omega) (by omega)
    simp only [srch]
    split
    · simp only; omega
    · omega
theorem srch_cg {p p' : Int → Bool} {v v' : Int → Int} : ∀ m : Nat, (∀ t : Int, 0 ≤ t → t < m → p t = p' t ∧ v t = v' t) → srch p v m = srch p' v' m := by
  intro m
  induction m with
  | zero => intro _; rfl
  | succ m ih =>
    intro h
    have c := h m (by omega) (by omega)
    simp only [srch]
    rw [ih (fun t h1 h2 => h t h1 (by omega)), c.1, c.2]
def srchR (s : Int × Int) (b : Prop) [Decidable b] : Int := if s.2 = -1 ∨ b then s.2 else s.1
def ofV (K : Int → Int) (cl : List Cla) (x w : Int) : Int := if ¬ (0 ≤ x ∧ x ≤ K 76 - 1) then -1 else if w = 0 then K (29 + x) else if w = 1 then K (39 + x) else if w = 2 then K (10 + x) else if w = 3 then K (49 + x) else if w = 4 then K x else if w = 5 then brn K cl x else if w = 6 then b2i (ctc K cl x) else if w = 7 then orN (oK K cl (ctS K cl) (mtD K cl) x) else -1
def atV (K : Int → Int) (cl : List Cla) (k w : Int) : Int := if ¬ (0 ≤ k ∧ k ≤ 7) then -1 else if w = 0 then K (20 + k) else if w = 1 then hld K cl k else if w = 2 then orN (mtD K cl k) else -1
set_option maxHeartbeats 4000000 in
set_option maxRecDepth 100000 in
theorem m_of {l : Launch} {o : Nat} {ar : Nat → Nat} {f : mF} {g j : mA} {K : Int → Int} {x w : Int} {cl : List Cla} (eg2 : g 2 = K) (hx : zIn x) (hw : zIn w) (hK : KOK K) (hL : LawK K cl) : MM l o ar MX8_of 51 [.ref o, vI x, vI w] f g j (PI (fun r f' g' j' => (r = ofV K cl x w) ∧ eqx [22, 23, 24, 25, 33] f f' ∧ eqx [26, 30, 31, 32] g g' ∧ j' = j)) := by
  refine MM.intro [some (.ref o), some (vI x), some (vI w)] (by decide) (Nat.le_of_ble_eq_true rfl) rfl (fun d hd h0 h hH hA => ?_)
  have hfE : eqx [22, 23, 24, 25, 33] f f := eqx.rf
  have hgE : eqx [26, 30, 31, 32] g g := eqx.rf
  have hn := hK.1
  refine z_ald_0 (TX8_of_0.at 0 rfl) ?_
  refine z_ild_1 (TX8_of_0.at 1 rfl) ?_
  refine zm_callP1 (m_isFuse (by omega) (by rw [eg2]; exact hn.1)) (TX8_of_0.at 2 rfl) c8_125 rfl rfl hH hA (by omega) (Nat.le_of_ble_eq_true rfl) (fun h r2 hH hA => ?_)
  rw [eg2] at r2 ⊢
  refine z_if_neB (tgt := 10) (TX8_of_0.at 3 rfl) rfl (fun c1 => ?_) (fun c1 => ?_)
  · skip
    refine z_ild_2 (TX8_of_0.at 6 rfl) ?_
    rcases (show w = 0 ∨ w = 1 ∨ w = 2 ∨ w = 3 ∨ w = 4 ∨ w = 5 ∨ w = 6 ∨ w = 7 ∨ (w < 0 ∨ 7 < w) by omega) with sw0 | sw1 | sw2 | sw3 | sw4 | sw5 | sw6 | sw7 | sw8
    · refine z_swIn (off := 45) (tgt := 56) (TX8_of_0.at 7 rfl) (by omega) (by omega) (by omega) (by rw [sw0]; rfl) rfl ?_
      refine z_ald_0 (TX8_of_0.at 8 rfl) ?_
      refine zm_getA (TX8_of_0.at 9 rfl) fl8_28 hH (by decide) (by decide) ?_
      refine z_bipush (by decide) (TX8_of_0.at 10 rfl) ?_
      refine z_ild_1 (TX8_of_0.at 11 rfl) ?_
      refine z_iadd (TX8_of_0.at 12 rfl) ?_
      refine zm_ialdE eg2 (TX8_of_0.at 13 rfl) hH rfl (by omega) (show _ < ((5688 : Nat) : Int) by omega) (fun r64 => ?_)
      refine zm_iret (TX8_of_0.at 14 rfl) rfl hH hA (by omega) ?_
      exact ⟨by unfold ofV; rw [if_neg (not_not_intro c1), if_pos (by omega)], hfE, hgE, rfl⟩
    · refine z_swIn (off := 55) (tgt := 66) (TX8_of_0.at 7 rfl) (by omega) (by omega) (by omega) (by rw [sw1]; rfl) rfl ?_
      refine z_ald_0 (TX8_of_0.at 15 rfl) ?_
      refine zm_getA (TX8_of_0.at 16 rfl) fl8_28 hH (by decide) (by decide) ?_
      refine z_bipush (by decide) (TX8_of_0.at 17 rfl) ?_
      refine z_ild_1 (TX8_of_0.at 18 rfl) ?_
      refine z_iadd (TX8_of_0.at 19 rfl) ?_
      refine zm_ialdE eg2 (TX8_of_0.at 20 rfl) hH rfl (by omega) (show _ < ((5688 : Nat) : Int) by omega) (fun r74 => ?_)
      refine zm_iret (TX8_of_0.at 21 rfl) rfl hH hA (by omega) ?_
      exact ⟨by unfold ofV; rw [if_neg (not_not_intro c1), if_neg (by omega), if_pos (by omega)], hfE, hgE, rfl⟩
    · refine z_swIn (off := 65) (tgt := 76) (TX8_of_0.at 7 rfl) (by omega) (by omega) (by omega) (by rw [sw2]; rfl) rfl ?_
      refine z_ald_0 (TX8_of_0.at 22 rfl) ?_
      refine zm_getA (TX8_of_0.at 23 rfl) fl8_28 hH (by decide) (by decide) ?_
      refine z_bipush (by decide) (TX8_of_0.at 24 rfl) ?_
      refine z_ild_1 (TX8_of_0.at 25 rfl) ?_
      refine z_iadd (TX8_of_0.at 26 rfl) ?_
      refine zm_ialdE eg2 (TX8_of_0.at 27 rfl) hH rfl (by omega) (show _ < ((5688 : Nat) : Int) by omega) (fun r84 => ?_)
      refine zm_iret (TX8_of_0.at 28 rfl) rfl hH hA (by omega) ?_
      exact ⟨by unfold ofV; rw [if_neg (not_not_intro c1), if_neg (by omega), if_neg (by omega), if_pos (by omega)], hfE, hgE, rfl⟩
    · refine z_swIn (off := 75) (tgt := 86) (TX8_of_0.at 7 rfl) (by omega) (by omega) (by omega) (by rw [sw3]; rfl) rfl ?_
      refine z_ald_0 (TX8_of_0.at 29 rfl) ?_
      refine zm_getA (TX8_of_0.at 30 rfl) fl8_28 hH (by decide) (by decide) ?_
      refine z_bipush (by decide) (TX8_of_0.at 31 rfl) ?_
      refine z_ild_1 (TX8_of_0.at 32 rfl) ?_
      refine z_iadd (TX8_of_0.at 33 rfl) ?_
      refine zm_ialdE eg2 (TX8_of_0.at 34 rfl) hH rfl (by omega) (show _ < ((5688 : Nat) : Int) by omega) (fun r94 => ?_)
      refine zm_iret (TX8_of_0.at 35 rfl) rfl hH hA (by omega) ?_
      exact ⟨by unfold ofV; rw [if_neg (not_not_intro c1), if_neg (by omega), if_neg (by omega), if_neg (by omega), if_pos (by omega)], hfE, hgE, rfl⟩
    · refine z_swIn (off := 85) (tgt := 96) (TX8_of_0.at 7 rfl) (by omega) (by omega) (by omega) (by rw [sw4]; rfl) rfl ?_
      refine z_ald_0 (TX8_of_0.at 36 rfl) ?_
      refine zm_getA (TX8_of_0.at 37 rfl) fl8_28 hH (by decide) (by decide) ?_
      refine z_iconst (TX8_of_0.at 38 rfl) ?_
      refine z_ild_1 (TX8_of_0.at 39 rfl) ?_
      refine z_iadd (TX8_of_1.at 0 rfl) ?_
      refine zm_ialdE eg2 (TX8_of_1.at 1 rfl) hH rfl (by omega) (show _ < ((5688 : Nat) : Int) by omega) (fun r103 => ?_)
      refine zm_iret (TX8_of_1.at 2 rfl) rfl hH hA (by omega) ?_
      exact ⟨by unfold ofV; rw [if_neg (not_not_intro c1), if_neg (by omega), if_neg (by omega), if_neg (by omega), if_neg (by omega), if_pos (by omega)]; rw [show (0 : Int) + x = x by omega], hfE, hgE, rfl⟩
    · refine z_swIn (off := 94) (tgt := 105) (TX8_of_0.at 7 rfl) (by omega) (by omega) (by omega) (by rw [sw5]; rfl) rfl ?_
      refine z_ald_0 (TX8_of_1.at 3 rfl) ?_
      refine z_ild_1 (TX8_of_1.at 4 rfl) ?_
      refine zm_callI1 (m_burnsFor eg2 (by omega) (by omega) (by omega) hK.lawH hL) (TX8_of_1.at 5 rfl) c8_128 rfl rfl hH hA (by omega) (Nat.le_of_ble_eq_true rfl) (fun x107 f107 g107 j107 h r107 q107 hH hA => ?_)
      obtain ⟨q107, xf, xg, xj⟩ := q107
      rw [xj] at hH
      have hfE := hfE.trans xf (by decide)
      have eg2 := (xg 2 (by decide)).trans eg2
      have hgE := hgE.trans xg (by decide)
      have qL := q107
      refine zm_iret (TX8_of_1.at 6 rfl) rfl hH hA (by omega) ?_
      exact ⟨by unfold ofV; rw [if_neg (not_not_intro c1), if_neg (by omega), if_neg (by omega), if_neg (by omega), if_neg (by omega), if_neg (by omega), if_pos (by omega)]; exact qL, hfE, hgE, rfl⟩
    · refine z_swIn (off := 100) (tgt := 111) (TX8_of_0.at 7 rfl) (by omega) (by omega) (by omega) (by rw [sw6]; rfl) rfl ?_
      refine z_ald_0 (TX8_of_1.at 7 rfl) ?_
      refine z_ild_1 (TX8_of_1.at 8 rfl) ?_
      refine zm_callI1 (m_catchesNow eg2 (by omega) (by omega) (by omega) hK.lawH hL) (TX8_of_1.at 9 rfl) c8_131 rfl rfl hH hA (by omega) (Nat.le_of_ble_eq_true rfl) (fun x113 f113 g113 j113 h r113 q113 hH hA => ?_)
      obtain ⟨q113, xf, xg, xj⟩ := q113
      rw [xj] at hH
      have hfE := hfE.trans xf (by decide)
      have eg2 := (xg 2 (by decide)).trans eg2
      have hgE := hgE.trans xg (by decide)
      have qL := q113
      obtain rfl := qL
      refine z_if_eqB (tgt := 123) (TX8_of_1.at 10 rfl) rfl (fun c2 => ?_) (fun c2 => ?_)
      · skip
        refine z_iconst (TX8_of_1.at 13 rfl) ?_
        refine zm_iret (TX8_of_1.at 14 rfl) rfl hH hA (by omega) ?_
        exact ⟨by unfold ofV; rw [if_neg (not_not_intro c1), if_neg (by omega), if_neg (by omega), if_neg (by omega), if_neg (by omega), if_neg (by omega), if_neg (by omega), if_pos (by omega)]; first | (rw [b2i_t (by assumption)]; done) | (rw [b2i_f (by assumption)]; done), hfE, hgE, rfl⟩
      · skip
        refine z_iconst (TX8_of_1.at 11 rfl) ?_
        refine z_goto (tgt := 124) (TX8_of_1.at 12 rfl) rfl ?_
        refine zm_iret (TX8_of_1.at 14 rfl) rfl hH hA (by omega) ?_
        exact ⟨by unfold ofV; rw [if_neg (not_not_intro c1), if_neg (by omega), if_neg (by omega), if_neg (by omega), if_neg (by omega), if_neg (by omega), if_neg (by omega), if_pos (by omega)]; first | (rw [b2i_t (by assumption)]; done) | (rw [b2i_f (by assumption)]; done), hfE, hgE, rfl⟩
    · refine z_swIn (off := 114) (tgt := 125) (TX8_of_0.at 7 rfl) (by omega) (by omega) (by omega) (by rw [sw7]; rfl) rfl ?_
      refine z_ald_0 (TX8_of_1.at 15 rfl) ?_
      refine z_ild_1 (TX8_of_1.at 16 rfl) ?_
      refine zm_callI1 (m_outByM eg2 (by omega) (by omega) (by omega) hK hL) (TX8_of_1.at 17 rfl) c8_134 rfl rfl hH hA (by omega) (Nat.le_of_ble_eq_true rfl) (fun x127 f127 g127 j127 h r127 q127 hH hA => ?_)
      obtain ⟨q127, xf, xg, xj⟩ := q127
      rw [xj] at hH
      have hfE := hfE.trans xf (by decide)
      have eg2 := (xg 2 (by decide)).trans eg2
      have hgE := hgE.trans xg (by decide)
      have qL := q127
      refine zm_iret (TX8_of_1.at 18 rfl) rfl hH hA (by omega) ?_
      exact ⟨by unfold ofV; rw [if_neg (not_not_intro c1), if_neg (by omega), if_neg (by omega), if_neg (by omega), if_neg (by omega), if_neg (by omega), if_neg (by omega), if_neg (by omega), if_pos (by omega)]; exact qL, hfE, hgE, rfl⟩
    · refine z_swOut (tgt := 131) (TX8_of_0.at 7 rfl) (by omega) sw8 rfl ?_
      refine z_iconst (TX8_of_1.at 19 rfl) ?_
      refine zm_iret (TX8_of_1.at 20 rfl) rfl hH hA (by omega) ?_
      exact ⟨by unfold ofV; rw [if_neg (not_not_intro c1), if_neg (by omega), if_neg (by omega), if_neg (by omega), if_neg (by omega), if_neg (by omega), if_neg (by omega), if_neg (by omega), if_neg (by omega)], hfE, hgE, rfl⟩
  · skip
    refine z_iconst (TX8_of_0.at 4 rfl) ?_
    refine zm_iret (TX8_of_0.at 5 rfl) rfl hH hA (by omega) ?_
    exact ⟨by unfold ofV; rw [if_pos c1], hfE, hgE, rfl⟩

set_option maxHeartbeats 4000000 in
set_option maxRecDepth 100000 in
theorem m_at {l : Launch} {o : Nat} {ar : Nat → Nat} {f : mF} {g j : mA} {K : Int → Int} {k w : Int} {cl : List Cla} (eg2 : g 2 = K) (hk : zIn k) (hw : zIn w) (hK : KOK K) (hL : LawK K cl) : MM l o ar MX8_at 51 [.ref o, vI k, vI w] f g j (PI (fun r f' g' j' => (r = atV K cl k w) ∧ eqx [22, 23, 24, 25, 33] f f' ∧ eqx [26, 30, 31, 32] g g' ∧ j' = j)) := by
  refine MM.intro [some (.ref o), some (vI k), some (vI w)] (by decide) (Nat.le_of_ble_eq_true rfl) rfl (fun d hd h0 h hH hA => ?_)
  have hfE : eqx [22, 23, 24, 25, 33] f f := eqx.rf
  have hgE : eqx [26, 30, 31, 32] g g := eqx.rf
  have hn := hK.1
  refine z_ild_1 (TX8_at.at 0 rfl) ?_
  refine zs_call1 (s_isKnot (by omega)) (TX8_at.at 1 rfl) c8_113 rfl (by omega) (Nat.le_of_ble_eq_true rfl) (fun r1 => ?_)
  refine z_if_neB (tgt := 9) (TX8_at.at 2 rfl) rfl (fun c1 => ?_) (fun c1 => ?_)
  · skip
    refine z_ild_2 (TX8_at.at 5 rfl) ?_
    rcases (show w = 0 ∨ w = 1 ∨ w = 2 ∨ (w < 0 ∨ 2 < w) by omega) with sw0 | sw1 | sw2 | sw3
    · refine z_swIn (off := 26) (tgt := 36) (TX8_at.at 6 rfl) (by omega) (by omega) (by omega) (by rw [sw0]; rfl) rfl ?_
      refine z_ald_0 (TX8_at.at 7 rfl) ?_
      refine zm_getA (TX8_at.at 8 rfl) fl8_28 hH (by decide) (by decide) ?_
      refine z_bipush (by decide) (TX8_at.at 9 rfl) ?_
      refine z_ild_1 (TX8_at.at 10 rfl) ?_
      refine z_iadd (TX8_at.at 11 rfl) ?_
      refine zm_ialdE eg2 (TX8_at.at 12 rfl) hH rfl (by omega) (show _ < ((5688 : Nat) : Int) by omega) (fun r44 => ?_)
      refine zm_iret (TX8_at.at 13 rfl) rfl hH hA (by omega) ?_
      exact ⟨by unfold atV; rw [if_neg (not_not_intro c1), if_pos (by omega)], hfE, hgE, rfl⟩
    · refine z_swIn (off := 36) (tgt := 46) (TX8_at.at 6 rfl) (by omega) (by omega) (by omega) (by rw [sw1]; rfl) rfl ?_
      refine z_ald_0 (TX8_at.at 14 rfl) ?_
      refine z_ild_1 (TX8_at.at 15 rfl) ?_
      refine zm_callI1 (m_holdsFor eg2 (by omega) hK.lawH hL) (TX8_at.at 16 rfl) c8_137 rfl rfl hH hA (by omega) (Nat.le_of_ble_eq_true rfl) (fun x48 f48 g48 j48 h r48 q48 hH hA => ?_)
      obtain ⟨q48, xf, xg, xj⟩ := q48
      rw [xj] at hH
      have hfE := hfE.trans xf (by decide)
      have eg2 := (xg 2 (by decide)).trans eg2
      have hgE := hgE.trans xg (by decide)
      have qL := q48
      refine zm_iret (TX8_at.at 17 rfl) rfl hH hA (by omega) ?_
      exact ⟨by unfold atV; rw [if_neg (not_not_intro c1), if_neg (by omega), if_pos (by omega)]; exact qL, hfE, hgE, rfl⟩
    · refine z_swIn (off := 42) (tgt := 52) (TX8_at.at 6 rfl) (by omega) (by omega) (by omega) (by rw [sw2]; rfl) rfl ?_
      refine z_ald_0 (TX8_at.at 18 rfl) ?_
      refine z_ild_1 (TX8_at.at 19 rfl) ?_
      refine zm_callI1 (m_comesByM eg2 (by omega) (by omega) (by omega) hK hL) (TX8_at.at 20 rfl) c8_140 rfl rfl hH hA (by omega) (Nat.le_of_ble_eq_true rfl) (fun x54 f54 g54 j54 h r54 q54 hH hA => ?_)
      obtain ⟨q54, xf, xg, xj⟩ := q54
      rw [xj] at hH
      have hfE := hfE.trans xf (by decide)
      have eg2 := (xg 2 (by decide)).trans eg2
      have hgE := hgE.trans xg (by decide)
      have qL := q54
      refine zm_iret (TX8_at.at 21 rfl) rfl hH hA (by omega) ?_
      exact ⟨by unfold atV; rw [if_neg (not_not_intro c1), if_neg (by omega), if_neg (by omega), if_pos (by omega)]; exact qL, hfE, hgE, rfl⟩
    · refine z_swOut (tgt := 58) (TX8_at.at 6 rfl) (by omega) sw3 rfl ?_
      refine z_iconst (TX8_at.at 22 rfl) ?_
      refine zm_iret (TX8_at.at 23 rfl) rfl hH hA (by omega) ?_
      exact ⟨by unfold atV; rw [if_neg (not_not_intro c1), if_neg (by omega), if_neg (by omega), if_neg (by omega)], hfE, hgE, rfl⟩
  · skip
    refine z_iconst (TX8_at.at 3 rfl) ?_
    refine zm_iret (TX8_at.at 4 rfl) rfl hH hA (by omega) ?_
    exact ⟨by unfold atV; rw [if_pos c1], hfE, hgE, rfl⟩

def whenV (K : Int → Int) (cl : List Cla) (q k : Int) : Int := if (0 ≤ q ∧ q ≤ 255) ∧ 0 ≤ k ∧ k ≤ 7 then orN (cmP K cl q k) else -1
def outV (K : Int → Int) (cl : List Cla) (q x : Int) : Int := if (0 ≤ q ∧ q ≤ 255) ∧ 0 ≤ x ∧ x ≤ K 76 - 1 then orN (otP K cl q x) else -1
def standV (K : Int → Int) (cl : List Cla) (q t : Int) : Int := if (0 ≤ q ∧ q ≤ 255) ∧ 0 ≤ t ∧ t ≤ K 77 - 1 then orN (laP K cl q (K (59 + t))) else -1
set_option maxHeartbeats 4000000 in
set_option maxRecDepth 100000 in
theorem m_when {l : Launch} {o : Nat} {ar : Nat → Nat} {f : mF} {g j : mA} {K : Int → Int} {q k : Int} {cl : List Cla} (eg2 : g 2 = K) (hq : zIn q) (hk : zIn k) (hK : KOK K) (hL : LawK K cl) : MM l o ar MX8_when 50 [.ref o, vI q, vI k] f g j (PI (fun r f' g' j' => (r = whenV K cl q k) ∧ eqx [22, 23, 24, 25, 33] f f' ∧ eqx [26, 30, 31, 32] g g' ∧ j' = j)) := by
  refine MM.intro [some (.ref o), some (vI q), some (vI k)] (by decide) (Nat.le_of_ble_eq_true rfl) rfl (fun d hd h0 h hH hA => ?_)
  have hfE : eqx [22, 23, 24, 25, 33] f f := eqx.rf
  have hgE : eqx [26, 30, 31, 32] g g := eqx.rf
  have hn := hK.1
  have hcs := ctS_31 (cl := cl) hK
  refine z_ild_1 (TX8_when.at 0 rfl) ?_
  refine zs_call1 (s_areKnots (by omega)) (TX8_when.at 1 rfl) c8_384 rfl (by omega) (Nat.le_of_ble_eq_true rfl) (fun r1 => ?_)
  refine z_if_eqB (tgt := 14) (TX8_when.at 2 rfl) rfl (fun c1 => ?_) (fun c1 => ?_)
  · skip
    refine z_iconst (TX8_when.at 6 rfl) ?_
    refine zm_iret (TX8_when.at 7 rfl) rfl hH hA (by omega) ?_
    exact ⟨by unfold whenV; rw [if_neg (by omega)], hfE, hgE, rfl⟩
  · skip
    refine z_ild_2 (TX8_when.at 3 rfl) ?_
    refine zs_call1 (s_isKnot (by omega)) (TX8_when.at 4 rfl) c8_113 rfl (by omega) (Nat.le_of_ble_eq_true rfl) (fun r8 => ?_)
    refine z_if_neB (tgt := 16) (TX8_when.at 5 rfl) rfl (fun c2 => ?_) (fun c2 => ?_)
    · skip
      refine z_ald_0 (TX8_when.at 8 rfl) ?_
      refine zm_callV0 (m_laysTimes eg2 rfl rfl rfl hK.lawH hL) (TX8_when.at 9 rfl) c8_348 rfl rfl hH hA (by omega) (Nat.le_of_ble_eq_true rfl) (fun f17 g17 j17 h q17 hH hA => ?_)
      obtain ⟨q17, xf, xg, xj⟩ := q17
      rw [xj] at hH
      have hfE := hfE.trans xf (by decide)
      have eg2 := (xg 2 (by decide)).trans eg2
      have hgE := hgE.trans xg (by decide)
      have qL := q17
      obtain ⟨B, eg30⟩ : ∃ z, g17 30 = z := ⟨_, rfl⟩
      obtain ⟨Hd, eg31⟩ : ∃ z, g17 31 = z := ⟨_, rfl⟩
      have ef33 := qL.2.2
      rw [show msk (fun t => decide (ctc K cl t)) (K 76).toNat = ctS K cl from rfl] at ef33
      have hT : TmOK K cl B Hd := tm_of hK (eg30.symm.trans qL.1) (eg31.symm.trans qL.2.1)
      refine z_ald_0 (TX8_when.at 10 rfl) ?_
      refine z_ild_1 (TX8_when.at 11 rfl) ?_
      refine z_ald_0 (TX8_when.at 12 rfl) ?_
      refine zm_getIE ef33 (TX8_when.at 13 rfl) fl8_333 hH rfl (by decide) (fun r23 => ?_)
      refine zm_callV2 (m_firesFrom eg2 eg30 eg31 rfl (by omega) (by omega) (by omega) hcs hn.1 hn.2 (hT.fr hK)) (TX8_when.at 14 rfl) c8_387 rfl rfl hH hA (by omega) (Nat.le_of_ble_eq_true rfl) (fun f26 g26 j26 h q26 hH hA => ?_)
      obtain ⟨q26, xf, xg, xj⟩ := q26
      rw [xj] at hH
      have ef33 := (xf 33 (by decide)).trans ef33
      have hfE := hfE.trans xf (by decide)
      have eg2 := (xg 2 (by decide)).trans eg2
      have eg30 := (xg 30 (by decide)).trans eg30
      have eg31 := (xg 31 (by decide)).trans eg31
      have hgE := hgE.trans xg (by decide)
      have qL := q26
      obtain ⟨C, eg32⟩ : ∃ z, g26 32 = z := ⟨_, rfl⟩
      rw [eg32, hT.dist hK] at qL
      have hD : ag8 C (cmP K cl q) := qL
      have hCD : COK (cmP K cl q) := cmP_ok hK
      refine z_ald_0 (TX8_when.at 15 rfl) ?_
      refine zm_getA (TX8_when.at 16 rfl) fl8_72 hH (by decide) (by decide) ?_
      refine z_ild_2 (TX8_when.at 17 rfl) ?_
      refine zm_ialdE eg32 (TX8_when.at 18 rfl) hH rfl (by omega) (show _ < ((8 : Nat) : Int) by omega) (fun r34 => ?_)
      refine zs_call1 (s_orNone (by omega)) (TX8_when.at 19 rfl) c8_357 rfl (by omega) (Nat.le_of_ble_eq_true rfl) (fun r35 => ?_)
      refine zm_iret (TX8_when.at 20 rfl) rfl hH hA (by omega) ?_
      exact ⟨by unfold whenV; rw [if_pos (show (0 ≤ q ∧ q ≤ 255) ∧ 0 ≤ k ∧ k ≤ 7 by omega), hD k (by omega) (by omega)]; rfl, hfE, hgE, rfl⟩
    · skip
      refine z_iconst (TX8_when.at 6 rfl) ?_
      refine zm_iret (TX8_when.at 7 rfl) rfl hH hA (by omega) ?_
      exact ⟨by unfold whenV; rw [if_neg (by omega)], hfE, hgE, rfl⟩

set_option maxHeartbeats 4000000 in
set_option maxRecDepth 100000 in
theorem m_out {l : Launch} {o : Nat} {ar : Nat → Nat} {f : mF} {g j : mA} {K : Int → Int} {q x : Int} {cl : List Cla} (eg2 : g 2 = K) (hq : zIn q) (hx : zIn x) (hK : KOK K) (hL : LawK K cl) : MM l o ar MX8_out 50 [.ref o, vI q, vI x] f g j (PI (fun r f' g' j' => (r = outV K cl q x) ∧ eqx [22, 23, 24, 25, 33] f f' ∧ eqx [26, 30, 31, 32] g g' ∧ j' = j)) := by
  refine MM.intro [some (.ref o), some (vI q), some (vI x)] (by decide) (Nat.le_of_ble_eq_true rfl) rfl (fun d hd h0 h hH hA => ?_)
  have hfE : eqx [22, 23, 24, 25, 33] f f := eqx.rf
  have hgE : eqx [26, 30, 31, 32] g g := eqx.rf
  have hn := hK.1
  have hcs := ctS_31 (cl := cl) hK
  refine z_ild_1 (TX8_out.at 0 rfl) ?_
  refine zs_call1 (s_areKnots (by omega)) (TX8_out.at 1 rfl) c8_384 rfl (by omega) (Nat.le_of_ble_eq_true rfl) (fun r1 => ?_)
  refine z_if_eqB (tgt := 15) (TX8_out.at 2 rfl) rfl (fun c1 => ?_) (fun c1 => ?_)
  · skip
    refine z_iconst (TX8_out.at 7 rfl) ?_
    refine zm_iret (TX8_out.at 8 rfl) rfl hH hA (by omega) ?_
    exact ⟨by unfold outV; rw [if_neg (by omega)], hfE, hgE, rfl⟩
  · skip
    refine z_ald_0 (TX8_out.at 3 rfl) ?_
    refine z_ild_2 (TX8_out.at 4 rfl) ?_
    refine zm_callP1 (m_isFuse (by omega) (by rw [eg2]; exact hn.1)) (TX8_out.at 5 rfl) c8_125 rfl rfl hH hA (by omega) (Nat.le_of_ble_eq_true rfl) (fun h r9 hH hA => ?_)
    rw [eg2] at r9 ⊢
    refine z_if_neB (tgt := 17) (TX8_out.at 6 rfl) rfl (fun c2 => ?_) (fun c2 => ?_)
    · skip
      refine z_ald_0 (TX8_out.at 9 rfl) ?_
      refine zm_callV0 (m_laysTimes eg2 rfl rfl rfl hK.lawH hL) (TX8_out.at 10 rfl) c8_348 rfl rfl hH hA (by omega) (Nat.le_of_ble_eq_true rfl) (fun f18 g18 j18 h q18 hH hA => ?_)
      obtain ⟨q18, xf, xg, xj⟩ := q18
      rw [xj] at hH
      have hfE := hfE.trans xf (by decide)
      have eg2 := (xg 2 (by decide)).trans eg2
      have hgE := hgE.trans xg (by decide)
      have qL := q18
      obtain ⟨B, eg30⟩ : ∃ z, g18 30 = z := ⟨_, rfl⟩
      obtain ⟨Hd, eg31⟩ : ∃ z, g18 31 = z := ⟨_, rfl⟩
      have ef33 := qL.2.2
      rw [show msk (fun t => decide (ctc K cl t)) (K 76).toNat = ctS K cl from rfl] at ef33
      have hT : TmOK K cl B Hd := tm_of hK (eg30.symm.trans qL.1) (eg31.symm.trans qL.2.1)
      refine z_ald_0 (TX8_out.at 11 rfl) ?_
      refine z_ild_1 (TX8_out.at 12 rfl) ?_
      refine z_ald_0 (TX8_out.at 13 rfl) ?_
      refine zm_getIE ef33 (TX8_out.at 14 rfl) fl8_333 hH rfl (by decide) (fun r24 => ?_)
      refine zm_callV2 (m_firesFrom eg2 eg30 eg31 rfl (by omega) (by omega) (by omega) hcs hn.1 hn.2 (hT.fr hK)) (TX8_out.at 15 rfl) c8_387 rfl rfl hH hA (by omega) (Nat.le_of_ble_eq_true rfl) (fun f27 g27 j27 h q27 hH hA => ?_)
      obtain ⟨q27, xf, xg, xj⟩ := q27
      rw [xj] at hH
      have ef33 := (xf 33 (by decide)).trans ef33
      have hfE := hfE.trans xf (by decide)
      have eg2 := (xg 2 (by decide)).trans eg2
      have eg30 := (xg 30 (by decide)).trans eg30
      have eg31 := (xg 31 (by decide)).trans eg31
      have hgE := hgE.trans xg (by decide)
      have qL := q27
      obtain ⟨C, eg32⟩ : ∃ z, g27 32 = z := ⟨_, rfl⟩
      rw [eg32, hT.dist hK] at qL
      have hD : ag8 C (cmP K cl q) := qL
      have hCD : COK (cmP K cl q) := cmP_ok hK
      refine z_ald_0 (TX8_out.at 16 rfl) ?_
      refine z_ild_2 (TX8_out.at 17 rfl) ?_
      refine zm_callI1 (m_outOf (cl := cl) (D := cmP K cl q) eg2 eg30 eg31 eg32 ef33 (by omega) hcs (by omega) (by omega) hK hT hD hCD) (TX8_out.at 18 rfl) c8_354 rfl rfl hH hA (by omega) (Nat.le_of_ble_eq_true rfl) (fun x32 f32 g32 j32 h r32 q32 hH hA => ?_)
      obtain ⟨q32, xf, xg, xj⟩ := q32
      rw [xj] at hH
      have ef33 := (xf 33 (by decide)).trans ef33
      have hfE := hfE.trans xf (by decide)
      have eg2 := (xg 2 (by decide)).trans eg2
      have eg30 := (xg 30 (by decide)).trans eg30
      have eg31 := (xg 31 (by decide)).trans eg31
      have eg32 := (xg 32 (by decide)).trans eg32
      have hgE := hgE.trans xg (by decide)
      have qL := q32
      rw [qL, show oK K cl (ctS K cl) (cmP K cl q) = otP K cl q from rfl] at r32 ⊢
      refine zs_call1 (s_orNone (by omega)) (TX8_out.at 19 rfl) c8_357 rfl (by omega) (Nat.le_of_ble_eq_true rfl) (fun r35 => ?_)
      refine zm_iret (TX8_out.at 20 rfl) rfl hH hA (by omega) ?_
      exact ⟨by unfold outV; rw [if_pos (show (0 ≤ q ∧ q ≤ 255) ∧ 0 ≤ x ∧ x ≤ K 76 - 1 by omega)]; rfl, hfE, hgE, rfl⟩
    · skip
      refine z_iconst (TX8_out.at 7 rfl) ?_
      refine zm_iret (TX8_out.at 8 rfl) rfl hH hA (by omega) ?_
      exact ⟨by unfold outV; rw [if_neg (by omega)], hfE, hgE, rfl⟩

set_option maxHeartbeats 4000000 in
set_option maxRecDepth 100000 in
theorem lp_lastOf {l : Launch} {o : Nat} {ar : Nat → Nat} {d : Nat} {Pz : Option Value → zH → Prop} {h0 : zH} {f0 : mF} {g0 : mA} {j : mA} (hd : 2 ≤ d) {K B Hd C D : Int → Int} {cl : List Cla} {S q : Int} (hK : KOK K) (hS : z31 S) (hq : z31 q) (hT : TmOK K cl B Hd) (hD : ag8 C D) (hCD : COK D) (kx : ∀ (f : mF) (g : mA) (h : zH), eqx [] f0 f → eqx [] g0 g → HM o ar f g j h → zAg o ar h0 h → Z l MX8_lastOf d 0 0 Pz 40 [some (.ref o), some (vI q), some (vI (lastN (oK K cl S D) q (K 76).toNat)), some (vI (K 76))] [] h 0 0)  : ∀ (n : Nat) (i : Int) (s : Int) (f : mF) (g : mA) (h : zH) (i0 : 0 ≤ i) (i1 : i ≤ K 76) (i2 : K 76 < i + n) (is : s = lastN (oK K cl S D) q i.toNat) (eg2 : g 2 = K) (eg30 : g 30 = B) (eg31 : g 31 = Hd) (eg32 : g 32 = C) (ef33 : f 33 = S) (hfE : eqx [] f0 f) (hgE : eqx [] g0 g) (hH : HM o ar f g j h) (hA : zAg o ar h0 h), Z l MX8_lastOf d 0 0 Pz 4 [some (.ref o), some (vI q), some (vI s), some (vI i)] [] h 0 0 := by
  intro n
  induction n with
  | zero => intro i s f g h i0 i1 i2 is eg2 eg30 eg31 eg32 ef33 hfE hgE hH hA; exfalso; omega
  | succ n ih =>
    intro i s f g h i0 i1 i2 is eg2 eg30 eg31 eg32 ef33 hfE hgE hH hA
    have hn := hK.1
    have hs2 := lastN_in (v := oK K cl S D) (S := q) (b := 1001000) (by omega) i.toNat (fun t h0 h1 => (oK_in hK hCD h0 (by omega)).2)
    rw [← is] at hs2
    refine z_ild_3 (TX8_lastOf.at 4 rfl) ?_
    refine z_ald_0 (TX8_lastOf.at 5 rfl) ?_
    refine zm_callP0 (m_fuseMany) (TX8_lastOf.at 6 rfl) c8_109 rfl rfl hH hA (by omega) (Nat.le_of_ble_eq_true rfl) (fun h r6 hH hA => ?_)
    rw [eg2] at r6 ⊢
    refine z_icmp_ge (tgt := 40) (TX8_lastOf.at 7 rfl) rfl (by omega) (by omega) (fun c1 => ?_) (fun c1 => ?_)
    · skip
      obtain rfl : i = K 76 := by omega
      rw [is]
      exact kx _ _ _ hfE hgE hH hA
    · skip
      refine z_ild_1 (TX8_lastOf.at 8 rfl) ?_
      refine z_ild_3 (TX8_lastOf.at 9 rfl) ?_
      refine zs_call2 (s_isIn (by omega) (by omega) (by omega)) (TX8_lastOf.at 10 rfl) c8_339 rfl (by omega) (Nat.le_of_ble_eq_true rfl) (fun r14 => ?_)
      refine z_if_eqB (tgt := 32) (TX8_lastOf.at 11 rfl) rfl (fun c2 => ?_) (fun c2 => ?_)
      · skip
        refine z_ild_2 (TX8_lastOf.at 18 rfl) ?_
        refine z_ist_2 (TX8_lastOf.at 19 rfl) (Nat.le_of_ble_eq_true rfl) rfl ?_
        refine z_iinc_3 (TX8_lastOf.at 20 rfl) (Nat.le_of_ble_eq_true rfl) rfl ?_
        refine z_goto (tgt := 4) (TX8_lastOf.at 21 rfl) rfl ?_
        exact ih (i + 1) _ _ _ _ (by omega) (by omega) (by omega) (by rw [is, lastN_s i0]; first | rw [if_pos (by assumption)] | rw [if_neg (by assumption)]) eg2 eg30 eg31 eg32 ef33 hfE hgE hH hA
      · skip
        refine z_ild_2 (TX8_lastOf.at 12 rfl) ?_
        refine z_ald_0 (TX8_lastOf.at 13 rfl) ?_
        refine z_ild_3 (TX8_lastOf.at 14 rfl) ?_
        refine zm_callI1 (m_outOf (cl := cl) (D := D) eg2 eg30 eg31 eg32 ef33 (by omega) hS (by omega) (by omega) hK hT hD hCD) (TX8_lastOf.at 15 rfl) c8_354 rfl rfl hH hA (by omega) (Nat.le_of_ble_eq_true rfl) (fun x23 f23 g23 j23 h r23 q23 hH hA => ?_)
        obtain ⟨q23, xf, xg, xj⟩ := q23
        rw [xj] at hH
        have ef33 := (xf 33 (by decide)).trans ef33
        have hfE := hfE.trans xf (by decide)
        have eg2 := (xg 2 (by decide)).trans eg2
        have eg30 := (xg 30 (by decide)).trans eg30
        have eg31 := (xg 31 (by decide)).trans eg31
        have eg32 := (xg 32 (by decide)).trans eg32
        have hgE := hgE.trans xg (by decide)
        have qL := q23
        rw [qL] at r23 ⊢
        refine zs_call2 (s_greater (by omega) (by omega)) (TX8_lastOf.at 16 rfl) c8_390 rfl (by omega) (Nat.le_of_ble_eq_true rfl) (fun r26 => ?_)
        refine z_goto (tgt := 33) (TX8_lastOf.at 17 rfl) rfl ?_
        refine z_ist_2 (TX8_lastOf.at 19 rfl) (Nat.le_of_ble_eq_true rfl) rfl ?_
        refine z_iinc_3 (TX8_lastOf.at 20 rfl) (Nat.le_of_ble_eq_true rfl) rfl ?_
        refine z_goto (tgt := 4) (TX8_lastOf.at 21 rfl) rfl ?_
        exact ih (i + 1) _ _ _ _ (by omega) (by omega) (by omega) (by rw [is, lastN_s i0]; first | rw [if_pos (by assumption)] | rw [if_neg (by assumption)]) eg2 eg30 eg31 eg32 ef33 hfE hgE hH hA

set_option maxHeartbeats 4000000 in
set_option maxRecDepth 100000 in
theorem m_lastOf {l : Launch} {o : Nat} {ar : Nat → Nat} {f : mF} {g j : mA} {K : Int → Int} {B : Int → Int} {Hd : Int → Int} {C : Int → Int} {S : Int} {q : Int} {cl : List Cla} {D : Int → Int} (eg2 : g 2 = K) (eg30 : g 30 = B) (eg31 : g 31 = Hd) (eg32 : g 32 = C) (ef33 : f 33 = S) (hq : zIn q) (hS : z31 S) (hq : z31 q) (hK : KOK K) (hT : TmOK K cl B Hd) (hD : ag8 C D) (hCD : COK D) : MM l o ar MX8_lastOf 3 [.ref o, vI q] f g j (PI (fun r f' g' j' => (r = lastN (oK K cl S D) q (K 76).toNat) ∧ eqx [] f f' ∧ eqx [] g g' ∧ j' = j)) := by
  refine MM.intro [some (.ref o), some (vI q), none, none] (by decide) (Nat.le_of_ble_eq_true rfl) rfl (fun d hd h0 h hH hA => ?_)
  have hfE : eqx [] f f := eqx.rf
  have hgE : eqx [] g g := eqx.rf
  have hn := hK.1
  have hs2 := lastN_in (v := oK K cl S D) (S := q) (b := 1001000) (by omega) (K 76).toNat (fun t h0 h1 => (oK_in hK hCD h0 (by omega)).2)
  refine z_iconst (TX8_lastOf.at 0 rfl) ?_
  refine z_ist_2 (TX8_lastOf.at 1 rfl) (Nat.le_of_ble_eq_true rfl) rfl ?_
  refine z_iconst (TX8_lastOf.at 2 rfl) ?_
  refine z_ist_3 (TX8_lastOf.at 3 rfl) (Nat.le_of_ble_eq_true rfl) rfl ?_
  refine lp_lastOf (by omega) hK hS hq hT hD hCD (fun f4 g4 h  xf xg hH hA => ?_) 12 0 0 _ _ _ (by omega) (by omega) (by omega) rfl eg2 eg30 eg31 eg32 ef33 eqx.rf eqx.rf hH hA
  have ef33 := (xf 33 (by decide)).trans ef33
  have hfE := hfE.trans xf (by decide)
  have eg2 := (xg 2 (by decide)).trans eg2
  have eg30 := (xg 30 (by decide)).trans eg30
  have eg31 := (xg 31 (by decide)).trans eg31
  have eg32 := (xg 32 (by decide)).trans eg32
  have hgE := hgE.trans xg (by decide)
  refine z_ild_2 (TX8_lastOf.at 22 rfl) ?_
  refine zm_iret (TX8_lastOf.at 23 rfl) rfl hH hA (by omega) ?_
  exact ⟨rfl, hfE, hgE, rfl⟩

set_option maxHeartbeats 4000000 in
set_option maxRecDepth 100000 in
theorem m_stands {l : Launch} {o : Nat} {ar : Nat → Nat} {f : mF} {g j : mA} {K : Int → Int} {q t : Int} {cl : List Cla} (eg2 : g 2 = K) (hq : zIn q) (ht : zIn t) (hK : KOK K) (hL : LawK K cl) : MM l o ar MX8_stands 51 [.ref o, vI q, vI t] f g j (PI (fun r f' g' j' => (r = standV K cl q t) ∧ eqx [22, 23, 24, 25, 33] f f' ∧ eqx [26, 30, 31, 32] g g' ∧ j' = j)) := by
  refine MM.intro [some (.ref o), some (vI q), some (vI t)] (by decide) (Nat.le_of_ble_eq_true rfl) rfl (fun d hd h0 h hH hA => ?_)
  have hfE : eqx [22, 23, 24, 25, 33] f f := eqx.rf
  have hgE : eqx [26, 30, 31, 32] g g := eqx.rf
  have hn := hK.1
  have hcs := ctS_31 (cl := cl) hK
  have hlm := hK.2.2.2.2.1
  refine z_ild_1 (TX8_stands.at 0 rfl) ?_
  refine zs_call1 (s_areKnots (by omega)) (TX8_stands.at 1 rfl) c8_384 rfl (by omega) (Nat.le_of_ble_eq_true rfl) (fun r1 => ?_)
  refine z_if_eqB (tgt := 24) (TX8_stands.at 2 rfl) rfl (fun c1 => ?_) (fun c1 => ?_)
  · skip
    refine z_iconst (TX8_stands.at 13 rfl) ?_
    refine zm_iret (TX8_stands.at 14 rfl) rfl hH hA (by omega) ?_
    exact ⟨by unfold standV; rw [if_neg (by omega)], hfE, hgE, rfl⟩
  · skip
    refine z_ild_2 (TX8_stands.at 3 rfl) ?_
    refine z_iconst (TX8_stands.at 4 rfl) ?_
    refine z_ald_0 (TX8_stands.at 5 rfl) ?_
    refine zm_getA (TX8_stands.at 6 rfl) fl8_28 hH (by decide) (by decide) ?_
    refine z_bipush (by decide) (TX8_stands.at 7 rfl) ?_
    refine zm_ialdE eg2 (TX8_stands.at 8 rfl) hH rfl (by omega) (show _ < ((5688 : Nat) : Int) by omega) (fun r15 => ?_)
    refine z_iconst (TX8_stands.at 9 rfl) ?_
    refine z_isub (TX8_stands.at 10 rfl) ?_
    refine zs_call3 (s_lies (by omega) (by omega) (by omega)) (TX8_stands.at 11 rfl) c8_18 rfl (by omega) (Nat.le_of_ble_eq_true rfl) (fun r18 => ?_)
    refine z_if_neB (tgt := 26) (TX8_stands.at 12 rfl) rfl (fun c2 => ?_) (fun c2 => ?_)
    · skip
      refine z_ald_0 (TX8_stands.at 15 rfl) ?_
      refine zm_callV0 (m_laysTimes eg2 rfl rfl rfl hK.lawH hL) (TX8_stands.at 16 rfl) c8_348 rfl rfl hH hA (by omega) (Nat.le_of_ble_eq_true rfl) (fun f27 g27 j27 h q27 hH hA => ?_)
      obtain ⟨q27, xf, xg, xj⟩ := q27
      rw [xj] at hH
      have hfE := hfE.trans xf (by decide)
      have eg2 := (xg 2 (by decide)).trans eg2
      have hgE := hgE.trans xg (by decide)
      have qL := q27
      obtain ⟨B, eg30⟩ : ∃ z, g27 30 = z := ⟨_, rfl⟩
      obtain ⟨Hd, eg31⟩ : ∃ z, g27 31 = z := ⟨_, rfl⟩
      have ef33 := qL.2.2
      rw [show msk (fun t => decide (ctc K cl t)) (K 76).toNat = ctS K cl from rfl] at ef33
      have hT : TmOK K cl B Hd := tm_of hK (eg30.symm.trans qL.1) (eg31.symm.trans qL.2.1)
      refine z_ald_0 (TX8_stands.at 17 rfl) ?_
      refine z_ild_1 (TX8_stands.at 18 rfl) ?_
      refine z_ald_0 (TX8_stands.at 19 rfl) ?_
      refine zm_getIE ef33 (TX8_stands.at 20 rfl) fl8_333 hH rfl (by decide) (fun r33 => ?_)
      refine zm_callV2 (m_firesFrom eg2 eg30 eg31 rfl (by omega) (by omega) (by omega) hcs hn.1 hn.2 (hT.fr hK)) (TX8_stands.at 21 rfl) c8_387 rfl rfl hH hA (by omega) (Nat.le_of_ble_eq_true rfl) (fun f36 g36 j36 h q36 hH hA => ?_)
      obtain ⟨q36, xf, xg, xj⟩ := q36
      rw [xj] at hH
      have ef33 := (xf 33 (by decide)).trans ef33
      have hfE := hfE.trans xf (by decide)
      have eg2 := (xg 2 (by decide)).trans eg2
      have eg30 := (xg 30 (by decide)).trans eg30
      have eg31 := (xg 31 (by decide)).trans eg31
      have hgE := hgE.trans xg (by decide)
      have qL := q36
      obtain ⟨C, eg32⟩ : ∃ z, g36 32 = z := ⟨_, rfl⟩
      rw [eg32, hT.dist hK] at qL
      have hD : ag8 C (cmP K cl q) := qL
      have hCD : COK (cmP K cl q) := cmP_ok hK
      refine z_ald_0 (TX8_stands.at 22 rfl) ?_
      refine z_ald_0 (TX8_stands.at 23 rfl) ?_
      refine zm_getA (TX8_stands.at 24 rfl) fl8_28 hH (by decide) (by decide) ?_
      refine z_bipush (by decide) (TX8_stands.at 25 rfl) ?_
      refine z_ild_2 (TX8_stands.at 26 rfl) ?_
      refine z_iadd (TX8_stands.at 27 rfl) ?_
      refine zm_ialdE eg2 (TX8_stands.at 28 rfl) hH rfl (by omega) (show _ < ((5688 : Nat) : Int) by omega) (fun r48 => ?_)
      have hlt := hK.2.2.2.2.2.1 t (by omega) (by omega)
      refine zm_callI1 (m_lastOf (cl := cl) (D := cmP K cl q) eg2 eg30 eg31 eg32 ef33 (by omega) hcs (by omega) hK hT hD hCD) (TX8_stands.at 29 rfl) c8_393 rfl rfl hH hA (by omega) (Nat.le_of_ble_eq_true rfl) (fun x49 f49 g49 j49 h r49 q49 hH hA => ?_)
      obtain ⟨q49, xf, xg, xj⟩ := q49
      rw [xj] at hH
      have ef33 := (xf 33 (by decide)).trans ef33
      have hfE := hfE.trans xf (by decide)
      have eg2 := (xg 2 (by decide)).trans eg2
      have eg30 := (xg 30 (by decide)).trans eg30
      have eg31 := (xg 31 (by decide)).trans eg31
      have eg32 := (xg 32 (by decide)).trans eg32
      have hgE := hgE.trans xg (by decide)
      have qL := q49
      rw [qL, show lastN (oK K cl (ctS K cl) (cmP K cl q)) (K (59 + t)) (K 76).toNat = laP K cl q (K (59 + t)) from rfl] at r49 ⊢
      refine zs_call1 (s_orNone (by omega)) (TX8_stands.at 30 rfl) c8_357 rfl (by omega) (Nat.le_of_ble_eq_true rfl) (fun r52 => ?_)
      refine zm_iret (TX8_stands.at 31 rfl) rfl hH hA (by omega) ?_
      exact ⟨by unfold standV; rw [if_pos (show (0 ≤ q ∧ q ≤ 255) ∧ 0 ≤ t ∧ t ≤ K 77 - 1 by omega)]; rfl, hfE, hgE, rfl⟩
    · skip
      refine z_iconst (TX8_stands.at 13 rfl) ?_
      refine zm_iret (TX8_stands.at 14 rfl) rfl hH hA (by omega) ?_
      exact ⟨by unfold standV; rw [if_neg (by omega)], hfE, hgE, rfl⟩

