/-! ===== the reference: tests asked ===== -/
def pPos (c : Int → Int) (sum : Nat → Nat → PR) (inner : Option (Nat → Nat → PR)) (t p : Nat) : PR :=
  if c t = 140 then
    match inner with
    | none => .error t
    | some g => match g (t + 1) p with
      | .error e => .error e
      | .ok (t', p', k) => if c t' = 141 then .ok (t' + 1, p', k) else .error t'
  else match sum t p with
    | .error e => .error e
    | .ok (t2, p2, k1) => match cmpOp (c t2) with
      | none => .error t2
      | some o => match sum (t2 + 1) p2 with
        | .error e => .error e
        | .ok (t3, p3, k2) => .ok (t3, p3, dBin o k1 k2)
theorem pPlain_ok {c : Int → Int} {sum : Nat → Nat → PR} {inner : Option (Nat → Nat → PR)} {t p t' p' : Nat} {k : Den} (h : pPlain c sum inner t p = .ok (t', p', k)) : ∃ k1, pPos c sum inner (pNots c 401 t false).1 p = .ok (t', p', k1) ∧ k = dNot (pNots c 401 t false).2 k1 := by
  unfold pPlain at h
  unfold pPos
  simp only at h
  split at h
  · rename_i h40
    rw [if_pos h40]
    cases inner with
    | none => cases h
    | some g =>
      simp only at h ⊢
      cases hg : g ((pNots c 401 t false).1 + 1) p with
      | error e => rw [hg] at h; cases h
      | ok r =>
        obtain ⟨t1, p1, k1⟩ := r
        rw [hg] at h
        simp only at h ⊢
        split at h
        · rename_i h41
          rw [if_pos h41]
          cases h
          exact ⟨_, rfl, rfl⟩
        · cases h
  · rename_i h40
    rw [if_neg h40]
    cases hg : sum (pNots c 401 t false).1 p with
    | error e => rw [hg] at h; cases h
    | ok r =>
      obtain ⟨t2, p2, k1⟩ := r
      rw [hg] at h
      simp only at h ⊢
      cases hc : cmpOp (c t2) with
      | none => rw [hc] at h; cases h
      | some o =>
        rw [hc] at h
        simp only at h ⊢
        cases hg2 : sum (t2 + 1) p2 with
        | error e => rw [hg2] at h; cases h
        | ok r =>
          obtain ⟨t3, p3, k2⟩ := r
          rw [hg2] at h
          simp only at h ⊢
          cases h
          exact ⟨_, rfl, rfl⟩
def EvTQ (b : Int) (t' : Nat) (live br : Int) (z : Option Int) (f : mF) (g j : mA) : Int → mF → mA → mA → Prop := fun r f' g' j' => ((r = 0 ∨ r = 1) ∧ f' 24 = evB live br z ∧ f' 22 = b + t' ∧ (live = 1 → br = 0 → ∀ x, z = some x → r = x)) ∧ eqx [22, 24] f f' ∧ eqx [] g g' ∧ j' = j
def EvT (l : Launch) (o : Nat) (ar : Nat → Nat) (M : zM) (N : Nat) (lw : Bool) (K : Int → Int) (b nt : Int) (φ : Int → Int) (pf : Nat → Nat → PR) : Prop := ∀ (live br : Int) (t p t' p' : Nat) (k : Den) (f : mF) (g j : mA), (live = 0 ∨ live = 1) → (br = 0 ∨ br = 1) → g 2 = K → f 22 = b + t → f 23 = b + nt → f 24 = br → FOK lw K f g φ → (t : Int) ≤ nt → pf t p = .ok (t', p', k) → MM l o ar M N [.ref o, vI live] f g j (PI (EvTQ b t' live br (k φ) f g j))
def orZ (z0 z2 : Option Int) : Option Int := match z0 with
  | none => none
  | some x => if x = 1 then some 1 else z2
def andZ (z0 z2 : Option Int) : Option Int := match z0 with
  | none => none
  | some x => if x = 0 then some 0 else z2
theorem evB_no {live br : Int} {z : Option Int} (h : ¬ (live = 1 ∧ br = 0)) : evB live br z = br := if_neg h
theorem or_step {live br v w live2 v2 : Int} {z0 z2 : Option Int} (hl : live = 0 ∨ live = 1) (hb : br = 0 ∨ br = 1) (hv : v = 0 ∨ v = 1) (hw : w = 0 ∨ w = 1) (h1 : live = 1 → br = 0 → ∀ x, z0 = some x → v = x) (hl2 : live2 = if live ≠ 0 ∧ v = 0 then 1 else 0) (h2 : live2 = 1 → evB live br z0 = 0 → ∀ x, z2 = some x → w = x) (hv2 : v2 = if v ≠ 0 ∨ w ≠ 0 then 1 else 0) : evB live2 (evB live br z0) z2 = evB live br (orZ z0 z2) ∧ (live = 1 → br = 0 → ∀ x, orZ z0 z2 = some x → v2 = x) := by
  by_cases hL : live = 1 ∧ br = 0
  · obtain ⟨rfl, rfl⟩ := hL
    have h1 := h1 rfl rfl
    cases z0 with
    | none =>
      refine ⟨?_, fun _ _ x hx => by cases hx⟩
      rw [show evB 1 0 none = 1 from rfl, evB_no (by omega)]; rfl
    | some x0 =>
      have e0 := h1 x0 rfl
      subst e0
      rw [show evB 1 0 (some v) = 0 from rfl] at h2 ⊢
      rcases hv with rfl | rfl
      · rw [if_pos (by omega)] at hl2
        subst hl2
        have h2 := h2 rfl rfl
        refine ⟨rfl, fun _ _ x hx => ?_⟩
        have e2 := h2 x hx
        subst e2
        rw [hv2]
        rcases hw with rfl | rfl <;> rfl
      · rw [if_neg (by omega)] at hl2
        subst hl2
        refine ⟨rfl, fun _ _ x hx => ?_⟩
        cases hx
        rw [hv2]; rfl
  · rw [evB_no hL, evB_no hL]
    refine ⟨?_, fun a c => absurd ⟨a, c⟩ hL⟩
    refine evB_no (fun q => ?_)
    have : live ≠ 0 := by
      intro e
      rw [if_neg (by omega)] at hl2
      omega
    omega
theorem and_step {live br v w live2 v2 : Int} {z0 z2 : Option Int} (hl : live = 0 ∨ live = 1) (hb : br = 0 ∨ br = 1) (hv : v = 0 ∨ v = 1) (hw : w = 0 ∨ w = 1) (h1 : live = 1 → br = 0 → ∀ x, z0 = some x → v = x) (hl2 : live2 = if live ≠ 0 ∧ v ≠ 0 then 1 else 0) (h2 : live2 = 1 → evB live br z0 = 0 → ∀ x, z2 = some x → w = x) (hv2 : v2 = if v ≠ 0 ∧ w ≠ 0 then 1 else 0) : evB live2 (evB live br z0) z2 = evB live br (andZ z0 z2) ∧ (live = 1 → br = 0 → ∀ x, andZ z0 z2 = some x → v2 = x) := by
  by_cases hL : live = 1 ∧ br = 0
  · obtain ⟨rfl, rfl⟩ := hL
    have h1 := h1 rfl rfl
    cases z0 with
    | none =>
      refine ⟨?_, fun _ _ x hx => by cases hx⟩
      rw [show evB 1 0 none = 1 from rfl, evB_no (by omega)]; rfl
    | some x0 =>
      have e0 := h1 x0 rfl
      subst e0
      rw [show evB 1 0 (some v) = 0 from rfl] at h2 ⊢
      rcases hv with rfl | rfl
      · rw [if_neg (by omega)] at hl2
        subst hl2
        refine ⟨rfl, fun _ _ x hx => ?_⟩
        cases hx
        rw [hv2]; rfl
      · rw [if_pos (by omega)] at hl2
        subst hl2
        have h2 := h2 rfl rfl
        refine ⟨rfl, fun _ _ x hx => ?_⟩
        have e2 := h2 x hx
        subst e2
        rw [hv2]
        rcases hw with rfl | rfl <;> rfl
  · rw [evB_no hL, evB_no hL]
    refine ⟨?_, fun a c => absurd ⟨a, c⟩ hL⟩
    refine evB_no (fun q => ?_)
    have : live ≠ 0 := by
      intro e
      rw [if_neg (by omega)] at hl2
      omega
    omega
theorem ploopB_step {w : Int} {join : Den → Den → Den} {c : Int → Int} {item : Nat → Nat → PR} {n t p : Nat} {k : Den} {R : Nat × Nat × Den} (h : pLoopB w join c item (n + 1) t p k = .ok R) (ho : c t = w) : ∃ t2 p2 k2, item (t + 1) p = .ok (t2, p2, k2) ∧ pLoopB w join c item n t2 p2 (join k k2) = .ok R := by
  simp only [pLoopB, if_pos ho] at h
  cases hg : item (t + 1) p with
  | error e => rw [hg] at h; cases h
  | ok r => obtain ⟨t2, p2, k2⟩ := r; rw [hg] at h; exact ⟨t2, p2, k2, rfl, h⟩
theorem ploopB_end {w : Int} {join : Den → Den → Den} {c : Int → Int} {item : Nat → Nat → PR} {n t p t1 p1 : Nat} {k k1 : Den} (h : pLoopB w join c item (n + 1) t p k = .ok (t1, p1, k1)) (ho : ¬ c t = w) : t1 = t ∧ k1 = k := by
  simp only [pLoopB, if_neg ho] at h
  cases h
  exact ⟨rfl, rfl⟩
theorem prowB_step {w : Int} {join : Den → Den → Den} {c : Int → Int} {item : Nat → Nat → PR} {t p : Nat} {R : Nat × Nat × Den} (h : pRowB w join c item t p = .ok R) : ∃ t2 p2 k2, item t p = .ok (t2, p2, k2) ∧ pLoopB w join c item 401 t2 p2 k2 = .ok R := by
  unfold pRowB at h
  cases hg : item t p with
  | error e => rw [hg] at h; cases h
  | ok r => obtain ⟨t2, p2, k2⟩ := r; rw [hg] at h; exact ⟨t2, p2, k2, rfl, h⟩
set_option maxHeartbeats 4000000 in
set_option maxRecDepth 100000 in
theorem lp_testOf {l : Launch} {o : Nat} {ar : Nat → Nat} {d : Nat} {Pz : Option Value → zH → Prop} {h0 : zH} {f0 : mF} {g0 : mA} {j : mA} {N : Nat} (hd : N + 1 ≤ d) (hN : 2 ≤ N) {K φ : Int → Int} {b nt live br : Int} {lw : Bool} {item : Nat → Nat → PR} {t1 p1 : Nat} {k1 : Den} (hl : live = 0 ∨ live = 1) (hb : br = 0 ∨ br = 1) (b0 : 0 ≤ b) (bn : b + nt ≤ 2800) (n4 : nt ≤ 400) (hAdv : Adv (cK K b nt) item) (hitem : EvT l o ar MX8_bothOf N lw K b nt φ item) (hFo0 : FOK lw K f0 g0 φ) (kx : ∀ (v : Int) (o3 : Option Value) (f : mF) (g : mA) (h : zH), f 22 = b + t1 → f 24 = evB live br (k1 φ) → (v = 0 ∨ v = 1) → (live = 1 → br = 0 → ∀ x, k1 φ = some x → v = x) → eqx [22, 24] f0 f → eqx [] g0 g → HM o ar f g j h → zAg o ar h0 h → Z l MX8_testOf d 0 0 Pz 49 [some (.ref o), some (vI live), some (vI v), o3] [] h 0 0)  : ∀ (n : Nat) (t : Nat) (p : Nat) (k0 : Den) (v : Int) (o3 : Option Value) (f : mF) (g : mA) (h : zH) (tm : 401 ≤ t + n) (tn : (t : Int) ≤ nt) (hp : pLoopB 5 dOr (cK K b nt) item n t p k0 = .ok (t1, p1, k1)) (hv : v = 0 ∨ v = 1) (h1 : live = 1 → br = 0 → ∀ x, k0 φ = some x → v = x) (eg2 : g 2 = K) (ef22 : f 22 = b + t) (ef23 : f 23 = b + nt) (ef24 : f 24 = evB live br (k0 φ)) (hfE : eqx [22, 24] f0 f) (hgE : eqx [] g0 g) (hH : HM o ar f g j h) (hA : zAg o ar h0 h), Z l MX8_testOf d 0 0 Pz 6 [some (.ref o), some (vI live), some (vI v), o3] [] h 0 0 := by
  intro n
  induction n with
  | zero => intro t p k0 v o3 f g h tm tn hp hv h1 eg2 ef22 ef23 ef24 hfE hgE hH hA; exfalso; omega
  | succ n ih =>
    intro t p k0 v o3 f g h tm tn hp hv h1 eg2 ef22 ef23 ef24 hfE hgE hH hA
    refine z_ald_0 (TX8_testOf.at 4 rfl) ?_
    refine z_iconst (TX8_testOf.at 5 rfl) ?_
    refine zm_callI1 (m_passes0 eg2 ef22 ef23 (by omega) rfl rfl b0 (by omega) bn tn) (TX8_testOf.at 6 rfl) c8_284 rfl rfl hH hA (by omega) (Nat.le_of_ble_eq_true rfl) (fun x8 f8 g8 j8 h r8 q8 hH hA => ?_)
    obtain ⟨q8, xf, xg, xj⟩ := q8
    rw [xj] at hH
    have ef23 := (xf 23 (by decide)).trans ef23
    have ef24 := (xf 24 (by decide)).trans ef24
    have hfE := hfE.trans xf (by decide)
    have eg2 := (xg 2 (by decide)).trans eg2
    have hgE := hgE.trans xg (by decide)
    have qL := q8
    obtain ⟨rfl, ef22⟩ := qL
    refine z_if_eqB (tgt := 49) (TX8_testOf.at 7 rfl) rfl (fun c1 => ?_) (fun c1 => ?_)
    · skip
      rw [b2i_f c1, Int.add_zero] at ef22
      obtain ⟨rfl, rfl⟩ := ploopB_end hp c1
      exact kx _ _ _ _ _ ef22 ef24 hv h1 hfE hgE hH hA
    · skip
      rw [b2i_t c1] at ef22
      obtain ⟨t2, p2, k2, hpi, hp2⟩ := ploopB_step hp c1
      have tn1 := cK_nz (K := K) (b := b) (nt := nt) t (by omega)
      have ha : advR (cK K b nt) (t + 1) (.ok (t2, p2, k2)) := hpi ▸ hAdv (t + 1) p
      have ha1 : t + 1 < t2 := ha.1
      have ha2 := adv_le (nt := nt) cK_nz ha.1 ha.2
      refine z_ald_0 (TX8_testOf.at 8 rfl) ?_
      refine z_ild_1 (TX8_testOf.at 9 rfl) ?_
      refine z_if_eq (tgt := 27) (TX8_testOf.at 10 rfl) rfl (by omega) (fun c2 => ?_) (fun c2 => ?_)
      · skip
        refine z_iconst (TX8_testOf.at 15 rfl) ?_
        refine zm_callI1 (hitem _ _ (t + 1) p t2 p2 k2 _ _ _ (by omega) (evB_01 hb) eg2 (by rw [ef22]; push_cast; omega) ef23 ef24 (hFo0.keep hfE hgE) (by push_cast; omega) hpi) (TX8_testOf.at 16 rfl) c8_308 rfl rfl hH hA (by omega) (Nat.le_of_ble_eq_true rfl) (fun x28 f28 g28 j28 h r28 q28 hH hA => ?_)
        obtain ⟨q28, xf, xg, xj⟩ := q28
        rw [xj] at hH
        have ef23 := (xf 23 (by decide)).trans ef23
        have hfE := hfE.trans xf (by decide)
        have eg2 := (xg 2 (by decide)).trans eg2
        have hgE := hgE.trans xg (by decide)
        have qL := q28
        obtain ⟨rw1, ef24, ef22, hw2⟩ := qL
        refine z_ist_3 (TX8_testOf.at 17 rfl) (Nat.le_of_ble_eq_true rfl) rfl ?_
        refine z_ild_2 (TX8_testOf.at 18 rfl) ?_
        refine z_if_ne (tgt := 40) (TX8_testOf.at 19 rfl) rfl (by omega) (fun c3 => ?_) (fun c3 => ?_)
        · skip
          refine z_iconst (TX8_testOf.at 22 rfl) ?_
          refine z_goto (tgt := 45) (TX8_testOf.at 23 rfl) rfl ?_
          refine z_ist_2 (TX8_testOf.at 25 rfl) (Nat.le_of_ble_eq_true rfl) rfl ?_
          refine z_goto (tgt := 6) (TX8_testOf.at 26 rfl) rfl ?_
          first | (exfalso; omega) | (have e := or_step (live2 := 0) (v2 := 0) hl hb hv rw1 h1 (by first | rw [if_pos (by omega)] | rw [if_neg (by omega)]) hw2 (by first | rw [if_pos (by omega)] | rw [if_neg (by omega)]); rw [e.1] at ef24; exact ih t2 p2 (dOr k0 k2) 0 _ _ _ _ (by omega) ha2 hp2 (by omega) e.2 eg2 ef22 ef23 ef24 hfE hgE hH hA) | (have e := or_step (live2 := 0) (v2 := 1) hl hb hv rw1 h1 (by first | rw [if_pos (by omega)] | rw [if_neg (by omega)]) hw2 (by first | rw [if_pos (by omega)] | rw [if_neg (by omega)]); rw [e.1] at ef24; exact ih t2 p2 (dOr k0 k2) 1 _ _ _ _ (by omega) ha2 hp2 (by omega) e.2 eg2 ef22 ef23 ef24 hfE hgE hH hA) | (have e := or_step (live2 := 1) (v2 := 0) hl hb hv rw1 h1 (by first | rw [if_pos (by omega)] | rw [if_neg (by omega)]) hw2 (by first | rw [if_pos (by omega)] | rw [if_neg (by omega)]); rw [e.1] at ef24; exact ih t2 p2 (dOr k0 k2) 0 _ _ _ _ (by omega) ha2 hp2 (by omega) e.2 eg2 ef22 ef23 ef24 hfE hgE hH hA) | (have e := or_step (live2 := 1) (v2 := 1) hl hb hv rw1 h1 (by first | rw [if_pos (by omega)] | rw [if_neg (by omega)]) hw2 (by first | rw [if_pos (by omega)] | rw [if_neg (by omega)]); rw [e.1] at ef24; exact ih t2 p2 (dOr k0 k2) 1 _ _ _ _ (by omega) ha2 hp2 (by omega) e.2 eg2 ef22 ef23 ef24 hfE hgE hH hA)
        · skip
          refine z_ild_3 (TX8_testOf.at 20 rfl) ?_
          refine z_if_eq (tgt := 44) (TX8_testOf.at 21 rfl) rfl (by omega) (fun c4 => ?_) (fun c4 => ?_)
          · skip
            refine z_iconst (TX8_testOf.at 24 rfl) ?_
            refine z_ist_2 (TX8_testOf.at 25 rfl) (Nat.le_of_ble_eq_true rfl) rfl ?_
            refine z_goto (tgt := 6) (TX8_testOf.at 26 rfl) rfl ?_
            first | (exfalso; omega) | (have e := or_step (live2 := 0) (v2 := 0) hl hb hv rw1 h1 (by first | rw [if_pos (by omega)] | rw [if_neg (by omega)]) hw2 (by first | rw [if_pos (by omega)] | rw [if_neg (by omega)]); rw [e.1] at ef24; exact ih t2 p2 (dOr k0 k2) 0 _ _ _ _ (by omega) ha2 hp2 (by omega) e.2 eg2 ef22 ef23 ef24 hfE hgE hH hA) | (have e := or_step (live2 := 0) (v2 := 1) hl hb hv rw1 h1 (by first | rw [if_pos (by omega)] | rw [if_neg (by omega)]) hw2 (by first | rw [if_pos (by omega)] | rw [if_neg (by omega)]); rw [e.1] at ef24; exact ih t2 p2 (dOr k0 k2) 1 _ _ _ _ (by omega) ha2 hp2 (by omega) e.2 eg2 ef22 ef23 ef24 hfE hgE hH hA) | (have e := or_step (live2 := 1) (v2 := 0) hl hb hv rw1 h1 (by first | rw [if_pos (by omega)] | rw [if_neg (by omega)]) hw2 (by first | rw [if_pos (by omega)] | rw [if_neg (by omega)]); rw [e.1] at ef24; exact ih t2 p2 (dOr k0 k2) 0 _ _ _ _ (by omega) ha2 hp2 (by omega) e.2 eg2 ef22 ef23 ef24 hfE hgE hH hA) | (have e := or_step (live2 := 1) (v2 := 1) hl hb hv rw1 h1 (by first | rw [if_pos (by omega)] | rw [if_neg (by omega)]) hw2 (by first | rw [if_pos (by omega)] | rw [if_neg (by omega)]); rw [e.1] at ef24; exact ih t2 p2 (dOr k0 k2) 1 _ _ _ _ (by omega) ha2 hp2 (by omega) e.2 eg2 ef22 ef23 ef24 hfE hgE hH hA)
          · skip
            refine z_iconst (TX8_testOf.at 22 rfl) ?_
            refine z_goto (tgt := 45) (TX8_testOf.at 23 rfl) rfl ?_
            refine z_ist_2 (TX8_testOf.at 25 rfl) (Nat.le_of_ble_eq_true rfl) rfl ?_
            refine z_goto (tgt := 6) (TX8_testOf.at 26 rfl) rfl ?_
            first | (exfalso; omega) | (have e := or_step (live2 := 0) (v2 := 0) hl hb hv rw1 h1 (by first | rw [if_pos (by omega)] | rw [if_neg (by omega)]) hw2 (by first | rw [if_pos (by omega)] | rw [if_neg (by omega)]); rw [e.1] at ef24; exact ih t2 p2 (dOr k0 k2) 0 _ _ _ _ (by omega) ha2 hp2 (by omega) e.2 eg2 ef22 ef23 ef24 hfE hgE hH hA) | (have e := or_step (live2 := 0) (v2 := 1) hl hb hv rw1 h1 (by first | rw [if_pos (by omega)] | rw [if_neg (by omega)]) hw2 (by first | rw [if_pos (by omega)] | rw [if_neg (by omega)]); rw [e.1] at ef24; exact ih t2 p2 (dOr k0 k2) 1 _ _ _ _ (by omega) ha2 hp2 (by omega) e.2 eg2 ef22 ef23 ef24 hfE hgE hH hA) | (have e := or_step (live2 := 1) (v2 := 0) hl hb hv rw1 h1 (by first | rw [if_pos (by omega)] | rw [if_neg (by omega)]) hw2 (by first | rw [if_pos (by omega)] | rw [if_neg (by omega)]); rw [e.1] at ef24; exact ih t2 p2 (dOr k0 k2) 0 _ _ _ _ (by omega) ha2 hp2 (by omega) e.2 eg2 ef22 ef23 ef24 hfE hgE hH hA) | (have e := or_step (live2 := 1) (v2 := 1) hl hb hv rw1 h1 (by first | rw [if_pos (by omega)] | rw [if_neg (by omega)]) hw2 (by first | rw [if_pos (by omega)] | rw [if_neg (by omega)]); rw [e.1] at ef24; exact ih t2 p2 (dOr k0 k2) 1 _ _ _ _ (by omega) ha2 hp2 (by omega) e.2 eg2 ef22 ef23 ef24 hfE hgE hH hA)
      · skip
        refine z_ild_2 (TX8_testOf.at 11 rfl) ?_
        refine z_if_ne (tgt := 27) (TX8_testOf.at 12 rfl) rfl (by omega) (fun c5 => ?_) (fun c5 => ?_)
        · skip
          refine z_iconst (TX8_testOf.at 15 rfl) ?_
          refine zm_callI1 (hitem _ _ (t + 1) p t2 p2 k2 _ _ _ (by omega) (evB_01 hb) eg2 (by rw [ef22]; push_cast; omega) ef23 ef24 (hFo0.keep hfE hgE) (by push_cast; omega) hpi) (TX8_testOf.at 16 rfl) c8_308 rfl rfl hH hA (by omega) (Nat.le_of_ble_eq_true rfl) (fun x28 f28 g28 j28 h r28 q28 hH hA => ?_)
          obtain ⟨q28, xf, xg, xj⟩ := q28
          rw [xj] at hH
          have ef23 := (xf 23 (by decide)).trans ef23
          have hfE := hfE.trans xf (by decide)
          have eg2 := (xg 2 (by decide)).trans eg2
          have hgE := hgE.trans xg (by decide)
          have qL := q28
          obtain ⟨rw1, ef24, ef22, hw2⟩ := qL
          refine z_ist_3 (TX8_testOf.at 17 rfl) (Nat.le_of_ble_eq_true rfl) rfl ?_
          refine z_ild_2 (TX8_testOf.at 18 rfl) ?_
          refine z_if_ne (tgt := 40) (TX8_testOf.at 19 rfl) rfl (by omega) (fun c6 => ?_) (fun c6 => ?_)
          · skip
            refine z_iconst (TX8_testOf.at 22 rfl) ?_
            refine z_goto (tgt := 45) (TX8_testOf.at 23 rfl) rfl ?_
            refine z_ist_2 (TX8_testOf.at 25 rfl) (Nat.le_of_ble_eq_true rfl) rfl ?_
            refine z_goto (tgt := 6) (TX8_testOf.at 26 rfl) rfl ?_
            first | (exfalso; omega) | (have e := or_step (live2 := 0) (v2 := 0) hl hb hv rw1 h1 (by first | rw [if_pos (by omega)] | rw [if_neg (by omega)]) hw2 (by first | rw [if_pos (by omega)] | rw [if_neg (by omega)]); rw [e.1] at ef24; exact ih t2 p2 (dOr k0 k2) 0 _ _ _ _ (by omega) ha2 hp2 (by omega) e.2 eg2 ef22 ef23 ef24 hfE hgE hH hA) | (have e := or_step (live2 := 0) (v2 := 1) hl hb hv rw1 h1 (by first | rw [if_pos (by omega)] | rw [if_neg (by omega)]) hw2 (by first | rw [if_pos (by omega)] | rw [if_neg (by omega)]); rw [e.1] at ef24; exact ih t2 p2 (dOr k0 k2) 1 _ _ _ _ (by omega) ha2 hp2 (by omega) e.2 eg2 ef22 ef23 ef24 hfE hgE hH hA) | (have e := or_step (live2 := 1) (v2 := 0) hl hb hv rw1 h1 (by first | rw [if_pos (by omega)] | rw [if_neg (by omega)]) hw2 (by first | rw [if_pos (by omega)] | rw [if_neg (by omega)]); rw [e.1] at ef24; exact ih t2 p2 (dOr k0 k2) 0 _ _ _ _ (by omega) ha2 hp2 (by omega) e.2 eg2 ef22 ef23 ef24 hfE hgE hH hA) | (have e := or_step (live2 := 1) (v2 := 1) hl hb hv rw1 h1 (by first | rw [if_pos (by omega)] | rw [if_neg (by omega)]) hw2 (by first | rw [if_pos (by omega)] | rw [if_neg (by omega)]); rw [e.1] at ef24; exact ih t2 p2 (dOr k0 k2) 1 _ _ _ _ (by omega) ha2 hp2 (by omega) e.2 eg2 ef22 ef23 ef24 hfE hgE hH hA)
          · skip
            refine z_ild_3 (TX8_testOf.at 20 rfl) ?_
            refine z_if_eq (tgt := 44) (TX8_testOf.at 21 rfl) rfl (by omega) (fun c7 => ?_) (fun c7 => ?_)
            · skip
              refine z_iconst (TX8_testOf.at 24 rfl) ?_
              refine z_ist_2 (TX8_testOf.at 25 rfl) (Nat.le_of_ble_eq_true rfl) rfl ?_
              refine z_goto (tgt := 6) (TX8_testOf.at 26 rfl) rfl ?_
              first | (exfalso; omega) | (have e := or_step (live2 := 0) (v2 := 0) hl hb hv rw1 h1 (by first | rw [if_pos (by omega)] | rw [if_neg (by omega)]) hw2 (by first | rw [if_pos (by omega)] | rw [if_neg (by omega)]); rw [e.1] at ef24; exact ih t2 p2 (dOr k0 k2) 0 _ _ _ _ (by omega) ha2 hp2 (by omega) e.2 eg2 ef22 ef23 ef24 hfE hgE hH hA) | (have e := or_step (live2 := 0) (v2 := 1) hl hb hv rw1 h1 (by first | rw [if_pos (by omega)] | rw [if_neg (by omega)]) hw2 (by first | rw [if_pos (by omega)] | rw [if_neg (by omega)]); rw [e.1] at ef24; exact ih t2 p2 (dOr k0 k2) 1 _ _ _ _ (by omega) ha2 hp2 (by omega) e.2 eg2 ef22 ef23 ef24 hfE hgE hH hA) | (have e := or_step (live2 := 1) (v2 := 0) hl hb hv rw1 h1 (by first | rw [if_pos (by omega)] | rw [if_neg (by omega)]) hw2 (by first | rw [if_pos (by omega)] | rw [if_neg (by omega)]); rw [e.1] at ef24; exact ih t2 p2 (dOr k0 k2) 0 _ _ _ _ (by omega) ha2 hp2 (by omega) e.2 eg2 ef22 ef23 ef24 hfE hgE hH hA) | (have e := or_step (live2 := 1) (v2 := 1) hl hb hv rw1 h1 (by first | rw [if_pos (by omega)] | rw [if_neg (by omega)]) hw2 (by first | rw [if_pos (by omega)] | rw [if_neg (by omega)]); rw [e.1] at ef24; exact ih t2 p2 (dOr k0 k2) 1 _ _ _ _ (by omega) ha2 hp2 (by omega) e.2 eg2 ef22 ef23 ef24 hfE hgE hH hA)
            · skip
              refine z_iconst (TX8_testOf.at 22 rfl) ?_
              refine z_goto (tgt := 45) (TX8_testOf.at 23 rfl) rfl ?_
              refine z_ist_2 (TX8_testOf.at 25 rfl) (Nat.le_of_ble_eq_true rfl) rfl ?_
              refine z_goto (tgt := 6) (TX8_testOf.at 26 rfl) rfl ?_
              first | (exfalso; omega) | (have e := or_step (live2 := 0) (v2 := 0) hl hb hv rw1 h1 (by first | rw [if_pos (by omega)] | rw [if_neg (by omega)]) hw2 (by first | rw [if_pos (by omega)] | rw [if_neg (by omega)]); rw [e.1] at ef24; exact ih t2 p2 (dOr k0 k2) 0 _ _ _ _ (by omega) ha2 hp2 (by omega) e.2 eg2 ef22 ef23 ef24 hfE hgE hH hA) | (have e := or_step (live2 := 0) (v2 := 1) hl hb hv rw1 h1 (by first | rw [if_pos (by omega)] | rw [if_neg (by omega)]) hw2 (by first | rw [if_pos (by omega)] | rw [if_neg (by omega)]); rw [e.1] at ef24; exact ih t2 p2 (dOr k0 k2) 1 _ _ _ _ (by omega) ha2 hp2 (by omega) e.2 eg2 ef22 ef23 ef24 hfE hgE hH hA) | (have e := or_step (live2 := 1) (v2 := 0) hl hb hv rw1 h1 (by first | rw [if_pos (by omega)] | rw [if_neg (by omega)]) hw2 (by first | rw [if_pos (by omega)] | rw [if_neg (by omega)]); rw [e.1] at ef24; exact ih t2 p2 (dOr k0 k2) 0 _ _ _ _ (by omega) ha2 hp2 (by omega) e.2 eg2 ef22 ef23 ef24 hfE hgE hH hA) | (have e := or_step (live2 := 1) (v2 := 1) hl hb hv rw1 h1 (by first | rw [if_pos (by omega)] | rw [if_neg (by omega)]) hw2 (by first | rw [if_pos (by omega)] | rw [if_neg (by omega)]); rw [e.1] at ef24; exact ih t2 p2 (dOr k0 k2) 1 _ _ _ _ (by omega) ha2 hp2 (by omega) e.2 eg2 ef22 ef23 ef24 hfE hgE hH hA)
        · skip
          refine z_iconst (TX8_testOf.at 13 rfl) ?_
          refine z_goto (tgt := 28) (TX8_testOf.at 14 rfl) rfl ?_
          refine zm_callI1 (hitem _ _ (t + 1) p t2 p2 k2 _ _ _ (by omega) (evB_01 hb) eg2 (by rw [ef22]; push_cast; omega) ef23 ef24 (hFo0.keep hfE hgE) (by push_cast; omega) hpi) (TX8_testOf.at 16 rfl) c8_308 rfl rfl hH hA (by omega) (Nat.le_of_ble_eq_true rfl) (fun x28 f28 g28 j28 h r28 q28 hH hA => ?_)
          obtain ⟨q28, xf, xg, xj⟩ := q28
          rw [xj] at hH
          have ef23 := (xf 23 (by decide)).trans ef23
          have hfE := hfE.trans xf (by decide)
          have eg2 := (xg 2 (by decide)).trans eg2
          have hgE := hgE.trans xg (by decide)
          have qL := q28
          obtain ⟨rw1, ef24, ef22, hw2⟩ := qL
          refine z_ist_3 (TX8_testOf.at 17 rfl) (Nat.le_of_ble_eq_true rfl) rfl ?_
          refine z_ild_2 (TX8_testOf.at 18 rfl) ?_
          refine z_if_ne (tgt := 40) (TX8_testOf.at 19 rfl) rfl (by omega) (fun c8 => ?_) (fun c8 => ?_)
          · skip
            refine z_iconst (TX8_testOf.at 22 rfl) ?_
            refine z_goto (tgt := 45) (TX8_testOf.at 23 rfl) rfl ?_
            refine z_ist_2 (TX8_testOf.at 25 rfl) (Nat.le_of_ble_eq_true rfl) rfl ?_
            refine z_goto (tgt := 6) (TX8_testOf.at 26 rfl) rfl ?_
            first | (exfalso; omega) | (have e := or_step (live2 := 0) (v2 := 0) hl hb hv rw1 h1 (by first | rw [if_pos (by omega)] | rw [if_neg (by omega)]) hw2 (by first | rw [if_pos (by omega)] | rw [if_neg (by omega)]); rw [e.1] at ef24; exact ih t2 p2 (dOr k0 k2) 0 _ _ _ _ (by omega) ha2 hp2 (by omega) e.2 eg2 ef22 ef23 ef24 hfE hgE hH hA) | (have e := or_step (live2 := 0) (v2 := 1) hl hb hv rw1 h1 (by first | rw [if_pos (by omega)] | rw [if_neg (by omega)]) hw2 (by first | rw [if_pos (by omega)] | rw [if_neg (by omega)]); rw [e.1] at ef24; exact ih t2 p2 (dOr k0 k2) 1 _ _ _ _ (by omega) ha2 hp2 (by omega) e.2 eg2 ef22 ef23 ef24 hfE hgE hH hA) | (have e := or_step (live2 := 1) (v2 := 0) hl hb hv rw1 h1 (by first | rw [if_pos (by omega)] | rw [if_neg (by omega)]) hw2 (by first | rw [if_pos (by omega)] | rw [if_neg (by omega)]); rw [e.1] at ef24; exact ih t2 p2 (dOr k0 k2) 0 _ _ _ _ (by omega) ha2 hp2 (by omega) e.2 eg2 ef22 ef23 ef24 hfE hgE hH hA) | (have e := or_step (live2 := 1) (v2 := 1) hl hb hv rw1 h1 (by first | rw [if_pos (by omega)] | rw [if_neg (by omega)]) hw2 (by first | rw [if_pos (by omega)] | rw [if_neg (by omega)]); rw [e.1] at ef24; exact ih t2 p2 (dOr k0 k2) 1 _ _ _ _ (by omega) ha2 hp2 (by omega) e.2 eg2 ef22 ef23 ef24 hfE hgE hH hA)
          · skip
            refine z_ild_3 (TX8_testOf.at 20 rfl) ?_
            refine z_if_eq (tgt := 44) (TX8_testOf.at 21 rfl) rfl (by omega) (fun c9 => ?_) (fun c9 => ?_)
            · skip
              refine z_iconst (TX8_testOf.at 24 rfl) ?_
              refine z_ist_2 (TX8_testOf.at 25 rfl) (Nat.le_of_ble_eq_true rfl) rfl ?_
              refine z_goto (tgt := 6) (TX8_testOf.at 26 rfl) rfl ?_
              first | (exfalso; omega) | (have e := or_step (live2 := 0) (v2 := 0) hl hb hv rw1 h1 (by first | rw [if_pos (by omega)] | rw [if_neg (by omega)]) hw2 (by first | rw [if_pos (by omega)] | rw [if_neg (by omega)]); rw [e.1] at ef24; exact ih t2 p2 (dOr k0 k2) 0 _ _ _ _ (by omega) ha2 hp2 (by omega) e.2 eg2 ef22 ef23 ef24 hfE hgE hH hA) | (have e := or_step (live2 := 0) (v2 := 1) hl hb hv rw1 h1 (by first | rw [if_pos (by omega)] | rw [if_neg (by omega)]) hw2 (by first | rw [if_pos (by omega)] | rw [if_neg (by omega)]); rw [e.1] at ef24; exact ih t2 p2 (dOr k0 k2) 1 _ _ _ _ (by omega) ha2 hp2 (by omega) e.2 eg2 ef22 ef23 ef24 hfE hgE hH hA) | (have e := or_step (live2 := 1) (v2 := 0) hl hb hv rw1 h1 (by first | rw [if_pos (by omega)] | rw [if_neg (by omega)]) hw2 (by first | rw [if_pos (by omega)] | rw [if_neg (by omega)]); rw [e.1] at ef24; exact ih t2 p2 (dOr k0 k2) 0 _ _ _ _ (by omega) ha2 hp2 (by omega) e.2 eg2 ef22 ef23 ef24 hfE hgE hH hA) | (have e := or_step (live2 := 1) (v2 := 1) hl hb hv rw1 h1 (by first | rw [if_pos (by omega)] | rw [if_neg (by omega)]) hw2 (by first | rw [if_pos (by omega)] | rw [if_neg (by omega)]); rw [e.1] at ef24; exact ih t2 p2 (dOr k0 k2) 1 _ _ _ _ (by omega) ha2 hp2 (by omega) e.2 eg2 ef22 ef23 ef24 hfE hgE hH hA)
            · skip
              refine z_iconst (TX8_testOf.at 22 rfl) ?_
              refine z_goto (tgt := 45) (TX8_testOf.at 23 rfl) rfl ?_
              refine z_ist_2 (TX8_testOf.at 25 rfl) (Nat.le_of_ble_eq_true rfl) rfl ?_
              refine z_goto (tgt := 6) (TX8_testOf.at 26 rfl) rfl ?_
              first | (exfalso; omega) | (have e := or_step (live2 := 0) (v2 := 0) hl hb hv rw1 h1 (by first | rw [if_pos (by omega)] | rw [if_neg (by omega)]) hw2 (by first | rw [if_pos (by omega)] | rw [if_neg (by omega)]); rw [e.1] at ef24; exact ih t2 p2 (dOr k0 k2) 0 _ _ _ _ (by omega) ha2 hp2 (by omega) e.2 eg2 ef22 ef23 ef24 hfE hgE hH hA) | (have e := or_step (live2 := 0) (v2 := 1) hl hb hv rw1 h1 (by first | rw [if_pos (by omega)] | rw [if_neg (by omega)]) hw2 (by first | rw [if_pos (by omega)] | rw [if_neg (by omega)]); rw [e.1] at ef24; exact ih t2 p2 (dOr k0 k2) 1 _ _ _ _ (by omega) ha2 hp2 (by omega) e.2 eg2 ef22 ef23 ef24 hfE hgE hH hA) | (have e := or_step (live2 := 1) (v2 := 0) hl hb hv rw1 h1 (by first | rw [if_pos (by omega)] | rw [if_neg (by omega)]) hw2 (by first | rw [if_pos (by omega)] | rw [if_neg (by omega)]); rw [e.1] at ef24; exact ih t2 p2 (dOr k0 k2) 0 _ _ _ _ (by omega) ha2 hp2 (by omega) e.2 eg2 ef22 ef23 ef24 hfE hgE hH hA) | (have e := or_step (live2 := 1) (v2 := 1) hl hb hv rw1 h1 (by first | rw [if_pos (by omega)] | rw [if_neg (by omega)]) hw2 (by first | rw [if_pos (by omega)] | rw [if_neg (by omega)]); rw [e.1] at ef24; exact ih t2 p2 (dOr k0 k2) 1 _ _ _ _ (by omega) ha2 hp2 (by omega) e.2 eg2 ef22 ef23 ef24 hfE hgE hH hA)

set_option maxHeartbeats 4000000 in
set_option maxRecDepth 100000 in
theorem m_testOf {l : Launch} {o : Nat} {ar : Nat → Nat} {f : mF} {g j : mA} {K : Int → Int} {y22 : Int} {y23 : Int} {br : Int} {live : Int} {b nt : Int} {N t p t1 p1 : Nat} {k1 : Den} {lw : Bool} {φ : Int → Int} {item : Nat → Nat → PR} (eg2 : g 2 = K) (ef22 : f 22 = y22) (ef23 : f 23 = y23) (ef24 : f 24 = br) (hl : live = 0 ∨ live = 1) (hb : br = 0 ∨ br = 1) (ey : y22 = b + t) (ez : y23 = b + nt) (b0 : 0 ≤ b) (bn : b + nt ≤ 2800) (n4 : nt ≤ 400) (tn : (t : Int) ≤ nt) (hN : 2 ≤ N) (hFo : FOK lw K f g φ) (hAdv : Adv (cK K b nt) item) (hitem : EvT l o ar MX8_bothOf N lw K b nt φ item) (hp0 : pRowB 5 dOr (cK K b nt) item t p = .ok (t1, p1, k1)) : MM l o ar MX8_testOf (N + 1) [.ref o, vI live] f g j (PI (fun r f' g' j' => ((r = 0 ∨ r = 1) ∧ f' 24 = evB live br (k1 φ) ∧ f' 22 = b + t1 ∧ (live = 1 → br = 0 → ∀ x, k1 φ = some x → r = x)) ∧ eqx [22, 24] f f' ∧ eqx [] g g' ∧ j' = j)) := by
  refine MM.intro [some (.ref o), some (vI live), none, none] (by decide) (Nat.le_of_ble_eq_true rfl) rfl (fun d hd h0 h hH hA => ?_)
  have hfE : eqx [22, 24] f f := eqx.rf
  have hgE : eqx [] g g := eqx.rf
  subst ey; subst ez
  obtain ⟨t2, p2, k2, hpi, hp⟩ := prowB_step hp0
  have ha : advR (cK K b nt) t (.ok (t2, p2, k2)) := hpi ▸ hAdv t p
  have ha1 : t < t2 := ha.1
  have ha2 := adv_le (nt := nt) cK_nz ha.1 ha.2
  refine z_ald_0 (TX8_testOf.at 0 rfl) ?_
  refine z_ild_1 (TX8_testOf.at 1 rfl) ?_
  refine zm_callI1 (hitem live _ t p t2 p2 k2 _ _ _ hl hb eg2 ef22 ef23 ef24 (hFo.keep hfE hgE) tn hpi) (TX8_testOf.at 2 rfl) c8_308 rfl rfl hH hA (by omega) (Nat.le_of_ble_eq_true rfl) (fun x2 f2 g2 j2 h r2 q2 hH hA => ?_)
  obtain ⟨q2, xf, xg, xj⟩ := q2
  rw [xj] at hH
  have ef23 := (xf 23 (by decide)).trans ef23
  have hfE := hfE.trans xf (by decide)
  have eg2 := (xg 2 (by decide)).trans eg2
  have hgE := hgE.trans xg (by decide)
  have qL := q2
  obtain ⟨rw1, ef24, ef22, hw2⟩ := qL
  refine z_ist_2 (TX8_testOf.at 3 rfl) (Nat.le_of_ble_eq_true rfl) rfl ?_
  refine lp_testOf (t1 := t1) (p1 := p1) (k1 := k1) (lw := lw) hd hN hl hb b0 bn n4 hAdv hitem hFo (fun v o3 f3 g3 h3 ef22 ef24 hv h1 hfE hgE hH hA => ?_) 401 t2 p2 k2 _ _ _ _ _ (by omega) ha2 hp rw1 hw2 eg2 ef22 ef23 ef24 hfE hgE hH hA
  refine z_ild_2 (TX8_testOf.at 27 rfl) ?_
  refine zm_zret (TX8_testOf.at 28 rfl) rfl hH hA hv ?_
  exact ⟨⟨hv, ef24, ef22, h1⟩, hfE, hgE, rfl⟩

theorem ev_testOf {l : Launch} {o : Nat} {ar : Nat → Nat} {N : Nat} {lw : Bool} {K : Int → Int} {b nt : Int} {φ : Int → Int} {item : Nat → Nat → PR} (b0 : 0 ≤ b) (bn : b + nt ≤ 2800) (n4 : nt ≤ 400) (hN : 2 ≤ N) (hAdv : Adv (cK K b nt) item) (hitem : EvT l o ar MX8_bothOf N lw K b nt φ item) : EvT l o ar MX8_testOf (N + 1) lw K b nt φ (pRowB 5 dOr (cK K b nt) item) := fun live br t p t' p' k f g j hl hb eg2 ef22 ef23 ef24 hFo tn hp => m_testOf eg2 ef22 ef23 ef24 hl hb rfl rfl b0 bn n4 tn hN hFo hAdv hitem hp
set_option maxHeartbeats 4000000 in
set_option maxRecDepth 100000 in
theorem lp_bothOf {l : Launch} {o : Nat} {ar : Nat → Nat} {d : Nat} {Pz : Option Value → zH → Prop} {h0 : zH} {f0 : mF} {g0 : mA} {j : mA} {N : Nat} (hd : N + 1 ≤ d) (hN : 2 ≤ N) {K φ : Int → Int} {b nt live br : Int} {lw : Bool} {item : Nat → Nat → PR} {t1 p1 : Nat} {k1 : Den} (hl : live = 0 ∨ live = 1) (hb : br = 0 ∨ br = 1) (b0 : 0 ≤ b) (bn : b + nt ≤ 2800) (n4 : nt ≤ 400) (hAdv : Adv (cK K b nt) item) (hitem : EvT l o ar MX8_plainOf N lw K b nt φ item) (hFo0 : FOK lw K f0 g0 φ) (kx : ∀ (v : Int) (o3 : Option Value) (f : mF) (g : mA) (h : zH), f 22 = b + t1 → f 24 = evB live br (k1 φ) → (v = 0 ∨ v = 1) → (live = 1 → br = 0 → ∀ x, k1 φ = some x → v = x) → eqx [22, 24] f0 f → eqx [] g0 g → HM o ar f g j h → zAg o ar h0 h → Z l MX8_bothOf d 0 0 Pz 50 [some (.ref o), some (vI live), some (vI v), o3] [] h 0 0)  : ∀ (n : Nat) (t : Nat) (p : Nat) (k0 : Den) (v : Int) (o3 : Option Value) (f : mF) (g : mA) (h : zH) (tm : 401 ≤ t + n) (tn : (t : Int) ≤ nt) (hp : pLoopB 6 dAnd (cK K b nt) item n t p k0 = .ok (t1, p1, k1)) (hv : v = 0 ∨ v = 1) (h1 : live = 1 → br = 0 → ∀ x, k0 φ = some x → v = x) (eg2 : g 2 = K) (ef22 : f 22 = b + t) (ef23 : f 23 = b + nt) (ef24 : f 24 = evB live br (k0 φ)) (hfE : eqx [22, 24] f0 f) (hgE : eqx [] g0 g) (hH : HM o ar f g j h) (hA : zAg o ar h0 h), Z l MX8_bothOf d 0 0 Pz 6 [some (.ref o), some (vI live), some (vI v), o3] [] h 0 0 := by
  intro n
  induction n with
  | zero => intro t p k0 v o3 f g h tm tn hp hv h1 eg2 ef22 ef23 ef24 hfE hgE hH hA; exfalso; omega
  | succ n ih =>
    intro t p k0 v o3 f g h tm tn hp hv h1 eg2 ef22 ef23 ef24 hfE hgE hH hA
    refine z_ald_0 (TX8_bothOf.at 4 rfl) ?_
    refine z_bipush (by decide) (TX8_bothOf.at 5 rfl) ?_
    refine zm_callI1 (m_passes0 eg2 ef22 ef23 (by omega) rfl rfl b0 (by omega) bn tn) (TX8_bothOf.at 6 rfl) c8_284 rfl rfl hH hA (by omega) (Nat.le_of_ble_eq_true rfl) (fun x9 f9 g9 j9 h r9 q9 hH hA => ?_)
    obtain ⟨q9, xf, xg, xj⟩ := q9
    rw [xj] at hH
    have ef23 := (xf 23 (by decide)).trans ef23
    have ef24 := (xf 24 (by decide)).trans ef24
    have hfE := hfE.trans xf (by decide)
    have eg2 := (xg 2 (by decide)).trans eg2
    have hgE := hgE.trans xg (by decide)
    have qL := q9
    obtain ⟨rfl, ef22⟩ := qL
    refine z_if_eqB (tgt := 50) (TX8_bothOf.at 7 rfl) rfl (fun c1 => ?_) (fun c1 => ?_)
    · skip
      rw [b2i_f c1, Int.add_zero] at ef22
      obtain ⟨rfl, rfl⟩ := ploopB_end hp c1
      exact kx _ _ _ _ _ ef22 ef24 hv h1 hfE hgE hH hA
    · skip
      rw [b2i_t c1] at ef22
      obtain ⟨t2, p2, k2, hpi, hp2⟩ := ploopB_step hp c1
      have tn1 := cK_nz (K := K) (b := b) (nt := nt) t (by omega)
      have ha : advR (cK K b nt) (t + 1) (.ok (t2, p2, k2)) := hpi ▸ hAdv (t + 1) p
      have ha1 : t + 1 < t2 := ha.1
      have ha2 := adv_le (nt := nt) cK_nz ha.1 ha.2
      refine z_ald_0 (TX8_bothOf.at 8 rfl) ?_
      refine z_ild_1 (TX8_bothOf.at 9 rfl) ?_
      refine z_if_eq (tgt := 28) (TX8_bothOf.at 10 rfl) rfl (by omega) (fun c2 => ?_) (fun c2 => ?_)
      · skip
        refine z_iconst (TX8_bothOf.at 15 rfl) ?_
        refine zm_callI1 (hitem _ _ (t + 1) p t2 p2 k2 _ _ _ (by omega) (evB_01 hb) eg2 (by rw [ef22]; push_cast; omega) ef23 ef24 (hFo0.keep hfE hgE) (by push_cast; omega) hpi) (TX8_bothOf.at 16 rfl) c8_311 rfl rfl hH hA (by omega) (Nat.le_of_ble_eq_true rfl) (fun x29 f29 g29 j29 h r29 q29 hH hA => ?_)
        obtain ⟨q29, xf, xg, xj⟩ := q29
        rw [xj] at hH
        have ef23 := (xf 23 (by decide)).trans ef23
        have hfE := hfE.trans xf (by decide)
        have eg2 := (xg 2 (by decide)).trans eg2
        have hgE := hgE.trans xg (by decide)
        have qL := q29
        obtain ⟨rw1, ef24, ef22, hw2⟩ := qL
        refine z_ist_3 (TX8_bothOf.at 17 rfl) (Nat.le_of_ble_eq_true rfl) rfl ?_
        refine z_ild_2 (TX8_bothOf.at 18 rfl) ?_
        refine z_if_eq (tgt := 45) (TX8_bothOf.at 19 rfl) rfl (by omega) (fun c3 => ?_) (fun c3 => ?_)
        · skip
          refine z_iconst (TX8_bothOf.at 24 rfl) ?_
          refine z_ist_2 (TX8_bothOf.at 25 rfl) (Nat.le_of_ble_eq_true rfl) rfl ?_
          refine z_goto (tgt := 6) (TX8_bothOf.at 26 rfl) rfl ?_
          first | (exfalso; omega) | (have e := and_step (live2 := 0) (v2 := 0) hl hb hv rw1 h1 (by first | rw [if_pos (by omega)] | rw [if_neg (by omega)]) hw2 (by first | rw [if_pos (by omega)] | rw [if_neg (by omega)]); rw [e.1] at ef24; exact ih t2 p2 (dAnd k0 k2) 0 _ _ _ _ (by omega) ha2 hp2 (by omega) e.2 eg2 ef22 ef23 ef24 hfE hgE hH hA) | (have e := and_step (live2 := 0) (v2 := 1) hl hb hv rw1 h1 (by first | rw [if_pos (by omega)] | rw [if_neg (by omega)]) hw2 (by first | rw [if_pos (by omega)] | rw [if_neg (by omega)]); rw [e.1] at ef24; exact ih t2 p2 (dAnd k0 k2) 1 _ _ _ _ (by omega) ha2 hp2 (by omega) e.2 eg2 ef22 ef23 ef24 hfE hgE hH hA) | (have e := and_step (live2 := 1) (v2 := 0) hl hb hv rw1 h1 (by first | rw [if_pos (by omega)] | rw [if_neg (by omega)]) hw2 (by first | rw [if_pos (by omega)] | rw [if_neg (by omega)]); rw [e.1] at ef24; exact ih t2 p2 (dAnd k0 k2) 0 _ _ _ _ (by omega) ha2 hp2 (by omega) e.2 eg2 ef22 ef23 ef24 hfE hgE hH hA) | (have e := and_step (live2 := 1) (v2 := 1) hl hb hv rw1 h1 (by first | rw [if_pos (by omega)] | rw [if_neg (by omega)]) hw2 (by first | rw [if_pos (by omega)] | rw [if_neg (by omega)]); rw [e.1] at ef24; exact ih t2 p2 (dAnd k0 k2) 1 _ _ _ _ (by omega) ha2 hp2 (by omega) e.2 eg2 ef22 ef23 ef24 hfE hgE hH hA)
        · skip
          refine z_ild_3 (TX8_bothOf.at 20 rfl) ?_
          refine z_if_eq (tgt := 45) (TX8_bothOf.at 21 rfl) rfl (by omega) (fun c4 => ?_) (fun c4 => ?_)
          · skip
            refine z_iconst (TX8_bothOf.at 24 rfl) ?_
            refine z_ist_2 (TX8_bothOf.at 25 rfl) (Nat.le_of_ble_eq_true rfl) rfl ?_
            refine z_goto (tgt := 6) (TX8_bothOf.at 26 rfl) rfl ?_
            first | (exfalso; omega) | (have e := and_step (live2 := 0) (v2 := 0) hl hb hv rw1 h1 (by first | rw [if_pos (by omega)] | rw [if_neg (by omega)]) hw2 (by first | rw [if_pos (by omega)] | rw [if_neg (by omega)]); rw [e.1] at ef24; exact ih t2 p2 (dAnd k0 k2) 0 _ _ _ _ (by omega) ha2 hp2 (by omega) e.2 eg2 ef22 ef23 ef24 hfE hgE hH hA) | (have e := and_step (live2 := 0) (v2 := 1) hl hb hv rw1 h1 (by first | rw [if_pos (by omega)] | rw [if_neg (by omega)]) hw2 (by first | rw [if_pos (by omega)] | rw [if_neg (by omega)]); rw [e.1] at ef24; exact ih t2 p2 (dAnd k0 k2) 1 _ _ _ _ (by omega) ha2 hp2 (by omega) e.2 eg2 ef22 ef23 ef24 hfE hgE hH hA) | (have e := and_step (live2 := 1) (v2 := 0) hl hb hv rw1 h1 (by first | rw [if_pos (by omega)] | rw [if_neg (by omega)]) hw2 (by first | rw [if_pos (by omega)] | rw [if_neg (by omega)]); rw [e.1] at ef24; exact ih t2 p2 (dAnd k0 k2) 0 _ _ _ _ (by omega) ha2 hp2 (by omega) e.2 eg2 ef22 ef23 ef24 hfE hgE hH hA) | (have e := and_step (live2 := 1) (v2 := 1) hl hb hv rw1 h1 (by first | rw [if_pos (by omega)] | rw [if_neg (by omega)]) hw2 (by first | rw [if_pos (by omega)] | rw [if_neg (by omega)]); rw [e.1] at ef24; exact ih t2 p2 (dAnd k0 k2) 1 _ _ _ _ (by omega) ha2 hp2 (by omega) e.2 eg2 ef22 ef23 ef24 hfE hgE hH hA)
          · skip
            refine z_iconst (TX8_bothOf.at 22 rfl) ?_
            refine z_goto (tgt := 46) (TX8_bothOf.at 23 rfl) rfl ?_
            refine z_ist_2 (TX8_bothOf.at 25 rfl) (Nat.le_of_ble_eq_true rfl) rfl ?_
            refine z_goto (tgt := 6) (TX8_bothOf.at 26 rfl) rfl ?_
            first | (exfalso; omega) | (have e := and_step (live2 := 0) (v2 := 0) hl hb hv rw1 h1 (by first | rw [if_pos (by omega)] | rw [if_neg (by omega)]) hw2 (by first | rw [if_pos (by omega)] | rw [if_neg (by omega)]); rw [e.1] at ef24; exact ih t2 p2 (dAnd k0 k2) 0 _ _ _ _ (by omega) ha2 hp2 (by omega) e.2 eg2 ef22 ef23 ef24 hfE hgE hH hA) | (have e := and_step (live2 := 0) (v2 := 1) hl hb hv rw1 h1 (by first | rw [if_pos (by omega)] | rw [if_neg (by omega)]) hw2 (by first | rw [if_pos (by omega)] | rw [if_neg (by omega)]); rw [e.1] at ef24; exact ih t2 p2 (dAnd k0 k2) 1 _ _ _ _ (by omega) ha2 hp2 (by omega) e.2 eg2 ef22 ef23 ef24 hfE hgE hH hA) | (have e := and_step (live2 := 1) (v2 := 0) hl hb hv rw1 h1 (by first | rw [if_pos (by omega)] | rw [if_neg (by omega)]) hw2 (by first | rw [if_pos (by omega)] | rw [if_neg (by omega)]); rw [e.1] at ef24; exact ih t2 p2 (dAnd k0 k2) 0 _ _ _ _ (by omega) ha2 hp2 (by omega) e.2 eg2 ef22 ef23 ef24 hfE hgE hH hA) | (have e := and_step (live2 := 1) (v2 := 1) hl hb hv rw1 h1 (by first | rw [if_pos (by omega)] | rw [if_neg (by omega)]) hw2 (by first | rw [if_pos (by omega)] | rw [if_neg (by omega)]); rw [e.1] at ef24; exact ih t2 p2 (dAnd k0 k2) 1 _ _ _ _ (by omega) ha2 hp2 (by omega) e.2 eg2 ef22 ef23 ef24 hfE hgE hH hA)
      · skip
        refine z_ild_2 (TX8_bothOf.at 11 rfl) ?_
        refine z_if_eq (tgt := 28) (TX8_bothOf.at 12 rfl) rfl (by omega) (fun c5 => ?_) (fun c5 => ?_)
        · skip
          refine z_iconst (TX8_bothOf.at 15 rfl) ?_
          refine zm_callI1 (hitem _ _ (t + 1) p t2 p2 k2 _ _ _ (by omega) (evB_01 hb) eg2 (by rw [ef22]; push_cast; omega) ef23 ef24 (hFo0.keep hfE hgE) (by push_cast; omega) hpi) (TX8_bothOf.at 16 rfl) c8_311 rfl rfl hH hA (by omega) (Nat.le_of_ble_eq_true rfl) (fun x29 f29 g29 j29 h r29 q29 hH hA => ?_)
          obtain ⟨q29, xf, xg, xj⟩ := q29
          rw [xj] at hH
          have ef23 := (xf 23 (by decide)).trans ef23
          have hfE := hfE.trans xf (by decide)
          have eg2 := (xg 2 (by decide)).trans eg2
          have hgE := hgE.trans xg (by decide)
          have qL := q29
          obtain ⟨rw1, ef24, ef22, hw2⟩ := qL
          refine z_ist_3 (TX8_bothOf.at 17 rfl) (Nat.le_of_ble_eq_true rfl) rfl ?_
          refine z_ild_2 (TX8_bothOf.at 18 rfl) ?_
          refine z_if_eq (tgt := 45) (TX8_bothOf.at 19 rfl) rfl (by omega) (fun c6 => ?_) (fun c6 => ?_)
          · skip
            refine z_iconst (TX8_bothOf.at 24 rfl) ?_
            refine z_ist_2 (TX8_bothOf.at 25 rfl) (Nat.le_of_ble_eq_true rfl) rfl ?_
            refine z_goto (tgt := 6) (TX8_bothOf.at 26 rfl) rfl ?_
            first | (exfalso; omega) | (have e := and_step (live2 := 0) (v2 := 0) hl hb hv rw1 h1 (by first | rw [if_pos (by omega)] | rw [if_neg (by omega)]) hw2 (by first | rw [if_pos (by omega)] | rw [if_neg (by omega)]); rw [e.1] at ef24; exact ih t2 p2 (dAnd k0 k2) 0 _ _ _ _ (by omega) ha2 hp2 (by omega) e.2 eg2 ef22 ef23 ef24 hfE hgE hH hA) | (have e := and_step (live2 := 0) (v2 := 1) hl hb hv rw1 h1 (by first | rw [if_pos (by omega)] | rw [if_neg (by omega)]) hw2 (by first | rw [if_pos (by omega)] | rw [if_neg (by omega)]); rw [e.1] at ef24; exact ih t2 p2 (dAnd k0 k2) 1 _ _ _ _ (by omega) ha2 hp2 (by omega) e.2 eg2 ef22 ef23 ef24 hfE hgE hH hA) | (have e := and_step (live2 := 1) (v2 := 0) hl hb hv rw1 h1 (by first | rw [if_pos (by omega)] | rw [if_neg (by omega)]) hw2 (by first | rw [if_pos (by omega)] | rw [if_neg (by omega)]); rw [e.1] at ef24; exact ih t2 p2 (dAnd k0 k2) 0 _ _ _ _ (by omega) ha2 hp2 (by omega) e.2 eg2 ef22 ef23 ef24 hfE hgE hH hA) | (have e := and_step (live2 := 1) (v2 := 1) hl hb hv rw1 h1 (by first | rw [if_pos (by omega)] | rw [if_neg (by omega)]) hw2 (by first | rw [if_pos (by omega)] | rw [if_neg (by omega)]); rw [e.1] at ef24; exact ih t2 p2 (dAnd k0 k2) 1 _ _ _ _ (by omega) ha2 hp2 (by omega) e.2 eg2 ef22 ef23 ef24 hfE hgE hH hA)
          · skip
            refine z_ild_3 (TX8_bothOf.at 20 rfl) ?_
            refine z_if_eq (tgt := 45) (TX8_bothOf.at 21 rfl) rfl (by omega) (fun c7 => ?_) (fun c7 => ?_)
            · skip
              refine z_iconst (TX8_bothOf.at 24 rfl) ?_
              refine z_ist_2 (TX8_bothOf.at 25 rfl) (Nat.le_of_ble_eq_true rfl) rfl ?_
              refine z_goto (tgt := 6) (TX8_bothOf.at 26 rfl) rfl ?_
              first | (exfalso; omega) | (have e := and_step (live2 := 0) (v2 := 0) hl hb hv rw1 h1 (by first | rw [if_pos (by omega)] | rw [if_neg (by omega)]) hw2 (by first | rw [if_pos (by omega)] | rw [if_neg (by omega)]); rw [e.1] at ef24; exact ih t2 p2 (dAnd k0 k2) 0 _ _ _ _ (by omega) ha2 hp2 (by omega) e.2 eg2 ef22 ef23 ef24 hfE hgE hH hA) | (have e := and_step (live2 := 0) (v2 := 1) hl hb hv rw1 h1 (by first | rw [if_pos (by omega)] | rw [if_neg (by omega)]) hw2 (by first | rw [if_pos (by omega)] | rw [if_neg (by omega)]); rw [e.1] at ef24; exact ih t2 p2 (dAnd k0 k2) 1 _ _ _ _ (by omega) ha2 hp2 (by omega) e.2 eg2 ef22 ef23 ef24 hfE hgE hH hA) | (have e := and_step (live2 := 1) (v2 := 0) hl hb hv rw1 h1 (by first | rw [if_pos (by omega)] | rw [if_neg (by omega)]) hw2 (by first | rw [if_pos (by omega)] | rw [if_neg (by omega)]); rw [e.1] at ef24; exact ih t2 p2 (dAnd k0 k2) 0 _ _ _ _ (by omega) ha2 hp2 (by omega) e.2 eg2 ef22 ef23 ef24 hfE hgE hH hA) | (have e := and_step (live2 := 1) (v2 := 1) hl hb hv rw1 h1 (by first | rw [if_pos (by omega)] | rw [if_neg (by omega)]) hw2 (by first | rw [if_pos (by omega)] | rw [if_neg (by omega)]); rw [e.1] at ef24; exact ih t2 p2 (dAnd k0 k2) 1 _ _ _ _ (by omega) ha2 hp2 (by omega) e.2 eg2 ef22 ef23 ef24 hfE hgE hH hA)
            · skip
              refine z_iconst (TX8_bothOf.at 22 rfl) ?_
              refine z_goto (tgt := 46) (TX8_bothOf.at 23 rfl) rfl ?_
              refine z_ist_2 (TX8_bothOf.at 25 rfl) (Nat.le_of_ble_eq_true rfl) rfl ?_
              refine z_goto (tgt := 6) (TX8_bothOf.at 26 rfl) rfl ?_
              first | (exfalso; omega) | (have e := and_step (live2 := 0) (v2 := 0) hl hb hv rw1 h1 (by first | rw [if_pos (by omega)] | rw [if_neg (by omega)]) hw2 (by first | rw [if_pos (by omega)] | rw [if_neg (by omega)]); rw [e.1] at ef24; exact ih t2 p2 (dAnd k0 k2) 0 _ _ _ _ (by omega) ha2 hp2 (by omega) e.2 eg2 ef22 ef23 ef24 hfE hgE hH hA) | (have e := and_step (live2 := 0) (v2 := 1) hl hb hv rw1 h1 (by first | rw [if_pos (by omega)] | rw [if_neg (by omega)]) hw2 (by first | rw [if_pos (by omega)] | rw [if_neg (by omega)]); rw [e.1] at ef24; exact ih t2 p2 (dAnd k0 k2) 1 _ _ _ _ (by omega) ha2 hp2 (by omega) e.2 eg2 ef22 ef23 ef24 hfE hgE hH hA) | (have e := and_step (live2 := 1) (v2 := 0) hl hb hv rw1 h1 (by first | rw [if_pos (by omega)] | rw [if_neg (by omega)]) hw2 (by first | rw [if_pos (by omega)] | rw [if_neg (by omega)]); rw [e.1] at ef24; exact ih t2 p2 (dAnd k0 k2) 0 _ _ _ _ (by omega) ha2 hp2 (by omega) e.2 eg2 ef22 ef23 ef24 hfE hgE hH hA) | (have e := and_step (live2 := 1) (v2 := 1) hl hb hv rw1 h1 (by first | rw [if_pos (by omega)] | rw [if_neg (by omega)]) hw2 (by first | rw [if_pos (by omega)] | rw [if_neg (by omega)]); rw [e.1] at ef24; exact ih t2 p2 (dAnd k0 k2) 1 _ _ _ _ (by omega) ha2 hp2 (by omega) e.2 eg2 ef22 ef23 ef24 hfE hgE hH hA)
        · skip
          refine z_iconst (TX8_bothOf.at 13 rfl) ?_
          refine z_goto (tgt := 29) (TX8_bothOf.at 14 rfl) rfl ?_
          refine zm_callI1 (hitem _ _ (t + 1) p t2 p2 k2 _ _ _ (by omega) (evB_01 hb) eg2 (by rw [ef22]; push_cast; omega) ef23 ef24 (hFo0.keep hfE hgE) (by push_cast; omega) hpi) (TX8_bothOf.at 16 rfl) c8_311 rfl rfl hH hA (by omega) (Nat.le_of_ble_eq_true rfl) (fun x29 f29 g29 j29 h r29 q29 hH hA => ?_)
          obtain ⟨q29, xf, xg, xj⟩ := q29
          rw [xj] at hH
          have ef23 := (xf 23 (by decide)).trans ef23
          have hfE := hfE.trans xf (by decide)
          have eg2 := (xg 2 (by decide)).trans eg2
          have hgE := hgE.trans xg (by decide)
          have qL := q29
          obtain ⟨rw1, ef24, ef22, hw2⟩ := qL
          refine z_ist_3 (TX8_bothOf.at 17 rfl) (Nat.le_of_ble_eq_true rfl) rfl ?_
          refine z_ild_2 (TX8_bothOf.at 18 rfl) ?_
          refine z_if_eq (tgt := 45) (TX8_bothOf.at 19 rfl) rfl (by omega) (fun c8 => ?_) (fun c8 => ?_)
          · skip
            refine z_iconst (TX8_bothOf.at 24 rfl) ?_
            refine z_ist_2 (TX8_bothOf.at 25 rfl) (Nat.le_of_ble_eq_true rfl) rfl ?_
            refine z_goto (tgt := 6) (TX8_bothOf.at 26 rfl) rfl ?_
            first | (exfalso; omega) | (have e := and_step (live2 := 0) (v2 := 0) hl hb hv rw1 h1 (by first | rw [if_pos (by omega)] | rw [if_neg (by omega)]) hw2 (by first | rw [if_pos (by omega)] | rw [if_neg (by omega)]); rw [e.1] at ef24; exact ih t2 p2 (dAnd k0 k2) 0 _ _ _ _ (by omega) ha2 hp2 (by omega) e.2 eg2 ef22 ef23 ef24 hfE hgE hH hA) | (have e := and_step (live2 := 0) (v2 := 1) hl hb hv rw1 h1 (by first | rw [if_pos (by omega)] | rw [if_neg (by omega)]) hw2 (by first | rw [if_pos (by omega)] | rw [if_neg (by omega)]); rw [e.1] at ef24; exact ih t2 p2 (dAnd k0 k2) 1 _ _ _ _ (by omega) ha2 hp2 (by omega) e.2 eg2 ef22 ef23 ef24 hfE hgE hH hA) | (have e := and_step (live2 := 1) (v2 := 0) hl hb hv rw1 h1 (by first | rw [if_pos (by omega)] | rw [if_neg (by omega)]) hw2 (by first | rw [if_pos (by omega)] | rw [if_neg (by omega)]); rw [e.1] at ef24; exact ih t2 p2 (dAnd k0 k2) 0 _ _ _ _ (by omega) ha2 hp2 (by omega) e.2 eg2 ef22 ef23 ef24 hfE hgE hH hA) | (have e := and_step (live2 := 1) (v2 := 1) hl hb hv rw1 h1 (by first | rw [if_pos (by omega)] | rw [if_neg (by omega)]) hw2 (by first | rw [if_pos (by omega)] | rw [if_neg (by omega)]); rw [e.1] at ef24; exact ih t2 p2 (dAnd k0 k2) 1 _ _ _ _ (by omega) ha2 hp2 (by omega) e.2 eg2 ef22 ef23 ef24 hfE hgE hH hA)
          · skip
            refine z_ild_3 (TX8_bothOf.at 20 rfl) ?_
            refine z_if_eq (tgt := 45) (TX8_bothOf.at 21 rfl) rfl (by omega) (fun c9 => ?_) (fun c9 => ?_)
            · skip
              refine z_iconst (TX8_bothOf.at 24 rfl) ?_
              refine z_ist_2 (TX8_bothOf.at 25 rfl) (Nat.le_of_ble_eq_true rfl) rfl ?_
              refine z_goto (tgt := 6) (TX8_bothOf.at 26 rfl) rfl ?_
              first | (exfalso; omega) | (have e := and_step (live2 := 0) (v2 := 0) hl hb hv rw1 h1 (by first | rw [if_pos (by omega)] | rw [if_neg (by omega)]) hw2 (by first | rw [if_pos (by omega)] | rw [if_neg (by omega)]); rw [e.1] at ef24; exact ih t2 p2 (dAnd k0 k2) 0 _ _ _ _ (by omega) ha2 hp2 (by omega) e.2 eg2 ef22 ef23 ef24 hfE hgE hH hA) | (have e := and_step (live2 := 0) (v2 := 1) hl hb hv rw1 h1 (by first | rw [if_pos (by omega)] | rw [if_neg (by omega)]) hw2 (by first | rw [if_pos (by omega)] | rw [if_neg (by omega)]); rw [e.1] at ef24; exact ih t2 p2 (dAnd k0 k2) 1 _ _ _ _ (by omega) ha2 hp2 (by omega) e.2 eg2 ef22 ef23 ef24 hfE hgE hH hA) | (have e := and_step (live2 := 1) (v2 := 0) hl hb hv rw1 h1 (by first | rw [if_pos (by omega)] | rw [if_neg (by omega)]) hw2 (by first | rw [if_pos (by omega)] | rw [if_neg (by omega)]); rw [e.1] at ef24; exact ih t2 p2 (dAnd k0 k2) 0 _ _ _ _ (by omega) ha2 hp2 (by omega) e.2 eg2 ef22 ef23 ef24 hfE hgE hH hA) | (have e := and_step (live2 := 1) (v2 := 1) hl hb hv rw1 h1 (by first | rw [if_pos (by omega)] | rw [if_neg (by omega)]) hw2 (by first | rw [if_pos (by omega)] | rw [if_neg (by omega)]); rw [e.1] at ef24; exact ih t2 p2 (dAnd k0 k2) 1 _ _ _ _ (by omega) ha2 hp2 (by omega) e.2 eg2 ef22 ef23 ef24 hfE hgE hH hA)
            · skip
              refine z_iconst (TX8_bothOf.at 22 rfl) ?_
              refine z_goto (tgt := 46) (TX8_bothOf.at 23 rfl) rfl ?_
              refine z_ist_2 (TX8_bothOf.at 25 rfl) (Nat.le_of_ble_eq_true rfl) rfl ?_
              refine z_goto (tgt := 6) (TX8_bothOf.at 26 rfl) rfl ?_
              first | (exfalso; omega) | (have e := and_step (live2 := 0) (v2 := 0) hl hb hv rw1 h1 (by first | rw [if_pos (by omega)] | rw [if_neg (by omega)]) hw2 (by first | rw [if_pos (by omega)] | rw [if_neg (by omega)]); rw [e.1] at ef24; exact ih t2 p2 (dAnd k0 k2) 0 _ _ _ _ (by omega) ha2 hp2 (by omega) e.2 eg2 ef22 ef23 ef24 hfE hgE hH hA) | (have e := and_step (live2 := 0) (v2 := 1) hl hb hv rw1 h1 (by first | rw [if_pos (by omega)] | rw [if_neg (by omega)]) hw2 (by first | rw [if_pos (by omega)] | rw [if_neg (by omega)]); rw [e.1] at ef24; exact ih t2 p2 (dAnd k0 k2) 1 _ _ _ _ (by omega) ha2 hp2 (by omega) e.2 eg2 ef22 ef23 ef24 hfE hgE hH hA) | (have e := and_step (live2 := 1) (v2 := 0) hl hb hv rw1 h1 (by first | rw [if_pos (by omega)] | rw [if_neg (by omega)]) hw2 (by first | rw [if_pos (by omega)] | rw [if_neg (by omega)]); rw [e.1] at ef24; exact ih t2 p2 (dAnd k0 k2) 0 _ _ _ _ (by omega) ha2 hp2 (by omega) e.2 eg2 ef22 ef23 ef24 hfE hgE hH hA) | (have e := and_step (live2 := 1) (v2 := 1) hl hb hv rw1 h1 (by first | rw [if_pos (by omega)] | rw [if_neg (by omega)]) hw2 (by first | rw [if_pos (by omega)] | rw [if_neg (by omega)]); rw [e.1] at ef24; exact ih t2 p2 (dAnd k0 k2) 1 _ _ _ _ (by omega) ha2 hp2 (by omega) e.2 eg2 ef22 ef23 ef24 hfE hgE hH hA)

set_option maxHeartbeats 4000000 in
set_option maxRecDepth 100000 in
theorem m_bothOf {l : Launch} {o : Nat} {ar : Nat → Nat} {f : mF} {g j : mA} {K : Int → Int} {y22 : Int} {y23 : Int} {br : Int} {live : Int} {b nt : Int} {N t p t1 p1 : Nat} {k1 : Den} {lw : Bool} {φ : Int → Int} {item : Nat → Nat → PR} (eg2 : g 2 = K) (ef22 : f 22 = y22) (ef23 : f 23 = y23) (ef24 : f 24 = br) (hl : live = 0 ∨ live = 1) (hb : br = 0 ∨ br = 1) (ey : y22 = b + t) (ez : y23 = b + nt) (b0 : 0 ≤ b) (bn : b + nt ≤ 2800) (n4 : nt ≤ 400) (tn : (t : Int) ≤ nt) (hN : 2 ≤ N) (hFo : FOK lw K f g φ) (hAdv : Adv (cK K b nt) item) (hitem : EvT l o ar MX8_plainOf N lw K b nt φ item) (hp0 : pRowB 6 dAnd (cK K b nt) item t p = .ok (t1, p1, k1)) : MM l o ar MX8_bothOf (N + 1) [.ref o, vI live] f g j (PI (fun r f' g' j' => ((r = 0 ∨ r = 1) ∧ f' 24 = evB live br (k1 φ) ∧ f' 22 = b + t1 ∧ (live = 1 → br = 0 → ∀ x, k1 φ = some x → r = x)) ∧ eqx [22, 24] f f' ∧ eqx [] g g' ∧ j' = j)) := by
  refine MM.intro [some (.ref o), some (vI live), none, none] (by decide) (Nat.le_of_ble_eq_true rfl) rfl (fun d hd h0 h hH hA => ?_)
  have hfE : eqx [22, 24] f f := eqx.rf
  have hgE : eqx [] g g := eqx.rf
  subst ey; subst ez
  obtain ⟨t2, p2, k2, hpi, hp⟩ := prowB_step hp0
  have ha : advR (cK K b nt) t (.ok (t2, p2, k2)) := hpi ▸ hAdv t p
  have ha1 : t < t2 := ha.1
  have ha2 := adv_le (nt := nt) cK_nz ha.1 ha.2
  refine z_ald_0 (TX8_bothOf.at 0 rfl) ?_
  refine z_ild_1 (TX8_bothOf.at 1 rfl) ?_
  refine zm_callI1 (hitem live _ t p t2 p2 k2 _ _ _ hl hb eg2 ef22 ef23 ef24 (hFo.keep hfE hgE) tn hpi) (TX8_bothOf.at 2 rfl) c8_311 rfl rfl hH hA (by omega) (Nat.le_of_ble_eq_true rfl) (fun x2 f2 g2 j2 h r2 q2 hH hA => ?_)
  obtain ⟨q2, xf, xg, xj⟩ := q2
  rw [xj] at hH
  have ef23 := (xf 23 (by decide)).trans ef23
  have hfE := hfE.trans xf (by decide)
  have eg2 := (xg 2 (by decide)).trans eg2
  have hgE := hgE.trans xg (by decide)
  have qL := q2
  obtain ⟨rw1, ef24, ef22, hw2⟩ := qL
  refine z_ist_2 (TX8_bothOf.at 3 rfl) (Nat.le_of_ble_eq_true rfl) rfl ?_
  refine lp_bothOf (t1 := t1) (p1 := p1) (k1 := k1) (lw := lw) hd hN hl hb b0 bn n4 hAdv hitem hFo (fun v o3 f3 g3 h3 ef22 ef24 hv h1 hfE hgE hH hA => ?_) 401 t2 p2 k2 _ _ _ _ _ (by omega) ha2 hp rw1 hw2 eg2 ef22 ef23 ef24 hfE hgE hH hA
  refine z_ild_2 (TX8_bothOf.at 27 rfl) ?_
  refine zm_zret (TX8_bothOf.at 28 rfl) rfl hH hA hv ?_
  exact ⟨⟨hv, ef24, ef22, h1⟩, hfE, hgE, rfl⟩

theorem ev_bothOf {l : Launch} {o : Nat} {ar : Nat → Nat} {N : Nat} {lw : Bool} {K : Int → Int} {b nt : Int} {φ : Int → Int} {item : Nat → Nat → PR} (b0 : 0 ≤ b) (bn : b + nt ≤ 2800) (n4 : nt ≤ 400) (hN : 2 ≤ N) (hAdv : Adv (cK K b nt) item) (hitem : EvT l o ar MX8_plainOf N lw K b nt φ item) : EvT l o ar MX8_bothOf (N + 1) lw K b nt φ (pRowB 6 dAnd (cK K b nt) item) := fun live br t p t' p' k f g j hl hb eg2 ef22 ef23 ef24 hFo tn hp => m_bothOf eg2 ef22 ef23 ef24 hl hb rfl rfl b0 bn n4 tn hN hFo hAdv hitem hp
