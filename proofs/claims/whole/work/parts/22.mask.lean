/-! ===== the reference: sums and tests asked ===== -/
theorem zlcmp_or (x y : Int) : (zlcmp x y = -1 ∧ x < y) ∨ (zlcmp x y = 0 ∧ x = y) ∨ (zlcmp x y = 1 ∧ y < x) := by
  unfold zlcmp
  rcases Int.lt_trichotomy x y with h | h | h
  · rw [if_pos h]; exact Or.inl ⟨rfl, h⟩
  · rw [if_neg (by omega), if_pos h]; exact Or.inr (Or.inl ⟨rfl, h⟩)
  · rw [if_neg (by omega), if_neg (by omega)]; exact Or.inr (Or.inr ⟨rfl, h⟩)
section LIF
variable {l : Launch} {M : zM} {d mc ms : Nat} {P : Option Value → zH → Prop} {pc pc1 pc' : Nat} {L : List (Option Value)} {S : List Value} {h : zH} {kc ks : Nat}
theorem z_lif_eq {x y : Int} {off : Int} {tgt : Nat} (hd : zAt M 1 pc pc1 .lcmp) (hd2 : zAt M 3 pc1 pc' (.ifCond .eq off)) (ht : (pc1 : Int) + off = (tgt : Int)) (hx0 : zInL x) (hy0 : zInL y) (kt : x = y → Z l M d mc ms P tgt L S h kc ks) (kf : x ≠ y → Z l M d mc ms P pc' L S h kc ks) : Z l M d mc ms P pc L (vL y :: vL x :: S) h kc ks := by
  have o := zlcmp_or x y
  exact z_lcmp hx0 hy0 hd (z_if_eq hd2 ht (by omega) (fun q => kt (by omega)) (fun q => kf (by omega)))
theorem z_lif_ne {x y : Int} {off : Int} {tgt : Nat} (hd : zAt M 1 pc pc1 .lcmp) (hd2 : zAt M 3 pc1 pc' (.ifCond .ne off)) (ht : (pc1 : Int) + off = (tgt : Int)) (hx0 : zInL x) (hy0 : zInL y) (kt : x ≠ y → Z l M d mc ms P tgt L S h kc ks) (kf : x = y → Z l M d mc ms P pc' L S h kc ks) : Z l M d mc ms P pc L (vL y :: vL x :: S) h kc ks := by
  have o := zlcmp_or x y
  exact z_lcmp hx0 hy0 hd (z_if_ne hd2 ht (by omega) (fun q => kt (by omega)) (fun q => kf (by omega)))
theorem z_lif_lt {x y : Int} {off : Int} {tgt : Nat} (hd : zAt M 1 pc pc1 .lcmp) (hd2 : zAt M 3 pc1 pc' (.ifCond .lt off)) (ht : (pc1 : Int) + off = (tgt : Int)) (hx0 : zInL x) (hy0 : zInL y) (kt : x < y → Z l M d mc ms P tgt L S h kc ks) (kf : y ≤ x → Z l M d mc ms P pc' L S h kc ks) : Z l M d mc ms P pc L (vL y :: vL x :: S) h kc ks := by
  have o := zlcmp_or x y
  exact z_lcmp hx0 hy0 hd (z_if_lt hd2 ht (by omega) (fun q => kt (by omega)) (fun q => kf (by omega)))
theorem z_lif_ge {x y : Int} {off : Int} {tgt : Nat} (hd : zAt M 1 pc pc1 .lcmp) (hd2 : zAt M 3 pc1 pc' (.ifCond .ge off)) (ht : (pc1 : Int) + off = (tgt : Int)) (hx0 : zInL x) (hy0 : zInL y) (kt : y ≤ x → Z l M d mc ms P tgt L S h kc ks) (kf : x < y → Z l M d mc ms P pc' L S h kc ks) : Z l M d mc ms P pc L (vL y :: vL x :: S) h kc ks := by
  have o := zlcmp_or x y
  exact z_lcmp hx0 hy0 hd (z_if_ge hd2 ht (by omega) (fun q => kt (by omega)) (fun q => kf (by omega)))
theorem z_lif_gt {x y : Int} {off : Int} {tgt : Nat} (hd : zAt M 1 pc pc1 .lcmp) (hd2 : zAt M 3 pc1 pc' (.ifCond .gt off)) (ht : (pc1 : Int) + off = (tgt : Int)) (hx0 : zInL x) (hy0 : zInL y) (kt : y < x → Z l M d mc ms P tgt L S h kc ks) (kf : x ≤ y → Z l M d mc ms P pc' L S h kc ks) : Z l M d mc ms P pc L (vL y :: vL x :: S) h kc ks := by
  have o := zlcmp_or x y
  exact z_lcmp hx0 hy0 hd (z_if_gt hd2 ht (by omega) (fun q => kt (by omega)) (fun q => kf (by omega)))
theorem z_lif_le {x y : Int} {off : Int} {tgt : Nat} (hd : zAt M 1 pc pc1 .lcmp) (hd2 : zAt M 3 pc1 pc' (.ifCond .le off)) (ht : (pc1 : Int) + off = (tgt : Int)) (hx0 : zInL x) (hy0 : zInL y) (kt : x ≤ y → Z l M d mc ms P tgt L S h kc ks) (kf : y < x → Z l M d mc ms P pc' L S h kc ks) : Z l M d mc ms P pc L (vL y :: vL x :: S) h kc ks := by
  have o := zlcmp_or x y
  exact z_lcmp hx0 hy0 hd (z_if_le hd2 ht (by omega) (fun q => kt (by omega)) (fun q => kf (by omega)))
end LIF
/-- tokens of a text that stands from place b on, n of them -/
def cK (K : Int → Int) (b n : Int) : Int → Int := fun i => if i < n then K (88 + (b + i)) else 0
def vK (K : Int → Int) (b : Int) : Int → Int := fun i => K (2888 + (b + i))
theorem cK_at {K : Int → Int} {b n i : Int} : (if b + i < b + n then K (88 + (b + i)) else 0) = cK K b n i := by
  unfold cK
  by_cases h : i < n
  · rw [if_pos h, if_pos (by omega)]
  · rw [if_neg h, if_neg (by omega)]
/-- what is asked: live, and broken already or not -/
def evV (live br : Int) (z : Option Int) : Int := if live = 1 ∧ br = 0 then z.getD 0 else 0
def evB (live br : Int) (z : Option Int) : Int := if live = 1 ∧ br = 0 then (if z = none then 1 else 0) else br
/-- where words get their values from -/
def FOK (lw : Bool) (K : Int → Int) (f : mF) (g : mA) (φ : Int → Int) : Prop :=
  if lw = true then f 25 = 0 ∧ ∀ a, 0 ≤ a → a ≤ 8 → g 26 a = φ a
  else f 25 = 1 ∧ φ 8 = K 28 ∧ φ 9 = f 27 ∧ φ 10 = f 28 ∧ φ 11 = f 29 ∧ φ 12 = sm K (K 76) ∧ (∀ q, 0 ≤ q → q ≤ 7 → φ (13 + q) = K (20 + q)) ∧ ∀ q, 0 ≤ q → q ≤ 9 → φ (21 + q) = if q ≤ K 76 - 1 then K (10 + q) else -1
theorem FOK.keep {lw : Bool} {K : Int → Int} {f f' : mF} {g g' : mA} {φ : Int → Int} (h : FOK lw K f g φ) (hf : eqx [22, 24] f f') (hg : eqx [] g g') : FOK lw K f' g' φ := by
  unfold FOK at h ⊢
  rw [hf 25 (by decide), hf 27 (by decide), hf 28 (by decide), hf 29 (by decide), hg 26 (by decide)]
  exact h
set_option maxHeartbeats 4000000 in
set_option maxRecDepth 100000 in
theorem m_codeAt {l : Launch} {o : Nat} {ar : Nat → Nat} {f : mF} {g j : mA} {K : Int → Int} {x23 : Int} {x : Int}  (eg2 : g 2 = K) (ef23 : f 23 = x23) (hx : zIn x) (x0 : 0 ≤ x) (e1 : x23 ≤ 2800) : MM l o ar MX8_codeAt 0 [.ref o, vI x] f g j (PI (fun r f' g' j' => (r = if x < x23 then K (88 + x) else 0) ∧ eqx [] f f' ∧ eqx [] g g' ∧ j' = j)) := by
  refine MM.intro [some (.ref o), some (vI x)] (by decide) (Nat.le_of_ble_eq_true rfl) rfl (fun d hd h0 h hH hA => ?_)
  have hfE : eqx [] f f := eqx.rf
  have hgE : eqx [] g g := eqx.rf
  refine z_ild_1 (TX8_codeAt.at 0 rfl) ?_
  refine z_ald_0 (TX8_codeAt.at 1 rfl) ?_
  refine zm_getIE ef23 (TX8_codeAt.at 2 rfl) fl8_257 hH rfl (by decide) (fun r2 => ?_)
  refine z_icmp_ge (tgt := 20) (TX8_codeAt.at 3 rfl) rfl (by omega) (by omega) (fun c1 => ?_) (fun c1 => ?_)
  · skip
    refine z_iconst (TX8_codeAt.at 11 rfl) ?_
    refine zm_iret (TX8_codeAt.at 12 rfl) rfl hH hA (by omega) ?_
    exact ⟨by first | (rw [if_pos (by omega)]; done) | (rw [if_neg (by omega)]; done), hfE, hgE, rfl⟩
  · skip
    refine z_ald_0 (TX8_codeAt.at 4 rfl) ?_
    refine zm_getA (TX8_codeAt.at 5 rfl) fl8_28 hH (by decide) (by decide) ?_
    refine z_bipush (by decide) (TX8_codeAt.at 6 rfl) ?_
    refine z_ild_1 (TX8_codeAt.at 7 rfl) ?_
    refine z_iadd (TX8_codeAt.at 8 rfl) ?_
    refine zm_ialdE eg2 (TX8_codeAt.at 9 rfl) hH rfl (by omega) (show _ < ((5688 : Nat) : Int) by omega) (fun r16 => ?_)
    refine z_goto (tgt := 21) (TX8_codeAt.at 10 rfl) rfl ?_
    refine zm_iret (TX8_codeAt.at 12 rfl) rfl hH hA (by omega) ?_
    exact ⟨by first | (rw [if_pos (by omega)]; done) | (rw [if_neg (by omega)]; done), hfE, hgE, rfl⟩

set_option maxHeartbeats 4000000 in
set_option maxRecDepth 100000 in
theorem m_passes0 {l : Launch} {o : Nat} {ar : Nat → Nat} {f : mF} {g j : mA} {K : Int → Int} {y22 : Int} {y23 : Int} {x : Int} {b n t : Int} (eg2 : g 2 = K) (ef22 : f 22 = y22) (ef23 : f 23 = y23) (hx : zIn x) (ey : y22 = b + t) (ez : y23 = b + n) (b0 : 0 ≤ b) (t0 : 0 ≤ t) (bn : b + n ≤ 2800) (tn : t ≤ n) : MM l o ar MX8_passes0 1 [.ref o, vI x] f g j (PI (fun r f' g' j' => (r = b2i (cK K b n t = x) ∧ f' 22 = b + t + b2i (cK K b n t = x)) ∧ eqx [22] f f' ∧ eqx [] g g' ∧ j' = j)) := by
  refine MM.intro [some (.ref o), some (vI x), none] (by decide) (Nat.le_of_ble_eq_true rfl) rfl (fun d hd h0 h hH hA => ?_)
  have hfE : eqx [22] f f := eqx.rf
  have hgE : eqx [] g g := eqx.rf
  subst ey; subst ez
  refine z_ald_0 (TX8_passes0.at 0 rfl) ?_
  refine z_ald_0 (TX8_passes0.at 1 rfl) ?_
  refine zm_getIE ef22 (TX8_passes0.at 2 rfl) fl8_260 hH rfl (by decide) (fun r2 => ?_)
  refine zm_callI1 (m_codeAt eg2 ef23 (by omega) (by omega) (by omega)) (TX8_passes0.at 3 rfl) c8_263 rfl rfl hH hA (by omega) (Nat.le_of_ble_eq_true rfl) (fun x5 f5 g5 j5 h r5 q5 hH hA => ?_)
  obtain ⟨q5, xf, xg, xj⟩ := q5
  rw [xj] at hH
  have ef22 := (xf 22 (by decide)).trans ef22
  have ef23 := (xf 23 (by decide)).trans ef23
  have hfE := hfE.trans xf (by decide)
  have eg2 := (xg 2 (by decide)).trans eg2
  have hgE := hgE.trans xg (by decide)
  have qL := q5
  obtain rfl := qL
  rw [cK_at] at r5 ⊢
  refine z_ild_1 (TX8_passes0.at 4 rfl) ?_
  refine z_icmp_ne (tgt := 16) (TX8_passes0.at 5 rfl) rfl (by omega) (by omega) (fun c1 => ?_) (fun c1 => ?_)
  · skip
    refine z_iconst (TX8_passes0.at 8 rfl) ?_
    refine z_ist_2 (TX8_passes0.at 9 rfl) (Nat.le_of_ble_eq_true rfl) rfl ?_
    refine z_ild_2 (TX8_passes0.at 10 rfl) ?_
    refine z_if_eq (tgt := 32) (TX8_passes0.at 11 rfl) rfl (by decide) (fun c2 => ?_) (fun c2 => absurd c2 (by decide))
    refine z_ild_2 (TX8_passes0.at 18 rfl) ?_
    refine zm_zret (TX8_passes0.at 19 rfl) rfl hH hA (by first | omega | exact b2i_01 _) ?_
    exact ⟨by first | (rw [b2i_t (by omega)]; exact ⟨rfl, ef22⟩) | (rw [b2i_f (by omega)]; exact ⟨rfl, by rw [ef22]; omega⟩), hfE, hgE, rfl⟩
  · skip
    refine z_iconst (TX8_passes0.at 6 rfl) ?_
    refine z_goto (tgt := 17) (TX8_passes0.at 7 rfl) rfl ?_
    refine z_ist_2 (TX8_passes0.at 9 rfl) (Nat.le_of_ble_eq_true rfl) rfl ?_
    refine z_ild_2 (TX8_passes0.at 10 rfl) ?_
    refine z_if_eq (tgt := 32) (TX8_passes0.at 11 rfl) rfl (by decide) (fun c3 => absurd c3 (by decide)) (fun c3 => ?_)
    refine z_ald_0 (TX8_passes0.at 12 rfl) ?_
    refine z_dup rfl (TX8_passes0.at 13 rfl) ?_
    refine zm_getIE ef22 (TX8_passes0.at 14 rfl) fl8_260 hH rfl (by decide) (fun r24 => ?_)
    refine z_iconst (TX8_passes0.at 15 rfl) ?_
    refine z_iadd (TX8_passes0.at 16 rfl) ?_
    refine zm_putIE (TX8_passes0.at 17 rfl) fp8_260 hH hA rfl (by decide) (by first | omega | exact b2i_01 _) (fun h f29 e1 e2 hH hA => ?_)
    have ef22 := e2
    have ef23 := (e1 23 (by decide)).trans ef23
    have hfE := hfE.put e1 (by decide)
    refine z_ild_2 (TX8_passes0.at 18 rfl) ?_
    refine zm_zret (TX8_passes0.at 19 rfl) rfl hH hA (by first | omega | exact b2i_01 _) ?_
    exact ⟨by first | (rw [b2i_t (by omega)]; exact ⟨rfl, ef22⟩) | (rw [b2i_f (by omega)]; exact ⟨rfl, by rw [ef22]; omega⟩), hfE, hgE, rfl⟩

set_option maxHeartbeats 4000000 in
set_option maxRecDepth 100000 in
theorem m_bounded {l : Launch} {o : Nat} {ar : Nat → Nat} {f : mF} {g j : mA} {br : Int} {v live : Int}  (ef24 : f 24 = br) (hv : zInL v) (hl : live = 0 ∨ live = 1) (hb : br = 0 ∨ br = 1) : MM l o ar MX8_bounded 0 [.ref o, vL v, vI live] f g j (PL (fun r f' g' j' => (r = (if (live = 1 ∧ (v > 1000000000 ∨ v < -1000000000)) ∨ br = 1 then 0 else v) ∧ f' 24 = (if live = 1 ∧ (v > 1000000000 ∨ v < -1000000000) then 1 else br)) ∧ eqx [24] f f' ∧ eqx [] g g' ∧ j' = j)) := by
  refine MM.intro [some (.ref o), some (vL v), none, some (vI live)] (by decide) (Nat.le_of_ble_eq_true rfl) rfl (fun d hd h0 h hH hA => ?_)
  have hfE : eqx [24] f f := eqx.rf
  have hgE : eqx [] g g := eqx.rf
  refine z_ild_3 (TX8_bounded.at 0 rfl) ?_
  refine z_if_eq (tgt := 25) (TX8_bounded.at 1 rfl) rfl (by omega) (fun c1 => ?_) (fun c1 => ?_)
  · skip
    refine z_ald_0 (TX8_bounded.at 13 rfl) ?_
    refine zm_getIE ef24 (TX8_bounded.at 14 rfl) fl8_270 hH rfl (by decide) (fun r26 => ?_)
    refine z_if_eq (tgt := 36) (TX8_bounded.at 15 rfl) rfl (by omega) (fun c2 => ?_) (fun c2 => ?_)
    · skip
      refine z_lld_1 (TX8_bounded.at 18 rfl) ?_
      refine zm_lret (TX8_bounded.at 19 rfl) rfl hH hA (by omega) ?_
      exact ⟨by first | (exfalso; omega) | (rw [if_pos (by omega), if_pos (by omega)]; exact ⟨rfl, ef24⟩) | (rw [if_pos (by omega), if_neg (by omega)]; exact ⟨rfl, ef24⟩) | (rw [if_neg (by omega), if_neg (by omega)]; exact ⟨rfl, ef24⟩), hfE, hgE, rfl⟩
    · skip
      refine z_lconst (v := 0) (by decide) (TX8_bounded.at 16 rfl) ?_
      refine z_goto (tgt := 37) (TX8_bounded.at 17 rfl) rfl ?_
      refine zm_lret (TX8_bounded.at 19 rfl) rfl hH hA (by omega) ?_
      exact ⟨by first | (exfalso; omega) | (rw [if_pos (by omega), if_pos (by omega)]; exact ⟨rfl, ef24⟩) | (rw [if_pos (by omega), if_neg (by omega)]; exact ⟨rfl, ef24⟩) | (rw [if_neg (by omega), if_neg (by omega)]; exact ⟨rfl, ef24⟩), hfE, hgE, rfl⟩
  · skip
    refine z_lld_1 (TX8_bounded.at 2 rfl) ?_
    refine z_ldc2 (v := 1000000000) (TX8_bounded.at 3 rfl) k8_266 (by decide) ?_
    refine z_lif_gt (tgt := 20) (TX8_bounded.at 4 rfl) (TX8_bounded.at 5 rfl) rfl (by omega) (by omega) (fun c3 => ?_) (fun c3 => ?_)
    · skip
      refine z_ald_0 (TX8_bounded.at 10 rfl) ?_
      refine z_iconst (TX8_bounded.at 11 rfl) ?_
      refine zm_putZE (TX8_bounded.at 12 rfl) fp8_270 hH hA rfl (by decide) (by first | omega | exact b2i_01 _) (fun h f22 e1 e2 hH hA => ?_)
      have ef24 := e2
      have hfE := hfE.put e1 (by decide)
      refine z_ald_0 (TX8_bounded.at 13 rfl) ?_
      refine zm_getIE ef24 (TX8_bounded.at 14 rfl) fl8_270 hH rfl (by decide) (fun r26 => ?_)
      refine z_if_eq (tgt := 36) (TX8_bounded.at 15 rfl) rfl (by omega) (fun c4 => ?_) (fun c4 => ?_)
      · skip
        refine z_lld_1 (TX8_bounded.at 18 rfl) ?_
        refine zm_lret (TX8_bounded.at 19 rfl) rfl hH hA (by omega) ?_
        exact ⟨by first | (exfalso; omega) | (rw [if_pos (by omega), if_pos (by omega)]; exact ⟨rfl, ef24⟩) | (rw [if_pos (by omega), if_neg (by omega)]; exact ⟨rfl, ef24⟩) | (rw [if_neg (by omega), if_neg (by omega)]; exact ⟨rfl, ef24⟩), hfE, hgE, rfl⟩
      · skip
        refine z_lconst (v := 0) (by decide) (TX8_bounded.at 16 rfl) ?_
        refine z_goto (tgt := 37) (TX8_bounded.at 17 rfl) rfl ?_
        refine zm_lret (TX8_bounded.at 19 rfl) rfl hH hA (by omega) ?_
        exact ⟨by first | (exfalso; omega) | (rw [if_pos (by omega), if_pos (by omega)]; exact ⟨rfl, ef24⟩) | (rw [if_pos (by omega), if_neg (by omega)]; exact ⟨rfl, ef24⟩) | (rw [if_neg (by omega), if_neg (by omega)]; exact ⟨rfl, ef24⟩), hfE, hgE, rfl⟩
    · skip
      refine z_lld_1 (TX8_bounded.at 6 rfl) ?_
      refine z_ldc2 (v := -1000000000) (TX8_bounded.at 7 rfl) k8_268 (by decide) ?_
      refine z_lif_ge (tgt := 25) (TX8_bounded.at 8 rfl) (TX8_bounded.at 9 rfl) rfl (by omega) (by omega) (fun c5 => ?_) (fun c5 => ?_)
      · skip
        refine z_ald_0 (TX8_bounded.at 13 rfl) ?_
        refine zm_getIE ef24 (TX8_bounded.at 14 rfl) fl8_270 hH rfl (by decide) (fun r26 => ?_)
        refine z_if_eq (tgt := 36) (TX8_bounded.at 15 rfl) rfl (by omega) (fun c6 => ?_) (fun c6 => ?_)
        · skip
          refine z_lld_1 (TX8_bounded.at 18 rfl) ?_
          refine zm_lret (TX8_bounded.at 19 rfl) rfl hH hA (by omega) ?_
          exact ⟨by first | (exfalso; omega) | (rw [if_pos (by omega), if_pos (by omega)]; exact ⟨rfl, ef24⟩) | (rw [if_pos (by omega), if_neg (by omega)]; exact ⟨rfl, ef24⟩) | (rw [if_neg (by omega), if_neg (by omega)]; exact ⟨rfl, ef24⟩), hfE, hgE, rfl⟩
        · skip
          refine z_lconst (v := 0) (by decide) (TX8_bounded.at 16 rfl) ?_
          refine z_goto (tgt := 37) (TX8_bounded.at 17 rfl) rfl ?_
          refine zm_lret (TX8_bounded.at 19 rfl) rfl hH hA (by omega) ?_
          exact ⟨by first | (exfalso; omega) | (rw [if_pos (by omega), if_pos (by omega)]; exact ⟨rfl, ef24⟩) | (rw [if_pos (by omega), if_neg (by omega)]; exact ⟨rfl, ef24⟩) | (rw [if_neg (by omega), if_neg (by omega)]; exact ⟨rfl, ef24⟩), hfE, hgE, rfl⟩
      · skip
        refine z_ald_0 (TX8_bounded.at 10 rfl) ?_
        refine z_iconst (TX8_bounded.at 11 rfl) ?_
        refine zm_putZE (TX8_bounded.at 12 rfl) fp8_270 hH hA rfl (by decide) (by first | omega | exact b2i_01 _) (fun h f22 e1 e2 hH hA => ?_)
        have ef24 := e2
        have hfE := hfE.put e1 (by decide)
        refine z_ald_0 (TX8_bounded.at 13 rfl) ?_
        refine zm_getIE ef24 (TX8_bounded.at 14 rfl) fl8_270 hH rfl (by decide) (fun r26 => ?_)
        refine z_if_eq (tgt := 36) (TX8_bounded.at 15 rfl) rfl (by omega) (fun c7 => ?_) (fun c7 => ?_)
        · skip
          refine z_lld_1 (TX8_bounded.at 18 rfl) ?_
          refine zm_lret (TX8_bounded.at 19 rfl) rfl hH hA (by omega) ?_
          exact ⟨by first | (exfalso; omega) | (rw [if_pos (by omega), if_pos (by omega)]; exact ⟨rfl, ef24⟩) | (rw [if_pos (by omega), if_neg (by omega)]; exact ⟨rfl, ef24⟩) | (rw [if_neg (by omega), if_neg (by omega)]; exact ⟨rfl, ef24⟩), hfE, hgE, rfl⟩
        · skip
          refine z_lconst (v := 0) (by decide) (TX8_bounded.at 16 rfl) ?_
          refine z_goto (tgt := 37) (TX8_bounded.at 17 rfl) rfl ?_
          refine zm_lret (TX8_bounded.at 19 rfl) rfl hH hA (by omega) ?_
          exact ⟨by first | (exfalso; omega) | (rw [if_pos (by omega), if_pos (by omega)]; exact ⟨rfl, ef24⟩) | (rw [if_pos (by omega), if_neg (by omega)]; exact ⟨rfl, ef24⟩) | (rw [if_neg (by omega), if_neg (by omega)]; exact ⟨rfl, ef24⟩), hfE, hgE, rfl⟩

set_option maxHeartbeats 4000000 in
set_option maxRecDepth 100000 in
theorem m_orderValue {l : Launch} {o : Nat} {ar : Nat → Nat} {f : mF} {g j : mA} {K : Int → Int} {x27 : Int} {x28 : Int} {x29 : Int} {x k : Int} {φ : Int → Int} (eg2 : g 2 = K) (ef27 : f 27 = x27) (ef28 : f 28 = x28) (ef29 : f 29 = x29) (hx : zIn x) (hk : zIn k) (hx : 15 ≤ x ∧ x ≤ 21) (hk : 0 ≤ k) (hk1 : x = 15 → k ≤ 9) (hk2 : x = 21 → k ≤ 7) (n0 : 0 ≤ K 76) (n1 : K 76 ≤ 10) (hd0 : ∀ i, 0 ≤ i → i < K 76 → K i = 0 ∨ K i = 1) (o8 : φ 8 = K 28) (o9 : φ 9 = x27) (o10 : φ 10 = x28) (o11 : φ 11 = x29) (o12 : φ 12 = sm K (K 76)) (o13 : ∀ q, 0 ≤ q → q ≤ 7 → φ (13 + q) = K (20 + q)) (o21 : ∀ q, 0 ≤ q → q ≤ 9 → φ (21 + q) = if q ≤ K 76 - 1 then K (10 + q) else -1) : MM l o ar MX8_orderValue 2 [.ref o, vI x, vI k] f g j (PI (fun r f' g' j' => (r = (if x = 15 then φ (21 + k) else if x = 21 then φ (13 + k) else φ (x - 8))) ∧ eqx [] f f' ∧ eqx [] g g' ∧ j' = j)) := by
  refine MM.intro [some (.ref o), some (vI x), some (vI k)] (by decide) (Nat.le_of_ble_eq_true rfl) rfl (fun d hd h0 h hH hA => ?_)
  have hfE : eqx [] f f := eqx.rf
  have hgE : eqx [] g g := eqx.rf
  refine z_ild_1 (TX8_orderValue.at 0 rfl) ?_
  rcases (show x = 15 ∨ x = 16 ∨ x = 17 ∨ x = 18 ∨ x = 19 ∨ x = 20 ∨ x = 21 ∨ (x < 15 ∨ 21 < x) by omega) with sw0 | sw1 | sw2 | sw3 | sw4 | sw5 | sw6 | sw7
  · refine z_swIn (off := 43) (tgt := 44) (TX8_orderValue.at 1 rfl) (by omega) (by omega) (by omega) (by rw [sw0]; rfl) rfl ?_
    refine z_ald_0 (TX8_orderValue.at 2 rfl) ?_
    refine z_ild_2 (TX8_orderValue.at 3 rfl) ?_
    refine zm_callP1 (m_isFuse (by omega) (by rw [eg2]; exact n0)) (TX8_orderValue.at 4 rfl) c8_125 rfl rfl hH hA (by omega) (Nat.le_of_ble_eq_true rfl) (fun h r46 hH hA => ?_)
    rw [eg2] at r46 ⊢
    refine z_if_eqB (tgt := 64) (TX8_orderValue.at 5 rfl) rfl (fun c1 => ?_) (fun c1 => ?_)
    · skip
      refine z_iconst (TX8_orderValue.at 13 rfl) ?_
      refine zm_iret (TX8_orderValue.at 14 rfl) rfl hH hA (by omega) ?_
      exact ⟨by rw [if_pos sw0, o21 k hk (hk1 sw0)]; first | (rw [if_pos (by omega)]; done) | (rw [if_neg (by omega)]; done), hfE, hgE, rfl⟩
    · skip
      refine z_ald_0 (TX8_orderValue.at 6 rfl) ?_
      refine zm_getA (TX8_orderValue.at 7 rfl) fl8_28 hH (by decide) (by decide) ?_
      refine z_bipush (by decide) (TX8_orderValue.at 8 rfl) ?_
      refine z_ild_2 (TX8_orderValue.at 9 rfl) ?_
      refine z_iadd (TX8_orderValue.at 10 rfl) ?_
      refine zm_ialdE eg2 (TX8_orderValue.at 11 rfl) hH rfl (by omega) (show _ < ((5688 : Nat) : Int) by omega) (fun r60 => ?_)
      refine z_goto (tgt := 65) (TX8_orderValue.at 12 rfl) rfl ?_
      refine zm_iret (TX8_orderValue.at 14 rfl) rfl hH hA (by omega) ?_
      exact ⟨by rw [if_pos sw0, o21 k hk (hk1 sw0)]; first | (rw [if_pos (by omega)]; done) | (rw [if_neg (by omega)]; done), hfE, hgE, rfl⟩
  · refine z_swIn (off := 75) (tgt := 76) (TX8_orderValue.at 1 rfl) (by omega) (by omega) (by omega) (by rw [sw1]; rfl) rfl ?_
    refine z_ald_0 (TX8_orderValue.at 22 rfl) ?_
    refine zm_getA (TX8_orderValue.at 23 rfl) fl8_28 hH (by decide) (by decide) ?_
    refine z_bipush (by decide) (TX8_orderValue.at 24 rfl) ?_
    refine zm_ialdE eg2 (TX8_orderValue.at 25 rfl) hH rfl (by omega) (show _ < ((5688 : Nat) : Int) by omega) (fun r82 => ?_)
    refine zm_iret (TX8_orderValue.at 26 rfl) rfl hH hA (by omega) ?_
    exact ⟨by rw [if_neg (by omega), if_neg (by omega), sw1]; exact o8.symm, hfE, hgE, rfl⟩
  · refine z_swIn (off := 83) (tgt := 84) (TX8_orderValue.at 1 rfl) (by omega) (by omega) (by omega) (by rw [sw2]; rfl) rfl ?_
    refine z_ald_0 (TX8_orderValue.at 27 rfl) ?_
    refine zm_getIE ef27 (TX8_orderValue.at 28 rfl) fl8_296 hH rfl (by decide) (fun r85 => ?_)
    refine zm_iret (TX8_orderValue.at 29 rfl) rfl hH hA (by omega) ?_
    exact ⟨by rw [if_neg (by omega), if_neg (by omega), sw2]; exact o9.symm, hfE, hgE, rfl⟩
  · refine z_swIn (off := 88) (tgt := 89) (TX8_orderValue.at 1 rfl) (by omega) (by omega) (by omega) (by rw [sw3]; rfl) rfl ?_
    refine z_ald_0 (TX8_orderValue.at 30 rfl) ?_
    refine zm_getIE ef28 (TX8_orderValue.at 31 rfl) fl8_299 hH rfl (by decide) (fun r90 => ?_)
    refine zm_iret (TX8_orderValue.at 32 rfl) rfl hH hA (by omega) ?_
    exact ⟨by rw [if_neg (by omega), if_neg (by omega), sw3]; exact o10.symm, hfE, hgE, rfl⟩
  · refine z_swIn (off := 93) (tgt := 94) (TX8_orderValue.at 1 rfl) (by omega) (by omega) (by omega) (by rw [sw4]; rfl) rfl ?_
    refine z_ald_0 (TX8_orderValue.at 33 rfl) ?_
    refine zm_getIE ef29 (TX8_orderValue.at 34 rfl) fl8_302 hH rfl (by decide) (fun r95 => ?_)
    refine zm_iret (TX8_orderValue.at 35 rfl) rfl hH hA (by omega) ?_
    exact ⟨by rw [if_neg (by omega), if_neg (by omega), sw4]; exact o11.symm, hfE, hgE, rfl⟩
  · refine z_swIn (off := 98) (tgt := 99) (TX8_orderValue.at 1 rfl) (by omega) (by omega) (by omega) (by rw [sw5]; rfl) rfl ?_
    refine z_ald_0 (TX8_orderValue.at 36 rfl) ?_
    refine zm_callI0 (m_dampMany eg2 n0 n1 hd0) (TX8_orderValue.at 37 rfl) c8_305 rfl rfl hH hA (by omega) (Nat.le_of_ble_eq_true rfl) (fun x100 f100 g100 j100 h r100 q100 hH hA => ?_)
    obtain ⟨q100, xf, xg, xj⟩ := q100
    rw [xj] at hH
    have ef27 := (xf 27 (by decide)).trans ef27
    have ef28 := (xf 28 (by decide)).trans ef28
    have ef29 := (xf 29 (by decide)).trans ef29
    have hfE := hfE.trans xf (by decide)
    have eg2 := (xg 2 (by decide)).trans eg2
    have hgE := hgE.trans xg (by decide)
    have qL := q100
    obtain rfl := qL
    refine zm_iret (TX8_orderValue.at 38 rfl) rfl hH hA (by omega) ?_
    exact ⟨by first | (exfalso; omega) | (rw [if_neg (by omega), if_neg (by omega), sw5]; exact o12.symm), hfE, hgE, rfl⟩
  · refine z_swIn (off := 65) (tgt := 66) (TX8_orderValue.at 1 rfl) (by omega) (by omega) (by omega) (by rw [sw6]; rfl) rfl ?_
    refine z_ald_0 (TX8_orderValue.at 15 rfl) ?_
    refine zm_getA (TX8_orderValue.at 16 rfl) fl8_28 hH (by decide) (by decide) ?_
    refine z_bipush (by decide) (TX8_orderValue.at 17 rfl) ?_
    refine z_ild_2 (TX8_orderValue.at 18 rfl) ?_
    refine z_iadd (TX8_orderValue.at 19 rfl) ?_
    refine zm_ialdE eg2 (TX8_orderValue.at 20 rfl) hH rfl (by omega) (show _ < ((5688 : Nat) : Int) by omega) (fun r74 => ?_)
    refine zm_iret (TX8_orderValue.at 21 rfl) rfl hH hA (by omega) ?_
    exact ⟨by rw [if_neg (by omega), if_pos sw6, o13 k hk (hk2 sw6)], hfE, hgE, rfl⟩
  · refine z_swOut (tgt := 99) (TX8_orderValue.at 1 rfl) (by omega) sw7 rfl ?_
    refine z_ald_0 (TX8_orderValue.at 36 rfl) ?_
    refine zm_callI0 (m_dampMany eg2 n0 n1 hd0) (TX8_orderValue.at 37 rfl) c8_305 rfl rfl hH hA (by omega) (Nat.le_of_ble_eq_true rfl) (fun x100 f100 g100 j100 h r100 q100 hH hA => ?_)
    obtain ⟨q100, xf, xg, xj⟩ := q100
    rw [xj] at hH
    have ef27 := (xf 27 (by decide)).trans ef27
    have ef28 := (xf 28 (by decide)).trans ef28
    have ef29 := (xf 29 (by decide)).trans ef29
    have hfE := hfE.trans xf (by decide)
    have eg2 := (xg 2 (by decide)).trans eg2
    have hgE := hgE.trans xg (by decide)
    have qL := q100
    obtain rfl := qL
    refine zm_iret (TX8_orderValue.at 38 rfl) rfl hH hA (by omega) ?_
    exact ⟨by first | (exfalso; omega) | (rw [if_neg (by omega), if_neg (by omega), sw5]; exact o12.symm), hfE, hgE, rfl⟩

def FO1 (K : Int → Int) (x27 x28 x29 : Int) (φ : Int → Int) : Prop := φ 8 = K 28 ∧ φ 9 = x27 ∧ φ 10 = x28 ∧ φ 11 = x29 ∧ φ 12 = sm K (K 76) ∧ (∀ q, 0 ≤ q → q ≤ 7 → φ (13 + q) = K (20 + q)) ∧ ∀ q, 0 ≤ q → q ≤ 9 → φ (21 + q) = if q ≤ K 76 - 1 then K (10 + q) else -1
set_option maxHeartbeats 4000000 in
set_option maxRecDepth 100000 in
theorem m_partN {l : Launch} {o : Nat} {ar : Nat → Nat} {f : mF} {g j : mA} {K : Int → Int} {y22 : Int} {y23 : Int} {br : Int} {i25 : Int} {live : Int} {b n t : Int}  (eg2 : g 2 = K) (ef22 : f 22 = y22) (ef23 : f 23 = y23) (ef24 : f 24 = br) (ef25 : f 25 = i25) (hl : live = 0 ∨ live = 1) (hbr : br = 0 ∨ br = 1) (ey : y22 = b + t) (ez : y23 = b + n) (b0 : 0 ≤ b) (t0 : 0 ≤ t) (bn : b + n ≤ 2800) (tn : t < n) (hx : cK K b n t = 50) : MM l o ar MX8_partOf 3 [.ref o, vI live] f g j (PL (fun r f' g' j' => (r = (if live = 1 ∧ br = 0 then vK K b t else 0) ∧ f' 24 = br ∧ f' 22 = b + t + 1 ∧ zIn r) ∧ eqx [22, 24] f f' ∧ eqx [] g g' ∧ j' = j)) := by
  refine MM.intro [some (.ref o), some (vI live), none, none] (by decide) (Nat.le_of_ble_eq_true rfl) rfl (fun d hd h0 h hH hA => ?_)
  have hfE : eqx [22, 24] f f := eqx.rf
  have hgE : eqx [] g g := eqx.rf
  subst ey; subst ez
  refine z_ald_0 (TX8_partOf_0.at 0 rfl) ?_
  refine z_bipush (by decide) (TX8_partOf_0.at 1 rfl) ?_
  refine zs_call1 (s_sign (by omega)) (TX8_partOf_0.at 2 rfl) c8_219 rfl (by omega) (Nat.le_of_ble_eq_true rfl) (fun r3 => ?_)
  refine zm_callI1 (m_passes0 eg2 ef22 ef23 (by omega) rfl rfl (by omega) (by omega) (by omega) (by omega)) (TX8_partOf_0.at 3 rfl) c8_284 rfl rfl hH hA (by omega) (Nat.le_of_ble_eq_true rfl) (fun x6 f6 g6 j6 h r6 q6 hH hA => ?_)
  obtain ⟨q6, xf, xg, xj⟩ := q6
  rw [xj] at hH
  have ef23 := (xf 23 (by decide)).trans ef23
  have ef24 := (xf 24 (by decide)).trans ef24
  have ef25 := (xf 25 (by decide)).trans ef25
  have hfE := hfE.trans xf (by decide)
  have eg2 := (xg 2 (by decide)).trans eg2
  have hgE := hgE.trans xg (by decide)
  have qL := q6
  obtain ⟨rfl, ef22⟩ := qL
  refine z_if_eqB (tgt := 30) (TX8_partOf_0.at 4 rfl) rfl (fun c1 => ?_) (fun c1 => absurd c1 (by omega))
  rw [b2i_f c1, Int.add_zero] at ef22
  refine z_ald_0 (TX8_partOf_0.at 17 rfl) ?_
  refine z_ald_0 (TX8_partOf_0.at 18 rfl) ?_
  refine zm_getIE ef22 (TX8_partOf_0.at 19 rfl) fl8_260 hH rfl (by decide) (fun r32 => ?_)
  refine zm_callI1 (m_codeAt eg2 ef23 (by omega) (by omega) (by omega)) (TX8_partOf_0.at 20 rfl) c8_263 rfl rfl hH hA (by omega) (Nat.le_of_ble_eq_true rfl) (fun x35 f35 g35 j35 h r35 q35 hH hA => ?_)
  obtain ⟨q35, xf, xg, xj⟩ := q35
  rw [xj] at hH
  have ef22 := (xf 22 (by decide)).trans ef22
  have ef23 := (xf 23 (by decide)).trans ef23
  have ef24 := (xf 24 (by decide)).trans ef24
  have ef25 := (xf 25 (by decide)).trans ef25
  have hfE := hfE.trans xf (by decide)
  have eg2 := (xg 2 (by decide)).trans eg2
  have hgE := hgE.trans xg (by decide)
  have qL := q35
  obtain rfl := qL
  rw [cK_at] at r35 ⊢
  rw [hx] at r35 ⊢
  refine z_ist_2 (TX8_partOf_0.at 21 rfl) (Nat.le_of_ble_eq_true rfl) rfl ?_
  refine z_iconst (TX8_partOf_0.at 22 rfl) ?_
  refine z_ist_3 (TX8_partOf_0.at 23 rfl) (Nat.le_of_ble_eq_true rfl) rfl ?_
  refine z_ald_0 (TX8_partOf_0.at 24 rfl) ?_
  refine z_dup rfl (TX8_partOf_0.at 25 rfl) ?_
  refine zm_getIE ef22 (TX8_partOf_0.at 26 rfl) fl8_260 hH rfl (by decide) (fun r43 => ?_)
  refine z_iconst (TX8_partOf_0.at 27 rfl) ?_
  refine z_iadd (TX8_partOf_0.at 28 rfl) ?_
  refine zm_putIE (TX8_partOf_0.at 29 rfl) fp8_260 hH hA rfl (by decide) (by first | omega | exact b2i_01 _) (fun h f48 e1 e2 hH hA => ?_)
  have ef22 := e2
  have ef23 := (e1 23 (by decide)).trans ef23
  have ef24 := (e1 24 (by decide)).trans ef24
  have ef25 := (e1 25 (by decide)).trans ef25
  have hfE := hfE.put e1 (by decide)
  refine z_ald_0 (TX8_partOf_0.at 30 rfl) ?_
  refine zm_getIE ef25 (TX8_partOf_0.at 31 rfl) fl8_290 hH rfl (by decide) (fun r52 => ?_)
  refine z_if_eq (tgt := 94) (TX8_partOf_0.at 32 rfl) rfl (by omega) (fun c2 => ?_) (fun c2 => ?_)
  · skip
    refine z_ild_1 (TX8_partOf_1.at 13 rfl) ?_
    refine z_if_eq (tgt := 105) (TX8_partOf_1.at 14 rfl) rfl (by omega) (fun c3 => ?_) (fun c3 => ?_)
    · skip
      refine z_lconst (v := 0) (by decide) (TX8_partOf_1.at 18 rfl) ?_
      refine zm_lret (TX8_partOf_1.at 19 rfl) rfl hH hA (by omega) ?_
      exact ⟨⟨by first | (rw [if_neg (by omega)]; done) | (rw [if_pos (by omega)]; unfold vK; congr 1; omega), ef24, ef22, by omega⟩, hfE, hgE, rfl⟩
    · skip
      refine z_ald_0 (TX8_partOf_1.at 15 rfl) ?_
      refine zm_getIE ef24 (TX8_partOf_1.at 16 rfl) fl8_270 hH rfl (by decide) (fun r99 => ?_)
      refine z_if_eq (tgt := 107) (TX8_partOf_1.at 17 rfl) rfl (by omega) (fun c4 => ?_) (fun c4 => ?_)
      · skip
        refine z_ild_2 (TX8_partOf_1.at 20 rfl) ?_
        refine z_bipush (by decide) (TX8_partOf_1.at 21 rfl) ?_
        refine z_icmp_ne (tgt := 130) (TX8_partOf_1.at 22 rfl) rfl (by omega) (by omega) (fun c5 => absurd c5 (by decide)) (fun c5 => ?_)
        refine z_ald_0 (TX8_partOf_1.at 23 rfl) ?_
        refine zm_getA (TX8_partOf_1.at 24 rfl) fl8_28 hH (by decide) (by decide) ?_
        refine z_sipush (by decide) (TX8_partOf_1.at 25 rfl) ?_
        refine z_ald_0 (TX8_partOf_1.at 26 rfl) ?_
        refine zm_getIE ef22 (TX8_partOf_1.at 27 rfl) fl8_260 hH rfl (by decide) (fun r121 => ?_)
        refine z_iadd (TX8_partOf_1.at 28 rfl) ?_
        refine z_iconst (TX8_partOf_1.at 29 rfl) ?_
        refine z_isub (TX8_partOf_1.at 30 rfl) ?_
        refine zm_ialdE eg2 (TX8_partOf_1.at 31 rfl) hH rfl (by omega) (show _ < ((5688 : Nat) : Int) by omega) (fun r127 => ?_)
        refine z_i2l (by omega) (TX8_partOf_1.at 32 rfl) ?_
        refine zm_lret (TX8_partOf_1.at 33 rfl) rfl hH hA (by omega) ?_
        exact ⟨⟨by first | (rw [if_neg (by omega)]; done) | (rw [if_pos (by omega)]; unfold vK; congr 1; omega), ef24, ef22, by omega⟩, hfE, hgE, rfl⟩
      · skip
        refine z_lconst (v := 0) (by decide) (TX8_partOf_1.at 18 rfl) ?_
        refine zm_lret (TX8_partOf_1.at 19 rfl) rfl hH hA (by omega) ?_
        exact ⟨⟨by first | (rw [if_neg (by omega)]; done) | (rw [if_pos (by omega)]; unfold vK; congr 1; omega), ef24, ef22, by omega⟩, hfE, hgE, rfl⟩
  · skip
    refine z_ild_2 (TX8_partOf_0.at 33 rfl) ?_
    refine z_bipush (by decide) (TX8_partOf_0.at 34 rfl) ?_
    refine z_icmp_eq (tgt := 70) (TX8_partOf_0.at 35 rfl) rfl (by omega) (by omega) (fun c6 => absurd c6 (by decide)) (fun c6 => ?_)
    refine z_ild_2 (TX8_partOf_0.at 36 rfl) ?_
    refine z_bipush (by decide) (TX8_partOf_0.at 37 rfl) ?_
    refine z_icmp_ne (tgt := 94) (TX8_partOf_0.at 38 rfl) rfl (by omega) (by omega) (fun c7 => ?_) (fun c7 => absurd c7 (by decide))
    refine z_ild_1 (TX8_partOf_1.at 13 rfl) ?_
    refine z_if_eq (tgt := 105) (TX8_partOf_1.at 14 rfl) rfl (by omega) (fun c8 => ?_) (fun c8 => ?_)
    · skip
      refine z_lconst (v := 0) (by decide) (TX8_partOf_1.at 18 rfl) ?_
      refine zm_lret (TX8_partOf_1.at 19 rfl) rfl hH hA (by omega) ?_
      exact ⟨⟨by first | (rw [if_neg (by omega)]; done) | (rw [if_pos (by omega)]; unfold vK; congr 1; omega), ef24, ef22, by omega⟩, hfE, hgE, rfl⟩
    · skip
      refine z_ald_0 (TX8_partOf_1.at 15 rfl) ?_
      refine zm_getIE ef24 (TX8_partOf_1.at 16 rfl) fl8_270 hH rfl (by decide) (fun r99 => ?_)
      refine z_if_eq (tgt := 107) (TX8_partOf_1.at 17 rfl) rfl (by omega) (fun c9 => ?_) (fun c9 => ?_)
      · skip
        refine z_ild_2 (TX8_partOf_1.at 20 rfl) ?_
        refine z_bipush (by decide) (TX8_partOf_1.at 21 rfl) ?_
        refine z_icmp_ne (tgt := 130) (TX8_partOf_1.at 22 rfl) rfl (by omega) (by omega) (fun c10 => absurd c10 (by decide)) (fun c10 => ?_)
        refine z_ald_0 (TX8_partOf_1.at 23 rfl) ?_
        refine zm_getA (TX8_partOf_1.at 24 rfl) fl8_28 hH (by decide) (by decide) ?_
        refine z_sipush (by decide) (TX8_partOf_1.at 25 rfl) ?_
        refine z_ald_0 (TX8_partOf_1.at 26 rfl) ?_
        refine zm_getIE ef22 (TX8_partOf_1.at 27 rfl) fl8_260 hH rfl (by decide) (fun r121 => ?_)
        refine z_iadd (TX8_partOf_1.at 28 rfl) ?_
        refine z_iconst (TX8_partOf_1.at 29 rfl) ?_
        refine z_isub (TX8_partOf_1.at 30 rfl) ?_
        refine zm_ialdE eg2 (TX8_partOf_1.at 31 rfl) hH rfl (by omega) (show _ < ((5688 : Nat) : Int) by omega) (fun r127 => ?_)
        refine z_i2l (by omega) (TX8_partOf_1.at 32 rfl) ?_
        refine zm_lret (TX8_partOf_1.at 33 rfl) rfl hH hA (by omega) ?_
        exact ⟨⟨by first | (rw [if_neg (by omega)]; done) | (rw [if_pos (by omega)]; unfold vK; congr 1; omega), ef24, ef22, by omega⟩, hfE, hgE, rfl⟩
      · skip
        refine z_lconst (v := 0) (by decide) (TX8_partOf_1.at 18 rfl) ?_
        refine zm_lret (TX8_partOf_1.at 19 rfl) rfl hH hA (by omega) ?_
        exact ⟨⟨by first | (rw [if_neg (by omega)]; done) | (rw [if_pos (by omega)]; unfold vK; congr 1; omega), ef24, ef22, by omega⟩, hfE, hgE, rfl⟩

set_option maxHeartbeats 4000000 in
set_option maxRecDepth 100000 in
theorem m_partL {l : Launch} {o : Nat} {ar : Nat → Nat} {f : mF} {g j : mA} {K : Int → Int} {X26 : Int → Int} {y22 : Int} {y23 : Int} {br : Int} {i25 : Int} {live : Int} {b n t : Int} {φ : Int → Int} (eg2 : g 2 = K) (eg26 : g 26 = X26) (ef22 : f 22 = y22) (ef23 : f 23 = y23) (ef24 : f 24 = br) (ef25 : f 25 = i25) (hl : live = 0 ∨ live = 1) (hbr : br = 0 ∨ br = 1) (ey : y22 = b + t) (ez : y23 = b + n) (b0 : 0 ≤ b) (t0 : 0 ≤ t) (bn : b + n ≤ 2800) (tn : t < n) (hi : i25 = 0) (fa : ∀ a, 0 ≤ a → a ≤ 8 → X26 a = φ a) (hx : 8 ≤ cK K b n t ∧ cK K b n t ≤ 16) : MM l o ar MX8_partOf 3 [.ref o, vI live] f g j (PL (fun r f' g' j' => (r = (if live = 1 ∧ br = 0 then φ (cK K b n t - 8) else 0) ∧ f' 24 = br ∧ f' 22 = b + t + 1 ∧ zIn r) ∧ eqx [22, 24] f f' ∧ eqx [] g g' ∧ j' = j)) := by
  refine MM.intro [some (.ref o), some (vI live), none, none] (by decide) (Nat.le_of_ble_eq_true rfl) rfl (fun d hd h0 h hH hA => ?_)
  have hfE : eqx [22, 24] f f := eqx.rf
  have hgE : eqx [] g g := eqx.rf
  subst ey; subst ez
  subst hi
  refine z_ald_0 (TX8_partOf_0.at 0 rfl) ?_
  refine z_bipush (by decide) (TX8_partOf_0.at 1 rfl) ?_
  refine zs_call1 (s_sign (by omega)) (TX8_partOf_0.at 2 rfl) c8_219 rfl (by omega) (Nat.le_of_ble_eq_true rfl) (fun r3 => ?_)
  refine zm_callI1 (m_passes0 eg2 ef22 ef23 (by omega) rfl rfl (by omega) (by omega) (by omega) (by omega)) (TX8_partOf_0.at 3 rfl) c8_284 rfl rfl hH hA (by omega) (Nat.le_of_ble_eq_true rfl) (fun x6 f6 g6 j6 h r6 q6 hH hA => ?_)
  obtain ⟨q6, xf, xg, xj⟩ := q6
  rw [xj] at hH
  have ef23 := (xf 23 (by decide)).trans ef23
  have ef24 := (xf 24 (by decide)).trans ef24
  have ef25 := (xf 25 (by decide)).trans ef25
  have hfE := hfE.trans xf (by decide)
  have eg2 := (xg 2 (by decide)).trans eg2
  have eg26 := (xg 26 (by decide)).trans eg26
  have hgE := hgE.trans xg (by decide)
  have qL := q6
  obtain ⟨rfl, ef22⟩ := qL
  refine z_if_eqB (tgt := 30) (TX8_partOf_0.at 4 rfl) rfl (fun c1 => ?_) (fun c1 => absurd c1 (by omega))
  rw [b2i_f c1, Int.add_zero] at ef22
  refine z_ald_0 (TX8_partOf_0.at 17 rfl) ?_
  refine z_ald_0 (TX8_partOf_0.at 18 rfl) ?_
  refine zm_getIE ef22 (TX8_partOf_0.at 19 rfl) fl8_260 hH rfl (by decide) (fun r32 => ?_)
  refine zm_callI1 (m_codeAt eg2 ef23 (by omega) (by omega) (by omega)) (TX8_partOf_0.at 20 rfl) c8_263 rfl rfl hH hA (by omega) (Nat.le_of_ble_eq_true rfl) (fun x35 f35 g35 j35 h r35 q35 hH hA => ?_)
  obtain ⟨q35, xf, xg, xj⟩ := q35
  rw [xj] at hH
  have ef22 := (xf 22 (by decide)).trans ef22
  have ef23 := (xf 23 (by decide)).trans ef23
  have ef24 := (xf 24 (by decide)).trans ef24
  have ef25 := (xf 25 (by decide)).trans ef25
  have hfE := hfE.trans xf (by decide)
  have eg2 := (xg 2 (by decide)).trans eg2
  have eg26 := (xg 26 (by decide)).trans eg26
  have hgE := hgE.trans xg (by decide)
  have qL := q35
  obtain rfl := qL
  rw [cK_at] at r35 ⊢
  generalize ex : cK K b n t = x at *
  refine z_ist_2 (TX8_partOf_0.at 21 rfl) (Nat.le_of_ble_eq_true rfl) rfl ?_
  refine z_iconst (TX8_partOf_0.at 22 rfl) ?_
  refine z_ist_3 (TX8_partOf_0.at 23 rfl) (Nat.le_of_ble_eq_true rfl) rfl ?_
  refine z_ald_0 (TX8_partOf_0.at 24 rfl) ?_
  refine z_dup rfl (TX8_partOf_0.at 25 rfl) ?_
  refine zm_getIE ef22 (TX8_partOf_0.at 26 rfl) fl8_260 hH rfl (by decide) (fun r43 => ?_)
  refine z_iconst (TX8_partOf_0.at 27 rfl) ?_
  refine z_iadd (TX8_partOf_0.at 28 rfl) ?_
  refine zm_putIE (TX8_partOf_0.at 29 rfl) fp8_260 hH hA rfl (by decide) (by first | omega | exact b2i_01 _) (fun h f48 e1 e2 hH hA => ?_)
  have ef22 := e2
  have ef23 := (e1 23 (by decide)).trans ef23
  have ef24 := (e1 24 (by decide)).trans ef24
  have ef25 := (e1 25 (by decide)).trans ef25
  have hfE := hfE.put e1 (by decide)
  refine z_ald_0 (TX8_partOf_0.at 30 rfl) ?_
  refine zm_getIE ef25 (TX8_partOf_0.at 31 rfl) fl8_290 hH rfl (by decide) (fun r52 => ?_)
  refine z_if_eq (tgt := 94) (TX8_partOf_0.at 32 rfl) rfl (by omega) (fun c2 => ?_) (fun c2 => absurd c2 (by decide))
  refine z_ild_1 (TX8_partOf_1.at 13 rfl) ?_
  refine z_if_eq (tgt := 105) (TX8_partOf_1.at 14 rfl) rfl (by omega) (fun c3 => ?_) (fun c3 => ?_)
  · skip
    refine z_lconst (v := 0) (by decide) (TX8_partOf_1.at 18 rfl) ?_
    refine zm_lret (TX8_partOf_1.at 19 rfl) rfl hH hA (by omega) ?_
    exact ⟨⟨by first | (rw [if_neg (by omega)]; done) | (rw [if_pos (by omega)]; exact fa _ (by omega) (by omega)), ef24, ef22, by omega⟩, hfE, hgE, rfl⟩
  · skip
    refine z_ald_0 (TX8_partOf_1.at 15 rfl) ?_
    refine zm_getIE ef24 (TX8_partOf_1.at 16 rfl) fl8_270 hH rfl (by decide) (fun r99 => ?_)
    refine z_if_eq (tgt := 107) (TX8_partOf_1.at 17 rfl) rfl (by omega) (fun c4 => ?_) (fun c4 => ?_)
    · skip
      refine z_ild_2 (TX8_partOf_1.at 20 rfl) ?_
      refine z_bipush (by decide) (TX8_partOf_1.at 21 rfl) ?_
      refine z_icmp_ne (tgt := 130) (TX8_partOf_1.at 22 rfl) rfl (by omega) (by omega) (fun c5 => ?_) (fun c5 => absurd c5 (by omega))
      refine z_ald_0 (TX8_partOf_1.at 34 rfl) ?_
      refine zm_getIE ef25 (TX8_partOf_1.at 35 rfl) fl8_290 hH rfl (by decide) (fun r131 => ?_)
      refine z_if_eq (tgt := 147) (TX8_partOf_1.at 36 rfl) rfl (by omega) (fun c6 => ?_) (fun c6 => absurd c6 (by decide))
      refine z_ald_0 (TX8_partOf_2.at 3 rfl) ?_
      refine zm_getA (TX8_partOf_2.at 4 rfl) fl8_63 hH (by decide) (by decide) ?_
      refine z_ild_2 (TX8_partOf_2.at 5 rfl) ?_
      refine z_bipush (by decide) (TX8_partOf_2.at 6 rfl) ?_
      refine z_isub (TX8_partOf_2.at 7 rfl) ?_
      refine zm_ialdE eg26 (TX8_partOf_2.at 8 rfl) hH rfl (by omega) (show _ < ((9 : Nat) : Int) by omega) (fun r155 => ?_)
      refine z_i2l (by omega) (TX8_partOf_2.at 9 rfl) ?_
      refine zm_lret (TX8_partOf_2.at 10 rfl) rfl hH hA (by omega) ?_
      exact ⟨⟨by first | (rw [if_neg (by omega)]; done) | (rw [if_pos (by omega)]; exact fa _ (by omega) (by omega)), ef24, ef22, by omega⟩, hfE, hgE, rfl⟩
    · skip
      refine z_lconst (v := 0) (by decide) (TX8_partOf_1.at 18 rfl) ?_
      refine zm_lret (TX8_partOf_1.at 19 rfl) rfl hH hA (by omega) ?_
      exact ⟨⟨by first | (rw [if_neg (by omega)]; done) | (rw [if_pos (by omega)]; exact fa _ (by omega) (by omega)), ef24, ef22, by omega⟩, hfE, hgE, rfl⟩

set_option maxHeartbeats 4000000 in
set_option maxRecDepth 100000 in
theorem m_partO {l : Launch} {o : Nat} {ar : Nat → Nat} {f : mF} {g j : mA} {K : Int → Int} {y22 : Int} {y23 : Int} {br : Int} {i25 : Int} {x27 : Int} {x28 : Int} {x29 : Int} {live : Int} {b n t : Int} {φ : Int → Int} (eg2 : g 2 = K) (ef22 : f 22 = y22) (ef23 : f 23 = y23) (ef24 : f 24 = br) (ef25 : f 25 = i25) (ef27 : f 27 = x27) (ef28 : f 28 = x28) (ef29 : f 29 = x29) (hl : live = 0 ∨ live = 1) (hbr : br = 0 ∨ br = 1) (ey : y22 = b + t) (ez : y23 = b + n) (b0 : 0 ≤ b) (t0 : 0 ≤ t) (bn : b + n ≤ 2800) (tn : t < n) (hi : i25 = 1) (fo : FO1 K x27 x28 x29 φ) (n0 : 0 ≤ K 76) (n1 : K 76 ≤ 10) (hd0 : ∀ i, 0 ≤ i → i < K 76 → K i = 0 ∨ K i = 1) (hx : 15 ≤ cK K b n t ∧ cK K b n t ≤ 21) (hx1 : cK K b n t ≠ 15) (hx2 : cK K b n t ≠ 21) : MM l o ar MX8_partOf 3 [.ref o, vI live] f g j (PL (fun r f' g' j' => (r = (if live = 1 ∧ br = 0 then φ (cK K b n t - 8) else 0) ∧ f' 24 = br ∧ f' 22 = b + t + 1 ∧ zIn r) ∧ eqx [22, 24] f f' ∧ eqx [] g g' ∧ j' = j)) := by
  refine MM.intro [some (.ref o), some (vI live), none, none] (by decide) (Nat.le_of_ble_eq_true rfl) rfl (fun d hd h0 h hH hA => ?_)
  have hfE : eqx [22, 24] f f := eqx.rf
  have hgE : eqx [] g g := eqx.rf
  subst ey; subst ez
  subst hi
  refine z_ald_0 (TX8_partOf_0.at 0 rfl) ?_
  refine z_bipush (by decide) (TX8_partOf_0.at 1 rfl) ?_
  refine zs_call1 (s_sign (by omega)) (TX8_partOf_0.at 2 rfl) c8_219 rfl (by omega) (Nat.le_of_ble_eq_true rfl) (fun r3 => ?_)
  refine zm_callI1 (m_passes0 eg2 ef22 ef23 (by omega) rfl rfl (by omega) (by omega) (by omega) (by omega)) (TX8_partOf_0.at 3 rfl) c8_284 rfl rfl hH hA (by omega) (Nat.le_of_ble_eq_true rfl) (fun x6 f6 g6 j6 h r6 q6 hH hA => ?_)
  obtain ⟨q6, xf, xg, xj⟩ := q6
  rw [xj] at hH
  have ef23 := (xf 23 (by decide)).trans ef23
  have ef24 := (xf 24 (by decide)).trans ef24
  have ef25 := (xf 25 (by decide)).trans ef25
  have ef27 := (xf 27 (by decide)).trans ef27
  have ef28 := (xf 28 (by decide)).trans ef28
  have ef29 := (xf 29 (by decide)).trans ef29
  have hfE := hfE.trans xf (by decide)
  have eg2 := (xg 2 (by decide)).trans eg2
  have hgE := hgE.trans xg (by decide)
  have qL := q6
  obtain ⟨rfl, ef22⟩ := qL
  refine z_if_eqB (tgt := 30) (TX8_partOf_0.at 4 rfl) rfl (fun c1 => ?_) (fun c1 => absurd c1 (by omega))
  rw [b2i_f c1, Int.add_zero] at ef22
  refine z_ald_0 (TX8_partOf_0.at 17 rfl) ?_
  refine z_ald_0 (TX8_partOf_0.at 18 rfl) ?_
  refine zm_getIE ef22 (TX8_partOf_0.at 19 rfl) fl8_260 hH rfl (by decide) (fun r32 => ?_)
  refine zm_callI1 (m_codeAt eg2 ef23 (by omega) (by omega) (by omega)) (TX8_partOf_0.at 20 rfl) c8_263 rfl rfl hH hA (by omega) (Nat.le_of_ble_eq_true rfl) (fun x35 f35 g35 j35 h r35 q35 hH hA => ?_)
  obtain ⟨q35, xf, xg, xj⟩ := q35
  rw [xj] at hH
  have ef22 := (xf 22 (by decide)).trans ef22
  have ef23 := (xf 23 (by decide)).trans ef23
  have ef24 := (xf 24 (by decide)).trans ef24
  have ef25 := (xf 25 (by decide)).trans ef25
  have ef27 := (xf 27 (by decide)).trans ef27
  have ef28 := (xf 28 (by decide)).trans ef28
  have ef29 := (xf 29 (by decide)).trans ef29
  have hfE := hfE.trans xf (by decide)
  have eg2 := (xg 2 (by decide)).trans eg2
  have hgE := hgE.trans xg (by decide)
  have qL := q35
  obtain rfl := qL
  rw [cK_at] at r35 ⊢
  generalize ex : cK K b n t = x at *
  refine z_ist_2 (TX8_partOf_0.at 21 rfl) (Nat.le_of_ble_eq_true rfl) rfl ?_
  refine z_iconst (TX8_partOf_0.at 22 rfl) ?_
  refine z_ist_3 (TX8_partOf_0.at 23 rfl) (Nat.le_of_ble_eq_true rfl) rfl ?_
  refine z_ald_0 (TX8_partOf_0.at 24 rfl) ?_
  refine z_dup rfl (TX8_partOf_0.at 25 rfl) ?_
  refine zm_getIE ef22 (TX8_partOf_0.at 26 rfl) fl8_260 hH rfl (by decide) (fun r43 => ?_)
  refine z_iconst (TX8_partOf_0.at 27 rfl) ?_
  refine z_iadd (TX8_partOf_0.at 28 rfl) ?_
  refine zm_putIE (TX8_partOf_0.at 29 rfl) fp8_260 hH hA rfl (by decide) (by first | omega | exact b2i_01 _) (fun h f48 e1 e2 hH hA => ?_)
  have ef22 := e2
  have ef23 := (e1 23 (by decide)).trans ef23
  have ef24 := (e1 24 (by decide)).trans ef24
  have ef25 := (e1 25 (by decide)).trans ef25
  have ef27 := (e1 27 (by decide)).trans ef27
  have ef28 := (e1 28 (by decide)).trans ef28
  have ef29 := (e1 29 (by decide)).trans ef29
  have hfE := hfE.put e1 (by decide)
  refine z_ald_0 (TX8_partOf_0.at 30 rfl) ?_
  refine zm_getIE ef25 (TX8_partOf_0.at 31 rfl) fl8_290 hH rfl (by decide) (fun r52 => ?_)
  refine z_if_eq (tgt := 94) (TX8_partOf_0.at 32 rfl) rfl (by omega) (fun c2 => absurd c2 (by decide)) (fun c2 => ?_)
  refine z_ild_2 (TX8_partOf_0.at 33 rfl) ?_
  refine z_bipush (by decide) (TX8_partOf_0.at 34 rfl) ?_
  refine z_icmp_eq (tgt := 70) (TX8_partOf_0.at 35 rfl) rfl (by omega) (by omega) (fun c3 => absurd c3 (by omega)) (fun c3 => ?_)
  refine z_ild_2 (TX8_partOf_0.at 36 rfl) ?_
  refine z_bipush (by decide) (TX8_partOf_0.at 37 rfl) ?_
  refine z_icmp_ne (tgt := 94) (TX8_partOf_0.at 38 rfl) rfl (by omega) (by omega) (fun c4 => ?_) (fun c4 => absurd c4 (by omega))
  refine z_ild_1 (TX8_partOf_1.at 13 rfl) ?_
  refine z_if_eq (tgt := 105) (TX8_partOf_1.at 14 rfl) rfl (by omega) (fun c5 => ?_) (fun c5 => ?_)
  · skip
    refine z_lconst (v := 0) (by decide) (TX8_partOf_1.at 18 rfl) ?_
    refine zm_lret (TX8_partOf_1.at 19 rfl) rfl hH hA (by omega) ?_
    exact ⟨⟨by first | (rw [if_neg (by omega)]; done) | (rw [if_pos (by omega)]; done), ef24, ef22, by omega⟩, hfE, hgE, rfl⟩
  · skip
    refine z_ald_0 (TX8_partOf_1.at 15 rfl) ?_
    refine zm_getIE ef24 (TX8_partOf_1.at 16 rfl) fl8_270 hH rfl (by decide) (fun r99 => ?_)
    refine z_if_eq (tgt := 107) (TX8_partOf_1.at 17 rfl) rfl (by omega) (fun c6 => ?_) (fun c6 => ?_)
    · skip
      refine z_ild_2 (TX8_partOf_1.at 20 rfl) ?_
      refine z_bipush (by decide) (TX8_partOf_1.at 21 rfl) ?_
      refine z_icmp_ne (tgt := 130) (TX8_partOf_1.at 22 rfl) rfl (by omega) (by omega) (fun c7 => ?_) (fun c7 => absurd c7 (by omega))
      refine z_ald_0 (TX8_partOf_1.at 34 rfl) ?_
      refine zm_getIE ef25 (TX8_partOf_1.at 35 rfl) fl8_290 hH rfl (by decide) (fun r131 => ?_)
      refine z_if_eq (tgt := 147) (TX8_partOf_1.at 36 rfl) rfl (by omega) (fun c8 => absurd c8 (by decide)) (fun c8 => ?_)
      refine z_ald_0 (TX8_partOf_1.at 37 rfl) ?_
      refine z_ild_2 (TX8_partOf_1.at 38 rfl) ?_
      refine z_ild_3 (TX8_partOf_1.at 39 rfl) ?_
      refine zm_callI2 (m_orderValue eg2 ef27 ef28 ef29 (by omega) (by omega) (φ := φ) (by omega) (by omega) (by omega) (by omega) n0 n1 hd0 fo.1 fo.2.1 fo.2.2.1 fo.2.2.2.1 fo.2.2.2.2.1 fo.2.2.2.2.2.1 fo.2.2.2.2.2.2) (TX8_partOf_2.at 0 rfl) c8_293 rfl rfl hH hA (by omega) (Nat.le_of_ble_eq_true rfl) (fun x140 f140 g140 j140 h r140 q140 hH hA => ?_)
      obtain ⟨q140, xf, xg, xj⟩ := q140
      rw [xj] at hH
      have ef22 := (xf 22 (by decide)).trans ef22
      have ef23 := (xf 23 (by decide)).trans ef23
      have ef24 := (xf 24 (by decide)).trans ef24
      have ef25 := (xf 25 (by decide)).trans ef25
      have ef27 := (xf 27 (by decide)).trans ef27
      have ef28 := (xf 28 (by decide)).trans ef28
      have ef29 := (xf 29 (by decide)).trans ef29
      have hfE := hfE.trans xf (by decide)
      have eg2 := (xg 2 (by decide)).trans eg2
      have hgE := hgE.trans xg (by decide)
      have qL := q140
      obtain rfl := qL
      rw [if_neg (show ¬ x = 15 by omega), if_neg (show ¬ x = 21 by omega)] at r140 ⊢
      refine z_i2l (by omega) (TX8_partOf_2.at 1 rfl) ?_
      refine z_goto (tgt := 157) (TX8_partOf_2.at 2 rfl) rfl ?_
      refine zm_lret (TX8_partOf_2.at 10 rfl) rfl hH hA (by omega) ?_
      exact ⟨⟨by first | (rw [if_neg (by omega)]; done) | (rw [if_pos (by omega)]; done), ef24, ef22, by omega⟩, hfE, hgE, rfl⟩
    · skip
      refine z_lconst (v := 0) (by decide) (TX8_partOf_1.at 18 rfl) ?_
      refine zm_lret (TX8_partOf_1.at 19 rfl) rfl hH hA (by omega) ?_
      exact ⟨⟨by first | (rw [if_neg (by omega)]; done) | (rw [if_pos (by omega)]; done), ef24, ef22, by omega⟩, hfE, hgE, rfl⟩

set_option maxHeartbeats 4000000 in
set_option maxRecDepth 100000 in
theorem m_partO15 {l : Launch} {o : Nat} {ar : Nat → Nat} {f : mF} {g j : mA} {K : Int → Int} {y22 : Int} {y23 : Int} {br : Int} {i25 : Int} {x27 : Int} {x28 : Int} {x29 : Int} {live : Int} {b n t : Int} {φ : Int → Int} (eg2 : g 2 = K) (ef22 : f 22 = y22) (ef23 : f 23 = y23) (ef24 : f 24 = br) (ef25 : f 25 = i25) (ef27 : f 27 = x27) (ef28 : f 28 = x28) (ef29 : f 29 = x29) (hl : live = 0 ∨ live = 1) (hbr : br = 0 ∨ br = 1) (ey : y22 = b + t) (ez : y23 = b + n) (b0 : 0 ≤ b) (t0 : 0 ≤ t) (bn : b + n ≤ 2800) (tn : t < n) (hi : i25 = 1) (fo : FO1 K x27 x28 x29 φ) (n0 : 0 ≤ K 76) (n1 : K 76 ≤ 10) (hd0 : ∀ i, 0 ≤ i → i < K 76 → K i = 0 ∨ K i = 1) (hx : cK K b n t = 15) (tn1 : t + 1 < n) (v0 : 0 ≤ vK K b (t + 1)) (v9 : vK K b (t + 1) ≤ 9) : MM l o ar MX8_partOf 3 [.ref o, vI live] f g j (PL (fun r f' g' j' => (r = (if live = 1 ∧ br = 0 then φ (21 + vK K b (t + 1)) else 0) ∧ f' 24 = br ∧ f' 22 = b + t + 2 ∧ zIn r) ∧ eqx [22, 24] f f' ∧ eqx [] g g' ∧ j' = j)) := by
  refine MM.intro [some (.ref o), some (vI live), none, none] (by decide) (Nat.le_of_ble_eq_true rfl) rfl (fun d hd h0 h hH hA => ?_)
  have hfE : eqx [22, 24] f f := eqx.rf
  have hgE : eqx [] g g := eqx.rf
  subst ey; subst ez
  subst hi
  have ev : vK K b (t + 1) = K (2888 + (b + t + 1)) := by unfold vK; congr 1; omega
  rw [ev] at v0 v9 ⊢
  refine z_ald_0 (TX8_partOf_0.at 0 rfl) ?_
  refine z_bipush (by decide) (TX8_partOf_0.at 1 rfl) ?_
  refine zs_call1 (s_sign (by omega)) (TX8_partOf_0.at 2 rfl) c8_219 rfl (by omega) (Nat.le_of_ble_eq_true rfl) (fun r3 => ?_)
  refine zm_callI1 (m_passes0 eg2 ef22 ef23 (by omega) rfl rfl (by omega) (by omega) (by omega) (by omega)) (TX8_partOf_0.at 3 rfl) c8_284 rfl rfl hH hA (by omega) (Nat.le_of_ble_eq_true rfl) (fun x6 f6 g6 j6 h r6 q6 hH hA => ?_)
  obtain ⟨q6, xf, xg, xj⟩ := q6
  rw [xj] at hH
  have ef23 := (xf 23 (by decide)).trans ef23
  have ef24 := (xf 24 (by decide)).trans ef24
  have ef25 := (xf 25 (by decide)).trans ef25
  have ef27 := (xf 27 (by decide)).trans ef27
  have ef28 := (xf 28 (by decide)).trans ef28
  have ef29 := (xf 29 (by decide)).trans ef29
  have hfE := hfE.trans xf (by decide)
  have eg2 := (xg 2 (by decide)).trans eg2
  have hgE := hgE.trans xg (by decide)
  have qL := q6
  obtain ⟨rfl, ef22⟩ := qL
  refine z_if_eqB (tgt := 30) (TX8_partOf_0.at 4 rfl) rfl (fun c1 => ?_) (fun c1 => absurd c1 (by omega))
  rw [b2i_f c1, Int.add_zero] at ef22
  refine z_ald_0 (TX8_partOf_0.at 17 rfl) ?_
  refine z_ald_0 (TX8_partOf_0.at 18 rfl) ?_
  refine zm_getIE ef22 (TX8_partOf_0.at 19 rfl) fl8_260 hH rfl (by decide) (fun r32 => ?_)
  refine zm_callI1 (m_codeAt eg2 ef23 (by omega) (by omega) (by omega)) (TX8_partOf_0.at 20 rfl) c8_263 rfl rfl hH hA (by omega) (Nat.le_of_ble_eq_true rfl) (fun x35 f35 g35 j35 h r35 q35 hH hA => ?_)
  obtain ⟨q35, xf, xg, xj⟩ := q35
  rw [xj] at hH
  have ef22 := (xf 22 (by decide)).trans ef22
  have ef23 := (xf 23 (by decide)).trans ef23
  have ef24 := (xf 24 (by decide)).trans ef24
  have ef25 := (xf 25 (by decide)).trans ef25
  have ef27 := (xf 27 (by decide)).trans ef27
  have ef28 := (xf 28 (by decide)).trans ef28
  have ef29 := (xf 29 (by decide)).trans ef29
  have hfE := hfE.trans xf (by decide)
  have eg2 := (xg 2 (by decide)).trans eg2
  have hgE := hgE.trans xg (by decide)
  have qL := q35
  obtain rfl := qL
  rw [cK_at] at r35 ⊢
  rw [hx] at r35 ⊢
  refine z_ist_2 (TX8_partOf_0.at 21 rfl) (Nat.le_of_ble_eq_true rfl) rfl ?_
  refine z_iconst (TX8_partOf_0.at 22 rfl) ?_
  refine z_ist_3 (TX8_partOf_0.at 23 rfl) (Nat.le_of_ble_eq_true rfl) rfl ?_
  refine z_ald_0 (TX8_partOf_0.at 24 rfl) ?_
  refine z_dup rfl (TX8_partOf_0.at 25 rfl) ?_
  refine zm_getIE ef22 (TX8_partOf_0.at 26 rfl) fl8_260 hH rfl (by decide) (fun r43 => ?_)
  refine z_iconst (TX8_partOf_0.at 27 rfl) ?_
  refine z_iadd (TX8_partOf_0.at 28 rfl) ?_
  refine zm_putIE (TX8_partOf_0.at 29 rfl) fp8_260 hH hA rfl (by decide) (by first | omega | exact b2i_01 _) (fun h f48 e1 e2 hH hA => ?_)
  have ef22 := e2
  have ef23 := (e1 23 (by decide)).trans ef23
  have ef24 := (e1 24 (by decide)).trans ef24
  have ef25 := (e1 25 (by decide)).trans ef25
  have ef27 := (e1 27 (by decide)).trans ef27
  have ef28 := (e1 28 (by decide)).trans ef28
  have ef29 := (e1 29 (by decide)).trans ef29
  have hfE := hfE.put e1 (by decide)
  refine z_ald_0 (TX8_partOf_0.at 30 rfl) ?_
  refine zm_getIE ef25 (TX8_partOf_0.at 31 rfl) fl8_290 hH rfl (by decide) (fun r52 => ?_)
  refine z_if_eq (tgt := 94) (TX8_partOf_0.at 32 rfl) rfl (by omega) (fun c2 => absurd c2 (by decide)) (fun c2 => ?_)
  refine z_ild_2 (TX8_partOf_0.at 33 rfl) ?_
  refine z_bipush (by decide) (TX8_partOf_0.at 34 rfl) ?_
  refine z_icmp_eq (tgt := 70) (TX8_partOf_0.at 35 rfl) rfl (by omega) (by omega) (fun c3 => ?_) (fun c3 => absurd c3 (by decide))
  refine z_ald_0 (TX8_partOf_0.at 39 rfl) ?_
  refine zm_getA (TX8_partOf_1.at 0 rfl) fl8_28 hH (by decide) (by decide) ?_
  refine z_sipush (by decide) (TX8_partOf_1.at 1 rfl) ?_
  refine z_ald_0 (TX8_partOf_1.at 2 rfl) ?_
  refine zm_getIE ef22 (TX8_partOf_1.at 3 rfl) fl8_260 hH rfl (by decide) (fun r78 => ?_)
  refine z_iadd (TX8_partOf_1.at 4 rfl) ?_
  refine zm_ialdE eg2 (TX8_partOf_1.at 5 rfl) hH rfl (by omega) (show _ < ((5688 : Nat) : Int) by omega) (fun r82 => ?_)
  refine z_ist_3 (TX8_partOf_1.at 6 rfl) (Nat.le_of_ble_eq_true rfl) rfl ?_
  refine z_ald_0 (TX8_partOf_1.at 7 rfl) ?_
  refine z_dup rfl (TX8_partOf_1.at 8 rfl) ?_
  refine zm_getIE ef22 (TX8_partOf_1.at 9 rfl) fl8_260 hH rfl (by decide) (fun r86 => ?_)
  refine z_iconst (TX8_partOf_1.at 10 rfl) ?_
  refine z_iadd (TX8_partOf_1.at 11 rfl) ?_
  refine zm_putIE (TX8_partOf_1.at 12 rfl) fp8_260 hH hA rfl (by decide) (by first | omega | exact b2i_01 _) (fun h f91 e1 e2 hH hA => ?_)
  have ef22 := e2
  have ef23 := (e1 23 (by decide)).trans ef23
  have ef24 := (e1 24 (by decide)).trans ef24
  have ef25 := (e1 25 (by decide)).trans ef25
  have ef27 := (e1 27 (by decide)).trans ef27
  have ef28 := (e1 28 (by decide)).trans ef28
  have ef29 := (e1 29 (by decide)).trans ef29
  have hfE := hfE.put e1 (by decide)
  refine z_ild_1 (TX8_partOf_1.at 13 rfl) ?_
  refine z_if_eq (tgt := 105) (TX8_partOf_1.at 14 rfl) rfl (by omega) (fun c4 => ?_) (fun c4 => ?_)
  · skip
    refine z_lconst (v := 0) (by decide) (TX8_partOf_1.at 18 rfl) ?_
    refine zm_lret (TX8_partOf_1.at 19 rfl) rfl hH hA (by omega) ?_
    exact ⟨⟨by first | (rw [if_neg (by omega)]; done) | (rw [if_pos (by omega)]; done), ef24, by rw [ef22]; omega, by omega⟩, hfE, hgE, rfl⟩
  · skip
    refine z_ald_0 (TX8_partOf_1.at 15 rfl) ?_
    refine zm_getIE ef24 (TX8_partOf_1.at 16 rfl) fl8_270 hH rfl (by decide) (fun r99 => ?_)
    refine z_if_eq (tgt := 107) (TX8_partOf_1.at 17 rfl) rfl (by omega) (fun c5 => ?_) (fun c5 => ?_)
    · skip
      refine z_ild_2 (TX8_partOf_1.at 20 rfl) ?_
      refine z_bipush (by decide) (TX8_partOf_1.at 21 rfl) ?_
      refine z_icmp_ne (tgt := 130) (TX8_partOf_1.at 22 rfl) rfl (by omega) (by omega) (fun c6 => ?_) (fun c6 => absurd c6 (by decide))
      refine z_ald_0 (TX8_partOf_1.at 34 rfl) ?_
      refine zm_getIE ef25 (TX8_partOf_1.at 35 rfl) fl8_290 hH rfl (by decide) (fun r131 => ?_)
      refine z_if_eq (tgt := 147) (TX8_partOf_1.at 36 rfl) rfl (by omega) (fun c7 => absurd c7 (by decide)) (fun c7 => ?_)
      refine z_ald_0 (TX8_partOf_1.at 37 rfl) ?_
      refine z_ild_2 (TX8_partOf_1.at 38 rfl) ?_
      refine z_ild_3 (TX8_partOf_1.at 39 rfl) ?_
      refine zm_callI2 (m_orderValue eg2 ef27 ef28 ef29 (by omega) (by omega) (φ := φ) (by omega) (by omega) (by intro _; omega) (by intro q; omega) n0 n1 hd0 fo.1 fo.2.1 fo.2.2.1 fo.2.2.2.1 fo.2.2.2.2.1 fo.2.2.2.2.2.1 fo.2.2.2.2.2.2) (TX8_partOf_2.at 0 rfl) c8_293 rfl rfl hH hA (by omega) (Nat.le_of_ble_eq_true rfl) (fun x140 f140 g140 j140 h r140 q140 hH hA => ?_)
      obtain ⟨q140, xf, xg, xj⟩ := q140
      rw [xj] at hH
      have ef22 := (xf 22 (by decide)).trans ef22
      have ef23 := (xf 23 (by decide)).trans ef23
      have ef24 := (xf 24 (by decide)).trans ef24
      have ef25 := (xf 25 (by decide)).trans ef25
      have ef27 := (xf 27 (by decide)).trans ef27
      have ef28 := (xf 28 (by decide)).trans ef28
      have ef29 := (xf 29 (by decide)).trans ef29
      have hfE := hfE.trans xf (by decide)
      have eg2 := (xg 2 (by decide)).trans eg2
      have hgE := hgE.trans xg (by decide)
      have qL := q140
      obtain rfl := qL
      rw [if_pos rfl] at r140 ⊢
      refine z_i2l (by omega) (TX8_partOf_2.at 1 rfl) ?_
      refine z_goto (tgt := 157) (TX8_partOf_2.at 2 rfl) rfl ?_
      refine zm_lret (TX8_partOf_2.at 10 rfl) rfl hH hA (by omega) ?_
      exact ⟨⟨by first | (rw [if_neg (by omega)]; done) | (rw [if_pos (by omega)]; done), ef24, by rw [ef22]; omega, by omega⟩, hfE, hgE, rfl⟩
    · skip
      refine z_lconst (v := 0) (by decide) (TX8_partOf_1.at 18 rfl) ?_
      refine zm_lret (TX8_partOf_1.at 19 rfl) rfl hH hA (by omega) ?_
      exact ⟨⟨by first | (rw [if_neg (by omega)]; done) | (rw [if_pos (by omega)]; done), ef24, by rw [ef22]; omega, by omega⟩, hfE, hgE, rfl⟩

set_option maxHeartbeats 4000000 in
set_option maxRecDepth 100000 in
theorem m_partO21 {l : Launch} {o : Nat} {ar : Nat → Nat} {f : mF} {g j : mA} {K : Int → Int} {y22 : Int} {y23 : Int} {br : Int} {i25 : Int} {x27 : Int} {x28 : Int} {x29 : Int} {live : Int} {b n t : Int} {φ : Int → Int} (eg2 : g 2 = K) (ef22 : f 22 = y22) (ef23 : f 23 = y23) (ef24 : f 24 = br) (ef25 : f 25 = i25) (ef27 : f 27 = x27) (ef28 : f 28 = x28) (ef29 : f 29 = x29) (hl : live = 0 ∨ live = 1) (hbr : br = 0 ∨ br = 1) (ey : y22 = b + t) (ez : y23 = b + n) (b0 : 0 ≤ b) (t0 : 0 ≤ t) (bn : b + n ≤ 2800) (tn : t < n) (hi : i25 = 1) (fo : FO1 K x27 x28 x29 φ) (n0 : 0 ≤ K 76) (n1 : K 76 ≤ 10) (hd0 : ∀ i, 0 ≤ i → i < K 76 → K i = 0 ∨ K i = 1) (hx : cK K b n t = 21) (tn1 : t + 1 < n) (v0 : 0 ≤ vK K b (t + 1)) (v9 : vK K b (t + 1) ≤ 7) : MM l o ar MX8_partOf 3 [.ref o, vI live] f g j (PL (fun r f' g' j' => (r = (if live = 1 ∧ br = 0 then φ (13 + vK K b (t + 1)) else 0) ∧ f' 24 = br ∧ f' 22 = b + t + 2 ∧ zIn r) ∧ eqx [22, 24] f f' ∧ eqx [] g g' ∧ j' = j)) := by
  refine MM.intro [some (.ref o), some (vI live), none, none] (by decide) (Nat.le_of_ble_eq_true rfl) rfl (fun d hd h0 h hH hA => ?_)
  have hfE : eqx [22, 24] f f := eqx.rf
  have hgE : eqx [] g g := eqx.rf
  subst ey; subst ez
  subst hi
  have ev : vK K b (t + 1) = K (2888 + (b + t + 1)) := by unfold vK; congr 1; omega
  rw [ev] at v0 v9 ⊢
  refine z_ald_0 (TX8_partOf_0.at 0 rfl) ?_
  refine z_bipush (by decide) (TX8_partOf_0.at 1 rfl) ?_
  refine zs_call1 (s_sign (by omega)) (TX8_partOf_0.at 2 rfl) c8_219 rfl (by omega) (Nat.le_of_ble_eq_true rfl) (fun r3 => ?_)
  refine zm_callI1 (m_passes0 eg2 ef22 ef23 (by omega) rfl rfl (by omega) (by omega) (by omega) (by omega)) (TX8_partOf_0.at 3 rfl) c8_284 rfl rfl hH hA (by omega) (Nat.le_of_ble_eq_true rfl) (fun x6 f6 g6 j6 h r6 q6 hH hA => ?_)
  obtain ⟨q6, xf, xg, xj⟩ := q6
  rw [xj] at hH
  have ef23 := (xf 23 (by decide)).trans ef23
  have ef24 := (xf 24 (by decide)).trans ef24
  have ef25 := (xf 25 (by decide)).trans ef25
  have ef27 := (xf 27 (by decide)).trans ef27
  have ef28 := (xf 28 (by decide)).trans ef28
  have ef29 := (xf 29 (by decide)).trans ef29
  have hfE := hfE.trans xf (by decide)
  have eg2 := (xg 2 (by decide)).trans eg2
  have hgE := hgE.trans xg (by decide)
  have qL := q6
  obtain ⟨rfl, ef22⟩ := qL
  refine z_if_eqB (tgt := 30) (TX8_partOf_0.at 4 rfl) rfl (fun c1 => ?_) (fun c1 => absurd c1 (by omega))
  rw [b2i_f c1, Int.add_zero] at ef22
  refine z_ald_0 (TX8_partOf_0.at 17 rfl) ?_
  refine z_ald_0 (TX8_partOf_0.at 18 rfl) ?_
  refine zm_getIE ef22 (TX8_partOf_0.at 19 rfl) fl8_260 hH rfl (by decide) (fun r32 => ?_)
  refine zm_callI1 (m_codeAt eg2 ef23 (by omega) (by omega) (by omega)) (TX8_partOf_0.at 20 rfl) c8_263 rfl rfl hH hA (by omega) (Nat.le_of_ble_eq_true rfl) (fun x35 f35 g35 j35 h r35 q35 hH hA => ?_)
  obtain ⟨q35, xf, xg, xj⟩ := q35
  rw [xj] at hH
  have ef22 := (xf 22 (by decide)).trans ef22
  have ef23 := (xf 23 (by decide)).trans ef23
  have ef24 := (xf 24 (by decide)).trans ef24
  have ef25 := (xf 25 (by decide)).trans ef25
  have ef27 := (xf 27 (by decide)).trans ef27
  have ef28 := (xf 28 (by decide)).trans ef28
  have ef29 := (xf 29 (by decide)).trans ef29
  have hfE := hfE.trans xf (by decide)
  have eg2 := (xg 2 (by decide)).trans eg2
  have hgE := hgE.trans xg (by decide)
  have qL := q35
  obtain rfl := qL
  rw [cK_at] at r35 ⊢
  rw [hx] at r35 ⊢
  refine z_ist_2 (TX8_partOf_0.at 21 rfl) (Nat.le_of_ble_eq_true rfl) rfl ?_
  refine z_iconst (TX8_partOf_0.at 22 rfl) ?_
  refine z_ist_3 (TX8_partOf_0.at 23 rfl) (Nat.le_of_ble_eq_true rfl) rfl ?_
  refine z_ald_0 (TX8_partOf_0.at 24 rfl) ?_
  refine z_dup rfl (TX8_partOf_0.at 25 rfl) ?_
  refine zm_getIE ef22 (TX8_partOf_0.at 26 rfl) fl8_260 hH rfl (by decide) (fun r43 => ?_)
  refine z_iconst (TX8_partOf_0.at 27 rfl) ?_
  refine z_iadd (TX8_partOf_0.at 28 rfl) ?_
  refine zm_putIE (TX8_partOf_0.at 29 rfl) fp8_260 hH hA rfl (by decide) (by first | omega | exact b2i_01 _) (fun h f48 e1 e2 hH hA => ?_)
  have ef22 := e2
  have ef23 := (e1 23 (by decide)).trans ef23
  have ef24 := (e1 24 (by decide)).trans ef24
  have ef25 := (e1 25 (by decide)).trans ef25
  have ef27 := (e1 27 (by decide)).trans ef27
  have ef28 := (e1 28 (by decide)).trans ef28
  have ef29 := (e1 29 (by decide)).trans ef29
  have hfE := hfE.put e1 (by decide)
  refine z_ald_0 (TX8_partOf_0.at 30 rfl) ?_
  refine zm_getIE ef25 (TX8_partOf_0.at 31 rfl) fl8_290 hH rfl (by decide) (fun r52 => ?_)
  refine z_if_eq (tgt := 94) (TX8_partOf_0.at 32 rfl) rfl (by omega) (fun c2 => absurd c2 (by decide)) (fun c2 => ?_)
  refine z_ild_2 (TX8_partOf_0.at 33 rfl) ?_
  refine z_bipush (by decide) (TX8_partOf_0.at 34 rfl) ?_
  refine z_icmp_eq (tgt := 70) (TX8_partOf_0.at 35 rfl) rfl (by omega) (by omega) (fun c3 => absurd c3 (by decide)) (fun c3 => ?_)
  refine z_ild_2 (TX8_partOf_0.at 36 rfl) ?_
  refine z_bipush (by decide) (TX8_partOf_0.at 37 rfl) ?_
  refine z_icmp_ne (tgt := 94) (TX8_partOf_0.at 38 rfl) rfl (by omega) (by omega) (fun c4 => absurd c4 (by decide)) (fun c4 => ?_)
  refine z_ald_0 (TX8_partOf_0.at 39 rfl) ?_
  refine zm_getA (TX8_partOf_1.at 0 rfl) fl8_28 hH (by decide) (by decide) ?_
  refine z_sipush (by decide) (TX8_partOf_1.at 1 rfl) ?_
  refine z_ald_0 (TX8_partOf_1.at 2 rfl) ?_
  refine zm_getIE ef22 (TX8_partOf_1.at 3 rfl) fl8_260 hH rfl (by decide) (fun r78 => ?_)
  refine z_iadd (TX8_partOf_1.at 4 rfl) ?_
  refine zm_ialdE eg2 (TX8_partOf_1.at 5 rfl) hH rfl (by omega) (show _ < ((5688 : Nat) : Int) by omega) (fun r82 => ?_)
  refine z_ist_3 (TX8_partOf_1.at 6 rfl) (Nat.le_of_ble_eq_true rfl) rfl ?_
  refine z_ald_0 (TX8_partOf_1.at 7 rfl) ?_
  refine z_dup rfl (TX8_partOf_1.at 8 rfl) ?_
  refine zm_getIE ef22 (TX8_partOf_1.at 9 rfl) fl8_260 hH rfl (by decide) (fun r86 => ?_)
  refine z_iconst (TX8_partOf_1.at 10 rfl) ?_
  refine z_iadd (TX8_partOf_1.at 11 rfl) ?_
  refine zm_putIE (TX8_partOf_1.at 12 rfl) fp8_260 hH hA rfl (by decide) (by first | omega | exact b2i_01 _) (fun h f91 e1 e2 hH hA => ?_)
  have ef22 := e2
  have ef23 := (e1 23 (by decide)).trans ef23
  have ef24 := (e1 24 (by decide)).trans ef24
  have ef25 := (e1 25 (by decide)).trans ef25
  have ef27 := (e1 27 (by decide)).trans ef27
  have ef28 := (e1 28 (by decide)).trans ef28
  have ef29 := (e1 29 (by decide)).trans ef29
  have hfE := hfE.put e1 (by decide)
  refine z_ild_1 (TX8_partOf_1.at 13 rfl) ?_
  refine z_if_eq (tgt := 105) (TX8_partOf_1.at 14 rfl) rfl (by omega) (fun c5 => ?_) (fun c5 => ?_)
  · skip
    refine z_lconst (v := 0) (by decide) (TX8_partOf_1.at 18 rfl) ?_
    refine zm_lret (TX8_partOf_1.at 19 rfl) rfl hH hA (by omega) ?_
    exact ⟨⟨by first | (rw [if_neg (by omega)]; done) | (rw [if_pos (by omega)]; done), ef24, by rw [ef22]; omega, by omega⟩, hfE, hgE, rfl⟩
  · skip
    refine z_ald_0 (TX8_partOf_1.at 15 rfl) ?_
    refine zm_getIE ef24 (TX8_partOf_1.at 16 rfl) fl8_270 hH rfl (by decide) (fun r99 => ?_)
    refine z_if_eq (tgt := 107) (TX8_partOf_1.at 17 rfl) rfl (by omega) (fun c6 => ?_) (fun c6 => ?_)
    · skip
      refine z_ild_2 (TX8_partOf_1.at 20 rfl) ?_
      refine z_bipush (by decide) (TX8_partOf_1.at 21 rfl) ?_
      refine z_icmp_ne (tgt := 130) (TX8_partOf_1.at 22 rfl) rfl (by omega) (by omega) (fun c7 => ?_) (fun c7 => absurd c7 (by decide))
      refine z_ald_0 (TX8_partOf_1.at 34 rfl) ?_
      refine zm_getIE ef25 (TX8_partOf_1.at 35 rfl) fl8_290 hH rfl (by decide) (fun r131 => ?_)
      refine z_if_eq (tgt := 147) (TX8_partOf_1.at 36 rfl) rfl (by omega) (fun c8 => absurd c8 (by decide)) (fun c8 => ?_)
      refine z_ald_0 (TX8_partOf_1.at 37 rfl) ?_
      refine z_ild_2 (TX8_partOf_1.at 38 rfl) ?_
      refine z_ild_3 (TX8_partOf_1.at 39 rfl) ?_
      refine zm_callI2 (m_orderValue eg2 ef27 ef28 ef29 (by omega) (by omega) (φ := φ) (by omega) (by omega) (by intro q; omega) (by intro _; omega) n0 n1 hd0 fo.1 fo.2.1 fo.2.2.1 fo.2.2.2.1 fo.2.2.2.2.1 fo.2.2.2.2.2.1 fo.2.2.2.2.2.2) (TX8_partOf_2.at 0 rfl) c8_293 rfl rfl hH hA (by omega) (Nat.le_of_ble_eq_true rfl) (fun x140 f140 g140 j140 h r140 q140 hH hA => ?_)
      obtain ⟨q140, xf, xg, xj⟩ := q140
      rw [xj] at hH
      have ef22 := (xf 22 (by decide)).trans ef22
      have ef23 := (xf 23 (by decide)).trans ef23
      have ef24 := (xf 24 (by decide)).trans ef24
      have ef25 := (xf 25 (by decide)).trans ef25
      have ef27 := (xf 27 (by decide)).trans ef27
      have ef28 := (xf 28 (by decide)).trans ef28
      have ef29 := (xf 29 (by decide)).trans ef29
      have hfE := hfE.trans xf (by decide)
      have eg2 := (xg 2 (by decide)).trans eg2
      have hgE := hgE.trans xg (by decide)
      have qL := q140
      obtain rfl := qL
      rw [if_neg (show ¬ (21 : Int) = 15 by decide), if_pos rfl] at r140 ⊢
      refine z_i2l (by omega) (TX8_partOf_2.at 1 rfl) ?_
      refine z_goto (tgt := 157) (TX8_partOf_2.at 2 rfl) rfl ?_
      refine zm_lret (TX8_partOf_2.at 10 rfl) rfl hH hA (by omega) ?_
      exact ⟨⟨by first | (rw [if_neg (by omega)]; done) | (rw [if_pos (by omega)]; done), ef24, by rw [ef22]; omega, by omega⟩, hfE, hgE, rfl⟩
    · skip
      refine z_lconst (v := 0) (by decide) (TX8_partOf_1.at 18 rfl) ?_
      refine zm_lret (TX8_partOf_1.at 19 rfl) rfl hH hA (by omega) ?_
      exact ⟨⟨by first | (rw [if_neg (by omega)]; done) | (rw [if_pos (by omega)]; done), ef24, by rw [ef22]; omega, by omega⟩, hfE, hgE, rfl⟩

