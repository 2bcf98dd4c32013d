/-! ===== the reference: orders, run ===== -/
def sml (z : Int) : Int := if z < 0 ∨ z > 1000000 then -1 else z
abbrev DS : Type := Int × (Int → Int) × (Int → Int) × Int
def dLit (K X : Int → Int) (u k : Int) : DS := if ¬ (0 ≤ k ∧ k ≤ 7) then (-1, K, X, u) else if K (20 + k) ≠ -1 then (-3, K, X, u) else (K 28, iu K (20 + k) (K 28), kpR X K u 0, kpU u + 1)
def dSoak (K X : Int → Int) (u k : Int) : DS := if ¬ (0 ≤ k ∧ k ≤ K 76 - 1) then (-2, K, X, u) else (1 - K k, iu K k (1 - K k), kpR X K u 1, kpU u + 1)
def dSwap (K X : Int → Int) (u a b : Int) : DS := if a = b then (-1, K, X, u) else if ¬ ((0 ≤ a ∧ a ≤ K 76 - 1) ∧ 0 ≤ b ∧ b ≤ K 76 - 1) then (-2, K, X, u) else (K (10 + b), exchK K a b, kpR X K u 2, kpU u + 1)
def dPass (K X : Int → Int) (u : Int) (cl : List Cla) : DS := if K 28 = 999 then (-3, K, X, u) else (gone (iu K 28 (K 28 + 1)) cl, iu K 28 (K 28 + 1), kpR X K u 3, kpU u + 1)
theorem dLit_eq {K X K' X' : Int → Int} {u k r u' : Int} (h : litS K X u k r K' X' u') : (r, K', X', u') = dLit K X u k := by
  unfold dLit
  rcases h with ⟨h1, rfl, rfl, rfl, rfl⟩ | ⟨h1, h2, rfl, rfl, rfl, rfl⟩ | ⟨h1, h2, rfl, rfl, rfl, rfl⟩
  · rw [if_pos h1]
  · rw [if_neg (not_not_intro h1), if_pos h2]
  · rw [if_neg (not_not_intro h1), if_neg (not_not_intro h2)]
theorem dSoak_eq {K X K' X' : Int → Int} {u k r u' : Int} (h : soakS K X u k r K' X' u') : (r, K', X', u') = dSoak K X u k := by
  unfold dSoak
  rcases h with ⟨h1, rfl, rfl, rfl, rfl⟩ | ⟨h1, rfl, rfl, rfl, rfl⟩
  · rw [if_pos h1]
  · rw [if_neg (not_not_intro h1)]
theorem dSwap_eq {K X K' X' : Int → Int} {u a b r u' : Int} (h : swapS K X u a b r K' X' u') : (r, K', X', u') = dSwap K X u a b := by
  unfold dSwap
  rcases h with ⟨h1, rfl, rfl, rfl, rfl⟩ | ⟨h1, h2, rfl, rfl, rfl, rfl⟩ | ⟨h1, h2, rfl, rfl, rfl, rfl⟩
  · rw [if_pos h1]
  · rw [if_neg h1, if_pos h2]
  · rw [if_neg h1, if_neg (not_not_intro h2)]; rfl
theorem dPass_eq {K X K' X' : Int → Int} {u r u' : Int} {cl : List Cla} (h : passS K X u cl r K' X' u') : (r, K', X', u') = dPass K X u cl := by
  unfold dPass
  rcases h with ⟨h1, rfl, rfl, rfl, rfl⟩ | ⟨h1, rfl, rfl, rfl, rfl⟩
  · rw [if_pos h1]
  · rw [if_neg h1]
/-- a deed by its verb -/
def deed (cl : List Cla) (vb s1 s2 : Int) (K X : Int → Int) (u : Int) : DS := if vb = 23 then dSoak K X u (sml s1) else if vb = 24 then dSwap K X u (sml s1) (sml s2) else if vb = 26 then dPass K X u cl else dLit K X u (sml s1)
theorem KOK_soak {K : Int → Int} {k : Int} (h : KOK K) (k0 : 0 ≤ k) (k1 : k < K 76) : KOK (iu K k (1 - K k)) := by
  have hn := h.1
  have q := (h.2.1 k k0 k1).1
  refine KOK_mv h (fun i hi => iu_ne (by omega)) (fun i i0 i1 => ?_) (fun t t0 t1 => ?_) ?_
  · have z := h.2.1 i i0 i1
    rw [iu_ne (show 10 + i ≠ k by omega)]
    refine ⟨?_, z.2.1⟩
    by_cases ei : i = k
    · rw [ei, iu_self]; omega
    · rw [iu_ne ei]; exact z.1
  · rw [iu_ne (by omega)]; exact h.2.2.1 t t0 t1
  · rw [iu_ne (by omega)]; exact h.2.2.2.1
theorem KOK_lit {K : Int → Int} {k : Int} (h : KOK K) (k0 : 0 ≤ k) (k1 : k ≤ 7) : KOK (iu K (20 + k) (K 28)) := by
  have hn := h.1
  have h28 := h.2.2.2.1
  refine KOK_mv h (fun i hi => iu_ne (by omega)) (fun i i0 i1 => ?_) (fun t t0 t1 => ?_) ?_
  · have z := h.2.1 i i0 i1
    rw [iu_ne (show i ≠ 20 + k by omega), iu_ne (show 10 + i ≠ 20 + k by omega)]
    exact ⟨z.1, z.2.1⟩
  · by_cases et : t = k
    · rw [et, iu_self]; omega
    · rw [iu_ne (by omega)]; exact h.2.2.1 t t0 t1
  · rw [iu_ne (by omega)]; exact h28
/-- what can be said of a deed: all from 29 on is as it was, what is kept is sound -/
theorem deed_ok {cl : List Cla} {vb s1 s2 u : Int} {K X : Int → Int} (h : KOK K) (u0 : 0 ≤ u) (u1 : u ≤ 16) : KOK (deed cl vb s1 s2 K X u).2.1 ∧ (∀ i, 29 ≤ i → (deed cl vb s1 s2 K X u).2.1 i = K i) ∧ (0 ≤ (deed cl vb s1 s2 K X u).2.2.2 ∧ (deed cl vb s1 s2 K X u).2.2.2 ≤ 16) ∧ -6 ≤ (deed cl vb s1 s2 K X u).1 := by
  have hn := h.1
  have h28 := h.2.2.2.1
  have hu : 0 ≤ kpU u + 1 ∧ kpU u + 1 ≤ 16 := by unfold kpU; split <;> omega
  unfold deed
  split
  · unfold dSoak
    split
    · exact ⟨h, fun _ _ => rfl, ⟨u0, u1⟩, by simp only; omega⟩
    · rename_i hk
      have hk2 : 0 ≤ sml s1 ∧ sml s1 ≤ K 76 - 1 := Decidable.byContradiction hk
      have q := (h.2.1 _ hk2.1 (by omega)).1
      exact ⟨KOK_soak h hk2.1 (by omega), fun i hi => iu_ne (by omega), hu, by simp only; omega⟩
  · split
    · unfold dSwap
      split
      · exact ⟨h, fun _ _ => rfl, ⟨u0, u1⟩, by simp only; omega⟩
      · split
        · exact ⟨h, fun _ _ => rfl, ⟨u0, u1⟩, by simp only; omega⟩
        · rename_i hk
          have hk2 : (0 ≤ sml s1 ∧ sml s1 ≤ K 76 - 1) ∧ 0 ≤ sml s2 ∧ sml s2 ≤ K 76 - 1 := Decidable.byContradiction hk
          have q := (h.2.1 _ hk2.2.1 (by omega)).2.1
          exact ⟨KOK_exch h hk2.1.1 (by omega) hk2.2.1 (by omega), fun i hi => exchK_far (by omega) (by omega), hu, by simp only; omega⟩
    · split
      · unfold dPass
        split
        · exact ⟨h, fun _ _ => rfl, ⟨u0, u1⟩, by simp only; omega⟩
        · have g := gonS_in (K := iu K 28 (K 28 + 1)) (cl := cl) (i := iu K 28 (K 28 + 1) 76) (by rw [iu_ne (by decide)]; exact hn.1)
          refine ⟨KOK_28 h (by omega) (by omega), fun i hi => iu_ne (by omega), hu, ?_⟩
          show -6 ≤ gone (iu K 28 (K 28 + 1)) cl
          unfold gone
          omega
      · unfold dLit
        split
        · exact ⟨h, fun _ _ => rfl, ⟨u0, u1⟩, by simp only; omega⟩
        · split
          · exact ⟨h, fun _ _ => rfl, ⟨u0, u1⟩, by simp only; omega⟩
          · rename_i hk _
            have hk2 : 0 ≤ sml s1 ∧ sml s1 ≤ 7 := Decidable.byContradiction hk
            exact ⟨KOK_lit h hk2.1 hk2.2, fun i hi => iu_ne (by omega), hu, by simp only; omega⟩
theorem LawK_29 {K K' : Int → Int} {cl : List Cla} (hL : LawK K cl) (e : ∀ i, 29 ≤ i → K' i = K i) : LawK K' cl := LawK_cg hL (e 80 (by decide)) (fun i hi => e i (by omega))
def phiO (K : Int → Int) (cl : List Cla) (dn lt : Int) (a : Int) : Int := if a = 8 then K 28 else if a = 9 then dn else if a = 10 then lt else if a = 11 then gone K cl else if a = 12 then sm K (K 76) else if 13 ≤ a ∧ a ≤ 20 then K (20 + (a - 13)) else if a - 21 ≤ K 76 - 1 then K (10 + (a - 21)) else -1
theorem phiO_ok {K : Int → Int} {cl : List Cla} {dn lt : Int} : FO1 K dn lt (gone K cl) (phiO K cl dn lt) := by
  refine ⟨rfl, rfl, rfl, rfl, rfl, fun q q0 q7 => ?_, fun q q0 q9 => ?_⟩
  · unfold phiO
    rw [if_neg (by omega), if_neg (by omega), if_neg (by omega), if_neg (by omega), if_neg (by omega), if_pos (by omega), show 13 + q - 13 = q by omega]
  · unfold phiO
    rw [if_neg (by omega), if_neg (by omega), if_neg (by omega), if_neg (by omega), if_neg (by omega), if_neg (by omega), show 21 + q - 21 = q by omega]
/-- what orders change: what is kept, the row of what can be undone, how many are there; how many were run, what the latest pass told -/
abbrev OS : Type := (Int → Int) × (Int → Int) × Int × Int × Int
def ordO (cl : List Cla) (k : Cla) (w : OS) : Option OS :=
  if tellF.isSoB k.2.2.2.2 (phiO w.1 cl w.2.2.2.1 w.2.2.2.2) = true then
    (if sOK k.1 k.2.1 k.2.2.1 (phiO w.1 cl w.2.2.2.1 w.2.2.2.2) then
      (if (deed cl k.1 ((k.2.1 (phiO w.1 cl w.2.2.2.1 w.2.2.2.2)).getD 0) ((k.2.2.1 (phiO w.1 cl w.2.2.2.1 w.2.2.2.2)).getD 0) w.1 w.2.1 w.2.2.1).1 < 0 then none
       else some ((deed cl k.1 ((k.2.1 (phiO w.1 cl w.2.2.2.1 w.2.2.2.2)).getD 0) ((k.2.2.1 (phiO w.1 cl w.2.2.2.1 w.2.2.2.2)).getD 0) w.1 w.2.1 w.2.2.1).2.1, (deed cl k.1 ((k.2.1 (phiO w.1 cl w.2.2.2.1 w.2.2.2.2)).getD 0) ((k.2.2.1 (phiO w.1 cl w.2.2.2.1 w.2.2.2.2)).getD 0) w.1 w.2.1 w.2.2.1).2.2.1, (deed cl k.1 ((k.2.1 (phiO w.1 cl w.2.2.2.1 w.2.2.2.2)).getD 0) ((k.2.2.1 (phiO w.1 cl w.2.2.2.1 w.2.2.2.2)).getD 0) w.1 w.2.1 w.2.2.1).2.2.2, w.2.2.2.1 + 1, if k.1 = 26 then (deed cl k.1 ((k.2.1 (phiO w.1 cl w.2.2.2.1 w.2.2.2.2)).getD 0) ((k.2.2.1 (phiO w.1 cl w.2.2.2.1 w.2.2.2.2)).getD 0) w.1 w.2.1 w.2.2.1).1 else w.2.2.2.2))
     else none)
  else some w
def ordT (cl : List Cla) (k : Cla) : Nat → OS → Option OS
  | 0, w => some w
  | n + 1, w => match ordO cl k w with
    | none => none
    | some w' => ordT cl k n w'
def ordL (cl : List Cla) : List Cla → Nat → OS → Except Nat OS
  | [], _, w => .ok w
  | k :: l, i, w => match ordT cl k k.2.2.2.1.toNat w with
    | none => .error i
    | some w' => ordL cl l (i + 1) w'
/-- such a state is sound, over what K0 keeps from 29 on -/
def OSok (K0 : Int → Int) (n : Int) (w : OS) : Prop := KOK w.1 ∧ (∀ i, 29 ≤ i → w.1 i = K0 i) ∧ (0 ≤ w.2.2.1 ∧ w.2.2.1 ≤ 16) ∧ (0 ≤ w.2.2.2.1 ∧ w.2.2.2.1 ≤ n) ∧ (-1 ≤ w.2.2.2.2 ∧ w.2.2.2.2 ≤ 10)
theorem ordO_ok {cl : List Cla} {k : Cla} {w w' : OS} {K0 : Int → Int} {n : Int} (h : OSok K0 n w) (e : ordO cl k w = some w') : OSok K0 (n + 1) w' := by
  obtain ⟨h1, h2, h3, h4, h5⟩ := h
  unfold ordO at e
  split at e
  · split at e
    · split at e
      · cases e
      · rename_i hr
        have q := deed_ok (cl := cl) (vb := k.1) (s1 := (k.2.1 (phiO w.1 cl w.2.2.2.1 w.2.2.2.2)).getD 0) (s2 := (k.2.2.1 (phiO w.1 cl w.2.2.2.1 w.2.2.2.2)).getD 0) (X := w.2.1) h1 h3.1 h3.2
        have e2 := Option.some.inj e
        subst e2
        refine ⟨q.1, fun i hi => (q.2.1 i hi).trans (h2 i hi), q.2.2.1, by simp only; omega, ?_⟩
        show -1 ≤ (if k.1 = 26 then _ else w.2.2.2.2) ∧ (if k.1 = 26 then _ else w.2.2.2.2) ≤ (10 : Int)
        by_cases h26 : k.1 = 26
        · rw [if_pos h26]
          have hd : deed cl k.1 ((k.2.1 (phiO w.1 cl w.2.2.2.1 w.2.2.2.2)).getD 0) ((k.2.2.1 (phiO w.1 cl w.2.2.2.1 w.2.2.2.2)).getD 0) w.1 w.2.1 w.2.2.1 = dPass w.1 w.2.1 w.2.2.1 cl := by
            unfold deed
            rw [if_neg (by omega), if_neg (by omega), if_pos h26]
          rw [hd] at hr ⊢
          have hn := h1.1
          have g := gonS_in (K := iu w.1 28 (w.1 28 + 1)) (cl := cl) (i := iu w.1 28 (w.1 28 + 1) 76) (by rw [iu_ne (by decide)]; exact hn.1)
          rw [iu_ne (show (76 : Int) ≠ 28 by decide)] at g
          unfold dPass at hr ⊢
          by_cases h9 : w.1 28 = 999
          · rw [if_pos h9] at hr; exact absurd (show (-3 : Int) < 0 by decide) hr
          · rw [if_neg h9]
            show -1 ≤ gone (iu w.1 28 (w.1 28 + 1)) cl ∧ gone (iu w.1 28 (w.1 28 + 1)) cl ≤ 10
            unfold gone
            rw [iu_ne (show (76 : Int) ≠ 28 by decide)]
            omega
        · rw [if_neg h26]; exact h5
    · cases e
  · have e2 := Option.some.inj e
    subst e2
    exact ⟨h1, h2, h3, by omega, h5⟩
set_option maxHeartbeats 4000000 in
set_option maxRecDepth 100000 in
theorem s_small {l : Launch} {z : Int} (hz : zInL z) : SI l MX8_small 0 [vL z] (sml z) := by
  refine SI.intro [some (vL z), none] (by unfold sml; split <;> omega) (by decide) (Nat.le_of_ble_eq_true rfl) rfl (fun d hd h => ?_)
  refine z_lld_0 (TX8_small.at 0 rfl) ?_
  refine z_lconst (v := 0) (by decide) (TX8_small.at 1 rfl) ?_
  refine z_lif_lt (tgt := 14) (TX8_small.at 2 rfl) (TX8_small.at 3 rfl) rfl (by omega) (by omega) (fun c1 => ?_) (fun c1 => ?_)
  · skip
    refine z_iconst (TX8_small.at 8 rfl) ?_
    refine z_goto (tgt := 20) (TX8_small.at 9 rfl) rfl ?_
    exact zs_iret (TX8_small.at 12 rfl) rfl (by unfold sml; first | (rw [if_pos (by omega)]; done) | (rw [if_neg (by omega)]; exact zl2i_in (by omega)))
  · skip
    refine z_lld_0 (TX8_small.at 4 rfl) ?_
    refine z_ldc2 (v := 1000000) (TX8_small.at 5 rfl) k8_462 (by decide) ?_
    refine z_lif_le (tgt := 18) (TX8_small.at 6 rfl) (TX8_small.at 7 rfl) rfl (by omega) (by omega) (fun c2 => ?_) (fun c2 => ?_)
    · skip
      refine z_lld_0 (TX8_small.at 10 rfl) ?_
      refine z_l2i (TX8_small.at 11 rfl) ?_
      exact zs_iret (TX8_small.at 12 rfl) rfl (by unfold sml; first | (rw [if_pos (by omega)]; done) | (rw [if_neg (by omega)]; exact zl2i_in (by omega)))
    · skip
      refine z_iconst (TX8_small.at 8 rfl) ?_
      refine z_goto (tgt := 20) (TX8_small.at 9 rfl) rfl ?_
      exact zs_iret (TX8_small.at 12 rfl) rfl (by unfold sml; first | (rw [if_pos (by omega)]; done) | (rw [if_neg (by omega)]; exact zl2i_in (by omega)))

set_option maxHeartbeats 4000000 in
set_option maxRecDepth 100000 in
theorem m_obeys {l : Launch} {o : Nat} {ar : Nat → Nat} {f : mF} {g j : mA} {K : Int → Int} {X34 : Int → Int} {S : Int → Int} {x28 : Int} {u : Int} {vb : Int} {cl : List Cla} (eg2 : g 2 = K) (eg34 : g 34 = X34) (ej46 : j 46 = S) (ef28 : f 28 = x28) (ef36 : f 36 = u) (ef43 : f 43 = vb) (u0 : 0 ≤ u) (u1 : u ≤ 16) (hK : KOK K) (hL : LawK K cl) : MM l o ar MX8_obeys 53 [.ref o] f g j (PI (fun r f' g' j' => ((r, g' 2, g' 34, f' 36) = deed cl vb (S 0) (S 1) K X34 u ∧ f' 28 = (if vb = 26 ∧ 0 ≤ r then r else x28)) ∧ eqx [22, 23, 24, 25, 33, 28, 36] f f' ∧ eqx [2, 26, 30, 31, 32, 34] g g' ∧ j' = j)) := by
  refine MM.intro [some (.ref o), none, none] (by decide) (Nat.le_of_ble_eq_true rfl) rfl (fun d hd h0 h hH hA => ?_)
  have hfE : eqx [22, 23, 24, 25, 33, 28, 36] f f := eqx.rf
  have hgE : eqx [2, 26, 30, 31, 32, 34] g g := eqx.rf
  have hn := hK.1
  have hs := hK.2.2.2.1
  refine z_ald_0 (TX8_obeys.at 0 rfl) ?_
  refine zm_getA (TX8_obeys.at 1 rfl) fl8_94 hH (by decide) (by decide) ?_
  refine z_iconst (TX8_obeys.at 2 rfl) ?_
  refine zm_laldE ej46 (TX8_obeys.at 3 rfl) hH rfl (by omega) (show _ < ((2 : Nat) : Int) by omega) (fun r5 => ?_)
  refine zs_call1 (s_small (by omega)) (TX8_obeys.at 4 rfl) c8_464 rfl (by omega) (Nat.le_of_ble_eq_true rfl) (fun r6 => ?_)
  refine z_ist_1 (TX8_obeys.at 5 rfl) (Nat.le_of_ble_eq_true rfl) rfl ?_
  refine z_ald_0 (TX8_obeys.at 6 rfl) ?_
  refine zm_getIE ef43 (TX8_obeys.at 7 rfl) fl8_450 hH rfl (by decide) (fun r11 => ?_)
  rcases (show vb = 23 ∨ vb = 24 ∨ vb = 25 ∨ vb = 26 ∨ (vb < 23 ∨ 26 < vb) by omega) with sw0 | sw1 | sw2 | sw3 | sw4
  · refine z_swIn (off := 30) (tgt := 44) (TX8_obeys.at 8 rfl) (by omega) (by omega) (by omega) (by rw [sw0]; rfl) rfl ?_
    refine z_ald_0 (TX8_obeys.at 9 rfl) ?_
    refine z_ild_1 (TX8_obeys.at 10 rfl) ?_
    refine zm_callI1 (m_soaksKept eg2 eg34 ef36 (by omega) u0 u1 hn.1 hn.2 hK.lawH.2.2) (TX8_obeys.at 11 rfl) c8_375 rfl rfl hH hA (by omega) (Nat.le_of_ble_eq_true rfl) (fun x46 f46 g46 j46 h r46 q46 hH hA => ?_)
    obtain ⟨q46, xf, xg, xj⟩ := q46
    rw [xj] at hH
    have ef28 := (xf 28 (by decide)).trans ef28
    have ef43 := (xf 43 (by decide)).trans ef43
    have hfE := hfE.trans xf (by decide)
    have hgE := hgE.trans xg (by decide)
    have qL := q46
    obtain ⟨K1, eg2⟩ : ∃ z, g46 2 = z := ⟨_, rfl⟩
    obtain ⟨X2, eg34⟩ : ∃ z, g46 34 = z := ⟨_, rfl⟩
    obtain ⟨u2, ef36⟩ : ∃ z, f46 36 = z := ⟨_, rfl⟩
    rw [eg2, eg34, ef36] at qL
    have qI := qL
    refine zm_iret (TX8_obeys.at 12 rfl) rfl hH hA (by omega) ?_
    exact ⟨⟨by rw [eg2, eg34, ef36, dSoak_eq qI]; unfold deed; rw [if_pos (by omega)], by rw [ef28, if_neg (by omega)]⟩, hfE, hgE, rfl⟩
  · refine z_swIn (off := 36) (tgt := 50) (TX8_obeys.at 8 rfl) (by omega) (by omega) (by omega) (by rw [sw1]; rfl) rfl ?_
    refine z_ald_0 (TX8_obeys.at 13 rfl) ?_
    refine z_ild_1 (TX8_obeys.at 14 rfl) ?_
    refine z_ald_0 (TX8_obeys.at 15 rfl) ?_
    refine zm_getA (TX8_obeys.at 16 rfl) fl8_94 hH (by decide) (by decide) ?_
    refine z_iconst (TX8_obeys.at 17 rfl) ?_
    refine zm_laldE ej46 (TX8_obeys.at 18 rfl) hH rfl (by omega) (show _ < ((2 : Nat) : Int) by omega) (fun r57 => ?_)
    refine zs_call1 (s_small (by omega)) (TX8_obeys.at 19 rfl) c8_464 rfl (by omega) (Nat.le_of_ble_eq_true rfl) (fun r58 => ?_)
    refine zm_callI2 (m_swapsKept eg2 eg34 ef36 (by omega) (by omega) u0 u1 hn.1 hn.2) (TX8_obeys.at 20 rfl) c8_378 rfl rfl hH hA (by omega) (Nat.le_of_ble_eq_true rfl) (fun x61 f61 g61 j61 h r61 q61 hH hA => ?_)
    obtain ⟨q61, xf, xg, xj⟩ := q61
    rw [xj] at hH
    have ef28 := (xf 28 (by decide)).trans ef28
    have ef43 := (xf 43 (by decide)).trans ef43
    have hfE := hfE.trans xf (by decide)
    have hgE := hgE.trans xg (by decide)
    have qL := q61
    obtain ⟨K1, eg2⟩ : ∃ z, g61 2 = z := ⟨_, rfl⟩
    obtain ⟨X2, eg34⟩ : ∃ z, g61 34 = z := ⟨_, rfl⟩
    obtain ⟨u2, ef36⟩ : ∃ z, f61 36 = z := ⟨_, rfl⟩
    rw [eg2, eg34, ef36] at qL
    have qI := qL
    refine zm_iret (TX8_obeys.at 21 rfl) rfl hH hA (by omega) ?_
    exact ⟨⟨by rw [eg2, eg34, ef36, dSwap_eq qI]; unfold deed; rw [if_neg (by omega), if_pos (by omega)], by rw [ef28, if_neg (by omega)]⟩, hfE, hgE, rfl⟩
  · refine z_swIn (off := 74) (tgt := 88) (TX8_obeys.at 8 rfl) (by omega) (by omega) (by omega) (by rw [sw2]; rfl) rfl ?_
    refine z_ald_0 (TX8_obeys.at 35 rfl) ?_
    refine z_ild_1 (TX8_obeys.at 36 rfl) ?_
    refine zm_callI1 (m_lightsKept eg2 eg34 ef36 (by omega) u0 u1) (TX8_obeys.at 37 rfl) c8_369 rfl rfl hH hA (by omega) (Nat.le_of_ble_eq_true rfl) (fun x90 f90 g90 j90 h r90 q90 hH hA => ?_)
    obtain ⟨q90, xf, xg, xj⟩ := q90
    rw [xj] at hH
    have ef28 := (xf 28 (by decide)).trans ef28
    have ef43 := (xf 43 (by decide)).trans ef43
    have hfE := hfE.trans xf (by decide)
    have hgE := hgE.trans xg (by decide)
    have qL := q90
    obtain ⟨K1, eg2⟩ : ∃ z, g90 2 = z := ⟨_, rfl⟩
    obtain ⟨X2, eg34⟩ : ∃ z, g90 34 = z := ⟨_, rfl⟩
    obtain ⟨u2, ef36⟩ : ∃ z, f90 36 = z := ⟨_, rfl⟩
    rw [eg2, eg34, ef36] at qL
    have qI := qL
    refine zm_iret (TX8_obeys.at 38 rfl) rfl hH hA (by omega) ?_
    exact ⟨⟨by rw [eg2, eg34, ef36, dLit_eq qI]; unfold deed; rw [if_neg (by omega), if_neg (by omega), if_neg (by omega)], by rw [ef28, if_neg (by omega)]⟩, hfE, hgE, rfl⟩
  · refine z_swIn (off := 51) (tgt := 65) (TX8_obeys.at 8 rfl) (by omega) (by omega) (by omega) (by rw [sw3]; rfl) rfl ?_
    refine z_ald_0 (TX8_obeys.at 22 rfl) ?_
    refine zm_callI0 (m_passesKept eg2 eg34 ef36 u0 u1 hK hL) (TX8_obeys.at 23 rfl) c8_381 rfl rfl hH hA (by omega) (Nat.le_of_ble_eq_true rfl) (fun x66 f66 g66 j66 h r66 q66 hH hA => ?_)
    obtain ⟨q66, xf, xg, xj⟩ := q66
    rw [xj] at hH
    have ef28 := (xf 28 (by decide)).trans ef28
    have ef43 := (xf 43 (by decide)).trans ef43
    have hfE := hfE.trans xf (by decide)
    have hgE := hgE.trans xg (by decide)
    have qL := q66
    obtain ⟨K1, eg2⟩ : ∃ z, g66 2 = z := ⟨_, rfl⟩
    obtain ⟨X2, eg34⟩ : ∃ z, g66 34 = z := ⟨_, rfl⟩
    obtain ⟨u2, ef36⟩ : ∃ z, f66 36 = z := ⟨_, rfl⟩
    rw [eg2, eg34, ef36] at qL
    have qI := qL
    refine z_ist_2 (TX8_obeys.at 24 rfl) (Nat.le_of_ble_eq_true rfl) rfl ?_
    refine z_ald_0 (TX8_obeys.at 25 rfl) ?_
    refine z_ild_2 (TX8_obeys.at 26 rfl) ?_
    refine z_if_ge (tgt := 82) (TX8_obeys.at 27 rfl) rfl (by omega) (fun c1 => ?_) (fun c1 => ?_)
    · skip
      refine z_ild_2 (TX8_obeys.at 31 rfl) ?_
      refine zm_putIE (TX8_obeys.at 32 rfl) fp8_299 hH hA rfl (by decide) (by first | omega | exact b2i_01 _) (fun h f83 e1 e2 hH hA => ?_)
      have ef28 := e2
      have ef36 := (e1 36 (by decide)).trans ef36
      have ef43 := (e1 43 (by decide)).trans ef43
      have hfE := hfE.put e1 (by decide)
      refine z_ild_2 (TX8_obeys.at 33 rfl) ?_
      refine zm_iret (TX8_obeys.at 34 rfl) rfl hH hA (by omega) ?_
      exact ⟨⟨by rw [eg2, eg34, ef36, dPass_eq qI]; unfold deed; rw [if_neg (by omega), if_neg (by omega), if_pos (by omega)], by first | (rw [if_pos (by omega)]; exact ef28) | (rw [if_neg (by omega)]; exact ef28)⟩, hfE, hgE, rfl⟩
    · skip
      refine z_ald_0 (TX8_obeys.at 28 rfl) ?_
      refine zm_getIE ef28 (TX8_obeys.at 29 rfl) fl8_299 hH rfl (by decide) (fun r76 => ?_)
      refine z_goto (tgt := 83) (TX8_obeys.at 30 rfl) rfl ?_
      refine zm_putIE (TX8_obeys.at 32 rfl) fp8_299 hH hA rfl (by decide) (by first | omega | exact b2i_01 _) (fun h f83 e1 e2 hH hA => ?_)
      have ef28 := e2
      have ef36 := (e1 36 (by decide)).trans ef36
      have ef43 := (e1 43 (by decide)).trans ef43
      have hfE := hfE.put e1 (by decide)
      refine z_ild_2 (TX8_obeys.at 33 rfl) ?_
      refine zm_iret (TX8_obeys.at 34 rfl) rfl hH hA (by omega) ?_
      exact ⟨⟨by rw [eg2, eg34, ef36, dPass_eq qI]; unfold deed; rw [if_neg (by omega), if_neg (by omega), if_pos (by omega)], by first | (rw [if_pos (by omega)]; exact ef28) | (rw [if_neg (by omega)]; exact ef28)⟩, hfE, hgE, rfl⟩
  · refine z_swOut (tgt := 88) (TX8_obeys.at 8 rfl) (by omega) sw4 rfl ?_
    refine z_ald_0 (TX8_obeys.at 35 rfl) ?_
    refine z_ild_1 (TX8_obeys.at 36 rfl) ?_
    refine zm_callI1 (m_lightsKept eg2 eg34 ef36 (by omega) u0 u1) (TX8_obeys.at 37 rfl) c8_369 rfl rfl hH hA (by omega) (Nat.le_of_ble_eq_true rfl) (fun x90 f90 g90 j90 h r90 q90 hH hA => ?_)
    obtain ⟨q90, xf, xg, xj⟩ := q90
    rw [xj] at hH
    have ef28 := (xf 28 (by decide)).trans ef28
    have ef43 := (xf 43 (by decide)).trans ef43
    have hfE := hfE.trans xf (by decide)
    have hgE := hgE.trans xg (by decide)
    have qL := q90
    obtain ⟨K1, eg2⟩ : ∃ z, g90 2 = z := ⟨_, rfl⟩
    obtain ⟨X2, eg34⟩ : ∃ z, g90 34 = z := ⟨_, rfl⟩
    obtain ⟨u2, ef36⟩ : ∃ z, f90 36 = z := ⟨_, rfl⟩
    rw [eg2, eg34, ef36] at qL
    have qI := qL
    refine zm_iret (TX8_obeys.at 38 rfl) rfl hH hA (by omega) ?_
    exact ⟨⟨by rw [eg2, eg34, ef36, dLit_eq qI]; unfold deed; rw [if_neg (by omega), if_neg (by omega), if_neg (by omega)], by rw [ef28, if_neg (by omega)]⟩, hfE, hgE, rfl⟩

