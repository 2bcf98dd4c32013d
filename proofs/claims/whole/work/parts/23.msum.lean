/-! ===== the reference: brackets, terms, sums asked ===== -/
theorem evV_in {live br : Int} {z : Option Int} (h : ∀ x, z = some x → zIn x) : zIn (evV live br z) := by
  unfold evV
  split
  · cases z with
    | none => decide
    | some x => exact h x rfl
  · decide
theorem evB_01 {live br : Int} {z : Option Int} (hb : br = 0 ∨ br = 1) : evB live br z = 0 ∨ evB live br z = 1 := by
  unfold evB
  split
  · split
    · exact Or.inr rfl
    · exact Or.inl rfl
  · exact hb
/-- a step of a sum or term: v, w and what is broken, then bounded -/
def bdV (live bk v : Int) : Int := if (live = 1 ∧ (v > 1000000000 ∨ v < -1000000000)) ∨ bk = 1 then 0 else v
def bdB (live bk v : Int) : Int := if live = 1 ∧ (v > 1000000000 ∨ v < -1000000000) then 1 else bk
theorem ev_bin {live br : Int} {o : Int} {op : Int → Int → Int} {k0 k2 : Den} {φ : Int → Int} (hl : live = 0 ∨ live = 1) (hb : br = 0 ∨ br = 1) (h0 : op 0 0 = 0) (ho : ∀ x y, opV o x y = bnd (op x y)) :
    bdV live (evB live (evB live br (k0 φ)) (k2 φ)) (op (evV live br (k0 φ)) (evV live (evB live br (k0 φ)) (k2 φ))) = evV live br (dBin o k0 k2 φ) ∧ bdB live (evB live (evB live br (k0 φ)) (k2 φ)) (op (evV live br (k0 φ)) (evV live (evB live br (k0 φ)) (k2 φ))) = evB live br (dBin o k0 k2 φ) := by
  by_cases hL : live = 1 ∧ br = 0
  · obtain ⟨rfl, rfl⟩ := hL
    cases e0 : k0 φ with
    | none => cases e2 : k2 φ <;> simp [evV, evB, dBin, e0, e2, bdV, bdB, h0]
    | some x =>
      cases e2 : k2 φ with
      | none =>
        simp only [evV, evB, dBin, e0, e2, bdV, bdB]
        constructor
        · simp
        · simp
      | some y =>
        simp only [evV, evB, dBin, e0, e2, bdV, bdB, ho, bnd]
        by_cases q : op x y > 1000000000 ∨ op x y < -1000000000
        · simp [q]
        · simp [q]
  · have a : ∀ z, evV live br z = 0 := fun z => if_neg hL
    have b : ∀ z, evB live br z = br := fun z => if_neg hL
    rw [a, a, b, b, b, a, h0]
    unfold bdV bdB
    rw [if_neg (show ¬ (live = 1 ∧ ((0 : Int) > 1000000000 ∨ (0 : Int) < -1000000000)) by omega)]
    refine ⟨?_, rfl⟩
    split <;> rfl
/-- ... divided: w is 0 -/
theorem ev_div {live br : Int} {o : Int} {op : Int → Int → Int} {k0 k2 : Den} {φ : Int → Int} (hl : live = 0 ∨ live = 1) (hb : br = 0 ∨ br = 1) (h0 : op 0 1 = 0) (ho : ∀ x y, opV o x y = if y = 0 then none else bnd (op x y)) :
    ∀ w bk, w = evV live (evB live br (k0 φ)) (k2 φ) → bk = evB live (evB live br (k0 φ)) (k2 φ) →
    (w = 0 → bdV live (if bk ≠ 0 ∨ live ≠ 0 then 1 else 0) (op (evV live br (k0 φ)) 1) = evV live br (dBin o k0 k2 φ) ∧ bdB live (if bk ≠ 0 ∨ live ≠ 0 then 1 else 0) (op (evV live br (k0 φ)) 1) = evB live br (dBin o k0 k2 φ)) ∧
    (w ≠ 0 → bdV live bk (op (evV live br (k0 φ)) w) = evV live br (dBin o k0 k2 φ) ∧ bdB live bk (op (evV live br (k0 φ)) w) = evB live br (dBin o k0 k2 φ)) := by
  intro w bk ew eb
  by_cases hL : live = 1 ∧ br = 0
  · obtain ⟨rfl, rfl⟩ := hL
    cases e0 : k0 φ with
    | none =>
      have ew0 : w = 0 := by rw [ew, e0]; simp [evV, evB]
      refine ⟨fun _ => ?_, fun q => absurd ew0 q⟩
      simp [evV, evB, dBin, e0, bdV, bdB, h0]
    | some x =>
      cases e2 : k2 φ with
      | none =>
        have ew0 : w = 0 := by rw [ew, e0, e2]; simp [evV, evB]
        refine ⟨fun _ => ?_, fun q => absurd ew0 q⟩
        simp [evV, evB, dBin, e0, e2, bdV, bdB]
      | some y =>
        have ewy : w = y := by rw [ew, e0, e2]; simp [evV, evB]
        have ebk : bk = 0 := by rw [eb, e0, e2]; simp [evB]
        subst ewy; subst ebk
        refine ⟨fun q => ?_, fun q => ?_⟩
        · simp [evV, evB, dBin, e0, e2, bdV, bdB, ho, q]
        · simp only [evV, evB, dBin, e0, e2, bdV, bdB, ho, if_neg q, bnd]
          by_cases q2 : op x w > 1000000000 ∨ op x w < -1000000000
          · simp [q2]
          · simp [q2]
  · have a : ∀ z, evV live br z = 0 := fun z => if_neg hL
    have b : ∀ z, evB live br z = br := fun z => if_neg hL
    rw [b] at ew eb
    rw [b] at eb
    have ew0 : w = 0 := by rw [ew]; exact a _
    refine ⟨fun _ => ?_, fun q => absurd ew0 q⟩
    rw [a, a, b, h0, eb]
    unfold bdV bdB
    rw [if_neg (show ¬ (live = 1 ∧ ((0 : Int) > 1000000000 ∨ (0 : Int) < -1000000000)) by omega)]
    refine ⟨by rw [ite_self], ?_⟩
    split <;> omega
theorem bd_eq (live bk v : Int) : (if (live = 1 ∧ (v > 1000000000 ∨ v < -1000000000)) ∨ bk = 1 then 0 else v) = bdV live bk v := rfl
theorem bd_eqB (live bk v : Int) : (if live = 1 ∧ (v > 1000000000 ∨ v < -1000000000) then 1 else bk) = bdB live bk v := rfl
theorem bdV_in {live bk v : Int} (h : zInL v) : zInL (bdV live bk v) := by unfold bdV; split <;> omega
/-- a method that asks what a reading g means, from place t on -/
def EvQ (b : Int) (t' : Nat) (live br : Int) (z : Option Int) (f : mF) (g j : mA) : Int → mF → mA → mA → Prop := fun r f' g' j' => (r = evV live br z ∧ f' 24 = evB live br z ∧ f' 22 = b + t' ∧ zIn r) ∧ eqx [22, 24] f f' ∧ eqx [] g g' ∧ j' = j
def EvC (l : Launch) (o : Nat) (ar : Nat → Nat) (M : zM) (N : Nat) (lw : Bool) (K : Int → Int) (b nt : Int) (φ : Int → Int) (pf : Nat → Nat → PR) : Prop := ∀ (live br : Int) (t p t' p' : Nat) (k : Den) (f : mF) (g j : mA), (live = 0 ∨ live = 1) → (br = 0 ∨ br = 1) → g 2 = K → f 22 = b + t → f 23 = b + nt → f 24 = br → FOK lw K f g φ → (t : Int) ≤ nt → pf t p = .ok (t', p', k) → MM l o ar M N [.ref o, vI live] f g j (PL (EvQ b t' live br (k φ) f g j))
set_option maxHeartbeats 4000000 in
set_option maxRecDepth 100000 in
theorem m_partI {l : Launch} {o : Nat} {ar : Nat → Nat} {f : mF} {g j : mA} {K : Int → Int} {y22 : Int} {y23 : Int} {br : Int} {live : Int} {b n t t1 z y : Int} {N : Nat} {lw : Bool} {φ : Int → Int} (eg2 : g 2 = K) (ef22 : f 22 = y22) (ef23 : f 23 = y23) (ef24 : f 24 = br) (hl : live = 0 ∨ live = 1) (hbr : br = 0 ∨ br = 1) (ey : y22 = b + t) (ez : y23 = b + n) (b0 : 0 ≤ b) (t0 : 0 ≤ t) (bn : b + n ≤ 2800) (tn : t < n) (hN : 2 ≤ N) (hx : cK K b n t = 191) (t1b : 0 ≤ t1 ∧ b + t1 ≤ 2801) (hFo : FOK lw K f g φ) (hsum : ∀ (f : mF) (g j : mA), g 2 = K → f 22 = b + (t + 1) → f 23 = b + n → f 24 = br → FOK lw K f g φ → MM l o ar MX8_sumOf N [.ref o, vI live] f g j (PL (fun r f' g' j' => (r = z ∧ f' 24 = y ∧ f' 22 = b + t1 ∧ zIn r) ∧ eqx [22, 24] f f' ∧ eqx [] g g' ∧ j' = j))) : MM l o ar MX8_partOf (N + 1) [.ref o, vI live] f g j (PL (fun r f' g' j' => (r = z ∧ f' 24 = y ∧ f' 22 = b + t1 + 1 ∧ zIn r) ∧ eqx [22, 24] f f' ∧ eqx [] g g' ∧ j' = j)) := by
  refine MM.intro [some (.ref o), some (vI live), none, none] (by decide) (Nat.le_of_ble_eq_true rfl) rfl (fun d hd h0 h hH hA => ?_)
  have hfE : eqx [22, 24] f f := eqx.rf
  have hgE : eqx [] g g := eqx.rf
  subst ey; subst ez
  refine z_ald_0 (TX8_partOf_0.at 0 rfl) ?_
  refine z_bipush (by decide) (TX8_partOf_0.at 1 rfl) ?_
  refine zs_call1 (s_sign (by omega)) (TX8_partOf_0.at 2 rfl) c8_219 rfl (by omega) (Nat.le_of_ble_eq_true rfl) (fun r3 => ?_)
  refine zm_callI1 (m_passes0 eg2 ef22 ef23 (by omega) rfl rfl (by omega) (by omega) (by omega) (by omega)) (TX8_partOf_0.at 3 rfl) c8_284 rfl rfl hH hA (by omega) (Nat.le_of_ble_eq_true rfl) (fun x6 f6 g6 j6 h r6 q6 hH hA => ?_)
  obtain ⟨q6, xf, xg, xj⟩ := q6
  rw [xj] at hH
  have ef23 := (xf 23 (by decide)).trans ef23
  have ef24 := (xf 24 (by decide)).trans ef24
  have hfE := hfE.trans xf (by decide)
  have eg2 := (xg 2 (by decide)).trans eg2
  have hgE := hgE.trans xg (by decide)
  have qL := q6
  obtain ⟨rfl, ef22⟩ := qL
  refine z_if_eqB (tgt := 30) (TX8_partOf_0.at 4 rfl) rfl (fun c1 => absurd c1 (by omega)) (fun c1 => ?_)
  refine z_ald_0 (TX8_partOf_0.at 5 rfl) ?_
  refine z_ild_1 (TX8_partOf_0.at 6 rfl) ?_
  refine zm_callL1 (hsum _ _ _ eg2 (by rw [ef22, b2i_t c1]; omega) ef23 ef24 (hFo.keep hfE hgE)) (TX8_partOf_0.at 7 rfl) c8_287 rfl rfl hH hA (by omega) (Nat.le_of_ble_eq_true rfl) (fun x14 f14 g14 j14 h r14 q14 hH hA => ?_)
  obtain ⟨q14, xf, xg, xj⟩ := q14
  rw [xj] at hH
  have ef23 := (xf 23 (by decide)).trans ef23
  have hfE := hfE.trans xf (by decide)
  have eg2 := (xg 2 (by decide)).trans eg2
  have hgE := hgE.trans xg (by decide)
  have qL := q14
  obtain ⟨rfl, ef24, ef22, rz⟩ := qL
  refine z_lst_2 (TX8_partOf_0.at 8 rfl) (Nat.le_of_ble_eq_true rfl) rfl ?_
  refine z_ald_0 (TX8_partOf_0.at 9 rfl) ?_
  refine z_dup rfl (TX8_partOf_0.at 10 rfl) ?_
  refine zm_getIE ef22 (TX8_partOf_0.at 11 rfl) fl8_260 hH rfl (by decide) (fun r20 => ?_)
  refine z_iconst (TX8_partOf_0.at 12 rfl) ?_
  refine z_iadd (TX8_partOf_0.at 13 rfl) ?_
  refine zm_putIE (TX8_partOf_0.at 14 rfl) fp8_260 hH hA rfl (by decide) (by first | omega | exact b2i_01 _) (fun h f25 e1 e2 hH hA => ?_)
  have ef22 := e2
  have ef23 := (e1 23 (by decide)).trans ef23
  have ef24 := (e1 24 (by decide)).trans ef24
  have hfE := hfE.put e1 (by decide)
  refine z_lld_2 (TX8_partOf_0.at 15 rfl) ?_
  refine zm_lret (TX8_partOf_0.at 16 rfl) rfl hH hA (by omega) ?_
  exact ⟨⟨rfl, ef24, ef22, rz⟩, hfE, hgE, rfl⟩

theorem MZ_mono {l : Launch} {M : zM} {d mc ms : Nat} {vs : List Value} {h : zH} {P P' : Option Value → zH → Prop} (hM : MZ l M d mc ms vs h P) (hP : ∀ v h', P v h' → P' v h') : MZ l M d mc ms vs h P' := by
  intro G ws sz hC p e ha hc hk s m args below hf happ hp hK
  obtain ⟨n, o, a1, a2, a3, ⟨⟨v, h', ws', q1, q2, q3⟩, q4⟩, q5⟩ := hM G ws sz hC p e ha hc hk s m args below hf happ hp hK
  exact ⟨n, o, a1, a2, a3, ⟨⟨v, h', ws', q1, hP v h' q2, q3⟩, q4⟩, q5⟩
theorem MM_mono {l : Launch} {o : Nat} {ar : Nat → Nat} {M : zM} {n n' : Nat} {vs : List Value} {f : mF} {g j : mA} {P P' : Option Value → mF → mA → mA → Prop} (hM : MM l o ar M n vs f g j P) (hn : n ≤ n') (hP : ∀ v f g j, P v f g j → P' v f g j) : MM l o ar M n' vs f g j P' := by
  intro d hd h hH
  refine MZ_mono (hM d (by omega) h hH) (fun v h' q => ?_)
  obtain ⟨f', g', j', q1, q2, q3⟩ := q
  exact ⟨f', g', j', q1, q2, hP v f' g' j' q3⟩
theorem evB_some {live br x : Int} : evB live br (some x) = br := by
  unfold evB
  split
  · rename_i h; rw [if_neg (by simp)]; omega
  · rfl
theorem ev_leaf {l : Launch} {o : Nat} {ar : Nat → Nat} {M : zM} {n n' t' : Nat} {vs : List Value} {f : mF} {g j : mA} {b live br y x : Int} (hn : n ≤ n') (ht : y = b + t') (hM : MM l o ar M n vs f g j (PL (fun r f' g' j' => (r = (if live = 1 ∧ br = 0 then x else 0) ∧ f' 24 = br ∧ f' 22 = y ∧ zIn r) ∧ eqx [22, 24] f f' ∧ eqx [] g g' ∧ j' = j))) : MM l o ar M n' vs f g j (PL (EvQ b t' live br (some x) f g j)) := by
  refine MM_mono hM hn (fun v f' g' j' q => ?_)
  obtain ⟨r, q1, q2, ⟨q3, q4, q5, q6⟩, q7⟩ := q
  exact ⟨r, q1, q2, ⟨q3, by rw [q4, evB_some], by rw [q5, ht], q6⟩, q7⟩
set_option maxHeartbeats 4000000 in
/-- a part, whatever it is -/
theorem ev_part {l : Launch} {o : Nat} {ar : Nat → Nat} {N : Nat} {lw : Bool} {K : Int → Int} {b nt : Int} {φ : Int → Int} {inner : Option (Nat → Nat → PR)} (b0 : 0 ≤ b) (bn : b + nt ≤ 2800) (n0 : 0 ≤ K 76) (n1 : K 76 ≤ 10) (hd0 : ∀ i, 0 ≤ i → i < K 76 → K i = 0 ∨ K i = 1) (hN : 2 ≤ N)
    (hin : ∀ pf, inner = some pf → Adv (cK K b nt) pf ∧ EvC l o ar MX8_sumOf N lw K b nt φ pf) : EvC l o ar MX8_partOf (N + 1) lw K b nt φ (pPart lw (cK K b nt) (vK K b) inner) := by
  intro live br t p t' p' k f g j hl hb eg2 ef22 ef23 ef24 hFo tn hp
  have hadv : ∀ m : Nat, cK K b nt (m : Int) ≠ 0 → (m : Int) < nt := fun m hm => by
    rcases Int.lt_or_le (m : Int) nt with h | h
    · exact h
    · exact absurd (if_neg (by omega)) hm
  have t0 : (0 : Int) ≤ (t : Int) := by omega
  unfold pPart at hp
  split at hp
  · rename_i h91
    have htn := hadv t (by omega)
    cases inner with
    | none => cases hp
    | some pf =>
      obtain ⟨ha, hs⟩ := hin pf rfl
      simp only at hp
      cases hg : pf (t + 1) p with
      | error e => rw [hg] at hp; cases hp
      | ok r =>
        obtain ⟨t1, p1, k1⟩ := r
        rw [hg] at hp
        simp only at hp
        split at hp
        · rename_i h93
          have ht1 := hadv t1 (by omega)
          cases hp
          refine MM_mono (m_partI (t1 := (t1 : Int)) (t := (t : Int)) (lw := lw) (φ := φ) (z := evV live br (k φ)) (y := evB live br (k φ)) (N := N) eg2 ef22 ef23 ef24 hl hb rfl rfl b0 t0 bn htn hN h91 ⟨by omega, by omega⟩ hFo (fun f g j e1 e2 e3 e4 e5 => hs live br (t + 1) p t1 _ k f g j hl hb e1 (by rw [e2]; push_cast; rfl) e3 e4 e5 (by omega) hg)) (Nat.le_refl _) (fun v f' g' j' q => ?_)
          obtain ⟨r, q1, q2, ⟨q3, q4, q5, q6⟩, q7⟩ := q
          exact ⟨r, q1, q2, ⟨q3, q4, by rw [q5]; push_cast; omega, q6⟩, q7⟩
        · cases hp
  · rename_i h91
    split at hp
    · rename_i hcc
      have hw : 8 ≤ wLo lw := by unfold wLo; split <;> omega
      have htn := hadv t (by omega)
      split at hp
      · cases hp
      · split at hp
        · rename_i h15
          obtain ⟨rfl, h15⟩ := h15
          have fo : f 25 = 1 ∧ FO1 K (f 27) (f 28) (f 29) φ := hFo
          split at hp
          · rename_i h5
            have ht1 := hadv (t + 1) (by push_cast; omega)
            cases hp
            refine ev_leaf (by omega) (by push_cast; omega) (m_partO15 eg2 ef22 ef23 ef24 rfl rfl rfl rfl hl hb rfl rfl b0 t0 bn htn fo.1 fo.2 n0 n1 hd0 h15 (by push_cast at ht1; omega) h5.2.1 h5.2.2)
          · cases hp
        · rename_i h15
          split at hp
          · rename_i h21
            obtain ⟨rfl, h21⟩ := h21
            have fo : f 25 = 1 ∧ FO1 K (f 27) (f 28) (f 29) φ := hFo
            split at hp
            · rename_i h5
              have ht1 := hadv (t + 1) (by push_cast; omega)
              cases hp
              refine ev_leaf (by omega) (by push_cast; omega) (m_partO21 eg2 ef22 ef23 ef24 rfl rfl rfl rfl hl hb rfl rfl b0 t0 bn htn fo.1 fo.2 n0 n1 hd0 h21 (by push_cast at ht1; omega) h5.2.1 h5.2.2)
            · cases hp
          · rename_i h21
            by_cases h50 : cK K b nt t = 50
            · rw [if_pos h50] at hp
              cases hp
              exact ev_leaf (by omega) (by push_cast; omega) (m_partN eg2 ef22 ef23 ef24 rfl hl hb rfl rfl b0 t0 bn htn h50)
            · rw [if_neg h50] at hp
              cases hp
              cases lw with
              | true =>
                have fo : f 25 = 0 ∧ ∀ a, 0 ≤ a → a ≤ 8 → g 26 a = φ a := hFo
                exact ev_leaf (by omega) (by push_cast; omega) (m_partL eg2 rfl ef22 ef23 ef24 rfl hl hb rfl rfl b0 t0 bn htn fo.1 fo.2 (by have e1 : wLo true = 8 := rfl; have e2 : wHi true = 16 := rfl; omega))
              | false =>
                have fo : f 25 = 1 ∧ FO1 K (f 27) (f 28) (f 29) φ := hFo
                exact ev_leaf (by omega) (by push_cast; omega) (m_partO eg2 ef22 ef23 ef24 rfl rfl rfl rfl hl hb rfl rfl b0 t0 bn htn fo.1 fo.2 n0 n1 hd0 (by have e1 : wLo false = 15 := rfl; have e2 : wHi false = 21 := rfl; omega) (fun e => h15 ⟨rfl, e⟩) (fun e => h21 ⟨rfl, e⟩))
    · cases hp
