/-! ===== the class and the reference alike: image ===== -/
theorem BH.st {E : cE} {f f' : mF} {g j g' j' : mA} {o : Nat} {ar : Nat → Nat} {f2 : mF} {g2 j2 : mA} {h h' : zH} (B : BH E f g j o ar f2 g2 j2 h) (hH : HC E f' g' j' h') (hF : ∀ x, (∀ k, cUse E k → x ≠ E.1 k) → h x ≠ none → h' x = h x) : BH E f' g' j' o ar f2 g2 j2 h' := by
  refine ⟨hH, HM.mv B.2.1 (hF o (fun k hk => (B.2.2 k hk).1.symm) ?_) (fun k hk => hF (ar k) (fun q hq => ((B.2.2 q hq).2 k hk).symm) ?_), B.2.2⟩
  · rw [B.2.1.1]; intro z; cases z
  · rw [B.2.1.2.1 k hk]; intro z; cases z
theorem LwN.n2 {E E' : cE} {f f' : mF} {g g' : mA} {y : Int} {cl : List Cla} {m : Nat} (h : LwN E f g y cl) (hm : m < 16) (hv : ∀ x, E.2.1 x = true → E'.2.1 x = true) (hl : ∀ k, k / 32 ≠ m → E'.2.2 k = E.2.2 k) (hf : ∀ k, 512 ≤ k → k / 32 ≠ m → f' k = f k) (hg : ∀ k, 512 ≤ k → k / 32 ≠ m → g' k = g k) : LwN E' f' g' y cl := by
  rcases h with h | ⟨q, h0, h1, h2, h3, h4, h5, h6, h7, h8, h9, h10, h11⟩
  · exact Or.inl h
  · have qm : q ≠ m := by omega
    refine Or.inr ⟨q, h0, hv q h1, h2, h3, ?_, ?_, ?_, ?_, ?_, h9, ?_, ?_⟩
    · rw [hf _ (by omega) (by omega), hl _ (by omega)]; exact h4
    · rw [hf _ (by omega) (by omega)]; exact h5
    · rw [hl _ (by omega)]; exact h6
    · rw [hl _ (by omega)]; exact h7
    · rw [hl _ (by omega)]; exact h8
    · rw [hg _ (by omega) (by omega), hg _ (by omega) (by omega), hg _ (by omega) (by omega), hg _ (by omega) (by omega), hf _ (by omega) (by omega)]; exact h10
    · rw [hf _ (by omega) (by omega)]; exact h11
theorem tg1 : ∀ s : Nat, (cTg 1 s < 6 ∧ cTg 1 s ≠ 0 ∧ cTg 1 s ≠ 1) → s = 14 := by
  intro s h
  by_cases h2 : s < 32
  · exact (show ∀ s : Nat, s < 32 → (cTg 1 s < 6 ∧ cTg 1 s ≠ 0 ∧ cTg 1 s ≠ 1) → s = 14 by decide) s h2 h
  · have := h.1
    rw [cTg_17 (by omega)] at this
    omega

set_option maxHeartbeats 2000000 in
theorem img_0 {E E' : cE} {f f1 f' f2 f2' : mF} {g g1 g' g2 g2' : mA} {n : Nat} (S : Sim E f g f2 g2 n) (hvE : ∀ x, E.2.1 x = true → E'.2.1 x = true) (hiE : ∀ x, E'.2.1 x = true → x = 4 ∨ E.2.1 x = true) (hvm : E'.2.1 4 = true) (h1v : E.2.1 1 = true) (p16 : f' 16 = 0) (hln : ∀ q, q / 32 ≠ 4 → E'.2.2 q = E.2.2 q) (h14 : (E' = E ∧ g1 (32 * 4 + 14) = g (32 * 4 + 14)) ∨ ∀ i : Int, g1 (32 * 4 + 14) i = -1) (hf1 : ∀ q, q / 32 ≠ 4 → f1 q = f q) (hg1 : ∀ q, q / 32 ≠ 4 → q ≠ 3 → g1 q = g q) (e3 : g1 3 = iu (g 3) 0 4) (hb : BcQ 1 4 f1 g1 f' g') (hf3 : ∀ q, q / 32 ≠ 4 → q ≠ 16 → f' q = f1 q) (hg3 : ∀ q, q / 32 ≠ 4 → g' q = g1 q) (yf : eqx [0] f2 f2') (yg : eqx [1, 3, 4] g2 g2') (q2 : f2' 0 = 0) (q3 : g2' 1 = g2 1) (q5 : g2' 3 = cpy (g2 3) (g2 2) (5688 * 0) 0 5688) (q6 : g2' 4 = iu (g2 4) 0 1) : Sim E' f' g' f2' g2' (n + 1) := by
  obtain ⟨⟨hV, hG, hu⟩, sL, sI, sV, sT, sW, sG, sR, sN⟩ := id S
  have hK := hV.1
  have hf9 : ∀ q, q / 32 ≠ 4 → q ≠ 16 → f' q = f q := fun q h1 h2 => (hf3 q h1 h2).trans (hf1 q h1)
  have hg9 : ∀ q, q / 32 ≠ 4 → q ≠ 3 → g' q = g q := fun q h1 h2 => (hg3 q h1).trans (hg1 q h1 h2)
  have eF : ∀ ks : List Nat, (∀ k ∈ ks, k / 32 ≠ 4 ∧ k ≠ 16) → eqL ks f f' := fun ks hh k hk => hf9 k (hh k hk).1 (hh k hk).2
  have eG : ∀ ks : List Nat, (∀ k ∈ ks, k / 32 ≠ 4 ∧ k ≠ 3) → eqL ks g g' := fun ks hh k hk => hg9 k (hh k hk).1 (hh k hk).2
  have e3' : g' 3 = iu (g 3) 0 4 := (hg3 3 (by decide)).trans e3
  have hlw : ∀ (y : Int) (c : List Cla), LwN E f g y c → LwN E' f' g' y c := fun y c hh => hh.n2 (m := 4) (by decide) hvE hln (fun k h1 h2 => hf9 k h2 (by omega)) (fun k h1 h2 => hg9 k h2 (by omega))
  obtain ⟨b0, b5, b7, b9, b13, b15, b1, b2, b3, b4, b6, b8, b10, b11, b12, b14⟩ : f' 128 = f1 32 ∧ f' 133 = f1 37 ∧ f' 135 = f1 39 ∧ f' 137 = f1 41 ∧ f' 141 = f1 45 ∧ f' 143 = f1 47 ∧ g' 129 = cpy (g1 129) (g1 33) 0 0 10 ∧ g' 130 = cpy (g1 130) (g1 34) 0 0 10 ∧ g' 131 = cpy (g1 131) (g1 35) 0 0 10 ∧ g' 132 = cpy (g1 132) (g1 36) 0 0 10 ∧ g' 134 = cpy (g1 134) (g1 38) 0 0 8 ∧ g' 136 = cpy (g1 136) (g1 40) 0 0 3 ∧ g' 138 = cpy (g1 138) (g1 42) 0 0 6 ∧ g' 139 = cpy (g1 139) (g1 43) 0 0 6 ∧ g' 140 = cpy (g1 140) (g1 44) 0 0 3 ∧ g' 142 = cpy (g1 142) (g1 46) 0 0 6 := hb
  have eK : ∀ q, 0 ≤ q → q < 5688 → g2' 3 (5688 * 0 + q) = g2 2 q := by
    intro q q0 q1
    rw [q5]
    unfold cpy
    rw [if_pos (by omega), show 5688 * 0 + q - 5688 * 0 + 0 = q by omega]
  have eO : ∀ q, 0 ≤ q → q < 5688 → g2' 3 (5688 * 1 + q) = g2 3 (5688 * 1 + q) := by
    intro q q0 q1
    rw [q5]
    unfold cpy
    rw [if_neg (by omega)]
  have h79 := hK.2.2.2.2.2.2.2.2.2.2.1
  have sL2 : LwR E' f' g' (g 46) (g2 2) := ⟨fun q q0 q1 => (sL.1 q q0 q1).mono hvE, fun t t0 t1 => by
    obtain ⟨c, l1, l2⟩ := sL.2 t t0 t1
    exact ⟨c, l1, hlw _ _ l2⟩⟩
  refine ⟨S.1.eq (eF _ (by decide)) (eG _ (by decide)) (yf.on (by decide)) (yg.on (by decide)), by unfold cL; rw [hg9 46 (by decide) (by decide), yg 2 (by decide)]; exact sL2, ?_, sV.eq (eF _ (by decide)) (eG _ (by decide)) (yf.on (by decide)) (yg.on (by decide)), sT.eq (eF _ (by decide)) (eG _ (by decide)) (yf.on (by decide)) (yg.on (by decide)), sW.eq (yg.on (by decide)), sG.st p16 q2 (eF _ (by decide)) (yf.on (by decide)), sR.ok (hg9 11 (by decide) (by decide)) q3, ?_⟩
  · unfold cI
    intro k k0 k1
    rcases (show k = 0 ∨ k = 1 by omega) with hkk | hkk
    · subst hkk
      refine Or.inr ⟨by rw [e3', iu_self]; rfl, hvm, by rw [q6, iu_self]; decide, ?_, ?_⟩
      · have hK9 : KOK (fun i => g2' 3 (5688 * 0 + i)) := hK.cg0 (fun q q0 q1 => eK q q0 (by omega))
        show FrV (fun i => g2' 3 (5688 * 0 + i)) (f' 128) (f' 135) (f' 137) (f' 141) (f' 143) (g' 129) (g' 130) (g' 131) (g' 132) (f' 133) (g' 134) (g' 136) (g' 138) (g' 139) (g' 140)
        rw [b0, b5, b7, b9, b13, b15, b1, b2, b3, b4, b6, b8, b10, b11, b12, hf1 32 (by decide), hf1 37 (by decide), hf1 39 (by decide), hf1 41 (by decide), hf1 45 (by decide), hf1 47 (by decide), hg1 33 (by decide) (by decide), hg1 34 (by decide) (by decide), hg1 35 (by decide) (by decide), hg1 36 (by decide) (by decide), hg1 38 (by decide) (by decide), hg1 40 (by decide) (by decide), hg1 42 (by decide) (by decide), hg1 43 (by decide) (by decide), hg1 44 (by decide) (by decide)]
        exact FrV.cg (FrV.cp hV) (fun q q0 q1 => eK q q0 (by omega)) hK9
      · show LwR E' f' g' (g' 142) (fun i => g2' 3 (5688 * 0 + i))
        rw [b14, hg1 46 (by decide) (by decide)]
        refine ⟨fun q q0 q1 => by rw [cpy_at q0 q1]; exact sL2.1 q q0 q1, fun t t0 t1 => ?_⟩
        have t1 : t < g2' 3 (5688 * 0 + 79) := t1
        rw [eK 79 (by decide) (by decide)] at t1
        obtain ⟨c, l1, l2⟩ := sL2.2 t t0 t1
        refine ⟨c, LawAt_cg l1 (eK _ (by omega) (by omega)) (fun i i0 i1 => ⟨eK _ (by omega) (by omega), eK _ (by omega) (by omega)⟩), ?_⟩
        rw [cpy_at t0 (by omega)]
        exact l2
    · subst hkk
      rcases sI 1 (by decide) (by decide) with ⟨z1, z2, z3⟩ | ⟨z1, z2, z3, z4, z5⟩
      · refine Or.inl ⟨by rw [e3', iu_ne (by decide)]; exact z1, ?_, by rw [q6, iu_ne (by decide)]; exact z3⟩
        show E'.2.1 5 = false
        cases hq : E'.2.1 5 with
        | false => rfl
        | true =>
          rcases hiE _ hq with y | y
          · exact absurd y (by decide)
          · have z2 : E.2.1 5 = false := z2
            rw [z2] at y; cases y
      · refine Or.inr ⟨by rw [e3', iu_ne (by decide)]; exact z1, hvE _ z2, by rw [q6, iu_ne (by decide)]; exact z3, ?_, ?_⟩
        · have z4 : FrV (fun i => g2 3 (5688 * 1 + i)) (f 160) (f 167) (f 169) (f 173) (f 175) (g 161) (g 162) (g 163) (g 164) (f 165) (g 166) (g 168) (g 170) (g 171) (g 172) := z4
          have hK9 : KOK (fun i => g2' 3 (5688 * 1 + i)) := z4.1.cg0 (fun q q0 q1 => eO q q0 (by omega))
          show FrV (fun i => g2' 3 (5688 * 1 + i)) (f' 160) (f' 167) (f' 169) (f' 173) (f' 175) (g' 161) (g' 162) (g' 163) (g' 164) (f' 165) (g' 166) (g' 168) (g' 170) (g' 171) (g' 172)
          rw [hf9 160 (by decide) (by decide), hf9 167 (by decide) (by decide), hf9 169 (by decide) (by decide), hf9 173 (by decide) (by decide), hf9 175 (by decide) (by decide), hf9 165 (by decide) (by decide), hg9 161 (by decide) (by decide), hg9 162 (by decide) (by decide), hg9 163 (by decide) (by decide), hg9 164 (by decide) (by decide), hg9 166 (by decide) (by decide), hg9 168 (by decide) (by decide), hg9 170 (by decide) (by decide), hg9 171 (by decide) (by decide), hg9 172 (by decide) (by decide)]
          exact FrV.cg z4 (fun q q0 q1 => eO q q0 (by omega)) hK9
        · have z5 : LwR E f g (g 174) (fun i => g2 3 (5688 * 1 + i)) := z5
          have k79 : g2 3 (5688 * 1 + 79) ≤ 6 := z4.1.2.2.2.2.2.2.2.2.2.2.1.2
          show LwR E' f' g' (g' 174) (fun i => g2' 3 (5688 * 1 + i))
          rw [hg9 174 (by decide) (by decide)]
          refine ⟨fun q q0 q1 => (z5.1 q q0 q1).mono hvE, fun t t0 t1 => ?_⟩
          have t1 : t < g2' 3 (5688 * 1 + 79) := t1
          rw [eO 79 (by decide) (by decide)] at t1
          obtain ⟨c, l1, l2⟩ := z5.2 t t0 t1
          exact ⟨c, LawAt_cg l1 (eO _ (by omega) (by omega)) (fun i i0 i1 => ⟨eO _ (by omega) (by omega), eO _ (by omega) (by omega)⟩), hlw _ _ l2⟩
  · refine ⟨fun q hq => ?_, fun k i h1 h2 h3 h4 => ?_⟩
    · rcases hiE q hq with z | z
      · omega
      · have := sN.1 q z; omega
    · have old : ∀ (k i : Nat), E.2.1 (k / 32) = true → cTag k < 6 → cTag k ≠ 0 → cTag k ≠ 1 → g k i < 0 ∨ E'.2.1 (g k i).toNat = true := by
        intro k i a1 a2 a3 a4
        rcases sN.2 k i a1 a2 a3 a4 with y | y
        · exact Or.inl y
        · exact Or.inr (hvE _ y)
      by_cases hkm : k / 32 = 4
      · have h5 : k % 32 = 14 := by
          have a2 := h2
          have a3 := h3
          have a4 := h4
          unfold cTag at a2 a3 a4
          rw [hkm] at a2 a3 a4
          exact tg1 _ ⟨a2, a3, a4⟩
        have h6 : k = 142 := by omega
        rw [h6, b14, hg1 46 (by decide) (by decide)]
        unfold cpy
        split
        · rw [show (i : Int) - 0 + 0 = i by omega]
          exact old 46 i h1v (by decide) (by decide) (by decide)
        · rcases h14 with ⟨y1, y2⟩ | y
          · have y2 : g1 142 = g 142 := y2
            rw [y2]
            subst y1
            exact old 142 i hvm (by decide) (by decide) (by decide)
          · left
            have y : ∀ i : Int, g1 142 i = -1 := y
            rw [y]; decide
      · have hkE : E.2.1 (k / 32) = true := by
          rcases hiE _ h1 with z | z
          · exact absurd z hkm
          · exact z
        by_cases h33 : k = 3
        · subst h33
          rw [e3']
          by_cases z : (i : Int) = 0
          · rw [z, iu_self]; exact Or.inr hvm
          · rw [iu_ne z]; exact old 3 i hkE h2 h3 h4
        · rw [hg9 k hkm h33]; exact old k i hkE h2 h3 h4

set_option maxHeartbeats 2000000 in
theorem img_1 {E E' : cE} {f f1 f' f2 f2' : mF} {g g1 g' g2 g2' : mA} {n : Nat} (S : Sim E f g f2 g2 n) (hvE : ∀ x, E.2.1 x = true → E'.2.1 x = true) (hiE : ∀ x, E'.2.1 x = true → x = 5 ∨ E.2.1 x = true) (hvm : E'.2.1 5 = true) (h1v : E.2.1 1 = true) (p16 : f' 16 = 0) (hln : ∀ q, q / 32 ≠ 5 → E'.2.2 q = E.2.2 q) (h14 : (E' = E ∧ g1 (32 * 5 + 14) = g (32 * 5 + 14)) ∨ ∀ i : Int, g1 (32 * 5 + 14) i = -1) (hf1 : ∀ q, q / 32 ≠ 5 → f1 q = f q) (hg1 : ∀ q, q / 32 ≠ 5 → q ≠ 3 → g1 q = g q) (e3 : g1 3 = iu (g 3) 1 5) (hb : BcQ 1 5 f1 g1 f' g') (hf3 : ∀ q, q / 32 ≠ 5 → q ≠ 16 → f' q = f1 q) (hg3 : ∀ q, q / 32 ≠ 5 → g' q = g1 q) (yf : eqx [0] f2 f2') (yg : eqx [1, 3, 4] g2 g2') (q2 : f2' 0 = 0) (q3 : g2' 1 = g2 1) (q5 : g2' 3 = cpy (g2 3) (g2 2) (5688 * 1) 0 5688) (q6 : g2' 4 = iu (g2 4) 1 1) : Sim E' f' g' f2' g2' (n + 1) := by
  obtain ⟨⟨hV, hG, hu⟩, sL, sI, sV, sT, sW, sG, sR, sN⟩ := id S
  have hK := hV.1
  have hf9 : ∀ q, q / 32 ≠ 5 → q ≠ 16 → f' q = f q := fun q h1 h2 => (hf3 q h1 h2).trans (hf1 q h1)
  have hg9 : ∀ q, q / 32 ≠ 5 → q ≠ 3 → g' q = g q := fun q h1 h2 => (hg3 q h1).trans (hg1 q h1 h2)
  have eF : ∀ ks : List Nat, (∀ k ∈ ks, k / 32 ≠ 5 ∧ k ≠ 16) → eqL ks f f' := fun ks hh k hk => hf9 k (hh k hk).1 (hh k hk).2
  have eG : ∀ ks : List Nat, (∀ k ∈ ks, k / 32 ≠ 5 ∧ k ≠ 3) → eqL ks g g' := fun ks hh k hk => hg9 k (hh k hk).1 (hh k hk).2
  have e3' : g' 3 = iu (g 3) 1 5 := (hg3 3 (by decide)).trans e3
  have hlw : ∀ (y : Int) (c : List Cla), LwN E f g y c → LwN E' f' g' y c := fun y c hh => hh.n2 (m := 5) (by decide) hvE hln (fun k h1 h2 => hf9 k h2 (by omega)) (fun k h1 h2 => hg9 k h2 (by omega))
  obtain ⟨b0, b5, b7, b9, b13, b15, b1, b2, b3, b4, b6, b8, b10, b11, b12, b14⟩ : f' 160 = f1 32 ∧ f' 165 = f1 37 ∧ f' 167 = f1 39 ∧ f' 169 = f1 41 ∧ f' 173 = f1 45 ∧ f' 175 = f1 47 ∧ g' 161 = cpy (g1 161) (g1 33) 0 0 10 ∧ g' 162 = cpy (g1 162) (g1 34) 0 0 10 ∧ g' 163 = cpy (g1 163) (g1 35) 0 0 10 ∧ g' 164 = cpy (g1 164) (g1 36) 0 0 10 ∧ g' 166 = cpy (g1 166) (g1 38) 0 0 8 ∧ g' 168 = cpy (g1 168) (g1 40) 0 0 3 ∧ g' 170 = cpy (g1 170) (g1 42) 0 0 6 ∧ g' 171 = cpy (g1 171) (g1 43) 0 0 6 ∧ g' 172 = cpy (g1 172) (g1 44) 0 0 3 ∧ g' 174 = cpy (g1 174) (g1 46) 0 0 6 := hb
  have eK : ∀ q, 0 ≤ q → q < 5688 → g2' 3 (5688 * 1 + q) = g2 2 q := by
    intro q q0 q1
    rw [q5]
    unfold cpy
    rw [if_pos (by omega), show 5688 * 1 + q - 5688 * 1 + 0 = q by omega]
  have eO : ∀ q, 0 ≤ q → q < 5688 → g2' 3 (5688 * 0 + q) = g2 3 (5688 * 0 + q) := by
    intro q q0 q1
    rw [q5]
    unfold cpy
    rw [if_neg (by omega)]
  have h79 := hK.2.2.2.2.2.2.2.2.2.2.1
  have sL2 : LwR E' f' g' (g 46) (g2 2) := ⟨fun q q0 q1 => (sL.1 q q0 q1).mono hvE, fun t t0 t1 => by
    obtain ⟨c, l1, l2⟩ := sL.2 t t0 t1
    exact ⟨c, l1, hlw _ _ l2⟩⟩
  refine ⟨S.1.eq (eF _ (by decide)) (eG _ (by decide)) (yf.on (by decide)) (yg.on (by decide)), by unfold cL; rw [hg9 46 (by decide) (by decide), yg 2 (by decide)]; exact sL2, ?_, sV.eq (eF _ (by decide)) (eG _ (by decide)) (yf.on (by decide)) (yg.on (by decide)), sT.eq (eF _ (by decide)) (eG _ (by decide)) (yf.on (by decide)) (yg.on (by decide)), sW.eq (yg.on (by decide)), sG.st p16 q2 (eF _ (by decide)) (yf.on (by decide)), sR.ok (hg9 11 (by decide) (by decide)) q3, ?_⟩
  · unfold cI
    intro k k0 k1
    rcases (show k = 1 ∨ k = 0 by omega) with hkk | hkk
    · subst hkk
      refine Or.inr ⟨by rw [e3', iu_self]; rfl, hvm, by rw [q6, iu_self]; decide, ?_, ?_⟩
      · have hK9 : KOK (fun i => g2' 3 (5688 * 1 + i)) := hK.cg0 (fun q q0 q1 => eK q q0 (by omega))
        show FrV (fun i => g2' 3 (5688 * 1 + i)) (f' 160) (f' 167) (f' 169) (f' 173) (f' 175) (g' 161) (g' 162) (g' 163) (g' 164) (f' 165) (g' 166) (g' 168) (g' 170) (g' 171) (g' 172)
        rw [b0, b5, b7, b9, b13, b15, b1, b2, b3, b4, b6, b8, b10, b11, b12, hf1 32 (by decide), hf1 37 (by decide), hf1 39 (by decide), hf1 41 (by decide), hf1 45 (by decide), hf1 47 (by decide), hg1 33 (by decide) (by decide), hg1 34 (by decide) (by decide), hg1 35 (by decide) (by decide), hg1 36 (by decide) (by decide), hg1 38 (by decide) (by decide), hg1 40 (by decide) (by decide), hg1 42 (by decide) (by decide), hg1 43 (by decide) (by decide), hg1 44 (by decide) (by decide)]
        exact FrV.cg (FrV.cp hV) (fun q q0 q1 => eK q q0 (by omega)) hK9
      · show LwR E' f' g' (g' 174) (fun i => g2' 3 (5688 * 1 + i))
        rw [b14, hg1 46 (by decide) (by decide)]
        refine ⟨fun q q0 q1 => by rw [cpy_at q0 q1]; exact sL2.1 q q0 q1, fun t t0 t1 => ?_⟩
        have t1 : t < g2' 3 (5688 * 1 + 79) := t1
        rw [eK 79 (by decide) (by decide)] at t1
        obtain ⟨c, l1, l2⟩ := sL2.2 t t0 t1
        refine ⟨c, LawAt_cg l1 (eK _ (by omega) (by omega)) (fun i i0 i1 => ⟨eK _ (by omega) (by omega), eK _ (by omega) (by omega)⟩), ?_⟩
        rw [cpy_at t0 (by omega)]
        exact l2
    · subst hkk
      rcases sI 0 (by decide) (by decide) with ⟨z1, z2, z3⟩ | ⟨z1, z2, z3, z4, z5⟩
      · refine Or.inl ⟨by rw [e3', iu_ne (by decide)]; exact z1, ?_, by rw [q6, iu_ne (by decide)]; exact z3⟩
        show E'.2.1 4 = false
        cases hq : E'.2.1 4 with
        | false => rfl
        | true =>
          rcases hiE _ hq with y | y
          · exact absurd y (by decide)
          · have z2 : E.2.1 4 = false := z2
            rw [z2] at y; cases y
      · refine Or.inr ⟨by rw [e3', iu_ne (by decide)]; exact z1, hvE _ z2, by rw [q6, iu_ne (by decide)]; exact z3, ?_, ?_⟩
        · have z4 : FrV (fun i => g2 3 (5688 * 0 + i)) (f 128) (f 135) (f 137) (f 141) (f 143) (g 129) (g 130) (g 131) (g 132) (f 133) (g 134) (g 136) (g 138) (g 139) (g 140) := z4
          have hK9 : KOK (fun i => g2' 3 (5688 * 0 + i)) := z4.1.cg0 (fun q q0 q1 => eO q q0 (by omega))
          show FrV (fun i => g2' 3 (5688 * 0 + i)) (f' 128) (f' 135) (f' 137) (f' 141) (f' 143) (g' 129) (g' 130) (g' 131) (g' 132) (f' 133) (g' 134) (g' 136) (g' 138) (g' 139) (g' 140)
          rw [hf9 128 (by decide) (by decide), hf9 135 (by decide) (by decide), hf9 137 (by decide) (by decide), hf9 141 (by decide) (by decide), hf9 143 (by decide) (by decide), hf9 133 (by decide) (by decide), hg9 129 (by decide) (by decide), hg9 130 (by decide) (by decide), hg9 131 (by decide) (by decide), hg9 132 (by decide) (by decide), hg9 134 (by decide) (by decide), hg9 136 (by decide) (by decide), hg9 138 (by decide) (by decide), hg9 139 (by decide) (by decide), hg9 140 (by decide) (by decide)]
          exact FrV.cg z4 (fun q q0 q1 => eO q q0 (by omega)) hK9
        · have z5 : LwR E f g (g 142) (fun i => g2 3 (5688 * 0 + i)) := z5
          have k79 : g2 3 (5688 * 0 + 79) ≤ 6 := z4.1.2.2.2.2.2.2.2.2.2.2.1.2
          show LwR E' f' g' (g' 142) (fun i => g2' 3 (5688 * 0 + i))
          rw [hg9 142 (by decide) (by decide)]
          refine ⟨fun q q0 q1 => (z5.1 q q0 q1).mono hvE, fun t t0 t1 => ?_⟩
          have t1 : t < g2' 3 (5688 * 0 + 79) := t1
          rw [eO 79 (by decide) (by decide)] at t1
          obtain ⟨c, l1, l2⟩ := z5.2 t t0 t1
          exact ⟨c, LawAt_cg l1 (eO _ (by omega) (by omega)) (fun i i0 i1 => ⟨eO _ (by omega) (by omega), eO _ (by omega) (by omega)⟩), hlw _ _ l2⟩
  · refine ⟨fun q hq => ?_, fun k i h1 h2 h3 h4 => ?_⟩
    · rcases hiE q hq with z | z
      · omega
      · have := sN.1 q z; omega
    · have old : ∀ (k i : Nat), E.2.1 (k / 32) = true → cTag k < 6 → cTag k ≠ 0 → cTag k ≠ 1 → g k i < 0 ∨ E'.2.1 (g k i).toNat = true := by
        intro k i a1 a2 a3 a4
        rcases sN.2 k i a1 a2 a3 a4 with y | y
        · exact Or.inl y
        · exact Or.inr (hvE _ y)
      by_cases hkm : k / 32 = 5
      · have h5 : k % 32 = 14 := by
          have a2 := h2
          have a3 := h3
          have a4 := h4
          unfold cTag at a2 a3 a4
          rw [hkm] at a2 a3 a4
          exact tg1 _ ⟨a2, a3, a4⟩
        have h6 : k = 174 := by omega
        rw [h6, b14, hg1 46 (by decide) (by decide)]
        unfold cpy
        split
        · rw [show (i : Int) - 0 + 0 = i by omega]
          exact old 46 i h1v (by decide) (by decide) (by decide)
        · rcases h14 with ⟨y1, y2⟩ | y
          · have y2 : g1 174 = g 174 := y2
            rw [y2]
            subst y1
            exact old 174 i hvm (by decide) (by decide) (by decide)
          · left
            have y : ∀ i : Int, g1 174 i = -1 := y
            rw [y]; decide
      · have hkE : E.2.1 (k / 32) = true := by
          rcases hiE _ h1 with z | z
          · exact absurd z hkm
          · exact z
        by_cases h33 : k = 3
        · subst h33
          rw [e3']
          by_cases z : (i : Int) = 1
          · rw [z, iu_self]; exact Or.inr hvm
          · rw [iu_ne z]; exact old 3 i hkE h2 h3 h4
        · rw [hg9 k hkm h33]; exact old k i hkE h2 h3 h4

set_option maxHeartbeats 1000000 in
theorem s_image {l : Launch} {o : Nat} {ar : Nat → Nat} {E : cE} {f : mF} {g j : mA} {f2 : mF} {g2 j2 : mA} {n : Nat} {h : zH} {k : Int} (hk : zIn k) (hn : n ≤ 1000) (S : Sim E f g f2 g2 n) (B : BH E f g j o ar f2 g2 j2 h) : Cal l o ar E f2 g2 j2 n h MX7_image MX8_image [vI k] vI zIn := by
  obtain ⟨⟨hV, hG, hu⟩, sL, sI, sV, sT, sW, sG, sR, sN⟩ := id S
  obtain ⟨hK, ⟨e76, e77, e78, e79, e80⟩, hP, hz, hMt, hLt, hsk, t0, t1, t2⟩ := id hV
  have hS : z31 (f 354) := ⟨B.1.2.2.2.2.2.2.1.2, (B.1.2.2.2.2.2.2.1.1 354).2⟩
  have hbR : ∀ i, g 11 i ≤ 100000 := fun i => by have := sR.2.1 i; omega
  have hbX : ∀ i, g2 1 i ≤ 100000 := fun i => by have := sR.2.2 i; omega
  have hu16 := hG.1
  have hX : ∀ k : Int, 0 ≤ k → k ≤ 1 → (g 3 k = -1 ∧ E.2.1 (4 + k.toNat) = false ∧ ∀ (q i : Nat), E.2.1 (q / 32) = true → cTag q < 6 → cTag q ≠ 0 → cTag q ≠ 1 → g q i < 0 ∨ (g q i).toNat ≠ 4 + k.toNat) ∨ (g 3 k = 4 + k ∧ E.2.1 (4 + k.toNat) = true) := by
    intro k k0 k1
    rcases sI k k0 k1 with z | z
    · refine Or.inl ⟨z.1, z.2.1, fun q i a1 a2 a3 a4 => ?_⟩
      rcases sN.2 q i a1 a2 a3 a4 with y | y
      · exact Or.inl y
      · right
        intro w
        rw [w, z.2.1] at y
        cases y
    · exact Or.inr ⟨z.1, z.2.1⟩
  have hM := m_image (l := l) (o := o) (ar := ar) (f := f2) (g := g2) (j := j2) rfl rfl rfl rfl hk hbX
  refine ⟨11, 88, _, ⟨by decide, by decide⟩, c_image (d := 1000) (by decide) hk hbR rfl rfl rfl sL.1 hX B.1, fun v h' hv => ?_⟩
  obtain ⟨r, ev, rz, hv⟩ := hv
  rcases hv with ⟨f', g', ⟨p0, p1, p16, p11⟩, xf, xg, hH, hA⟩ | ⟨p0, pr, m, E', f1, g1, j', f', g', hm, hH, hE, hvm, hFr, p16, ⟨hln, h14⟩, hf1, hg1, e3, hj, hb, hf3, hg3⟩
  · have B' := B.cl hH hA
    refine ⟨r, E, f', g', j, ev, rz, rfl, B', _, hM 1000 (by decide) h' B'.2.1, fun v2 h2 hv2 => ?_⟩
    obtain ⟨f2', g2', j2', H2, A2, r2, ev2, rz2, q, yf, yg, -⟩ := hv2
    rcases q with ⟨q0, ⟨q1, q2, q3⟩, q5, q6⟩ | ⟨q0, -⟩
    · rw [p1] at p16 p11
      have yg := (yg.dr 3 q5).dr 4 q6
      exact ⟨by rw [ev2, q1, p1], f2', g2', j2', B'.rf H2 A2, S.mk0 xf xg yf yg (S.1.eq (xf.on (by decide)) (xg.on (by decide)) (yf.on (by decide)) (yg.on (by decide))) (xg 46 (by decide)) (congrFun (yg 2 (by decide)) 79) (fun i _ => congrFun (yg 2 (by decide)) i) (sG.st p16 q2 (xf.on (by decide)) (yf.on (by decide))) (sR.bu p11 q3 (by decide)) (by decide) (by decide) (by decide) (by decide)⟩
    · exact absurd q0 p0
  · have hvE : ∀ x, E.2.1 x = true → E'.2.1 x = true := by
      rcases hE with z | ⟨b, z⟩
      · rw [z]; exact fun _ y => y
      · exact z.2.2.1
    have hiE : ∀ x, E'.2.1 x = true → x = m ∨ E.2.1 x = true := by
      rcases hE with z | ⟨b, z⟩
      · rw [z]; exact fun _ y => Or.inr y
      · exact z.1
    have h31 : E'.1 31 = E.1 31 := by
      rcases hE with z | ⟨b, z⟩
      · rw [z]
      · exact z.2.2.2.2.1 31 (by omega)
    have B' : BH E' f' g' j' o ar f2 g2 j2 h' := by
      rcases hE with z | ⟨b, z⟩
      · subst z; exact B.st hH hFr
      · exact B.nw hH z hFr
    refine ⟨r, E', f', g', j', ev, rz, h31, B', _, hM 1000 (by decide) h' B'.2.1, fun v2 h2 hv2 => ?_⟩
    obtain ⟨f2', g2', j2', H2, A2, r2, ev2, rz2, q, yf, yg, -⟩ := hv2
    rcases q with ⟨q0, -⟩ | ⟨q0, ⟨q1, q2, q3⟩, q5, q6⟩
    · exact absurd p0 q0
    rcases (show k = 0 ∨ k = 1 by omega) with hkk | hkk
    · subst hkk
      have hm4 : m = 4 := by omega
      subst hm4
      exact ⟨by rw [ev2, q1, pr], f2', g2', j2', B'.rf H2 A2, img_0 S hvE hiE hvm (B.1.2.2.2.1 1 (by decide) (by decide) (by decide)) p16 hln h14 hf1 hg1 e3 hb hf3 hg3 yf yg q2 q3 q5 q6⟩
    · subst hkk
      have hm4 : m = 5 := by omega
      subst hm4
      exact ⟨by rw [ev2, q1, pr], f2', g2', j2', B'.rf H2 A2, img_1 S hvE hiE hvm (B.1.2.2.2.1 1 (by decide) (by decide) (by decide)) p16 hln h14 hf1 hg1 e3 hb hf3 hg3 yf yg q2 q3 q5 q6⟩

