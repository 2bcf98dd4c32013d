/-! ===== the class and the reference alike: calls that change something ===== -/
theorem Sim.mk0 {fm gm fm2 gm2 : List Nat} {E : cE} {f f' f2 f2' : mF} {g g' g2 g2' : mA} {n : Nat} (S : Sim E f g f2 g2 n) (xf : eqx fm f f') (xg : eqx gm g g') (yf : eqx fm2 f2 f2') (yg : eqx gm2 g2 g2') (hF : cF f' g' f2' g2') (e46 : g' 46 = g 46) (e79 : g2' 2 79 = g2 2 79) (e81 : ∀ i, 81 ≤ i → g2' 2 i = g2 2 i) (hG : cG f' f2') (hR : cR g' g2' (n + 1)) (hf : ∀ k ∈ fm, (k < 128 ∨ (192 ≤ k ∧ k < 512)) ∧ k ∉ [96, 101, 256]) (hg : ∀ k ∈ gm, (k ≠ 3 ∧ (k < 128 ∨ (192 ≤ k ∧ k < 512))) ∧ k ∉ [102, 257] ∧ tgR k = false) (hf2 : ∀ k ∈ fm2, k ∉ [48, 13]) (hg2 : ∀ k ∈ gm2, k ∉ [3, 4, 47, 11, 7]) : Sim E f' g' f2' g2' (n + 1) := by
  obtain ⟨sF, sL, sI, sV, sT, sW, sG, sR, sN⟩ := S
  have b1 : ∀ ks : List Nat, (∀ k ∈ ks, k ∈ [96, 101, 256]) → eqL ks f f' := fun ks h k hk => xf k (fun z => (hf k z).2 (h k hk))
  have b2 : ∀ ks : List Nat, (∀ k ∈ ks, k ∈ [102, 257]) → eqL ks g g' := fun ks h k hk => xg k (fun z => (hg k z).2.1 (h k hk))
  have b3 : ∀ ks : List Nat, (∀ k ∈ ks, k ∈ [48, 13]) → eqL ks f2 f2' := fun ks h k hk => yf k (fun z => hf2 k z (h k hk))
  have b4 : ∀ ks : List Nat, (∀ k ∈ ks, k ∈ [3, 4, 47, 11, 7]) → eqL ks g2 g2' := fun ks h k hk => yg k (fun z => hg2 k z (h k hk))
  exact ⟨hF, sL.mv xf xg (fun k hk => by have := (hf k hk).1; omega) (fun k hk => by have := (hg k hk).1.2; omega) (fun k hk => by rw [List.mem_singleton.mp hk]; exact e46) e79 e81, sI.eq xf xg (fun k hk => (hf k hk).1) (fun k hk => (hg k hk).1) (b4 _ (by decide)), sV.eq (b1 _ (by decide)) (b2 _ (by decide)) (b3 _ (by decide)) (b4 _ (by decide)), sT.eq (b1 _ (by decide)) (b2 _ (by decide)) (b3 _ (by decide)) (b4 _ (by decide)), sW.eq (b4 _ (by decide)), hG, hR, sN.eq xg (fun k hk => (hg k hk).2.2)⟩
theorem KOK.top {K K' : Int → Int} (h : KOK K) (R : ∀ q, q < 59 → K' q = K q) (e76 : K' 76 = K 76) (a77 : 0 ≤ K' 77 ∧ K' 77 ≤ 3) (l : ∀ i, 0 ≤ i → i < K' 77 → 0 ≤ K' (59 + i) ∧ K' (59 + i) ≤ 1023) (a78 : 0 ≤ K' 78 ∧ K' 78 ≤ 6) (s : ∀ i, 0 ≤ i → i < K' 78 → (0 ≤ K' (62 + 2 * i) ∧ K' (62 + 2 * i) ≤ 7) ∧ 0 ≤ K' (62 + 2 * i + 1) ∧ K' (62 + 2 * i + 1) ≤ 999) (a74 : 0 ≤ K' 74 ∧ K' 74 ≤ 10) (a75 : 0 ≤ K' 75 ∧ K' 75 ≤ 9) (a79 : 0 ≤ K' 79 ∧ K' 79 ≤ 6) (a80 : -1 ≤ K' 80 ∧ K' 80 ≤ K' 79 - 1) : KOK K' := by
  have hn := h.1
  refine ⟨by rw [e76]; exact h.1, fun i i0 i1 => ?_, fun k k0 k1 => by rw [R (20 + k) (by omega)]; exact h.2.2.1 k k0 k1, by rw [R 28 (by decide)]; exact h.2.2.2.1, a77, l, a78, s, a74, a75, a79, a80⟩
  rw [e76] at i1
  rw [R i (by omega), R (10 + i) (by omega), R (29 + i) (by omega), R (39 + i) (by omega), R (49 + i) (by omega)]
  exact h.2.1 i i0 i1
theorem FrV.top {K : Int → Int} {n lt sn lw fo dp : Int} {Fr To Ln Kd Mt Lt Sk Ss Tm : Int → Int} {K' : Int → Int} {lt' sn' lw' fo' : Int} {Lt' Sk' Ss' Tm' : Int → Int} (h : FrV K n lt sn lw fo Fr To Ln Kd dp Mt Lt Sk Ss Tm) (hK : KOK K') (R : ∀ q, q < 59 → K' q = K q) (e76 : K' 76 = K 76) (e : lt' = K' 77 ∧ sn' = K' 78 ∧ lw' = K' 79 ∧ fo' = K' 80) (hl : ∀ i : Int, 0 ≤ i → i < K' 77 → Lt' i = K' (59 + i)) (hs : ∀ i : Int, 0 ≤ i → i < K' 78 → Sk' i = K' (62 + 2 * i) ∧ Ss' i = K' (62 + 2 * i + 1)) (ht : Tm' 0 = K' 28 ∧ Tm' 1 = K' 74 ∧ Tm' 2 = K' 75) : FrV K' n lt' sn' lw' fo' Fr To Ln Kd dp Mt Lt' Sk' Ss' Tm' := by
  obtain ⟨hK0, ⟨e1, -⟩, ⟨f0, f1⟩, hz, m1, -⟩ := h
  have hn := hK0.1
  refine ⟨hK, ⟨by rw [e76]; exact e1, e⟩, ⟨f0, fun i i0 i1 => ?_⟩, by rw [e76]; exact hz, fun k k0 k1 => by rw [R (20 + k) (by omega)]; exact m1 k k0 k1, hl, hs, ht⟩
  rw [e76] at i1
  rw [R (29 + i) (by omega), R (39 + i) (by omega), R (10 + i) (by omega), R (49 + i) (by omega), R i (by omega)]
  exact f1 i i0 i1
theorem FrV.letter {K : Int → Int} {n lt sn lw fo dp : Int} {Fr To Ln Kd Mt Lt Sk Ss Tm : Int → Int} {s : Int} (h : FrV K n lt sn lw fo Fr To Ln Kd dp Mt Lt Sk Ss Tm) (s0 : 0 ≤ s) (s1 : s ≤ 1023) (hl : K 77 < 3) : FrV (iu (iu K (59 + K 77) s) 77 (K 77 + 1)) n (lt + 1) sn lw fo Fr To Ln Kd dp Mt (iu Lt lt s) Sk Ss Tm := by
  obtain ⟨hK, ⟨e1, e2, e3, e4, e5⟩, hP, hz, hM, hL, hk, t0, t1, t2⟩ := id h
  have h77 := hK.2.2.2.2.1
  have h78 := hK.2.2.2.2.2.2.1
  obtain ⟨m, hm⟩ : ∃ z, z = K 77 := ⟨_, rfl⟩
  rw [← hm] at h77 hl ⊢
  have key : ∀ q, q ≠ 77 → q ≠ 59 + m → iu (iu K (59 + m) s) 77 (m + 1) q = K q := fun q a b => by rw [iu_ne a, iu_ne b]
  have k77 : iu (iu K (59 + m) s) 77 (m + 1) 77 = m + 1 := iu_self _ _ _
  have k59 : iu (iu K (59 + m) s) 77 (m + 1) (59 + m) = s := by rw [iu_ne (by omega), iu_self]
  have R : ∀ q, q < 59 → iu (iu K (59 + m) s) 77 (m + 1) q = K q := fun q hq => key q (by omega) (by omega)
  have e76 : iu (iu K (59 + m) s) 77 (m + 1) 76 = K 76 := key 76 (by decide) (by omega)
  have e78 : iu (iu K (59 + m) s) 77 (m + 1) 78 = K 78 := key 78 (by decide) (by omega)
  have e79 : iu (iu K (59 + m) s) 77 (m + 1) 79 = K 79 := key 79 (by decide) (by omega)
  have e80 : iu (iu K (59 + m) s) 77 (m + 1) 80 = K 80 := key 80 (by decide) (by omega)
  have e74 : iu (iu K (59 + m) s) 77 (m + 1) 74 = K 74 := key 74 (by decide) (by omega)
  have e75 : iu (iu K (59 + m) s) 77 (m + 1) 75 = K 75 := key 75 (by decide) (by omega)
  have sn6 : ∀ i, 0 ≤ i → i < K 78 → iu (iu K (59 + m) s) 77 (m + 1) (62 + 2 * i) = K (62 + 2 * i) ∧ iu (iu K (59 + m) s) 77 (m + 1) (62 + 2 * i + 1) = K (62 + 2 * i + 1) := fun i i0 i1 => ⟨key _ (by omega) (by omega), key _ (by omega) (by omega)⟩
  generalize iu (iu K (59 + m) s) 77 (m + 1) = K' at *
  refine h.top ?_ R e76 ⟨by omega, by omega, by omega, by omega⟩ (fun i i0 i1 => ?_) (fun i i0 i1 => ?_) ⟨by rw [R 28 (by decide)]; exact t0, by omega, by omega⟩
  · refine KOK.top hK R e76 (by omega) (fun i i0 i1 => ?_) (by omega) (fun i i0 i1 => ?_) (by rw [e74]; exact hK.2.2.2.2.2.2.2.2.1) (by rw [e75]; exact hK.2.2.2.2.2.2.2.2.2.1) (by rw [e79]; exact hK.2.2.2.2.2.2.2.2.2.2.1) (by rw [e80, e79]; exact hK.2.2.2.2.2.2.2.2.2.2.2)
    · by_cases z : i = m
      · rw [z, k59]; exact ⟨s0, s1⟩
      · rw [key _ (by omega) (by omega)]; exact hK.2.2.2.2.2.1 i i0 (by omega)
    · rw [(sn6 i i0 (by omega)).1, (sn6 i i0 (by omega)).2]; exact hK.2.2.2.2.2.2.2.1 i i0 (by omega)
  · by_cases z : i = m
    · rw [z, k59, show m = lt by omega, iu_self]
    · rw [key _ (by omega) (by omega), iu_ne (by omega)]; exact hL i i0 (by omega)
  · rw [(sn6 i i0 (by omega)).1, (sn6 i i0 (by omega)).2]; exact hk i i0 (by omega)
theorem FrV.seen {K : Int → Int} {n lt sn lw fo dp : Int} {Fr To Ln Kd Mt Lt Sk Ss Tm : Int → Int} {k s : Int} (h : FrV K n lt sn lw fo Fr To Ln Kd dp Mt Lt Sk Ss Tm) (k0 : 0 ≤ k) (k7 : k ≤ 7) (s0 : 0 ≤ s) (s1 : s ≤ 999) (hl : K 78 < 6) : FrV (iu (iu (iu K (62 + 2 * K 78) k) (62 + 2 * K 78 + 1) s) 78 (K 78 + 1)) n lt (sn + 1) lw fo Fr To Ln Kd dp Mt Lt (iu Sk sn k) (iu Ss sn s) Tm := by
  obtain ⟨hK, ⟨e1, e2, e3, e4, e5⟩, hP, hz, hM, hL, hk, t0, t1, t2⟩ := id h
  have h77 := hK.2.2.2.2.1
  have h78 := hK.2.2.2.2.2.2.1
  obtain ⟨m, hm⟩ : ∃ z, z = K 78 := ⟨_, rfl⟩
  rw [← hm] at h78 hl ⊢
  have key : ∀ q, q ≠ 78 → q ≠ 62 + 2 * m → q ≠ 62 + 2 * m + 1 → iu (iu (iu K (62 + 2 * m) k) (62 + 2 * m + 1) s) 78 (m + 1) q = K q := fun q a b c => by rw [iu_ne a, iu_ne c, iu_ne b]
  have k78 : iu (iu (iu K (62 + 2 * m) k) (62 + 2 * m + 1) s) 78 (m + 1) 78 = m + 1 := iu_self _ _ _
  have k62 : iu (iu (iu K (62 + 2 * m) k) (62 + 2 * m + 1) s) 78 (m + 1) (62 + 2 * m) = k := by rw [iu_ne (by omega), iu_ne (by omega), iu_self]
  have k63 : iu (iu (iu K (62 + 2 * m) k) (62 + 2 * m + 1) s) 78 (m + 1) (62 + 2 * m + 1) = s := by rw [iu_ne (by omega), iu_self]
  generalize iu (iu (iu K (62 + 2 * m) k) (62 + 2 * m + 1) s) 78 (m + 1) = K' at *
  have R : ∀ q, q < 59 → K' q = K q := fun q hq => key q (by omega) (by omega) (by omega)
  have e76 : K' 76 = K 76 := key 76 (by decide) (by omega) (by omega)
  have e77 : K' 77 = K 77 := key 77 (by decide) (by omega) (by omega)
  have e79 : K' 79 = K 79 := key 79 (by decide) (by omega) (by omega)
  have e80 : K' 80 = K 80 := key 80 (by decide) (by omega) (by omega)
  have e74 : K' 74 = K 74 := key 74 (by decide) (by omega) (by omega)
  have e75 : K' 75 = K 75 := key 75 (by decide) (by omega) (by omega)
  have l6 : ∀ i, 0 ≤ i → i < K 77 → K' (59 + i) = K (59 + i) := fun i i0 i1 => key _ (by omega) (by omega) (by omega)
  refine h.top ?_ R e76 ⟨by omega, by omega, by omega, by omega⟩ (fun i i0 i1 => by rw [l6 i i0 (by omega)]; exact hL i i0 (by omega)) (fun i i0 i1 => ?_) ⟨by rw [R 28 (by decide)]; exact t0, by omega, by omega⟩
  · refine KOK.top hK R e76 (by omega) (fun i i0 i1 => by rw [l6 i i0 (by omega)]; exact hK.2.2.2.2.2.1 i i0 (by omega)) (by omega) (fun i i0 i1 => ?_) (by rw [e74]; exact hK.2.2.2.2.2.2.2.2.1) (by rw [e75]; exact hK.2.2.2.2.2.2.2.2.2.1) (by rw [e79]; exact hK.2.2.2.2.2.2.2.2.2.2.1) (by rw [e80, e79]; exact hK.2.2.2.2.2.2.2.2.2.2.2)
    by_cases z : i = m
    · rw [z, k62, k63]; exact ⟨⟨k0, k7⟩, s0, s1⟩
    · rw [key (62 + 2 * i) (by omega) (by omega) (by omega), key (62 + 2 * i + 1) (by omega) (by omega) (by omega)]; exact hK.2.2.2.2.2.2.2.1 i i0 (by omega)
  · by_cases z : i = m
    · rw [z, k62, k63, show m = sn by omega, iu_self, iu_self]; exact ⟨rfl, rfl⟩
    · rw [key (62 + 2 * i) (by omega) (by omega) (by omega), key (62 + 2 * i + 1) (by omega) (by omega) (by omega), iu_ne (by omega), iu_ne (by omega)]; exact hk i i0 (by omega)
/-- one number above 58 changed -/
theorem FrV.one {K : Int → Int} {n lt sn lw fo dp : Int} {Fr To Ln Kd Mt Lt Sk Ss Tm : Int → Int} {p v : Int} {lt' sn' lw' fo' : Int} {Tm' : Int → Int} (h : FrV K n lt sn lw fo Fr To Ln Kd dp Mt Lt Sk Ss Tm) (hp : (p = 78 ∧ v = 0) ∨ (p = 80 ∧ -1 ≤ v ∧ v ≤ K 79 - 1) ∨ (p = 74 ∧ 0 ≤ v ∧ v ≤ 10) ∨ (p = 75 ∧ 0 ≤ v ∧ v ≤ 9)) (e : lt' = lt ∧ sn' = (if p = 78 then v else sn) ∧ lw' = lw ∧ fo' = (if p = 80 then v else fo)) (ht : Tm' 0 = Tm 0 ∧ Tm' 1 = (if p = 74 then v else Tm 1) ∧ Tm' 2 = (if p = 75 then v else Tm 2)) : FrV (iu K p v) n lt' sn' lw' fo' Fr To Ln Kd dp Mt Lt Sk Ss Tm' := by
  obtain ⟨hK, ⟨e1, e2, e3, e4, e5⟩, hP, hz, hM, hL, hk, t0, t1, t2⟩ := id h
  obtain ⟨q1, q2, q3, q4⟩ := e
  obtain ⟨w0, w1, w2⟩ := ht
  have h77 := hK.2.2.2.2.1
  have h78 := hK.2.2.2.2.2.2.1
  have h74 := hK.2.2.2.2.2.2.2.2.1
  have h75 := hK.2.2.2.2.2.2.2.2.2.1
  have h79 := hK.2.2.2.2.2.2.2.2.2.2.1
  have h80 := hK.2.2.2.2.2.2.2.2.2.2.2
  have key : ∀ q, q ≠ p → iu K p v q = K q := fun q a => iu_ne a
  have kp : iu K p v p = v := iu_self _ _ _
  generalize iu K p v = K' at *
  have R : ∀ q, q < 59 → K' q = K q := fun q hq => key q (by omega)
  have e76 : K' 76 = K 76 := key 76 (by omega)
  have e77 : K' 77 = K 77 := key 77 (by omega)
  have e79 : K' 79 = K 79 := key 79 (by omega)
  have l6 : ∀ i, 0 ≤ i → i < K 77 → K' (59 + i) = K (59 + i) := fun i i0 i1 => key _ (by omega)
  have s6 : ∀ i, 0 ≤ i → i < K 78 → K' (62 + 2 * i) = K (62 + 2 * i) ∧ K' (62 + 2 * i + 1) = K (62 + 2 * i + 1) := fun i i0 i1 => ⟨key _ (by omega), key _ (by omega)⟩
  have z78 : K' 78 = if p = 78 then v else K 78 := by
    by_cases z : p = 78
    · rw [if_pos z, ← z, kp]
    · rw [if_neg z]; exact key 78 (fun y => z y.symm)
  have z80 : K' 80 = if p = 80 then v else K 80 := by
    by_cases z : p = 80
    · rw [if_pos z, ← z, kp]
    · rw [if_neg z]; exact key 80 (fun y => z y.symm)
  have z74 : K' 74 = if p = 74 then v else K 74 := by
    by_cases z : p = 74
    · rw [if_pos z, ← z, kp]
    · rw [if_neg z]; exact key 74 (fun y => z y.symm)
  have z75 : K' 75 = if p = 75 then v else K 75 := by
    by_cases z : p = 75
    · rw [if_pos z, ← z, kp]
    · rw [if_neg z]; exact key 75 (fun y => z y.symm)
  have c78 : (0 ≤ K' 78 ∧ K' 78 ≤ 6) ∧ K' 78 ≤ K 78 := by rw [z78]; split <;> omega
  refine h.top ?_ R e76 ⟨by omega, by rw [q2, z78, e3], by omega, by rw [q4, z80, e5]⟩ (fun i i0 i1 => by rw [l6 i i0 (by omega)]; exact hL i i0 (by omega)) (fun i i0 i1 => by rw [(s6 i i0 (by omega)).1, (s6 i i0 (by omega)).2]; exact hk i i0 (by omega)) ⟨by rw [w0, R 28 (by decide)]; exact t0, by rw [w1, z74, t1], by rw [w2, z75, t2]⟩
  exact KOK.top hK R e76 (by omega) (fun i i0 i1 => by rw [l6 i i0 (by omega)]; exact hK.2.2.2.2.2.1 i i0 (by omega)) c78.1 (fun i i0 i1 => by rw [(s6 i i0 (by omega)).1, (s6 i i0 (by omega)).2]; exact hK.2.2.2.2.2.2.2.1 i i0 (by omega)) (by rw [z74]; split <;> omega) (by rw [z75]; split <;> omega) (by omega) (by rw [z80]; split <;> omega)
theorem add_at {K : Int → Int} {a b c e q : Int} (h : q ≠ 76 ∧ q ≠ K 76 ∧ q ≠ 49 + K 76 ∧ q ≠ 10 + K 76 ∧ q ≠ 39 + K 76 ∧ q ≠ 29 + K 76) : addK K a b c e q = K q := by
  unfold addK
  rw [iu_ne (by omega), iu_ne (by omega), iu_ne (by omega), iu_ne (by omega), iu_ne (by omega), iu_ne (by omega)]
theorem FrV.fuse {K : Int → Int} {n lt sn lw fo dp : Int} {Fr To Ln Kd Mt Lt Sk Ss Tm : Int → Int} {a b c e : Int} (h : FrV K n lt sn lw fo Fr To Ln Kd dp Mt Lt Sk Ss Tm) (hc : canF a b c e) (n1 : K 76 < 10) : FrV (addK K a b c e) (n + 1) lt sn lw fo (iu Fr n a) (iu To n b) (iu Ln n c) (iu Kd n e) dp Mt Lt Sk Ss Tm := by
  obtain ⟨hK, ⟨e1, e2, e3, e4, e5⟩, ⟨f0, f1⟩, hz, hM, hL, hk, t0, t1, t2⟩ := id h
  have hn := hK.1
  have h77 := hK.2.2.2.2.1
  have h78 := hK.2.2.2.2.2.2.1
  have k76 : addK K a b c e 76 = K 76 + 1 := by unfold addK; exact iu_self _ _ _
  have top : ∀ q, 20 ≤ q → q < 29 ∨ (59 ≤ q ∧ q ≠ 76) → addK K a b c e q = K q := fun q h1 h2 => add_at (by omega)
  refine ⟨KOK_addK hK n1 hc, ⟨by omega, by rw [top 77 (by decide) (by decide)]; exact e2, by rw [top 78 (by decide) (by decide)]; exact e3, by rw [top 79 (by decide) (by decide)]; exact e4, by rw [top 80 (by decide) (by decide)]; exact e5⟩, ⟨f0, fun i i0 i1 => ?_⟩, fun i i0 i1 => hz i (by omega) i1, fun k k0 k1 => by rw [top (20 + k) (by omega) (by omega)]; exact hM k k0 k1, fun i i0 i1 => ?_, fun i i0 i1 => ?_, by rw [top 28 (by decide) (by decide)]; exact t0, by rw [top 74 (by decide) (by decide)]; exact t1, by rw [top 75 (by decide) (by decide)]; exact t2⟩
  · rw [k76] at i1
    by_cases z : i = K 76
    · have zn : i = n := by omega
      rw [zn, iu_self, iu_self, iu_self, iu_self, ← zn, z]
      have nb := hz (K 76) (by omega) (by omega)
      unfold addK
      refine ⟨?_, ?_, ?_, ?_, ?_⟩
      · rw [iu_ne (by omega), iu_ne (by omega), iu_ne (by omega), iu_ne (by omega), iu_ne (by omega), iu_self]
      · rw [iu_ne (by omega), iu_ne (by omega), iu_ne (by omega), iu_ne (by omega), iu_self]
      · rw [iu_ne (by omega), iu_ne (by omega), iu_ne (by omega), iu_self]
      · rw [iu_ne (by omega), iu_ne (by omega), iu_self]
      · rw [iu_ne (by omega), show (0 : Int) + K 76 = K 76 by omega, iu_self]
        exact ⟨fun y => absurd y nb, fun y => by omega⟩
    · rw [iu_ne (by omega), iu_ne (by omega), iu_ne (by omega), iu_ne (by omega), add_at (q := 29 + i) (by omega), add_at (q := 39 + i) (by omega), add_at (q := 10 + i) (by omega), add_at (q := 49 + i) (by omega), add_at (q := i) (by omega)]
      exact f1 i i0 (by omega)
  · rw [top 77 (by decide) (by decide)] at i1
    rw [top (59 + i) (by omega) (by omega)]; exact hL i i0 i1
  · rw [top 78 (by decide) (by decide)] at i1
    rw [top (62 + 2 * i) (by omega) (by omega), top (62 + 2 * i + 1) (by omega) (by omega)]; exact hk i i0 i1
theorem rowN_top {tp K : Int → Int} {y : Int} (hK : KOK K) : ∀ m : Nat, KOK (rowN tp (K, 0, y) m).1 ∧ (∀ q, (20 ≤ q ∧ q < 29) ∨ (59 ≤ q ∧ q ≠ 76) → (rowN tp (K, 0, y) m).1 q = K q) := by
  intro m
  induction m with
  | zero => exact ⟨hK, fun _ _ => rfl⟩
  | succ m ih =>
    show KOK (rowStep tp (4 * (m : Int)) (rowN tp (K, 0, y) m)).1 ∧ (∀ q, (20 ≤ q ∧ q < 29) ∨ (59 ≤ q ∧ q ≠ 76) → (rowStep tp (4 * (m : Int)) (rowN tp (K, 0, y) m)).1 q = K q)
    unfold rowStep
    split
    · rename_i hc
      have hn := ih.1.1
      refine ⟨KOK_addK ih.1 hc.1 hc.2, fun q hq => ?_⟩
      show addK (rowN tp (K, 0, y) m).1 _ _ _ _ q = K q
      rw [add_at (by omega)]
      exact ih.2 q hq
    · exact ih

set_option maxHeartbeats 1000000 in
theorem s_letter {l : Launch} {o : Nat} {ar : Nat → Nat} {E : cE} {f : mF} {g j : mA} {f2 : mF} {g2 j2 : mA} {n : Nat} {h : zH} {s : Int} (hs : zIn s) (hn : n ≤ 1000) (S : Sim E f g f2 g2 n) (B : BH E f g j o ar f2 g2 j2 h) : Cal l o ar E f2 g2 j2 n h MX7_letter MX8_letter [vI s] vI zIn := by
  obtain ⟨⟨hV, hG, hu⟩, sL, sI, sV, sT, sW, sG, sR, sN⟩ := id S
  obtain ⟨hK, ⟨e76, e77, e78, e79, e80⟩, hP, hz, hMt, hLt, hsk, t0, t1, t2⟩ := id hV
  have hS : z31 (f 354) := ⟨B.1.2.2.2.2.2.2.1.2, (B.1.2.2.2.2.2.2.1.1 354).2⟩
  have hbR : ∀ i, g 11 i ≤ 100000 := fun i => by have := sR.2.1 i; omega
  have hbX : ∀ i, g2 1 i ≤ 100000 := fun i => by have := sR.2.2 i; omega
  have hu16 := hG.1
  refine Cal.of B (c_letter rfl rfl rfl rfl hs hbR (by have := hK.2.2.2.2.1; omega) (by have := hK.2.2.2.2.1; omega)) (m_letter rfl rfl hs hbX hK.2.2.2.2.1.1 hK.2.2.2.2.1.2) (by decide) (by decide) (fun r f' g' j' r2 f2' g2' j2' p q => ?_)
  obtain ⟨p, xf, xg, -⟩ := p
  obtain ⟨q, yf, yg, -⟩ := q
  rcases p with ⟨p0, p1, p2, p3, p4, p5⟩ | ⟨p0, p6, p1, p2, p3, p4, p5⟩ | ⟨p0, p6, p1, p2, p3, p4, p5⟩ <;> rcases q with ⟨q0, ⟨q1, q2, q3⟩, q4⟩ | ⟨q0, q6, ⟨q1, q2, q3⟩, q4⟩ | ⟨q0, q6, ⟨q1, q2, q3⟩, q4⟩ <;> first | (exfalso; omega) | skip
  · have xf := xf.dr 39 p4
    have xg := xg.dr 40 p5
    have yg := yg.dr 2 q4
    exact ⟨p1.trans q1.symm, S.mk0 xf xg yf yg (S.1.eq (xf.on (by decide)) (xg.on (by decide)) (yf.on (by decide)) (yg.on (by decide))) (xg 46 (by decide)) (congrFun (yg 2 (by decide)) 79) (fun i _ => congrFun (yg 2 (by decide)) i) (sG.st p2 q2 (xf.on (by decide)) (yf.on (by decide))) (sR.bu p3 q3 (by decide)) (by decide) (by decide) (by decide) (by decide)⟩
  · have xf := xf.dr 39 p4
    have xg := xg.dr 40 p5
    have yg := yg.dr 2 q4
    exact ⟨p1.trans q1.symm, S.mk0 xf xg yf yg (S.1.eq (xf.on (by decide)) (xg.on (by decide)) (yf.on (by decide)) (yg.on (by decide))) (xg 46 (by decide)) (congrFun (yg 2 (by decide)) 79) (fun i _ => congrFun (yg 2 (by decide)) i) (sG.st p2 q2 (xf.on (by decide)) (yf.on (by decide))) (sR.bu p3 q3 (by decide)) (by decide) (by decide) (by decide) (by decide)⟩
  · have hV2 := hV.letter p0.1 p0.2 q6
    refine ⟨by omega, S.mk0 xf xg yf yg (?_) (xg 46 (by decide)) (by rw [q4, iu_ne (by decide), iu_ne (by have := hK.2.2.2.2.1; omega)]) (fun i hi => by rw [q4, iu_ne (by omega), iu_ne (by have := hK.2.2.2.2.1; omega)]) (sG.st p2 q2 (xf.on (by decide)) (yf.on (by decide))) (sR.ok p3 q3) (by decide) (by decide) (by decide) (by decide)⟩
    unfold cF
    rw [q4, yg 34 (by decide), yf 36 (by decide)]
    refine ⟨?_, ?_, (xf 192 (by decide)).trans hu⟩
    · rw [xf 32 (by decide), p4, xf 41 (by decide), xf 45 (by decide), xf 47 (by decide), xf 37 (by decide), xg 33 (by decide), xg 34 (by decide), xg 35 (by decide), xg 36 (by decide), xg 38 (by decide), p5, xg 42 (by decide), xg 43 (by decide), xg 44 (by decide)]
      exact hV2
    · rw [xg 193 (by decide), xg 194 (by decide), xg 195 (by decide)]
      exact hG.cg hV2.1 (fun _ _ _ => ⟨rfl, rfl, rfl⟩) (fun _ _ _ => rfl) (fun q q0 q1 => by rw [iu_ne (by omega), iu_ne (by have := hK.2.2.2.2.1; omega)]) (by rw [iu_ne (by decide), iu_ne (by have := hK.2.2.2.2.1; omega)])

set_option maxHeartbeats 1000000 in
theorem s_seen {l : Launch} {o : Nat} {ar : Nat → Nat} {E : cE} {f : mF} {g j : mA} {f2 : mF} {g2 j2 : mA} {n : Nat} {h : zH} {k s : Int} (hk : zIn k) (hs : zIn s) (hn : n ≤ 1000) (S : Sim E f g f2 g2 n) (B : BH E f g j o ar f2 g2 j2 h) : Cal l o ar E f2 g2 j2 n h MX7_seen MX8_seen [vI k, vI s] vI zIn := by
  obtain ⟨⟨hV, hG, hu⟩, sL, sI, sV, sT, sW, sG, sR, sN⟩ := id S
  obtain ⟨hK, ⟨e76, e77, e78, e79, e80⟩, hP, hz, hMt, hLt, hsk, t0, t1, t2⟩ := id hV
  have hS : z31 (f 354) := ⟨B.1.2.2.2.2.2.2.1.2, (B.1.2.2.2.2.2.2.1.1 354).2⟩
  have hbR : ∀ i, g 11 i ≤ 100000 := fun i => by have := sR.2.1 i; omega
  have hbX : ∀ i, g2 1 i ≤ 100000 := fun i => by have := sR.2.2 i; omega
  have hu16 := hG.1
  refine Cal.of B (c_seenM rfl rfl rfl rfl rfl hk hs hbR (by have := hK.2.2.2.2.2.2.1; omega) (by have := hK.2.2.2.2.2.2.1; omega)) (m_seen rfl rfl hk hs hbX hK.2.2.2.2.2.2.1.1 hK.2.2.2.2.2.2.1.2) (by decide) (by decide) (fun r f' g' j' r2 f2' g2' j2' p q => ?_)
  obtain ⟨p, xf, xg, -⟩ := p
  obtain ⟨q, yf, yg, -⟩ := q
  have h78 := hK.2.2.2.2.2.2.1
  rcases p with ⟨p0, p1, p2, p3, p4, p5, p8⟩ | ⟨p0, p6, p1, p2, p3, p4, p5, p8⟩ | ⟨p0, p6, p1, p2, p3, p4, p5, p8⟩ <;> rcases q with ⟨q0, ⟨q1, q2, q3⟩, q4⟩ | ⟨q0, q6, ⟨q1, q2, q3⟩, q4⟩ | ⟨q0, q6, ⟨q1, q2, q3⟩, q4⟩ <;> first | (exfalso; omega) | skip
  · have xf := xf.dr 41 p4
    have xg := (xg.dr 42 p5).dr 43 p8
    have yg := yg.dr 2 q4
    exact ⟨p1.trans q1.symm, S.mk0 xf xg yf yg (S.1.eq (xf.on (by decide)) (xg.on (by decide)) (yf.on (by decide)) (yg.on (by decide))) (xg 46 (by decide)) (congrFun (yg 2 (by decide)) 79) (fun i _ => congrFun (yg 2 (by decide)) i) (sG.st p2 q2 (xf.on (by decide)) (yf.on (by decide))) (sR.bu p3 q3 (by decide)) (by decide) (by decide) (by decide) (by decide)⟩
  · have xf := xf.dr 41 p4
    have xg := (xg.dr 42 p5).dr 43 p8
    have yg := yg.dr 2 q4
    exact ⟨p1.trans q1.symm, S.mk0 xf xg yf yg (S.1.eq (xf.on (by decide)) (xg.on (by decide)) (yf.on (by decide)) (yg.on (by decide))) (xg 46 (by decide)) (congrFun (yg 2 (by decide)) 79) (fun i _ => congrFun (yg 2 (by decide)) i) (sG.st p2 q2 (xf.on (by decide)) (yf.on (by decide))) (sR.bu p3 q3 (by decide)) (by decide) (by decide) (by decide) (by decide)⟩
  · have hV2 := hV.seen p0.1.1 p0.1.2 p0.2.1 p0.2.2 q6
    refine ⟨by omega, S.mk0 xf xg yf yg (?_) (xg 46 (by decide)) (by rw [q4, iu_ne (by decide), iu_ne (by omega), iu_ne (by omega)]) (fun i hi => by rw [q4, iu_ne (by omega), iu_ne (by omega), iu_ne (by omega)]) (sG.st p2 q2 (xf.on (by decide)) (yf.on (by decide))) (sR.ok p3 q3) (by decide) (by decide) (by decide) (by decide)⟩
    unfold cF
    rw [q4, yg 34 (by decide), yf 36 (by decide)]
    refine ⟨?_, ?_, (xf 192 (by decide)).trans hu⟩
    · rw [xf 32 (by decide), xf 39 (by decide), p4, xf 45 (by decide), xf 47 (by decide), xf 37 (by decide), xg 33 (by decide), xg 34 (by decide), xg 35 (by decide), xg 36 (by decide), xg 38 (by decide), xg 40 (by decide), p5, p8, xg 44 (by decide)]
      exact hV2
    · rw [xg 193 (by decide), xg 194 (by decide), xg 195 (by decide)]
      exact hG.cg hV2.1 (fun _ _ _ => ⟨rfl, rfl, rfl⟩) (fun _ _ _ => rfl) (fun q q0 q1 => by rw [iu_ne (by omega), iu_ne (by omega), iu_ne (by omega)]) (by rw [iu_ne (by decide), iu_ne (by omega), iu_ne (by omega)])

set_option maxHeartbeats 1000000 in
theorem s_forget {l : Launch} {o : Nat} {ar : Nat → Nat} {E : cE} {f : mF} {g j : mA} {f2 : mF} {g2 j2 : mA} {n : Nat} {h : zH} (hn : n ≤ 1000) (S : Sim E f g f2 g2 n) (B : BH E f g j o ar f2 g2 j2 h) : Cal l o ar E f2 g2 j2 n h MX7_forget MX8_forget [] vI zIn := by
  obtain ⟨⟨hV, hG, hu⟩, sL, sI, sV, sT, sW, sG, sR, sN⟩ := id S
  obtain ⟨hK, ⟨e76, e77, e78, e79, e80⟩, hP, hz, hMt, hLt, hsk, t0, t1, t2⟩ := id hV
  have hS : z31 (f 354) := ⟨B.1.2.2.2.2.2.2.1.2, (B.1.2.2.2.2.2.2.1.1 354).2⟩
  have hbR : ∀ i, g 11 i ≤ 100000 := fun i => by have := sR.2.1 i; omega
  have hbX : ∀ i, g2 1 i ≤ 100000 := fun i => by have := sR.2.2 i; omega
  have hu16 := hG.1
  refine Cal.of B (c_forget rfl) (m_forget rfl) (by decide) (by decide) (fun r f' g' j' r2 f2' g2' j2' p q => ?_)
  obtain ⟨p, xf, xg, -⟩ := p
  obtain ⟨q, yf, yg, -⟩ := q
  have hV2 := hV.one (p := 78) (v := 0) (lt' := f 39) (sn' := 0) (lw' := f 45) (fo' := f 47) (Tm' := g 44) (Or.inl ⟨rfl, rfl⟩) ⟨rfl, rfl, rfl, rfl⟩ ⟨rfl, rfl, rfl⟩
  refine ⟨by have := p.1; have := q.1; omega, S.mk0 xf xg yf yg (?_) (xg 46 (by decide)) (by rw [q.2]; exact iu_ne (by decide)) (fun i hi => by rw [q.2]; exact iu_ne (by omega)) (sG.eq (xf.on (by decide)) (yf.on (by decide))) (sR.eq (xg.on (by decide)) (yg.on (by decide))) (by decide) (by decide) (by decide) (by decide)⟩
  unfold cF
  rw [q.2, yg 34 (by decide), yf 36 (by decide)]
  refine ⟨?_, ?_, (xf 192 (by decide)).trans hu⟩
  · rw [xf 32 (by decide), xf 39 (by decide), p.2, xf 45 (by decide), xf 47 (by decide), xf 37 (by decide), xg 33 (by decide), xg 34 (by decide), xg 35 (by decide), xg 36 (by decide), xg 38 (by decide), xg 40 (by decide), xg 42 (by decide), xg 43 (by decide), xg 44 (by decide)]
    exact hV2
  · rw [xg 193 (by decide), xg 194 (by decide), xg 195 (by decide)]
    exact hG.cg hV2.1 (fun _ _ _ => ⟨rfl, rfl, rfl⟩) (fun _ _ _ => rfl) (fun q q0 q1 => iu_ne (by omega)) (iu_ne (by decide))

set_option maxHeartbeats 1000000 in
theorem s_force {l : Launch} {o : Nat} {ar : Nat → Nat} {E : cE} {f : mF} {g j : mA} {f2 : mF} {g2 j2 : mA} {n : Nat} {h : zH} {x : Int} (hx : zIn x) (hn : n ≤ 1000) (S : Sim E f g f2 g2 n) (B : BH E f g j o ar f2 g2 j2 h) : Cal l o ar E f2 g2 j2 n h MX7_force MX8_force [vI x] vI zIn := by
  obtain ⟨⟨hV, hG, hu⟩, sL, sI, sV, sT, sW, sG, sR, sN⟩ := id S
  obtain ⟨hK, ⟨e76, e77, e78, e79, e80⟩, hP, hz, hMt, hLt, hsk, t0, t1, t2⟩ := id hV
  have hS : z31 (f 354) := ⟨B.1.2.2.2.2.2.2.1.2, (B.1.2.2.2.2.2.2.1.1 354).2⟩
  have hbR : ∀ i, g 11 i ≤ 100000 := fun i => by have := sR.2.1 i; omega
  have hbX : ∀ i, g2 1 i ≤ 100000 := fun i => by have := sR.2.2 i; omega
  have hu16 := hG.1
  refine Cal.of B (c_force rfl rfl rfl rfl hx hbR (by have := hK.2.2.2.2.2.2.2.2.2.2.1; omega)) (m_force rfl rfl hx hbX hK.2.2.2.2.2.2.2.2.2.2.1.1) (by decide) (by decide) (fun r f' g' j' r2 f2' g2' j2' p q => ?_)
  obtain ⟨p, xf, xg, -⟩ := p
  obtain ⟨q, yf, yg, -⟩ := q
  rcases p with ⟨p0, p1, p2, p3, p4⟩ | ⟨p0, p1, p2, p3, p4⟩ <;> rcases q with ⟨q0, ⟨q1, q2, q3⟩, q4⟩ | ⟨q0, ⟨q1, q2, q3⟩, q4⟩ <;> first | (exfalso; omega) | skip
  · have xf := xf.dr 47 p4
    have yg := yg.dr 2 q4
    exact ⟨p1.trans q1.symm, S.mk0 xf xg yf yg (S.1.eq (xf.on (by decide)) (xg.on (by decide)) (yf.on (by decide)) (yg.on (by decide))) (xg 46 (by decide)) (congrFun (yg 2 (by decide)) 79) (fun i _ => congrFun (yg 2 (by decide)) i) (sG.st p2 q2 (xf.on (by decide)) (yf.on (by decide))) (sR.bu p3 q3 (by decide)) (by decide) (by decide) (by decide) (by decide)⟩
  · have hV2 := hV.one (p := 80) (v := x) (lt' := f 39) (sn' := f 41) (lw' := f 45) (fo' := x) (Tm' := g 44) (Or.inr (Or.inl ⟨rfl, q0⟩)) ⟨rfl, rfl, rfl, rfl⟩ ⟨rfl, rfl, rfl⟩
    refine ⟨by omega, S.mk0 xf xg yf yg (?_) (xg 46 (by decide)) (by rw [q4]; exact iu_ne (by decide)) (fun i hi => by rw [q4]; exact iu_ne (by omega)) (sG.st p2 q2 (xf.on (by decide)) (yf.on (by decide))) (sR.ok p3 q3) (by decide) (by decide) (by decide) (by decide)⟩
    unfold cF
    rw [q4, yg 34 (by decide), yf 36 (by decide)]
    refine ⟨?_, ?_, (xf 192 (by decide)).trans hu⟩
    · rw [xf 32 (by decide), xf 39 (by decide), xf 41 (by decide), xf 45 (by decide), p4, xf 37 (by decide), xg 33 (by decide), xg 34 (by decide), xg 35 (by decide), xg 36 (by decide), xg 38 (by decide), xg 40 (by decide), xg 42 (by decide), xg 43 (by decide), xg 44 (by decide)]
      exact hV2
    · rw [xg 193 (by decide), xg 194 (by decide), xg 195 (by decide)]
      exact hG.cg hV2.1 (fun _ _ _ => ⟨rfl, rfl, rfl⟩) (fun _ _ _ => rfl) (fun q q0 q1 => iu_ne (by omega)) (iu_ne (by decide))

set_option maxHeartbeats 1000000 in
theorem s_terms {l : Launch} {o : Nat} {ar : Nat → Nat} {E : cE} {f : mF} {g j : mA} {f2 : mF} {g2 j2 : mA} {n : Nat} {h : zH} {w v : Int} (hw : zIn w) (hv : zIn v) (hn : n ≤ 1000) (S : Sim E f g f2 g2 n) (B : BH E f g j o ar f2 g2 j2 h) : Cal l o ar E f2 g2 j2 n h MX7_terms MX8_terms [vI w, vI v] vI zIn := by
  obtain ⟨⟨hV, hG, hu⟩, sL, sI, sV, sT, sW, sG, sR, sN⟩ := id S
  obtain ⟨hK, ⟨e76, e77, e78, e79, e80⟩, hP, hz, hMt, hLt, hsk, t0, t1, t2⟩ := id hV
  have hS : z31 (f 354) := ⟨B.1.2.2.2.2.2.2.1.2, (B.1.2.2.2.2.2.2.1.1 354).2⟩
  have hbR : ∀ i, g 11 i ≤ 100000 := fun i => by have := sR.2.1 i; omega
  have hbX : ∀ i, g2 1 i ≤ 100000 := fun i => by have := sR.2.2 i; omega
  have hu16 := hG.1
  refine Cal.of B (c_terms rfl rfl rfl rfl hw hv hbR) (m_terms rfl rfl rfl hw hv hbX) (by decide) (by decide) (fun r f' g' j' r2 f2' g2' j2' p q => ?_)
  obtain ⟨p, xf, xg, -⟩ := p
  obtain ⟨q, yf, yg, -⟩ := q
  have hmT : mT 0 = 999 ∧ mT 1 = 10 ∧ mT 2 = 9 := ⟨rfl, rfl, rfl⟩
  have hx : ((0 ≤ w ∧ w ≤ 2) ∧ 0 ≤ v ∧ v ≤ mT w) ↔ isT w v := by
    constructor
    · intro hh
      rcases (show w = 0 ∨ w = 1 ∨ w = 2 by omega) with rfl | rfl | rfl
      · exact Or.inl ⟨rfl, hh.2.1, by omega⟩
      · exact Or.inr (Or.inl ⟨rfl, hh.2.1, by omega⟩)
      · exact Or.inr (Or.inr ⟨rfl, hh.2.1, by omega⟩)
    · rintro (⟨rfl, hh⟩ | ⟨rfl, hh⟩ | ⟨rfl, hh⟩)
      · exact ⟨by decide, hh.1, by omega⟩
      · exact ⟨by decide, hh.1, by omega⟩
      · exact ⟨by decide, hh.1, by omega⟩
  rcases p with ⟨p0, p1, p2, p3, p4, p5⟩ | ⟨p0, p1, p2, p3, p4, p5⟩ <;> rcases q with ⟨q0, ⟨q1, q2, q3⟩, q4, q5⟩ | ⟨q0, ⟨q1, q2, q3⟩, q4, q5⟩ <;> first | exact absurd (hx.mp p0) q0 | exact absurd (hx.mpr q0) p0 | skip
  · have xf := xf.dr 192 p5
    have xg := xg.dr 44 p4
    have yf := yf.dr 36 q5
    have yg := yg.dr 2 q4
    exact ⟨p1.trans q1.symm, S.mk0 xf xg yf yg (S.1.eq (xf.on (by decide)) (xg.on (by decide)) (yf.on (by decide)) (yg.on (by decide))) (xg 46 (by decide)) (congrFun (yg 2 (by decide)) 79) (fun i _ => congrFun (yg 2 (by decide)) i) (sG.st p2 q2 (xf.on (by decide)) (yf.on (by decide))) (sR.bu p3 q3 (by decide)) (by decide) (by decide) (by decide) (by decide)⟩
  · have hV2 : FrV (iu (g2 2) (tAt w) v) (f 32) (f 39) (f 41) (f 45) (f 47) (g 33) (g 34) (g 35) (g 36) (f 37) (g 38) (g 40) (g 42) (g 43) (iu (g 44) w v) ∧ g 44 w = g2 2 (tAt w) ∧ tAt w < 79 := by
      rcases q0 with ⟨rfl, hh⟩ | ⟨rfl, hh⟩ | ⟨rfl, hh⟩
      · exact ⟨hV.tm hh.1 hh.2, t0, by decide⟩
      · exact ⟨hV.one (p := 74) (Or.inr (Or.inr (Or.inl ⟨rfl, hh⟩))) ⟨rfl, rfl, rfl, rfl⟩ ⟨iu_ne (by decide), iu_self _ _ _, iu_ne (by decide)⟩, t1, by decide⟩
      · exact ⟨hV.one (p := 75) (Or.inr (Or.inr (Or.inr ⟨rfl, hh⟩))) ⟨rfl, rfl, rfl, rfl⟩ ⟨iu_ne (by decide), iu_ne (by decide), iu_self _ _ _⟩, t2, by decide⟩
    obtain ⟨hV2, h5, h6⟩ := hV2
    refine ⟨by rw [p1, q1, h5], S.mk0 xf xg yf yg (?_) (xg 46 (by decide)) (by rw [q4]; exact iu_ne (by omega)) (fun i hi => by rw [q4]; exact iu_ne (by omega)) (sG.st p2 q2 (xf.on (by decide)) (yf.on (by decide))) (sR.ok p3 q3) (by decide) (by decide) (by decide) (by decide)⟩
    unfold cF
    rw [q4, yg 34 (by decide), q5]
    refine ⟨?_, LogK.nil, p5⟩
    rw [xf 32 (by decide), xf 39 (by decide), xf 41 (by decide), xf 45 (by decide), xf 47 (by decide), xf 37 (by decide), xg 33 (by decide), xg 34 (by decide), xg 35 (by decide), xg 36 (by decide), xg 38 (by decide), xg 40 (by decide), xg 42 (by decide), xg 43 (by decide), p4]
    exact hV2

set_option maxHeartbeats 1000000 in
theorem s_fuse {l : Launch} {o : Nat} {ar : Nat → Nat} {E : cE} {f : mF} {g j : mA} {f2 : mF} {g2 j2 : mA} {n : Nat} {h : zH} {a b c e : Int} (ha : zIn a) (hb : zIn b) (hc : zIn c) (he : zIn e) (hn : n ≤ 1000) (S : Sim E f g f2 g2 n) (B : BH E f g j o ar f2 g2 j2 h) : Cal l o ar E f2 g2 j2 n h MX7_fuse MX8_fuse [vI a, vI b, vI c, vI e] vI zIn := by
  obtain ⟨⟨hV, hG, hu⟩, sL, sI, sV, sT, sW, sG, sR, sN⟩ := id S
  obtain ⟨hK, ⟨e76, e77, e78, e79, e80⟩, hP, hz, hMt, hLt, hsk, t0, t1, t2⟩ := id hV
  have hS : z31 (f 354) := ⟨B.1.2.2.2.2.2.2.1.2, (B.1.2.2.2.2.2.2.1.1 354).2⟩
  have hbR : ∀ i, g 11 i ≤ 100000 := fun i => by have := sR.2.1 i; omega
  have hbX : ∀ i, g2 1 i ≤ 100000 := fun i => by have := sR.2.2 i; omega
  have hu16 := hG.1
  refine Cal.of B (c_fuse rfl rfl rfl rfl rfl rfl rfl rfl ha hb hc he hbR (by have := hK.1; omega) (by have := hK.1; omega)) (m_fuse rfl rfl rfl ha hb hc he hbX hK.1.1 hK.1.2) (by decide) (by decide) (fun r f' g' j' r2 f2' g2' j2' p q => ?_)
  obtain ⟨p, xf, xg, -⟩ := p
  obtain ⟨q, yf, yg, -⟩ := q
  rcases p with ⟨p0, p1, p2, p3, p4, p5, p6, p7, p8, p9⟩ | ⟨p0, pn, p1, p2, p3, p4, p5, p6, p7, p8, p9⟩ | ⟨p0, pn, p1, p2, p3, p4, p5, p6, p7, p8, p9⟩ <;> rcases q with ⟨q0, ⟨q1, q2, q3⟩, q4, q5⟩ | ⟨q0, qn, ⟨q1, q2, q3⟩, q4, q5⟩ | ⟨q0, qn, ⟨q1, q2, q3⟩, q4, q5⟩ <;> first | exact absurd p0 q0 | exact absurd q0 p0 | (exfalso; clear p0 q0; omega) | skip
  · have xf := (xf.dr 32 p4).dr 192 p5
    have xg := (((xg.dr 33 p6).dr 34 p7).dr 35 p8).dr 36 p9
    have yf := yf.dr 36 q5
    have yg := yg.dr 2 q4
    exact ⟨p1.trans q1.symm, S.mk0 xf xg yf yg (S.1.eq (xf.on (by decide)) (xg.on (by decide)) (yf.on (by decide)) (yg.on (by decide))) (xg 46 (by decide)) (congrFun (yg 2 (by decide)) 79) (fun i _ => congrFun (yg 2 (by decide)) i) (sG.st p2 q2 (xf.on (by decide)) (yf.on (by decide))) (sR.bu p3 q3 (by decide)) (by decide) (by decide) (by decide) (by decide)⟩
  · have xf := (xf.dr 32 p4).dr 192 p5
    have xg := (((xg.dr 33 p6).dr 34 p7).dr 35 p8).dr 36 p9
    have yf := yf.dr 36 q5
    have yg := yg.dr 2 q4
    exact ⟨p1.trans q1.symm, S.mk0 xf xg yf yg (S.1.eq (xf.on (by decide)) (xg.on (by decide)) (yf.on (by decide)) (yg.on (by decide))) (xg 46 (by decide)) (congrFun (yg 2 (by decide)) 79) (fun i _ => congrFun (yg 2 (by decide)) i) (sG.st p2 q2 (xf.on (by decide)) (yf.on (by decide))) (sR.bu p3 q3 (by decide)) (by decide) (by decide) (by decide) (by decide)⟩
  · have hV2 := hV.fuse p0 qn
    have h10 := hK.1
    refine ⟨by omega, S.mk0 xf xg yf yg (?_) (xg 46 (by decide)) (by rw [q4]; exact add_at (by omega)) (fun i hi => by rw [q4]; exact add_at (by omega)) (sG.st p2 q2 (xf.on (by decide)) (yf.on (by decide))) (sR.ok p3 q3) (by decide) (by decide) (by decide) (by decide)⟩
    unfold cF
    rw [q4, yg 34 (by decide), q5]
    refine ⟨?_, LogK.nil, p5⟩
    rw [p4, xf 39 (by decide), xf 41 (by decide), xf 45 (by decide), xf 47 (by decide), xf 37 (by decide), p6, p7, p8, p9, xg 38 (by decide), xg 40 (by decide), xg 42 (by decide), xg 43 (by decide), xg 44 (by decide)]
    exact hV2

theorem Sim.tp {fm gm fm2 gm2 : List Nat} {E : cE} {f f' f2 f2' : mF} {g g' g2 g2' : mA} {n : Nat} (S : Sim E f g f2 g2 n) (xf : eqx fm f f') (xg : eqx gm g g') (yf : eqx fm2 f2 f2') (yg : eqx gm2 g2 g2') (hP : cP f' g' f2' g2') (hf : ∀ k ∈ fm, k = 256) (hg : ∀ k ∈ gm, k = 257) (hf2 : ∀ k ∈ fm2, k = 13) (hg2 : ∀ k ∈ gm2, k = 11 ∨ k = 12) : Sim E f' g' f2' g2' (n + 1) := by
  obtain ⟨sF, sL, sI, sV, sT, sW, sG, sR, sN⟩ := S
  have b1 : ∀ ks : List Nat, 256 ∉ ks → eqL ks f f' := fun ks h k hk => xf k (fun z => h (by rw [← hf k z]; exact hk))
  have b2 : ∀ ks : List Nat, 257 ∉ ks → eqL ks g g' := fun ks h k hk => xg k (fun z => h (by rw [← hg k z]; exact hk))
  have b3 : ∀ ks : List Nat, 13 ∉ ks → eqL ks f2 f2' := fun ks h k hk => yf k (fun z => h (by rw [← hf2 k z]; exact hk))
  have b4 : ∀ ks : List Nat, 11 ∉ ks → 12 ∉ ks → eqL ks g2 g2' := fun ks h h3 k hk => yg k (fun z => by
    rcases hg2 k z with e | e
    · exact h (by rw [← e]; exact hk)
    · exact h3 (by rw [← e]; exact hk))
  exact ⟨sF.eq (b1 _ (by decide)) (b2 _ (by decide)) (b3 _ (by decide)) (b4 _ (by decide) (by decide)), sL.eq xf xg (fun k hk => by rw [hf k hk]; decide) (fun k hk => by rw [hg k hk]; decide) (b2 _ (by decide)) (b4 _ (by decide) (by decide)), sI.eq xf xg (fun k hk => by rw [hf k hk]; decide) (fun k hk => by rw [hg k hk]; decide) (b4 _ (by decide) (by decide)), sV.eq (b1 _ (by decide)) (b2 _ (by decide)) (b3 _ (by decide)) (b4 _ (by decide) (by decide)), hP, sW.eq (b4 _ (by decide) (by decide)), sG.eq (b1 _ (by decide)) (b3 _ (by decide)), sR.eq (b2 _ (by decide)) (b4 _ (by decide) (by decide)), sN.eq xg (fun k hk => by rw [hg k hk]; decide)⟩

set_option maxHeartbeats 1000000 in
theorem s_end {l : Launch} {o : Nat} {ar : Nat → Nat} {E : cE} {f : mF} {g j : mA} {f2 : mF} {g2 j2 : mA} {n : Nat} {h : zH} {m : Int} (hm : zIn m) (hn : n ≤ 1000) (S : Sim E f g f2 g2 n) (B : BH E f g j o ar f2 g2 j2 h) : Cal l o ar E f2 g2 j2 n h MX7_end MX8_end [vI m] vI zIn := by
  obtain ⟨⟨hV, hG, hu⟩, sL, sI, sV, sT, sW, sG, sR, sN⟩ := id S
  obtain ⟨hK, ⟨e76, e77, e78, e79, e80⟩, hP, hz, hMt, hLt, hsk, t0, t1, t2⟩ := id hV
  have hS : z31 (f 354) := ⟨B.1.2.2.2.2.2.2.1.2, (B.1.2.2.2.2.2.2.1.1 354).2⟩
  have hbR : ∀ i, g 11 i ≤ 100000 := fun i => by have := sR.2.1 i; omega
  have hbX : ∀ i, g2 1 i ≤ 100000 := fun i => by have := sR.2.2 i; omega
  have hu16 := hG.1
  refine Cal.of B (c_end rfl hm) (m_end rfl hm) (by decide) (by decide) (fun r f' g' j' r2 f2' g2' j2' p q => ?_)
  obtain ⟨p, xf, xg, -⟩ := p
  obtain ⟨q, yf, yg, -⟩ := q
  have e1 : f 256 = f2 13 := sT.1
  have e2 := sT.2.1
  have hz : f' 256 = f2' 13 ∧ (0 ≤ f2' 13 ∧ f2' 13 ≤ 400) ∧ r = r2 := by
    rw [q.1, q.2]
    rcases p with ⟨p0, p1, p2⟩ | ⟨p0, p1, p2⟩
    · rw [if_neg (by omega), if_neg (by omega)]; omega
    · rw [if_pos (by omega), if_pos (by omega)]; omega
  exact ⟨hz.2.2, S.tp xf xg yf yg ⟨hz.1, hz.2.1, by rw [xg 257 (by decide), yg 11 (by decide)]; exact sT.2.2⟩ (by decide) (by decide) (by decide) (by decide)⟩

theorem feed_TpU {X U X12 : Int → Int} {z a b c e k : Int} (h : TpU X U) (z0 : 0 ≤ z) (z1 : z ≤ 380) : TpU (cpF X (fdB (iu (iu (iu (iu (iu X12 0 a) 1 b) 2 c) 3 e) 4 k)) z 20) (fedA U z a b c e k) := by
  intro i i0 i1
  have hby : ∀ x s : Int, (0 ≤ byT x s ∧ byT x s ≤ 255) ∧ ((zi2b (zshr x s) = byT x s ∧ byT x s ≤ 127) ∨ (zi2b (zshr x s) = byT x s - 256 ∧ 128 ≤ byT x s)) := by
    intro x s
    refine ⟨byT_in x s, ?_⟩
    have := b8_eq (zshr x s)
    unfold byT
    omega
  by_cases hi : z ≤ i ∧ i < z + 20
  · obtain ⟨t, ht⟩ : ∃ t, t = i - z := ⟨_, rfl⟩
    have e1 : cpF X (fdB (iu (iu (iu (iu (iu X12 0 a) 1 b) 2 c) 3 e) 4 k)) z 20 i = zi2b (zshr ((iu (iu (iu (iu (iu X12 0 a) 1 b) 2 c) 3 e) 4 k) (t / 4)) (24 - 8 * (t % 4))) := by
      unfold cpF fdB
      rw [if_pos hi, ← ht, zdiv_nat (by omega) (by omega) (by omega), zrem_nat ⟨by omega, by omega⟩ ⟨by decide, by decide⟩ (by decide)]
    rw [e1]
    unfold fedA cpF
    rcases (show (t / 4 = 0 ∧ t < 4) ∨ (t / 4 = 1 ∧ 4 ≤ t ∧ t < 8) ∨ (t / 4 = 2 ∧ 8 ≤ t ∧ t < 12) ∨ (t / 4 = 3 ∧ 12 ≤ t ∧ t < 16) ∨ (t / 4 = 4 ∧ 16 ≤ t) by omega) with q | q | q | q | q
    · rw [if_neg (by omega), if_neg (by omega), if_neg (by omega), if_neg (by omega), if_pos (by omega), q.1, iu_ne (by decide), iu_ne (by decide), iu_ne (by decide), iu_ne (by decide), iu_self, show t % 4 = i - z by omega]
      exact hby _ _
    · rw [if_neg (by omega), if_neg (by omega), if_neg (by omega), if_pos (by omega), q.1, iu_ne (by decide), iu_ne (by decide), iu_ne (by decide), iu_self, show t % 4 = i - (z + 4) by omega]
      exact hby _ _
    · rw [if_neg (by omega), if_neg (by omega), if_pos (by omega), q.1, iu_ne (by decide), iu_ne (by decide), iu_self, show t % 4 = i - (z + 4 + 4) by omega]
      exact hby _ _
    · rw [if_neg (by omega), if_pos (by omega), q.1, iu_ne (by decide), iu_self, show t % 4 = i - (z + 4 + 4 + 4) by omega]
      exact hby _ _
    · rw [if_pos (by omega), q.1, iu_self, show t % 4 = i - (z + 4 + 4 + 4 + 4) by omega]
      exact hby _ _
  · unfold fedA cpF
    rw [if_neg (by omega), if_neg (by omega), if_neg (by omega), if_neg (by omega), if_neg (by omega), if_neg (by omega)]
    exact h i i0 i1

set_option maxHeartbeats 1000000 in
theorem s_feed {l : Launch} {o : Nat} {ar : Nat → Nat} {E : cE} {f : mF} {g j : mA} {f2 : mF} {g2 j2 : mA} {n : Nat} {h : zH} {a b c e k : Int} (ha : zIn a) (hb : zIn b) (hc : zIn c) (he : zIn e) (hk : zIn k) (hn : n ≤ 1000) (S : Sim E f g f2 g2 n) (B : BH E f g j o ar f2 g2 j2 h) : Cal l o ar E f2 g2 j2 n h MX7_feed MX8_feed [vI a, vI b, vI c, vI e, vI k] vI zIn := by
  obtain ⟨⟨hV, hG, hu⟩, sL, sI, sV, sT, sW, sG, sR, sN⟩ := id S
  obtain ⟨hK, ⟨e76, e77, e78, e79, e80⟩, hP, hz, hMt, hLt, hsk, t0, t1, t2⟩ := id hV
  have hS : z31 (f 354) := ⟨B.1.2.2.2.2.2.2.1.2, (B.1.2.2.2.2.2.2.1.1 354).2⟩
  have hbR : ∀ i, g 11 i ≤ 100000 := fun i => by have := sR.2.1 i; omega
  have hbX : ∀ i, g2 1 i ≤ 100000 := fun i => by have := sR.2.2 i; omega
  have hu16 := hG.1
  refine Cal.of B (c_feed rfl rfl ha hb hc he hk (by rw [sT.1]; exact sT.2.1.1)) (m_feed rfl rfl rfl ha hb hc he hk sT.2.1.1 sT.2.1.2) (by decide) (by decide) (fun r f' g' j' r2 f2' g2' j2' p q => ?_)
  obtain ⟨p, xf, xg, -⟩ := p
  obtain ⟨q, yf, yg, -⟩ := q
  have e1 : f 256 = f2 13 := sT.1
  have e2 := sT.2.1
  rcases p with ⟨p0, p1, p2, p3⟩ | ⟨p0, p1, p2, p3⟩ <;> rcases q with ⟨q0, q1, q2, q3⟩ | ⟨q0, q1, q2, q3⟩ <;> first | (exfalso; omega) | skip
  · exact ⟨by omega, S.tp xf xg yf yg ⟨by omega, by omega, by rw [p3, q3]; exact sT.2.2⟩ (by decide) (by decide) (by decide) (by decide)⟩
  · refine ⟨by omega, S.tp xf xg yf yg ⟨by omega, by omega, ?_⟩ (by decide) (by decide) (by decide) (by decide)⟩
    rw [p3, q3, e1]
    exact feed_TpU sT.2.2 e2.1 q0

