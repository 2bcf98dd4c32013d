/-! ===== what a frame's rows picture; the log of deeds against the kept copies ===== -/
def FrV (K : Int → Int) (n lt sn lw fo : Int) (Fr To Ln Kd : Int → Int) (dp : Int) (Mt Lt Sk Ss Tm : Int → Int) : Prop :=
  KOK K ∧ (n = K 76 ∧ lt = K 77 ∧ sn = K 78 ∧ lw = K 79 ∧ fo = K 80) ∧ FrA Fr To Ln Kd dp K ∧ dHi dp (K 76) ∧ (∀ k : Int, 0 ≤ k → k ≤ 7 → Mt k = K (20 + k)) ∧ (∀ i : Int, 0 ≤ i → i < K 77 → Lt i = K (59 + i)) ∧ (∀ i : Int, 0 ≤ i → i < K 78 → Sk i = K (62 + 2 * i) ∧ Ss i = K (62 + 2 * i + 1)) ∧ (Tm 0 = K 28 ∧ Tm 1 = K 74 ∧ Tm 2 = K 75)
theorem FrV.loc {K : Int → Int} {n lt sn lw fo dp : Int} {Fr To Ln Kd Mt Lt Sk Ss Tm : Int → Int} {K' : Int → Int} {dp' : Int} {Ln' Mt' Tm' : Int → Int} (h : FrV K n lt sn lw fo Fr To Ln Kd dp Mt Lt Sk Ss Tm) (hK : KOK K') (R : ∀ q, 29 ≤ q → K' q = K q) (d31 : z31 dp') (A : ∀ i : Int, 0 ≤ i → i < K 76 → Ln' i = K' (10 + i) ∧ (bt dp' i ↔ K' i = 1)) (hz : dHi dp' (K 76)) (B : ∀ k : Int, 0 ≤ k → k ≤ 7 → Mt' k = K' (20 + k)) (C : Tm' 0 = K' 28 ∧ Tm' 1 = Tm 1 ∧ Tm' 2 = Tm 2) : FrV K' n lt sn lw fo Fr To Ln' Kd dp' Mt' Lt Sk Ss Tm' := by
  obtain ⟨-, ⟨e1, e2, e3, e4, e5⟩, ⟨f0, f1⟩, -, -, l1, s1, t0, t1, t2⟩ := h
  refine ⟨hK, ⟨by rw [R 76 (by decide)]; exact e1, by rw [R 77 (by decide)]; exact e2, by rw [R 78 (by decide)]; exact e3, by rw [R 79 (by decide)]; exact e4, by rw [R 80 (by decide)]; exact e5⟩, ⟨d31, fun i i0 i1 => ?_⟩, by rw [R 76 (by decide)]; exact hz, B, fun i i0 i1 => ?_, fun i i0 i1 => ?_, C.1, by rw [C.2.1, R 74 (by decide)]; exact t1, by rw [C.2.2, R 75 (by decide)]; exact t2⟩
  · rw [R 76 (by decide)] at i1
    obtain ⟨a1, a2, a3, a4, a5⟩ := f1 i i0 i1
    have hx := A i i0 i1
    rw [R (29 + i) (by omega), R (39 + i) (by omega), R (49 + i) (by omega)]
    exact ⟨a1, a2, hx.1, a4, hx.2⟩
  · rw [R 77 (by decide)] at i1
    rw [R (59 + i) (by omega)]; exact l1 i i0 i1
  · rw [R 78 (by decide)] at i1
    rw [R (62 + 2 * i) (by omega), R (62 + 2 * i + 1) (by omega)]; exact s1 i i0 i1
theorem FrV.mt {K : Int → Int} {n lt sn lw fo dp : Int} {Fr To Ln Kd Mt Lt Sk Ss Tm : Int → Int} {k v : Int} (h : FrV K n lt sn lw fo Fr To Ln Kd dp Mt Lt Sk Ss Tm) (k0 : 0 ≤ k) (k7 : k ≤ 7) (hK : KOK (iu K (20 + k) v)) : FrV (iu K (20 + k) v) n lt sn lw fo Fr To Ln Kd dp (iu Mt k v) Lt Sk Ss Tm := by
  have hn := h.1.1
  refine h.loc hK (fun q hq => iu_ne (by omega)) h.2.2.1.1 (fun i i0 i1 => ?_) h.2.2.2.1 (fun t t0 t1 => ?_) ⟨by rw [iu_ne (by omega)]; exact h.2.2.2.2.2.2.2.1, rfl, rfl⟩
  · have hx := h.2.2.1.2 i i0 i1
    rw [iu_ne (by omega), iu_ne (by omega)]
    exact ⟨hx.2.2.1, hx.2.2.2.2⟩
  · by_cases e : t = k
    · subst e; rw [iu_self, iu_self]
    · rw [iu_ne e, iu_ne (by omega)]; exact h.2.2.2.2.1 t t0 t1
theorem FrV.dp {K : Int → Int} {n lt sn lw fo dp : Int} {Fr To Ln Kd Mt Lt Sk Ss Tm : Int → Int} {x : Int} (h : FrV K n lt sn lw fo Fr To Ln Kd dp Mt Lt Sk Ss Tm) (x0 : 0 ≤ x) (x1 : x < K 76) : FrV (iu K x (1 - K x)) n lt sn lw fo Fr To Ln Kd (zxor dp (zshl 1 x)) Mt Lt Sk Ss Tm := by
  have hn := h.1.1
  have hKx := (h.1.2.1 x x0 x1).1
  refine h.loc (KOK_soak h.1 x0 x1) (fun q hq => iu_ne (by omega)) (zxor_31 h.2.2.1.1 (shl_31 x0 (by omega))) (fun i i0 i1 => ?_) (fun i i0 i1 => ?_) (fun t t0 t1 => by rw [iu_ne (by omega)]; exact h.2.2.2.2.1 t t0 t1) ⟨by rw [iu_ne (by omega)]; exact h.2.2.2.2.2.2.2.1, rfl, rfl⟩
  · have hx := h.2.2.1.2 i i0 i1
    rw [iu_ne (show 10 + i ≠ x by omega), bt_xor h.2.2.1.1 x0 (by omega) i0]
    refine ⟨hx.2.2.1, ?_⟩
    by_cases e : i = x
    · rw [if_pos e, e, iu_self, (h.2.2.1.2 x x0 x1).2.2.2.2]; omega
    · rw [if_neg e, iu_ne e]; exact hx.2.2.2.2
  · rw [bt_xor h.2.2.1.1 x0 (by omega) i1, if_neg (by omega)]
    exact h.2.2.2.1 i i0 i1
theorem FrV.sw {K : Int → Int} {n lt sn lw fo dp : Int} {Fr To Ln Kd Mt Lt Sk Ss Tm : Int → Int} {a b : Int} (h : FrV K n lt sn lw fo Fr To Ln Kd dp Mt Lt Sk Ss Tm) (a0 : 0 ≤ a) (a1 : a < K 76) (b0 : 0 ≤ b) (b1 : b < K 76) : FrV (exchK K a b) n lt sn lw fo Fr To (iu (iu Ln a (Ln b)) b (Ln a)) Kd dp Mt Lt Sk Ss Tm := by
  have hn := h.1.1
  refine h.loc (KOK_exch h.1 a0 a1 b0 b1) (fun q hq => by unfold exchK; rw [iu_ne (by omega), iu_ne (by omega)]) h.2.2.1.1 (fun i i0 i1 => ?_) h.2.2.2.1 (fun t t0 t1 => by unfold exchK; rw [iu_ne (by omega), iu_ne (by omega)]; exact h.2.2.2.2.1 t t0 t1) ⟨by unfold exchK; rw [iu_ne (by omega), iu_ne (by omega)]; exact h.2.2.2.2.2.2.2.1, rfl, rfl⟩
  have hx := h.2.2.1.2 i i0 i1
  have ha := (h.2.2.1.2 a a0 a1).2.2.1
  have hb := (h.2.2.1.2 b b0 b1).2.2.1
  refine ⟨?_, by unfold exchK; rw [iu_ne (by omega), iu_ne (by omega)]; exact hx.2.2.2.2⟩
  unfold exchK
  by_cases e : i = b
  · subst e; rw [iu_self, iu_self, ha]
  · rw [iu_ne e, iu_ne (show 10 + i ≠ 10 + b by omega)]
    by_cases e2 : i = a
    · subst e2; rw [iu_self, iu_self, hb]
    · rw [iu_ne e2, iu_ne (by omega)]; exact hx.2.2.1
theorem FrV.tm {K : Int → Int} {n lt sn lw fo dp : Int} {Fr To Ln Kd Mt Lt Sk Ss Tm : Int → Int} {v : Int} (h : FrV K n lt sn lw fo Fr To Ln Kd dp Mt Lt Sk Ss Tm) (v0 : 0 ≤ v) (v9 : v ≤ 999) : FrV (iu K 28 v) n lt sn lw fo Fr To Ln Kd dp Mt Lt Sk Ss (iu Tm 0 v) := by
  have hn := h.1.1
  refine h.loc (KOK_28 h.1 v0 v9) (fun q hq => iu_ne (by omega)) h.2.2.1.1 (fun i i0 i1 => ?_) h.2.2.2.1 (fun t t0 t1 => by rw [iu_ne (by omega)]; exact h.2.2.2.2.1 t t0 t1) ⟨by rw [iu_self, iu_self], iu_ne (by decide), iu_ne (by decide)⟩
  have hx := h.2.2.1.2 i i0 i1
  rw [iu_ne (by omega), iu_ne (by omega)]
  exact ⟨hx.2.2.1, hx.2.2.2.2⟩
/-- over a K that is the same below 81 -/
theorem FrV.cg {K : Int → Int} {n lt sn lw fo dp : Int} {Fr To Ln Kd Mt Lt Sk Ss Tm : Int → Int} {K' : Int → Int} (h : FrV K n lt sn lw fo Fr To Ln Kd dp Mt Lt Sk Ss Tm) (e : ∀ q, 0 ≤ q → q < 81 → K' q = K q) (hK : KOK K') : FrV K' n lt sn lw fo Fr To Ln Kd dp Mt Lt Sk Ss Tm := by
  obtain ⟨hK0, ⟨e1, e2, e3, e4, e5⟩, ⟨f0, f1⟩, hz, m1, l1, s1, t0, t1, t2⟩ := h
  have hn := hK0.1
  have h77 := hK0.2.2.2.2.1
  have h78 := hK0.2.2.2.2.2.2.1
  refine ⟨hK, ⟨by rw [e 76 (by decide) (by decide)]; exact e1, by rw [e 77 (by decide) (by decide)]; exact e2, by rw [e 78 (by decide) (by decide)]; exact e3, by rw [e 79 (by decide) (by decide)]; exact e4, by rw [e 80 (by decide) (by decide)]; exact e5⟩, ⟨f0, fun i i0 i1 => ?_⟩, by rw [e 76 (by decide) (by decide)]; exact hz, fun k k0 k1 => by rw [e (20 + k) (by omega) (by omega)]; exact m1 k k0 k1, fun i i0 i1 => ?_, fun i i0 i1 => ?_, by rw [e 28 (by decide) (by decide)]; exact t0, by rw [e 74 (by decide) (by decide)]; exact t1, by rw [e 75 (by decide) (by decide)]; exact t2⟩
  · rw [e 76 (by decide) (by decide)] at i1
    rw [e (29 + i) (by omega) (by omega), e (39 + i) (by omega) (by omega), e (10 + i) (by omega) (by omega), e (49 + i) (by omega) (by omega), e i (by omega) (by omega)]
    exact f1 i i0 i1
  · rw [e 77 (by decide) (by decide)] at i1
    rw [e (59 + i) (by omega) (by omega)]; exact l1 i i0 i1
  · rw [e 78 (by decide) (by decide)] at i1
    rw [e (62 + 2 * i) (by omega) (by omega), e (62 + 2 * i + 1) (by omega) (by omega)]; exact s1 i i0 i1
/-- copied rows picture the same -/
theorem FrV.cp {K : Int → Int} {n lt sn lw fo dp : Int} {Fr To Ln Kd Mt Lt Sk Ss Tm : Int → Int} {Fr' To' Ln' Kd' Mt' Lt' Sk' Ss' Tm' : Int → Int} (h : FrV K n lt sn lw fo Fr To Ln Kd dp Mt Lt Sk Ss Tm) : FrV K n lt sn lw fo (cpy Fr' Fr 0 0 10) (cpy To' To 0 0 10) (cpy Ln' Ln 0 0 10) (cpy Kd' Kd 0 0 10) dp (cpy Mt' Mt 0 0 8) (cpy Lt' Lt 0 0 3) (cpy Sk' Sk 0 0 6) (cpy Ss' Ss 0 0 6) (cpy Tm' Tm 0 0 3) := by
  obtain ⟨hK0, he, ⟨f0, f1⟩, hz, m1, l1, s1, t0, t1, t2⟩ := h
  have hn := hK0.1
  have h77 := hK0.2.2.2.2.1
  have h78 := hK0.2.2.2.2.2.2.1
  refine ⟨hK0, he, ⟨f0, fun i i0 i1 => ?_⟩, hz, fun k k0 k1 => by rw [cpy_at k0 (by omega)]; exact m1 k k0 k1, fun i i0 i1 => by rw [cpy_at i0 (by omega)]; exact l1 i i0 i1, fun i i0 i1 => by rw [cpy_at i0 (by omega), cpy_at i0 (by omega)]; exact s1 i i0 i1, by rw [cpy_at (by decide) (by decide)]; exact t0, by rw [cpy_at (by decide) (by decide)]; exact t1, by rw [cpy_at (by decide) (by decide)]; exact t2⟩
  rw [cpy_at i0 (by omega), cpy_at i0 (by omega), cpy_at i0 (by omega), cpy_at i0 (by omega)]
  exact f1 i i0 i1
/-- a deed undone -/
def unK (d a b : Int) (K : Int → Int) : Int → Int := if d = 0 then iu K (20 + a) (-1) else if d = 1 then iu K a (1 - K a) else if d = 2 then exchK K a b else iu K 28 (K 28 - 1)
def rowOK (n d a b : Int) : Prop := (d = 0 ∧ 0 ≤ a ∧ a ≤ 7) ∨ (d = 1 ∧ 0 ≤ a ∧ a < n) ∨ (d = 2 ∧ (0 ≤ a ∧ a < n) ∧ 0 ≤ b ∧ b < n) ∨ d = 3
theorem unK_out {n d a b q : Int} {M : Int → Int} (h : rowOK n d a b) (n1 : n ≤ 10) (hq : q < 0 ∨ 29 ≤ q) : unK d a b M q = M q := by
  rcases h with ⟨rfl, h⟩ | ⟨rfl, h⟩ | ⟨rfl, h⟩ | rfl
  · exact iu_ne (by omega)
  · exact iu_ne (by omega)
  · show exchK M a b q = M q
    unfold exchK
    rw [iu_ne (by omega), iu_ne (by omega)]
  · exact iu_ne (by omega)
theorem unK_cg {n d a b : Int} {M M' : Int → Int} (h : rowOK n d a b) (n1 : n ≤ 10) (e : ∀ q, 0 ≤ q → q < 29 → M' q = M q) : ∀ q, 0 ≤ q → q < 29 → unK d a b M' q = unK d a b M q := by
  intro q q0 q1
  have hiu : ∀ (A A' : Int → Int) (i v v' : Int), A' q = A q → v' = v → iu A' i v' q = iu A i v q := by
    intro A A' i v v' h1 h2
    unfold iu
    split
    · exact h2
    · exact h1
  rcases h with ⟨rfl, h⟩ | ⟨rfl, h⟩ | ⟨rfl, h⟩ | rfl
  · exact hiu _ _ _ _ _ (e q q0 q1) rfl
  · exact hiu _ _ _ _ _ (e q q0 q1) (by rw [e a (by omega) (by omega)])
  · show exchK M' a b q = exchK M a b q
    unfold exchK
    exact hiu _ _ _ _ _ (hiu _ _ _ _ _ (e q q0 q1) (e _ (by omega) (by omega))) (e _ (by omega) (by omega))
  · exact hiu _ _ _ _ _ (e q q0 q1) (by rw [e 28 (by decide) (by decide)])
theorem FrV.un {K : Int → Int} {n lt sn lw fo dp : Int} {Fr To Ln Kd Mt Lt Sk Ss Tm : Int → Int} {d a b : Int} (h : FrV K n lt sn lw fo Fr To Ln Kd dp Mt Lt Sk Ss Tm) (ho : rowOK (K 76) d a b) (hK : KOK (unK d a b K)) : FrV (unK d a b K) n lt sn lw fo Fr To (if d = 2 then iu (iu Ln a (Ln b)) b (Ln a) else Ln) Kd (if d = 1 then zxor dp (zshl 1 a) else dp) (if d = 0 then iu Mt a (-1) else Mt) Lt Sk Ss (if d = 3 then iu Tm 0 (Tm 0 - 1) else Tm) := by
  have hn := h.1.1
  rcases ho with ⟨rfl, ho⟩ | ⟨rfl, ho⟩ | ⟨rfl, ho⟩ | rfl
  · exact h.mt ho.1 ho.2 hK
  · exact h.dp ho.1 ho.2
  · exact h.sw ho.1.1 ho.1.2 ho.2.1 ho.2.2
  · have e : unK 3 a b K 28 = K 28 - 1 := by
      show iu K 28 (K 28 - 1) 28 = K 28 - 1
      exact iu_self _ _ _
    have hv := hK.2.2.2.1
    rw [e] at hv
    have h0 := h.tm hv.1 hv.2
    rw [← h.2.2.2.2.2.2.2.1] at h0
    show FrV (iu K 28 (K 28 - 1)) n lt sn lw fo Fr To Ln Kd dp Mt Lt Sk Ss (iu Tm 0 (Tm 0 - 1))
    rw [← h.2.2.2.2.2.2.2.1]
    exact h0
theorem KOK.mix {A B C : Int → Int} (hA : KOK A) (hB : KOK B) (e1 : ∀ q, 0 ≤ q → q < 29 → C q = A q) (e2 : ∀ q, 29 ≤ q → C q = B q) (e3 : A 76 = B 76) : KOK C := by
  have hn := hB.1
  refine KOK_mv hB e2 (fun i i0 i1 => ?_) (fun k k0 k1 => ?_) ?_
  · have hx := hA.2.1 i i0 (by omega)
    rw [e1 i i0 (by omega), e1 (10 + i) (by omega) (by omega)]
    exact ⟨hx.1, hx.2.1⟩
  · rw [e1 (20 + k) (by omega) (by omega)]; exact hA.2.2.1 k k0 k1
  · rw [e1 28 (by decide) (by decide)]; exact hA.2.2.2.1
/-- the state ahead of deed i -/
def rwK (X K : Int → Int) (u i : Int) : Int → Int := if i < u then cpy K X 0 (30 * i) 29 else K
def LogK (D O1 O2 : Int → Int) (u : Int) (X K : Int → Int) : Prop := (0 ≤ u ∧ u ≤ 16) ∧ ∀ i : Int, 0 ≤ i → i < u → X (30 * i + 29) = D i ∧ rowOK (K 76) (D i) (O1 i) (O2 i) ∧ KOK (rwK X K u i) ∧ rwK X K u i = unK (D i) (O1 i) (O2 i) (rwK X K u (i + 1))
theorem rwK_in {X K : Int → Int} {u i q : Int} (hi : i < u) (q0 : 0 ≤ q) (q1 : q < 29) : rwK X K u i q = X (30 * i + q) := by
  unfold rwK cpy
  rw [if_pos hi, if_pos (by omega), show q - 0 + 30 * i = 30 * i + q by omega]
theorem rwK_out {X K : Int → Int} {u i q : Int} (hq : q < 0 ∨ 29 ≤ q) : rwK X K u i q = K q := by
  unfold rwK
  split
  · unfold cpy; rw [if_neg (by omega)]
  · rfl
theorem rwK_end {X K : Int → Int} {u : Int} : rwK X K u u = K := if_neg (by omega)
theorem LogK.nil {D O1 O2 X K : Int → Int} : LogK D O1 O2 0 X K := ⟨⟨by decide, by decide⟩, fun i i0 i1 => by omega⟩
theorem LogK.cg {D O1 O2 D' O1' O2' X K X' K' : Int → Int} {u : Int} (h : LogK D O1 O2 u X K) (hK : KOK K') (eD : ∀ i : Int, 0 ≤ i → i < 16 → D' i = D i ∧ O1' i = O1 i ∧ O2' i = O2 i) (eX : ∀ q : Int, 0 ≤ q → q < 480 → X' q = X q) (eK : ∀ q : Int, 0 ≤ q → q < 29 → K' q = K q) (e76 : K' 76 = K 76) : LogK D' O1' O2' u X' K' := by
  have hu := h.1
  have hn := hK.1
  have e1 : ∀ i : Int, 0 ≤ i → i ≤ u → ∀ q, 0 ≤ q → q < 29 → rwK X' K' u i q = rwK X K u i q := by
    intro i i0 i1 q q0 q1
    by_cases hi : i < u
    · rw [rwK_in hi q0 q1, rwK_in hi q0 q1]; exact eX _ (by omega) (by omega)
    · rw [show i = u by omega, rwK_end, rwK_end]; exact eK q q0 q1
  refine ⟨hu, fun i i0 i1 => ?_⟩
  obtain ⟨a1, a2, a3, a4⟩ := h.2 i i0 i1
  obtain ⟨b1, b2, b3⟩ := eD i i0 (by omega)
  rw [b1, b2, b3]
  have a2' : rowOK (K' 76) (D i) (O1 i) (O2 i) := by rw [e76]; exact a2
  refine ⟨by rw [eX _ (by omega) (by omega)]; exact a1, a2', ?_, ?_⟩
  · refine KOK.mix a3 hK (e1 i i0 (by omega)) (fun q hq => rwK_out (Or.inr hq)) ?_
    rw [rwK_out (Or.inr (by decide)), e76]
  · funext q
    by_cases hq : 0 ≤ q ∧ q < 29
    · rw [e1 i i0 (by omega) q hq.1 hq.2, congrFun a4 q]
      exact (unK_cg a2' hn.2 (e1 (i + 1) (by omega) (by omega)) q hq.1 hq.2).symm
    · rw [rwK_out (by omega), unK_out a2' hn.2 (by omega), rwK_out (by omega)]
theorem LogK.push0 {D O1 O2 X K K2 : Int → Int} {u d a b : Int} (h : LogK D O1 O2 u X K) (hK : KOK K) (ho : rowOK (K 76) d a b) (hu : u < 16) (R : ∀ q, q < 0 ∨ 29 ≤ q → K2 q = K q) (e : K = unK d a b K2) : LogK (iu D u d) (iu O1 u a) (iu O2 u b) (u + 1) (iu (cpy X K (30 * u) 0 29) (30 * u + 29) d) K2 := by
  have hu0 := h.1
  have e1 : ∀ i : Int, 0 ≤ i → i ≤ u → rwK (iu (cpy X K (30 * u) 0 29) (30 * u + 29) d) K2 (u + 1) i = rwK X K u i := by
    intro i i0 i1
    funext q
    by_cases hq : 0 ≤ q ∧ q < 29
    · rw [rwK_in (by omega) hq.1 hq.2, iu_ne (by omega)]
      by_cases hi : i < u
      · rw [rwK_in hi hq.1 hq.2]
        unfold cpy; rw [if_neg (by omega)]
      · rw [show i = u by omega, rwK_end]
        unfold cpy; rw [if_pos (by omega), show 30 * u + q - 30 * u + 0 = q by omega]
    · rw [rwK_out (by omega), rwK_out (by omega)]; exact R q (by omega)
  refine ⟨⟨by omega, by omega⟩, fun i i0 i1 => ?_⟩
  by_cases hi : i < u
  · obtain ⟨a1, a2, a3, a4⟩ := h.2 i i0 hi
    rw [iu_ne (show i ≠ u by omega), iu_ne (show i ≠ u by omega), iu_ne (show i ≠ u by omega), iu_ne (show 30 * i + 29 ≠ 30 * u + 29 by omega), e1 i i0 (by omega), e1 (i + 1) (by omega) (by omega), R 76 (Or.inr (by decide))]
    refine ⟨?_, a2, a3, a4⟩
    rw [← a1]; unfold cpy; rw [if_neg (by omega)]
  · have hi2 : i = u := by omega
    subst hi2
    rw [iu_self, iu_self, iu_self, iu_self, e1 i i0 (by omega), rwK_end, rwK_end, R 76 (Or.inr (by decide))]
    exact ⟨rfl, ho, hK, e⟩
theorem LogK.shift {D O1 O2 X K : Int → Int} (h : LogK D O1 O2 16 X K) : LogK (cpy D D 0 1 15) (cpy O1 O1 0 1 15) (cpy O2 O2 0 1 15) 15 (shd X 30 450) K := by
  have e1 : ∀ i : Int, 0 ≤ i → i ≤ 15 → rwK (shd X 30 450) K 15 i = rwK X K 16 (i + 1) := by
    intro i i0 i1
    funext q
    by_cases hq : 0 ≤ q ∧ q < 29
    · by_cases hi : i < 15
      · rw [rwK_in hi hq.1 hq.2, rwK_in (by omega) hq.1 hq.2]
        unfold shd
        rw [if_pos (by omega), show 30 * i + q + 30 = 30 * (i + 1) + q by omega]
      · rw [show i = 15 by omega, rwK_end, show (15 : Int) + 1 = 16 by decide, rwK_end]
    · rw [rwK_out (by omega), rwK_out (by omega)]
  have c1 : ∀ (Y : Int → Int) (i : Int), 0 ≤ i → i < 15 → cpy Y Y 0 1 15 i = Y (i + 1) := by
    intro Y i i0 i1
    unfold cpy; rw [if_pos (by omega), show i - 0 + 1 = i + 1 by omega]
  refine ⟨⟨by decide, by decide⟩, fun i i0 i1 => ?_⟩
  obtain ⟨a1, a2, a3, a4⟩ := h.2 (i + 1) (by omega) (by omega)
  rw [c1 D i i0 i1, c1 O1 i i0 i1, c1 O2 i i0 i1, e1 i i0 (by omega), e1 (i + 1) (by omega) (by omega)]
  refine ⟨?_, a2, a3, a4⟩
  rw [← a1]; unfold shd; rw [if_pos (by omega), show 30 * i + 29 + 30 = 30 * (i + 1) + 29 by omega]
theorem LogK.push {D O1 O2 X K K2 : Int → Int} {u d a b : Int} (h : LogK D O1 O2 u X K) (hK : KOK K) (ho : rowOK (K 76) d a b) (R : ∀ q, q < 0 ∨ 29 ≤ q → K2 q = K q) (e : K = unK d a b K2) : LogK (iu (if u = 16 then cpy D D 0 1 15 else D) (if u = 16 then 15 else u) d) (iu (if u = 16 then cpy O1 O1 0 1 15 else O1) (if u = 16 then 15 else u) a) (iu (if u = 16 then cpy O2 O2 0 1 15 else O2) (if u = 16 then 15 else u) b) ((if u = 16 then 15 else u) + 1) (kpR X K u d) K2 := by
  have hu := h.1
  unfold kpR kpX kpU
  by_cases hq : u = 16
  · subst hq
    rw [if_pos rfl, if_pos rfl, if_pos rfl, if_pos rfl, if_pos rfl]
    exact h.shift.push0 hK ho (by decide) R e
  · rw [if_neg hq, if_neg hq, if_neg hq, if_neg hq, if_neg hq]
    exact h.push0 hK ho (by omega) R e
theorem LogK.pop {D O1 O2 X K : Int → Int} {u : Int} (h : LogK D O1 O2 u X K) (hu : 0 < u) : X (30 * (u - 1) + 29) = D (u - 1) ∧ rowOK (K 76) (D (u - 1)) (O1 (u - 1)) (O2 (u - 1)) ∧ cpy K X 0 (30 * (u - 1)) 29 = unK (D (u - 1)) (O1 (u - 1)) (O2 (u - 1)) K ∧ KOK (cpy K X 0 (30 * (u - 1)) 29) ∧ LogK D O1 O2 (u - 1) X (cpy K X 0 (30 * (u - 1)) 29) := by
  have hu0 := h.1
  obtain ⟨a1, a2, a3, a4⟩ := h.2 (u - 1) (by omega) (by omega)
  have e0 : rwK X K u (u - 1) = cpy K X 0 (30 * (u - 1)) 29 := if_pos (by omega)
  rw [e0] at a3 a4
  rw [show u - 1 + 1 = u by omega, rwK_end] at a4
  refine ⟨a1, a2, a4, a3, ⟨by omega, by omega⟩, fun i i0 i1 => ?_⟩
  obtain ⟨b1, b2, b3, b4⟩ := h.2 i i0 (by omega)
  have e1 : ∀ i : Int, 0 ≤ i → i ≤ u - 1 → rwK X (cpy K X 0 (30 * (u - 1)) 29) (u - 1) i = rwK X K u i := by
    intro i i0 i1
    by_cases hi : i < u - 1
    · funext q
      by_cases hq : 0 ≤ q ∧ q < 29
      · rw [rwK_in hi hq.1 hq.2, rwK_in (by omega) hq.1 hq.2]
      · rw [rwK_out (by omega), rwK_out (by omega)]
        unfold cpy; rw [if_neg (by omega)]
    · rw [show i = u - 1 by omega, rwK_end, e0]
  have e76 : cpy K X 0 (30 * (u - 1)) 29 76 = K 76 := by unfold cpy; rw [if_neg (by omega)]
  rw [e1 i i0 (by omega), e1 (i + 1) (by omega) (by omega), e76]
  exact ⟨b1, b2, b3, b4⟩
