/-! ===== paper: when fuses are out, as mathematics; the reference's fire by matches ===== -/
theorem tellF_in {head lo hi : Int} {φ : Int → Int} (h : lo ≤ hi) : ∀ (cl : List Cla) (w : Int), lo ≤ w → w ≤ hi → lo ≤ tellF head lo hi φ cl w ∧ tellF head lo hi φ cl w ≤ hi := by
  intro cl
  induction cl with
  | nil => intro w h0 h1; exact ⟨h0, h1⟩
  | cons k cl ih =>
    intro w h0 h1
    obtain ⟨vb, d1, d2, tm, q⟩ := k
    rw [tellF_cons]
    have hs : lo ≤ tellS head lo hi vb (d1 φ) (tellF.isSoB q φ) w ∧ tellS head lo hi vb (d1 φ) (tellF.isSoB q φ) w ≤ hi := by
      unfold tellS
      split
      · split
        · exact ⟨h0, h1⟩
        · split
          · omega
          · split <;> omega
      · exact ⟨h0, h1⟩
    exact ih _ hs.1 hs.2
/-- what is kept is sound -/
def KOK (K : Int → Int) : Prop := (0 ≤ K 76 ∧ K 76 ≤ 10) ∧ (∀ i, 0 ≤ i → i < K 76 → (K i = 0 ∨ K i = 1) ∧ (1 ≤ K (10 + i) ∧ K (10 + i) ≤ 60) ∧ (0 ≤ K (29 + i) ∧ K (29 + i) ≤ 7) ∧ (0 ≤ K (39 + i) ∧ K (39 + i) ≤ 7) ∧ K (29 + i) ≠ K (39 + i) ∧ (0 ≤ K (49 + i) ∧ K (49 + i) ≤ 3)) ∧ (∀ k, 0 ≤ k → k ≤ 7 → -1 ≤ K (20 + k) ∧ K (20 + k) ≤ 999) ∧ (0 ≤ K 28 ∧ K 28 ≤ 999) ∧ (0 ≤ K 77 ∧ K 77 ≤ 3) ∧ (∀ i, 0 ≤ i → i < K 77 → 0 ≤ K (59 + i) ∧ K (59 + i) ≤ 1023) ∧ (0 ≤ K 78 ∧ K 78 ≤ 6) ∧ (∀ i, 0 ≤ i → i < K 78 → (0 ≤ K (62 + 2 * i) ∧ K (62 + 2 * i) ≤ 7) ∧ 0 ≤ K (62 + 2 * i + 1) ∧ K (62 + 2 * i + 1) ≤ 999) ∧ (0 ≤ K 74 ∧ K 74 ≤ 10) ∧ (0 ≤ K 75 ∧ K 75 ≤ 9) ∧ (0 ≤ K 79 ∧ K 79 ≤ 6) ∧ (-1 ≤ K 80 ∧ K 80 ≤ K 79 - 1)
theorem KOK.lawH {K : Int → Int} (h : KOK K) : LawH K := ⟨h.1.1, h.1.2, fun i h0 h1 => (h.2.1 i h0 h1).1⟩
theorem brn_in {K : Int → Int} {cl : List Cla} {x : Int} (h : KOK K) (h0 : 0 ≤ x) (h1 : x < K 76) : 1 ≤ brn K cl x ∧ brn K cl x ≤ 99 := by
  have := (h.2.1 x h0 h1).2.1
  exact tellF_in (by decide) cl _ (by omega) (by omega)
theorem hld_in {K : Int → Int} {cl : List Cla} {k : Int} : 0 ≤ hld K cl k ∧ hld K cl k ≤ 9 := tellF_in (by decide) cl _ (by decide) (by decide)
theorem KOK.fr {K : Int → Int} {cl : List Cla} (h : KOK K) : FrOK (frK K) (toK K) (brn K cl) (hld K cl) (K 76).toNat := by
  have hn := h.1
  refine ⟨by omega, fun x h0 h1 => ?_, fun k _ _ => hld_in⟩
  have q := h.2.1 x h0 (by omega)
  exact ⟨q.2.2.1, q.2.2.2.1, brn_in h h0 (by omega)⟩
/-- the times as the reference holds them -/
def TmOK (K : Int → Int) (cl : List Cla) (B Hd : Int → Int) : Prop := (∀ x, 0 ≤ x → x < K 76 → B x = brn K cl x) ∧ ∀ k, 0 ≤ k → k ≤ 7 → Hd k = hld K cl k
def ctS (K : Int → Int) (cl : List Cla) : Int := msk (fun t => decide (ctc K cl t)) (K 76).toNat
theorem ctS_in {K : Int → Int} {cl : List Cla} (h : KOK K) : 0 ≤ ctS K cl ∧ ctS K cl ≤ 1023 := by
  have hn := h.1
  have a := msk_in (p := fun t => decide (ctc K cl t)) (n := (K 76).toNat) (by omega)
  have b : (2 ^ (K 76).toNat : Nat) ≤ 2 ^ 10 := Nat.pow_le_pow_right (by decide) (by omega)
  have c : (2 ^ 10 : Nat) = 1024 := by decide
  unfold ctS
  omega
theorem ctS_31 {K : Int → Int} {cl : List Cla} (h : KOK K) : z31 (ctS K cl) := by
  have := ctS_in (cl := cl) h
  exact ⟨this.1, by omega⟩
theorem TmOK.fr {K B Hd : Int → Int} {cl : List Cla} (hT : TmOK K cl B Hd) (h : KOK K) : FrOK (frK K) (toK K) B Hd (K 76).toNat := by
  have q := h.fr (cl := cl)
  refine ⟨q.1, fun x h0 h1 => ?_, fun k h0 h1 => ?_⟩
  · rw [hT.1 x h0 (by omega)]; exact q.2.1 x h0 h1
  · rw [hT.2 k h0 h1]; exact q.2.2 k h0 h1
section CgB
variable {fr to B Hd B' Hd' : Int → Int} {S : Int} {n : Nat}
theorem rdN_cgB (hF : FrOK fr to B Hd n) (hB : ∀ x : Int, 0 ≤ x → x < n → B x = B' x) (hH : ∀ k : Int, 0 ≤ k → k ≤ 7 → Hd k = Hd' k) {p : (Int → Int) × Int} : ∀ m : Nat, m ≤ n → rdN fr to B Hd S p m = rdN fr to B' Hd' S p m := by
  intro m
  induction m with
  | zero => intro _; rfl
  | succ m ih =>
    intro hm
    obtain ⟨h1, h2, -, -⟩ := hF.2.1 m (by omega) (by omega)
    have eB := hB m (by omega) (by omega)
    have eg : ∀ (C : Int → Int) (a : Int), (0 ≤ a ∧ a ≤ 7) → gIs C B Hd m a = gIs C B' Hd' m a := by
      intro C a ha
      unfold gIs
      rw [eB, hH a ha.1 ha.2]
    have eC : ∀ (C : Int → Int) (a b : Int), (0 ≤ a ∧ a ≤ 7) → gC C B Hd m a b = gC C B' Hd' m a b := by
      intro C a b ha
      unfold gC
      rw [eg C a ha]
    simp only [rdN, rdS]
    rw [ih (by omega), eC _ _ _ h1, eg _ _ h1, eC _ _ _ h2, eg _ _ h2]
theorem dist_cgB (hF : FrOK fr to B Hd n) (hB : ∀ x : Int, 0 ≤ x → x < n → B x = B' x) (hH : ∀ k : Int, 0 ≤ k → k ≤ 7 → Hd k = Hd' k) (C : Int → Int) : dist fr to B Hd S n C = dist fr to B' Hd' S n C := by
  have key : ∀ k : Nat, rdI fr to B Hd S n C k = rdI fr to B' Hd' S n C k := by
    intro k
    induction k with
    | zero => rfl
    | succ k ih =>
      show (rdN fr to B Hd S (rdI fr to B Hd S n C k, 0) n).1 = (rdN fr to B' Hd' S (rdI fr to B' Hd' S n C k, 0) n).1
      rw [ih, rdN_cgB hF hB hH n (Nat.le_refl n)]
  exact key 8
end CgB
/-- fire over the frame that is kept -/
def dK (K : Int → Int) (cl : List Cla) (S : Int) (C : Int → Int) : Int → Int := dist (frK K) (toK K) (brn K cl) (hld K cl) S (K 76).toNat C
theorem TmOK.dist {K B Hd : Int → Int} {cl : List Cla} (hT : TmOK K cl B Hd) (h : KOK K) {S : Int} {C : Int → Int} : dist (frK K) (toK K) B Hd S (K 76).toNat C = dK K cl S C := by
  have hn := h.1
  exact dist_cgB (hT.fr h) (fun x h0 h1 => hT.1 x h0 (by omega)) hT.2 C
def outC (fr to B Hd : Int → Int) (S : Int) (C : Int → Int) (x : Int) : Int := if ¬ bt S x ∨ C (fr x) = 1000000 then 1000000 else min (C (fr x) + Hd (fr x) + (C (to x) + Hd (to x)) + B x) (2 * min (C (fr x) + Hd (fr x)) (C (to x) + Hd (to x)) + 2 * B x)
def oK (K : Int → Int) (cl : List Cla) (S : Int) (C : Int → Int) (x : Int) : Int := outC (frK K) (toK K) (brn K cl) (hld K cl) S C x
theorem oK_in {K : Int → Int} {cl : List Cla} {S : Int} {C : Int → Int} {x : Int} (h : KOK K) (hC : COK C) (h0 : 0 ≤ x) (h1 : x < K 76) : 0 ≤ oK K cl S C x ∧ oK K cl S C x ≤ 1001000 := by
  have q := h.2.1 x h0 h1
  have a := hC.bd (k := K (29 + x)) q.2.2.1.1 q.2.2.1.2
  have b := hC.bd (k := K (39 + x)) q.2.2.2.1.1 q.2.2.2.1.2
  have e := brn_in (cl := cl) h h0 h1
  have ha := hld_in (K := K) (cl := cl) (k := K (29 + x))
  have hb := hld_in (K := K) (cl := cl) (k := K (39 + x))
  unfold oK outC
  simp only [frK, toK]
  split <;> omega
theorem outC_cg {K B Hd C D : Int → Int} {cl : List Cla} {S x : Int} (hT : TmOK K cl B Hd) (h : KOK K) (hD : ag8 C D) (h0 : 0 ≤ x) (h1 : x < K 76) : outC (frK K) (toK K) B Hd S C x = oK K cl S D x := by
  have q := h.2.1 x h0 h1
  unfold oK outC
  simp only [frK, toK]
  rw [hT.1 x h0 h1, hT.2 _ q.2.2.1.1 q.2.2.1.2, hT.2 _ q.2.2.2.1.1 q.2.2.2.1.2, hD _ q.2.2.1.1 q.2.2.1.2, hD _ q.2.2.2.1.1 q.2.2.2.1.2]

theorem pPart_cg {lw : Bool} {c v c' v' : Int → Int} {inner inner' : Option (Nat → Nat → PR)} (hc : ∀ i : Int, 0 ≤ i → c i = c' i) (hv : ∀ i : Int, 0 ≤ i → v i = v' i) (hi : inner = inner') : pPart lw c v inner = pPart lw c' v' inner' := by
  subst hi
  funext t p
  have e1 := hc t (by omega)
  have e2 := hc (t + 1) (by omega)
  have e3 := hv t (by omega)
  have e4 := hv (t + 1) (by omega)
  unfold pPart
  rw [e1, e2, e3, e4]
  cases inner with
  | none => rfl
  | some g =>
    simp only
    cases g (t + 1) p with
    | error e => rfl
    | ok r => simp only; rw [hc r.1 (by omega)]
theorem pRow_cg {op : Int → Option Int} {c c' : Int → Int} {item item' : Nat → Nat → PR} (hc : ∀ i : Int, 0 ≤ i → c i = c' i) (hi : item = item') : pRow op c item = pRow op c' item' := by
  subst hi
  have key : ∀ (m t p : Nat) (k : Den), pLoop op c item m t p k = pLoop op c' item m t p k := by
    intro m
    induction m with
    | zero => intro t p k; rfl
    | succ m ih =>
      intro t p k
      simp only [pLoop]
      rw [hc t (by omega)]
      cases op (c' t) with
      | none => rfl
      | some o =>
        simp only
        cases item (t + 1) p with
        | error e => rfl
        | ok r => simp only; exact ih _ _ _
  funext t p
  unfold pRow
  cases item t p with
  | error e => rfl
  | ok r => simp only; exact key _ _ _ _
theorem pRowB_cg {w : Int} {join : Den → Den → Den} {c c' : Int → Int} {item item' : Nat → Nat → PR} (hc : ∀ i : Int, 0 ≤ i → c i = c' i) (hi : item = item') : pRowB w join c item = pRowB w join c' item' := by
  subst hi
  have key : ∀ (m t p : Nat) (k : Den), pLoopB w join c item m t p k = pLoopB w join c' item m t p k := by
    intro m
    induction m with
    | zero => intro t p k; rfl
    | succ m ih =>
      intro t p k
      simp only [pLoopB]
      rw [hc t (by omega)]
      split
      · cases item (t + 1) p with
        | error e => rfl
        | ok r => simp only; exact ih _ _ _
      · rfl
  funext t p
  unfold pRowB
  cases item t p with
  | error e => rfl
  | ok r => simp only; exact key _ _ _ _
theorem pNots_cg {c c' : Int → Int} (hc : ∀ i : Int, 0 ≤ i → c i = c' i) : ∀ (m t : Nat) (b : Bool), pNots c m t b = pNots c' m t b := by
  intro m
  induction m with
  | zero => intro t b; rfl
  | succ m ih =>
    intro t b
    simp only [pNots]
    rw [hc t (by omega), ih]
theorem pPlain_cg {c c' : Int → Int} {sum sum' : Nat → Nat → PR} {inner inner' : Option (Nat → Nat → PR)} (hc : ∀ i : Int, 0 ≤ i → c i = c' i) (hs : sum = sum') (hi : inner = inner') : pPlain c sum inner = pPlain c' sum' inner' := by
  subst hs; subst hi
  funext t p
  unfold pPlain
  rw [pNots_cg hc]
  generalize pNots c' 401 t false = q
  obtain ⟨t1, b⟩ := q
  simp only
  rw [hc t1 (by omega)]
  split
  · cases inner with
    | none => rfl
    | some g =>
      simp only
      cases g (t1 + 1) p with
      | error e => rfl
      | ok r => simp only; rw [hc r.1 (by omega)]
  · cases sum t1 p with
    | error e => rfl
    | ok r => simp only; rw [hc r.1 (by omega)]
theorem pSumD_cg {lw : Bool} {c v c' v' : Int → Int} (hc : ∀ i : Int, 0 ≤ i → c i = c' i) (hv : ∀ i : Int, 0 ≤ i → v i = v' i) : ∀ d : Nat, pSumD lw c v d = pSumD lw c' v' d := by
  intro d
  induction d with
  | zero => exact pRow_cg hc (pRow_cg hc (pPart_cg hc hv rfl))
  | succ d ih => exact pRow_cg hc (pRow_cg hc (pPart_cg hc hv (by rw [ih])))
theorem pTestD_cg {lw : Bool} {c v c' v' : Int → Int} (hc : ∀ i : Int, 0 ≤ i → c i = c' i) (hv : ∀ i : Int, 0 ≤ i → v i = v' i) : ∀ d : Nat, pTestD lw c v d = pTestD lw c' v' d := by
  intro d
  induction d with
  | zero => exact pRowB_cg hc (pRowB_cg hc (pPlain_cg hc (pSumD_cg hc hv 0) rfl))
  | succ d ih => exact pRowB_cg hc (pRowB_cg hc (pPlain_cg hc (pSumD_cg hc hv (d + 1)) (by rw [ih])))
theorem pIf_cg {lw : Bool} {c v c' v' : Int → Int} (hc : ∀ i : Int, 0 ≤ i → c i = c' i) (hv : ∀ i : Int, 0 ≤ i → v i = v' i) : pIf lw c v = pIf lw c' v' := by
  funext t p
  unfold pIf
  rw [hc t (by omega), pTestD_cg hc hv 8]
theorem pCla_cg {lw : Bool} {c v c' v' : Int → Int} (hc : ∀ i : Int, 0 ≤ i → c i = c' i) (hv : ∀ i : Int, 0 ≤ i → v i = v' i) : pCla lw c v = pCla lw c' v' := by
  funext t p
  have e1 := hc t (by omega)
  have e2 := hc (t + 1) (by omega)
  unfold pCla
  rw [pIf_cg hc hv, pSumD_cg hc hv 8]
  simp only
  have et : ∀ t : Nat, c t = c' t := fun t => hc t (by omega)
  have et1 : ∀ t : Nat, c ((t : Int) + 1) = c' ((t : Int) + 1) := fun t => hc _ (by omega)
  have ev1 : ∀ t : Nat, v ((t : Int) + 1) = v' ((t : Int) + 1) := fun t => hv _ (by omega)
  simp only [et, et1, ev1]
theorem pText_cg {lw : Bool} {c v c' v' : Int → Int} (hc : ∀ i : Int, 0 ≤ i → c i = c' i) (hv : ∀ i : Int, 0 ≤ i → v i = v' i) (n : Nat) : ∀ m t p : Nat, pText lw c v n m t p = pText lw c' v' n m t p := by
  intro m
  induction m with
  | zero => intro t p; rfl
  | succ m ih =>
    intro t p
    simp only [pText]
    rw [pCla_cg hc hv]
    cases pCla lw c' v' t p with
    | error e => rfl
    | ok r =>
      simp only
      rw [hc r.1 (by omega), ih]
set_option maxHeartbeats 4000000 in
set_option maxRecDepth 100000 in
theorem m_outOf {l : Launch} {o : Nat} {ar : Nat → Nat} {f : mF} {g j : mA} {K : Int → Int} {B : Int → Int} {Hd : Int → Int} {C : Int → Int} {S : Int} {x : Int} {cl : List Cla} {D : Int → Int} (eg2 : g 2 = K) (eg30 : g 30 = B) (eg31 : g 31 = Hd) (eg32 : g 32 = C) (ef33 : f 33 = S) (hx : zIn x) (hS : z31 S) (x0 : 0 ≤ x) (x1 : x < K 76) (hK : KOK K) (hT : TmOK K cl B Hd) (hD : ag8 C D) (hCD : COK D) : MM l o ar MX8_outOf 1 [.ref o, vI x] f g j (PI (fun r f' g' j' => (r = oK K cl S D x) ∧ eqx [] f f' ∧ eqx [] g g' ∧ j' = j)) := by
  refine MM.intro [some (.ref o), some (vI x), none, none] (by decide) (Nat.le_of_ble_eq_true rfl) rfl (fun d hd h0 h hH hA => ?_)
  have hfE : eqx [] f f := eqx.rf
  have hgE : eqx [] g g := eqx.rf
  have hn := hK.1
  obtain ⟨-, -, hfr, hto, -, -⟩ := hK.2.1 x x0 x1
  have hC := COK_cg hD hCD
  have ca := hC.bd hfr.1 hfr.2
  have cb := hC.bd hto.1 hto.2
  have ha : 0 ≤ Hd (K (29 + x)) ∧ Hd (K (29 + x)) ≤ 9 := by rw [hT.2 _ hfr.1 hfr.2]; exact hld_in
  have hb : 0 ≤ Hd (K (39 + x)) ∧ Hd (K (39 + x)) ≤ 9 := by rw [hT.2 _ hto.1 hto.2]; exact hld_in
  have hx2 : 1 ≤ B x ∧ B x ≤ 99 := by rw [hT.1 _ x0 x1]; exact brn_in hK x0 x1
  rw [← outC_cg (S := S) hT hK hD x0 x1]
  refine z_ald_0 (TX8_outOf_0.at 0 rfl) ?_
  refine zm_getIE ef33 (TX8_outOf_0.at 1 rfl) fl8_333 hH rfl (by decide) (fun r1 => ?_)
  refine z_ild_1 (TX8_outOf_0.at 2 rfl) ?_
  refine zs_call2 (s_isIn (by omega) (by omega) (by omega)) (TX8_outOf_0.at 3 rfl) c8_339 rfl (by omega) (Nat.le_of_ble_eq_true rfl) (fun r5 => ?_)
  refine z_if_eqB (tgt := 30) (TX8_outOf_0.at 4 rfl) rfl (fun c1 => ?_) (fun c1 => ?_)
  · skip
    refine z_ldc (v := 1000000) (TX8_outOf_0.at 16 rfl) k8_169 (by decide) ?_
    refine zm_iret (TX8_outOf_0.at 17 rfl) rfl hH hA (by omega) ?_
    exact ⟨by unfold outC; first | (rw [if_pos (Or.inl (by assumption))]; done) | (rw [if_pos (Or.inr (by assumption))]; done) | (rw [if_neg (fun z => z.elim (fun q => q c1) (fun q => absurd q (by simp only [frK]; omega)))]; done), hfE, hgE, rfl⟩
  · skip
    refine z_ald_0 (TX8_outOf_0.at 5 rfl) ?_
    refine zm_getA (TX8_outOf_0.at 6 rfl) fl8_72 hH (by decide) (by decide) ?_
    refine z_ald_0 (TX8_outOf_0.at 7 rfl) ?_
    refine zm_getA (TX8_outOf_0.at 8 rfl) fl8_28 hH (by decide) (by decide) ?_
    refine z_bipush (by decide) (TX8_outOf_0.at 9 rfl) ?_
    refine z_ild_1 (TX8_outOf_0.at 10 rfl) ?_
    refine z_iadd (TX8_outOf_0.at 11 rfl) ?_
    refine zm_ialdE eg2 (TX8_outOf_0.at 12 rfl) hH rfl (by omega) (show _ < ((5688 : Nat) : Int) by omega) (fun r23 => ?_)
    refine zm_ialdE eg32 (TX8_outOf_0.at 13 rfl) hH rfl (by omega) (show _ < ((8 : Nat) : Int) by omega) (fun r24 => ?_)
    refine z_ldc (v := 1000000) (TX8_outOf_0.at 14 rfl) k8_169 (by decide) ?_
    refine z_icmp_ne (tgt := 33) (TX8_outOf_0.at 15 rfl) rfl (by omega) (by omega) (fun c2 => ?_) (fun c2 => ?_)
    · skip
      refine z_ald_0 (TX8_outOf_0.at 18 rfl) ?_
      refine zm_getA (TX8_outOf_0.at 19 rfl) fl8_72 hH (by decide) (by decide) ?_
      refine z_ald_0 (TX8_outOf_0.at 20 rfl) ?_
      refine zm_getA (TX8_outOf_0.at 21 rfl) fl8_28 hH (by decide) (by decide) ?_
      refine z_bipush (by decide) (TX8_outOf_0.at 22 rfl) ?_
      refine z_ild_1 (TX8_outOf_0.at 23 rfl) ?_
      refine z_iadd (TX8_outOf_0.at 24 rfl) ?_
      refine zm_ialdE eg2 (TX8_outOf_0.at 25 rfl) hH rfl (by omega) (show _ < ((5688 : Nat) : Int) by omega) (fun r45 => ?_)
      refine zm_ialdE eg32 (TX8_outOf_0.at 26 rfl) hH rfl (by omega) (show _ < ((8 : Nat) : Int) by omega) (fun r46 => ?_)
      refine z_ald_0 (TX8_outOf_0.at 27 rfl) ?_
      refine zm_getA (TX8_outOf_0.at 28 rfl) fl8_69 hH (by decide) (by decide) ?_
      refine z_ald_0 (TX8_outOf_0.at 29 rfl) ?_
      refine zm_getA (TX8_outOf_0.at 30 rfl) fl8_28 hH (by decide) (by decide) ?_
      refine z_bipush (by decide) (TX8_outOf_0.at 31 rfl) ?_
      refine z_ild_1 (TX8_outOf_0.at 32 rfl) ?_
      refine z_iadd (TX8_outOf_0.at 33 rfl) ?_
      refine zm_ialdE eg2 (TX8_outOf_0.at 34 rfl) hH rfl (by omega) (show _ < ((5688 : Nat) : Int) by omega) (fun r59 => ?_)
      refine zm_ialdE eg31 (TX8_outOf_0.at 35 rfl) hH rfl (by omega) (show _ < ((8 : Nat) : Int) by omega) (fun r60 => ?_)
      refine z_iadd (TX8_outOf_0.at 36 rfl) ?_
      refine z_ist_2 (TX8_outOf_0.at 37 rfl) (Nat.le_of_ble_eq_true rfl) rfl ?_
      refine z_ald_0 (TX8_outOf_0.at 38 rfl) ?_
      refine zm_getA (TX8_outOf_0.at 39 rfl) fl8_72 hH (by decide) (by decide) ?_
      refine z_ald_0 (TX8_outOf_1.at 0 rfl) ?_
      refine zm_getA (TX8_outOf_1.at 1 rfl) fl8_28 hH (by decide) (by decide) ?_
      refine z_bipush (by decide) (TX8_outOf_1.at 2 rfl) ?_
      refine z_ild_1 (TX8_outOf_1.at 3 rfl) ?_
      refine z_iadd (TX8_outOf_1.at 4 rfl) ?_
      refine zm_ialdE eg2 (TX8_outOf_1.at 5 rfl) hH rfl (by omega) (show _ < ((5688 : Nat) : Int) by omega) (fun r75 => ?_)
      refine zm_ialdE eg32 (TX8_outOf_1.at 6 rfl) hH rfl (by omega) (show _ < ((8 : Nat) : Int) by omega) (fun r76 => ?_)
      refine z_ald_0 (TX8_outOf_1.at 7 rfl) ?_
      refine zm_getA (TX8_outOf_1.at 8 rfl) fl8_69 hH (by decide) (by decide) ?_
      refine z_ald_0 (TX8_outOf_1.at 9 rfl) ?_
      refine zm_getA (TX8_outOf_1.at 10 rfl) fl8_28 hH (by decide) (by decide) ?_
      refine z_bipush (by decide) (TX8_outOf_1.at 11 rfl) ?_
      refine z_ild_1 (TX8_outOf_1.at 12 rfl) ?_
      refine z_iadd (TX8_outOf_1.at 13 rfl) ?_
      refine zm_ialdE eg2 (TX8_outOf_1.at 14 rfl) hH rfl (by omega) (show _ < ((5688 : Nat) : Int) by omega) (fun r89 => ?_)
      refine zm_ialdE eg31 (TX8_outOf_1.at 15 rfl) hH rfl (by omega) (show _ < ((8 : Nat) : Int) by omega) (fun r90 => ?_)
      refine z_iadd (TX8_outOf_1.at 16 rfl) ?_
      refine z_ist_3 (TX8_outOf_1.at 17 rfl) (Nat.le_of_ble_eq_true rfl) rfl ?_
      refine z_ild_2 (TX8_outOf_1.at 18 rfl) ?_
      refine z_ild_3 (TX8_outOf_1.at 19 rfl) ?_
      refine z_iadd (TX8_outOf_1.at 20 rfl) ?_
      refine z_ald_0 (TX8_outOf_1.at 21 rfl) ?_
      refine zm_getA (TX8_outOf_1.at 22 rfl) fl8_66 hH (by decide) (by decide) ?_
      refine z_ild_1 (TX8_outOf_1.at 23 rfl) ?_
      refine zm_ialdE eg30 (TX8_outOf_1.at 24 rfl) hH rfl (by omega) (show _ < ((10 : Nat) : Int) by omega) (fun r101 => ?_)
      refine z_iadd (TX8_outOf_1.at 25 rfl) ?_
      refine z_iconst (TX8_outOf_1.at 26 rfl) ?_
      refine z_ild_2 (TX8_outOf_1.at 27 rfl) ?_
      refine z_ild_3 (TX8_outOf_1.at 28 rfl) ?_
      refine zs_call2 (s_lesser (by omega) (by omega)) (TX8_outOf_1.at 29 rfl) c8_336 rfl (by omega) (Nat.le_of_ble_eq_true rfl) (fun r106 => ?_)
      refine z_imul (TX8_outOf_1.at 30 rfl) ?_
      refine z_iconst (TX8_outOf_1.at 31 rfl) ?_
      refine z_ald_0 (TX8_outOf_1.at 32 rfl) ?_
      refine zm_getA (TX8_outOf_1.at 33 rfl) fl8_66 hH (by decide) (by decide) ?_
      refine z_ild_1 (TX8_outOf_1.at 34 rfl) ?_
      refine zm_ialdE eg30 (TX8_outOf_1.at 35 rfl) hH rfl (by omega) (show _ < ((10 : Nat) : Int) by omega) (fun r116 => ?_)
      refine z_imul (TX8_outOf_1.at 36 rfl) ?_
      refine z_iadd (TX8_outOf_1.at 37 rfl) ?_
      refine zs_call2 (s_lesser (by omega) (by omega)) (TX8_outOf_1.at 38 rfl) c8_336 rfl (by omega) (Nat.le_of_ble_eq_true rfl) (fun r119 => ?_)
      refine zm_iret (TX8_outOf_1.at 39 rfl) rfl hH hA (by omega) ?_
      exact ⟨by unfold outC; first | (rw [if_pos (Or.inl (by assumption))]; done) | (rw [if_pos (Or.inr (by assumption))]; done) | (rw [if_neg (fun z => z.elim (fun q => q c1) (fun q => absurd q (by simp only [frK]; omega)))]; done), hfE, hgE, rfl⟩
    · skip
      refine z_ldc (v := 1000000) (TX8_outOf_0.at 16 rfl) k8_169 (by decide) ?_
      refine zm_iret (TX8_outOf_0.at 17 rfl) rfl hH hA (by omega) ?_
      exact ⟨by unfold outC; first | (rw [if_pos (Or.inl (by assumption))]; done) | (rw [if_pos (Or.inr (by assumption))]; done) | (rw [if_neg (fun z => z.elim (fun q => q c1) (fun q => absurd q (by simp only [frK]; omega)))]; done), hfE, hgE, rfl⟩

theorem tm_of {K B Hd B0 H0 : Int → Int} {cl : List Cla} (h : KOK K) (e1 : B = cpF B0 (brn K cl) 0 (K 76)) (e2 : Hd = cpF H0 (hld K cl) 0 8) : TmOK K cl B Hd := by
  subst e1; subst e2
  refine ⟨fun x h0 h1 => ?_, fun k h0 h1 => ?_⟩
  · unfold cpF; rw [if_pos (by omega), Int.sub_zero]
  · unfold cpF; rw [if_pos (by omega), Int.sub_zero]
theorem ag8_lit (X K : Int → Int) : ag8 (cpF X (lit K) 0 8) (lit K) := fun t h0 h7 => by unfold cpF; rw [if_pos (by omega), show t - 0 = t by omega]
set_option maxHeartbeats 4000000 in
set_option maxRecDepth 100000 in
theorem lp_byM {l : Launch} {o : Nat} {ar : Nat → Nat} {d : Nat} {Pz : Option Value → zH → Prop} {h0 : zH} {f0 : mF} {g0 : mA} {j : mA}  {K X32 : Int → Int} (kx : ∀ (f : mF) (g : mA) (h : zH), g 2 = K → g 32 = cpF X32 (lit K) 0 8 → eqx [] f0 f → eqx [32] g0 g → HM o ar f g j h → zAg o ar h0 h → Z l MX8_firesByMatches d 0 0 Pz 51 [some (.ref o), some (vI 8)] [] h 0 0)  : ∀ (n : Nat) (i : Int) (f : mF) (g : mA) (h : zH) (i0 : 0 ≤ i) (i1 : i ≤ 8) (i2 : 8 < i + n) (eg2 : g 2 = K) (eg32 : g 32 = cpF X32 (lit K) 0 i) (hfE : eqx [] f0 f) (hgE : eqx [32] g0 g) (hH : HM o ar f g j h) (hA : zAg o ar h0 h), Z l MX8_firesByMatches d 0 0 Pz 6 [some (.ref o), some (vI i)] [] h 0 0 := by
  intro n
  induction n with
  | zero => intro i f g h i0 i1 i2 eg2 eg32 hfE hgE hH hA; exfalso; omega
  | succ n ih =>
    intro i f g h i0 i1 i2 eg2 eg32 hfE hgE hH hA
    refine z_ild_1 (TX8_firesByMatches.at 4 rfl) ?_
    refine z_bipush (by decide) (TX8_firesByMatches.at 5 rfl) ?_
    refine z_icmp_ge (tgt := 51) (TX8_firesByMatches.at 6 rfl) rfl (by omega) (by omega) (fun c1 => ?_) (fun c1 => ?_)
    · skip
      obtain rfl : i = 8 := by omega
      exact kx _ _ _ eg2 eg32 hfE hgE hH hA
    · skip
      refine z_ald_0 (TX8_firesByMatches.at 7 rfl) ?_
      refine zm_getA (TX8_firesByMatches.at 8 rfl) fl8_72 hH (by decide) (by decide) ?_
      refine z_ild_1 (TX8_firesByMatches.at 9 rfl) ?_
      refine z_ald_0 (TX8_firesByMatches.at 10 rfl) ?_
      refine zm_getA (TX8_firesByMatches.at 11 rfl) fl8_28 hH (by decide) (by decide) ?_
      refine z_bipush (by decide) (TX8_firesByMatches.at 12 rfl) ?_
      refine z_ild_1 (TX8_firesByMatches.at 13 rfl) ?_
      refine z_iadd (TX8_firesByMatches.at 14 rfl) ?_
      refine zm_ialdE eg2 (TX8_firesByMatches.at 15 rfl) hH rfl (by omega) (show _ < ((5688 : Nat) : Int) by omega) (fun r25 => ?_)
      refine z_iconst (TX8_firesByMatches.at 16 rfl) ?_
      refine z_icmp_ne (tgt := 35) (TX8_firesByMatches.at 17 rfl) rfl (by omega) (by omega) (fun c2 => ?_) (fun c2 => ?_)
      · skip
        refine z_ald_0 (TX8_firesByMatches.at 20 rfl) ?_
        refine zm_getA (TX8_firesByMatches.at 21 rfl) fl8_28 hH (by decide) (by decide) ?_
        refine z_bipush (by decide) (TX8_firesByMatches.at 22 rfl) ?_
        refine z_ild_1 (TX8_firesByMatches.at 23 rfl) ?_
        refine z_iadd (TX8_firesByMatches.at 24 rfl) ?_
        refine zm_ialdE eg2 (TX8_firesByMatches.at 25 rfl) hH rfl (by omega) (show _ < ((5688 : Nat) : Int) by omega) (fun r43 => ?_)
        refine zm_iastE (TX8_firesByMatches.at 26 rfl) hH hA rfl (by omega) (show _ < ((8 : Nat) : Int) by omega) (by omega) (fun h g44 e1 e2 hH hA => ?_)
        have eg2 := (e1 2 (by decide)).trans eg2
        rw [eg32] at e2; have eg32 := e2
        have hgE := hgE.put e1 (by decide)
        refine z_iinc_1 (TX8_firesByMatches.at 27 rfl) (Nat.le_of_ble_eq_true rfl) rfl ?_
        refine z_goto (tgt := 6) (TX8_firesByMatches.at 28 rfl) rfl ?_
        exact ih (i + 1) _ _ _ (by omega) (by omega) (by omega) eg2 (eg32.trans (cpF_s i0 (by omega) (by unfold lit; first | rw [if_pos (by assumption)] | rw [if_neg (by assumption)]))) hfE hgE hH hA
      · skip
        refine z_ldc (v := 1000000) (TX8_firesByMatches.at 18 rfl) k8_169 (by decide) ?_
        refine z_goto (tgt := 44) (TX8_firesByMatches.at 19 rfl) rfl ?_
        refine zm_iastE (TX8_firesByMatches.at 26 rfl) hH hA rfl (by omega) (show _ < ((8 : Nat) : Int) by omega) (by omega) (fun h g44 e1 e2 hH hA => ?_)
        have eg2 := (e1 2 (by decide)).trans eg2
        rw [eg32] at e2; have eg32 := e2
        have hgE := hgE.put e1 (by decide)
        refine z_iinc_1 (TX8_firesByMatches.at 27 rfl) (Nat.le_of_ble_eq_true rfl) rfl ?_
        refine z_goto (tgt := 6) (TX8_firesByMatches.at 28 rfl) rfl ?_
        exact ih (i + 1) _ _ _ (by omega) (by omega) (by omega) eg2 (eg32.trans (cpF_s i0 (by omega) (by unfold lit; first | rw [if_pos (by assumption)] | rw [if_neg (by assumption)]))) hfE hgE hH hA

def mtD (K : Int → Int) (cl : List Cla) : Int → Int := dK K cl (ctS K cl) (lit K)
theorem mtD_ok {K : Int → Int} {cl : List Cla} (h : KOK K) : COK (mtD K cl) := (dist_ok h.fr (COK_lit h.2.2.1)).1
set_option maxHeartbeats 4000000 in
set_option maxRecDepth 100000 in
theorem m_byM {l : Launch} {o : Nat} {ar : Nat → Nat} {f : mF} {g j : mA} {K : Int → Int} {X32 : Int → Int} {cl : List Cla} (eg2 : g 2 = K) (eg32 : g 32 = X32) (hK : KOK K) (hL : LawK K cl) : MM l o ar MX8_firesByMatches 49 [.ref o] f g j (PV (fun f' g' j' => (TmOK K cl (g' 30) (g' 31) ∧ ag8 (g' 32) (mtD K cl) ∧ f' 33 = ctS K cl) ∧ eqx [22, 23, 24, 25, 33] f f' ∧ eqx [26, 30, 31, 32] g g' ∧ j' = j)) := by
  refine MM.intro [some (.ref o), none] (by decide) (Nat.le_of_ble_eq_true rfl) rfl (fun d hd h0 h hH hA => ?_)
  have hfE : eqx [22, 23, 24, 25, 33] f f := eqx.rf
  have hgE : eqx [26, 30, 31, 32] g g := eqx.rf
  have hn := hK.1
  refine z_ald_0 (TX8_firesByMatches.at 0 rfl) ?_
  refine zm_callV0 (m_laysTimes eg2 rfl rfl rfl hK.lawH hL) (TX8_firesByMatches.at 1 rfl) c8_348 rfl rfl hH hA (by omega) (Nat.le_of_ble_eq_true rfl) (fun f1 g1 j1 h q1 hH hA => ?_)
  obtain ⟨q1, xf, xg, xj⟩ := q1
  rw [xj] at hH
  have hfE := hfE.trans xf (by decide)
  have eg2 := (xg 2 (by decide)).trans eg2
  have eg32 := (xg 32 (by decide)).trans eg32
  have hgE := hgE.trans xg (by decide)
  have qL := q1
  obtain ⟨B, eg30⟩ : ∃ z, g1 30 = z := ⟨_, rfl⟩
  obtain ⟨Hd, eg31⟩ : ∃ z, g1 31 = z := ⟨_, rfl⟩
  have ef33 := qL.2.2
  rw [show msk (fun t => decide (ctc K cl t)) (K 76).toNat = ctS K cl from rfl] at ef33
  have hT : TmOK K cl B Hd := tm_of hK (eg30.symm.trans qL.1) (eg31.symm.trans qL.2.1)
  refine z_iconst (TX8_firesByMatches.at 2 rfl) ?_
  refine z_ist_1 (TX8_firesByMatches.at 3 rfl) (Nat.le_of_ble_eq_true rfl) rfl ?_
  refine lp_byM (fun f6 g6 h eg2 eg32 xf xg hH hA => ?_) 9 0 _ _ _ (by omega) (by omega) (by omega) eg2 (eg32.trans (cpF_0 _ _ _).symm) eqx.rf eqx.rf hH hA
  have ef33 := (xf 33 (by decide)).trans ef33
  have hfE := hfE.trans xf (by decide)
  have eg30 := (xg 30 (by decide)).trans eg30
  have eg31 := (xg 31 (by decide)).trans eg31
  have hgE := hgE.trans xg (by decide)
  have hC8 := COK_cg (ag8_lit X32 K) (COK_lit hK.2.2.1)
  refine z_ald_0 (TX8_firesByMatches.at 29 rfl) ?_
  refine z_ald_0 (TX8_firesByMatches.at 30 rfl) ?_
  refine zm_getIE ef33 (TX8_firesByMatches.at 31 rfl) fl8_333 hH rfl (by decide) (fun r53 => ?_)
  refine zm_callV1 (m_fires eg2 eg30 eg31 eg32 (by have := ctS_31 (cl := cl) hK; omega) (ctS_31 hK) hn.1 hn.2 (hT.fr hK) hC8) (TX8_firesByMatches.at 32 rfl) c8_345 rfl rfl hH hA (by omega) (Nat.le_of_ble_eq_true rfl) (fun f56 g56 j56 h q56 hH hA => ?_)
  obtain ⟨q56, xf, xg, xj⟩ := q56
  rw [xj] at hH
  have ef33 := (xf 33 (by decide)).trans ef33
  have hfE := hfE.trans xf (by decide)
  have eg2 := (xg 2 (by decide)).trans eg2
  have eg30 := (xg 30 (by decide)).trans eg30
  have eg31 := (xg 31 (by decide)).trans eg31
  have hgE := hgE.trans xg (by decide)
  have qL := q56
  have eg32 := qL
  refine zm_vret (TX8_firesByMatches.at 33 rfl) rfl hH hA ?_
  exact ⟨⟨by rw [eg30, eg31]; exact hT, by rw [eg32, hT.dist hK]; exact dist_cg hK.fr (ag8_lit _ _), ef33⟩, hfE, hgE, rfl⟩

def orN (v : Int) : Int := if v = 1000000 then -1 else v
set_option maxHeartbeats 4000000 in
set_option maxRecDepth 100000 in
theorem m_outByM {l : Launch} {o : Nat} {ar : Nat → Nat} {f : mF} {g j : mA} {K : Int → Int} {x : Int} {cl : List Cla} (eg2 : g 2 = K) (hx : zIn x) (x0 : 0 ≤ x) (x1 : x < K 76) (hK : KOK K) (hL : LawK K cl) : MM l o ar MX8_outByMatches 50 [.ref o, vI x] f g j (PI (fun r f' g' j' => (r = orN (oK K cl (ctS K cl) (mtD K cl) x)) ∧ eqx [22, 23, 24, 25, 33] f f' ∧ eqx [26, 30, 31, 32] g g' ∧ j' = j)) := by
  refine MM.intro [some (.ref o), some (vI x)] (by decide) (Nat.le_of_ble_eq_true rfl) rfl (fun d hd h0 h hH hA => ?_)
  have hfE : eqx [22, 23, 24, 25, 33] f f := eqx.rf
  have hgE : eqx [26, 30, 31, 32] g g := eqx.rf
  have hn := hK.1
  have hCD := mtD_ok (cl := cl) hK
  refine z_ald_0 (TX8_outByMatches.at 0 rfl) ?_
  refine zm_callV0 (m_byM eg2 rfl hK hL) (TX8_outByMatches.at 1 rfl) c8_351 rfl rfl hH hA (by omega) (Nat.le_of_ble_eq_true rfl) (fun f1 g1 j1 h q1 hH hA => ?_)
  obtain ⟨q1, xf, xg, xj⟩ := q1
  rw [xj] at hH
  have hfE := hfE.trans xf (by decide)
  have eg2 := (xg 2 (by decide)).trans eg2
  have hgE := hgE.trans xg (by decide)
  have qL := q1
  obtain ⟨B, eg30⟩ : ∃ z, g1 30 = z := ⟨_, rfl⟩
  obtain ⟨Hd, eg31⟩ : ∃ z, g1 31 = z := ⟨_, rfl⟩
  obtain ⟨C, eg32⟩ : ∃ z, g1 32 = z := ⟨_, rfl⟩
  rw [eg30, eg31, eg32] at qL
  obtain ⟨hT, hD, ef33⟩ := qL
  refine z_ald_0 (TX8_outByMatches.at 2 rfl) ?_
  refine z_ild_1 (TX8_outByMatches.at 3 rfl) ?_
  refine zm_callI1 (m_outOf (cl := cl) (D := mtD K cl) eg2 eg30 eg31 eg32 ef33 (by omega) (ctS_31 hK) (by omega) (by omega) hK hT hD hCD) (TX8_outByMatches.at 4 rfl) c8_354 rfl rfl hH hA (by omega) (Nat.le_of_ble_eq_true rfl) (fun x6 f6 g6 j6 h r6 q6 hH hA => ?_)
  obtain ⟨q6, xf, xg, xj⟩ := q6
  rw [xj] at hH
  have ef33 := (xf 33 (by decide)).trans ef33
  have hfE := hfE.trans xf (by decide)
  have eg2 := (xg 2 (by decide)).trans eg2
  have eg30 := (xg 30 (by decide)).trans eg30
  have eg31 := (xg 31 (by decide)).trans eg31
  have eg32 := (xg 32 (by decide)).trans eg32
  have hgE := hgE.trans xg (by decide)
  have qL := q6
  rw [qL] at r6 ⊢
  refine zs_call1 (s_orNone (by omega)) (TX8_outByMatches.at 5 rfl) c8_357 rfl (by omega) (Nat.le_of_ble_eq_true rfl) (fun r9 => ?_)
  refine zm_iret (TX8_outByMatches.at 6 rfl) rfl hH hA (by omega) ?_
  exact ⟨rfl, hfE, hgE, rfl⟩

set_option maxHeartbeats 4000000 in
set_option maxRecDepth 100000 in
theorem m_comesByM {l : Launch} {o : Nat} {ar : Nat → Nat} {f : mF} {g j : mA} {K : Int → Int} {k : Int} {cl : List Cla} (eg2 : g 2 = K) (hk : zIn k) (k0 : 0 ≤ k) (k1 : k ≤ 7) (hK : KOK K) (hL : LawK K cl) : MM l o ar MX8_comesByMatches 50 [.ref o, vI k] f g j (PI (fun r f' g' j' => (r = orN (mtD K cl k)) ∧ eqx [22, 23, 24, 25, 33] f f' ∧ eqx [26, 30, 31, 32] g g' ∧ j' = j)) := by
  refine MM.intro [some (.ref o), some (vI k)] (by decide) (Nat.le_of_ble_eq_true rfl) rfl (fun d hd h0 h hH hA => ?_)
  have hfE : eqx [22, 23, 24, 25, 33] f f := eqx.rf
  have hgE : eqx [26, 30, 31, 32] g g := eqx.rf
  have hn := hK.1
  have hCD := mtD_ok (cl := cl) hK
  refine z_ald_0 (TX8_comesByMatches.at 0 rfl) ?_
  refine zm_callV0 (m_byM eg2 rfl hK hL) (TX8_comesByMatches.at 1 rfl) c8_351 rfl rfl hH hA (by omega) (Nat.le_of_ble_eq_true rfl) (fun f1 g1 j1 h q1 hH hA => ?_)
  obtain ⟨q1, xf, xg, xj⟩ := q1
  rw [xj] at hH
  have hfE := hfE.trans xf (by decide)
  have eg2 := (xg 2 (by decide)).trans eg2
  have hgE := hgE.trans xg (by decide)
  have qL := q1
  obtain ⟨B, eg30⟩ : ∃ z, g1 30 = z := ⟨_, rfl⟩
  obtain ⟨Hd, eg31⟩ : ∃ z, g1 31 = z := ⟨_, rfl⟩
  obtain ⟨C, eg32⟩ : ∃ z, g1 32 = z := ⟨_, rfl⟩
  rw [eg30, eg31, eg32] at qL
  obtain ⟨hT, hD, ef33⟩ := qL
  refine z_ald_0 (TX8_comesByMatches.at 2 rfl) ?_
  refine zm_getA (TX8_comesByMatches.at 3 rfl) fl8_72 hH (by decide) (by decide) ?_
  refine z_ild_1 (TX8_comesByMatches.at 4 rfl) ?_
  refine zm_ialdE eg32 (TX8_comesByMatches.at 5 rfl) hH rfl (by omega) (show _ < ((8 : Nat) : Int) by omega) (fun r9 => ?_)
  refine zs_call1 (s_orNone (by omega)) (TX8_comesByMatches.at 6 rfl) c8_357 rfl (by omega) (Nat.le_of_ble_eq_true rfl) (fun r10 => ?_)
  refine zm_iret (TX8_comesByMatches.at 7 rfl) rfl hH hA (by omega) ?_
  exact ⟨by rw [hD k k0 k1]; rfl, hfE, hgE, rfl⟩

def gonK (K : Int → Int) (cl : List Cla) (x : Int) : Int := b2i (oK K cl (ctS K cl) (mtD K cl) x ≤ 2 * K 28)
def gone (K : Int → Int) (cl : List Cla) : Int := sm (gonK K cl) (K 76)
theorem gonS_in {K : Int → Int} {cl : List Cla} {i : Int} (h0 : 0 ≤ i) : 0 ≤ sm (gonK K cl) i ∧ sm (gonK K cl) i ≤ i := sm_in h0 (fun t _ _ => by have := b2i_01 (oK K cl (ctS K cl) (mtD K cl) t ≤ 2 * K 28); unfold gonK; omega)
set_option maxHeartbeats 4000000 in
set_option maxRecDepth 100000 in
theorem lp_gone {l : Launch} {o : Nat} {ar : Nat → Nat} {d : Nat} {Pz : Option Value → zH → Prop} {h0 : zH} {f0 : mF} {g0 : mA} {j : mA} (hd : 2 ≤ d) {K B Hd C : Int → Int} {cl : List Cla} (hK : KOK K) (hT : TmOK K cl B Hd) (hD : ag8 C (mtD K cl)) (kx : ∀ (f : mF) (g : mA) (h : zH), eqx [] f0 f → eqx [] g0 g → HM o ar f g j h → zAg o ar h0 h → Z l MX8_goneMany d 0 0 Pz 47 [some (.ref o), some (vI (gone K cl)), some (vI (K 76))] [] h 0 0)  : ∀ (n : Nat) (i : Int) (s : Int) (f : mF) (g : mA) (h : zH) (i0 : 0 ≤ i) (i1 : i ≤ K 76) (i2 : K 76 < i + n) (is : s = sm (gonK K cl) i) (eg2 : g 2 = K) (eg30 : g 30 = B) (eg31 : g 31 = Hd) (eg32 : g 32 = C) (ef33 : f 33 = ctS K cl) (hfE : eqx [] f0 f) (hgE : eqx [] g0 g) (hH : HM o ar f g j h) (hA : zAg o ar h0 h), Z l MX8_goneMany d 0 0 Pz 8 [some (.ref o), some (vI s), some (vI i)] [] h 0 0 := by
  intro n
  induction n with
  | zero => intro i s f g h i0 i1 i2 is eg2 eg30 eg31 eg32 ef33 hfE hgE hH hA; exfalso; omega
  | succ n ih =>
    intro i s f g h i0 i1 i2 is eg2 eg30 eg31 eg32 ef33 hfE hgE hH hA
    have hn := hK.1
    have hs := hK.2.2.2.1
    have hCD := mtD_ok (cl := cl) hK
    have hs2 := gonS_in (K := K) (cl := cl) i0
    refine z_ild_2 (TX8_goneMany.at 6 rfl) ?_
    refine z_ald_0 (TX8_goneMany.at 7 rfl) ?_
    refine zm_callP0 (m_fuseMany) (TX8_goneMany.at 8 rfl) c8_109 rfl rfl hH hA (by omega) (Nat.le_of_ble_eq_true rfl) (fun h r10 hH hA => ?_)
    rw [eg2] at r10 ⊢
    refine z_icmp_ge (tgt := 47) (TX8_goneMany.at 9 rfl) rfl (by omega) (by omega) (fun c1 => ?_) (fun c1 => ?_)
    · skip
      obtain rfl : i = K 76 := by omega
      rw [is]
      exact kx _ _ _ hfE hgE hH hA
    · skip
      refine z_ild_1 (TX8_goneMany.at 10 rfl) ?_
      refine z_ald_0 (TX8_goneMany.at 11 rfl) ?_
      refine z_ild_2 (TX8_goneMany.at 12 rfl) ?_
      refine zm_callI1 (m_outOf (cl := cl) (D := mtD K cl) eg2 eg30 eg31 eg32 ef33 (by omega) (ctS_31 hK) (by omega) (by omega) hK hT hD hCD) (TX8_goneMany.at 13 rfl) c8_354 rfl rfl hH hA (by omega) (Nat.le_of_ble_eq_true rfl) (fun x19 f19 g19 j19 h r19 q19 hH hA => ?_)
      obtain ⟨q19, xf, xg, xj⟩ := q19
      rw [xj] at hH
      have ef33 := (xf 33 (by decide)).trans ef33
      have hfE := hfE.trans xf (by decide)
      have eg2 := (xg 2 (by decide)).trans eg2
      have eg30 := (xg 30 (by decide)).trans eg30
      have eg31 := (xg 31 (by decide)).trans eg31
      have eg32 := (xg 32 (by decide)).trans eg32
      have hgE := hgE.trans xg (by decide)
      have qL := q19
      rw [qL] at r19 ⊢
      refine z_iconst (TX8_goneMany.at 14 rfl) ?_
      refine z_ald_0 (TX8_goneMany.at 15 rfl) ?_
      refine zm_getA (TX8_goneMany.at 16 rfl) fl8_28 hH (by decide) (by decide) ?_
      refine z_bipush (by decide) (TX8_goneMany.at 17 rfl) ?_
      refine zm_ialdE eg2 (TX8_goneMany.at 18 rfl) hH rfl (by omega) (show _ < ((5688 : Nat) : Int) by omega) (fun r29 => ?_)
      refine z_imul (TX8_goneMany.at 19 rfl) ?_
      refine z_icmp_gt (tgt := 38) (TX8_goneMany.at 20 rfl) rfl (by omega) (by omega) (fun c2 => ?_) (fun c2 => ?_)
      · skip
        refine z_iconst (TX8_goneMany.at 23 rfl) ?_
        refine z_iadd (TX8_goneMany.at 24 rfl) ?_
        refine z_ist_1 (TX8_goneMany.at 25 rfl) (Nat.le_of_ble_eq_true rfl) rfl ?_
        refine z_iinc_2 (TX8_goneMany.at 26 rfl) (Nat.le_of_ble_eq_true rfl) rfl ?_
        refine z_goto (tgt := 8) (TX8_goneMany.at 27 rfl) rfl ?_
        exact ih (i + 1) _ _ _ _ (by omega) (by omega) (by omega) (by rw [is, sm_s i0]; unfold gonK; first | rw [b2i_t (by omega)] | rw [b2i_f (by omega)]) eg2 eg30 eg31 eg32 ef33 hfE hgE hH hA
      · skip
        refine z_iconst (TX8_goneMany.at 21 rfl) ?_
        refine z_goto (tgt := 39) (TX8_goneMany.at 22 rfl) rfl ?_
        refine z_iadd (TX8_goneMany.at 24 rfl) ?_
        refine z_ist_1 (TX8_goneMany.at 25 rfl) (Nat.le_of_ble_eq_true rfl) rfl ?_
        refine z_iinc_2 (TX8_goneMany.at 26 rfl) (Nat.le_of_ble_eq_true rfl) rfl ?_
        refine z_goto (tgt := 8) (TX8_goneMany.at 27 rfl) rfl ?_
        exact ih (i + 1) _ _ _ _ (by omega) (by omega) (by omega) (by rw [is, sm_s i0]; unfold gonK; first | rw [b2i_t (by omega)] | rw [b2i_f (by omega)]) eg2 eg30 eg31 eg32 ef33 hfE hgE hH hA

set_option maxHeartbeats 4000000 in
set_option maxRecDepth 100000 in
theorem m_goneMany {l : Launch} {o : Nat} {ar : Nat → Nat} {f : mF} {g j : mA} {K : Int → Int} {cl : List Cla} (eg2 : g 2 = K) (hK : KOK K) (hL : LawK K cl) : MM l o ar MX8_goneMany 51 [.ref o] f g j (PI (fun r f' g' j' => (r = gone K cl) ∧ eqx [22, 23, 24, 25, 33] f f' ∧ eqx [26, 30, 31, 32] g g' ∧ j' = j)) := by
  refine MM.intro [some (.ref o), none, none] (by decide) (Nat.le_of_ble_eq_true rfl) rfl (fun d hd h0 h hH hA => ?_)
  have hfE : eqx [22, 23, 24, 25, 33] f f := eqx.rf
  have hgE : eqx [26, 30, 31, 32] g g := eqx.rf
  have hn := hK.1
  have hs2 := gonS_in (K := K) (cl := cl) hn.1
  have hs3 : zIn (gone K cl) := by unfold gone; omega
  refine z_ald_0 (TX8_goneMany.at 0 rfl) ?_
  refine zm_callV0 (m_byM eg2 rfl hK hL) (TX8_goneMany.at 1 rfl) c8_351 rfl rfl hH hA (by omega) (Nat.le_of_ble_eq_true rfl) (fun f1 g1 j1 h q1 hH hA => ?_)
  obtain ⟨q1, xf, xg, xj⟩ := q1
  rw [xj] at hH
  have hfE := hfE.trans xf (by decide)
  have eg2 := (xg 2 (by decide)).trans eg2
  have hgE := hgE.trans xg (by decide)
  have qL := q1
  obtain ⟨B, eg30⟩ : ∃ z, g1 30 = z := ⟨_, rfl⟩
  obtain ⟨Hd, eg31⟩ : ∃ z, g1 31 = z := ⟨_, rfl⟩
  obtain ⟨C, eg32⟩ : ∃ z, g1 32 = z := ⟨_, rfl⟩
  rw [eg30, eg31, eg32] at qL
  obtain ⟨hT, hD, ef33⟩ := qL
  refine z_iconst (TX8_goneMany.at 2 rfl) ?_
  refine z_ist_1 (TX8_goneMany.at 3 rfl) (Nat.le_of_ble_eq_true rfl) rfl ?_
  refine z_iconst (TX8_goneMany.at 4 rfl) ?_
  refine z_ist_2 (TX8_goneMany.at 5 rfl) (Nat.le_of_ble_eq_true rfl) rfl ?_
  refine lp_gone (by omega) hK hT hD (fun f8 g8 h  xf xg hH hA => ?_) 12 0 0 _ _ _ (by omega) (by omega) (by omega) (sm_0 _).symm eg2 eg30 eg31 eg32 ef33 eqx.rf eqx.rf hH hA
  have ef33 := (xf 33 (by decide)).trans ef33
  have hfE := hfE.trans xf (by decide)
  have eg2 := (xg 2 (by decide)).trans eg2
  have eg30 := (xg 30 (by decide)).trans eg30
  have eg31 := (xg 31 (by decide)).trans eg31
  have eg32 := (xg 32 (by decide)).trans eg32
  have hgE := hgE.trans xg (by decide)
  refine z_ild_1 (TX8_goneMany.at 28 rfl) ?_
  refine zm_iret (TX8_goneMany.at 29 rfl) rfl hH hA (by omega) ?_
  exact ⟨rfl, hfE, hgE, rfl⟩

def passS (K X : Int → Int) (u : Int) (cl : List Cla) (r : Int) (K' X' : Int → Int) (u' : Int) : Prop := (K 28 = 999 ∧ r = -3 ∧ K' = K ∧ X' = X ∧ u' = u) ∨ (K 28 ≠ 999 ∧ r = gone (iu K 28 (K 28 + 1)) cl ∧ K' = iu K 28 (K 28 + 1) ∧ X' = kpR X K u 3 ∧ u' = kpU u + 1)
theorem LawK_iu {K : Int → Int} {cl : List Cla} {a v : Int} (hL : LawK K cl) (h : a < 76) : LawK (iu K a v) cl := by
  have e80 : iu K a v 80 = K 80 := iu_ne (by omega)
  rcases hL with ⟨h1, h2⟩ | ⟨h1, h2, nN, h3, h4, h5⟩
  · exact Or.inl ⟨by rw [e80]; exact h1, h2⟩
  · refine Or.inr ⟨by rw [e80]; exact h1, by rw [e80]; exact h2, nN, by rw [e80, iu_ne (by omega)]; exact h3, h4, ?_⟩
    have e1 : ∀ i : Int, 0 ≤ i → cK (iu K a v) (400 * K 80) nN i = cK K (400 * K 80) nN i := by
      intro i hi
      unfold cK
      rw [iu_ne (by omega)]
    have e2 : ∀ i : Int, 0 ≤ i → vK (iu K a v) (400 * K 80) i = vK K (400 * K 80) i := by
      intro i hi
      unfold vK
      rw [iu_ne (by omega)]
    rw [e80]
    exact (pText_cg e1 e2 nN 12 0 0).trans h5
theorem KOK_28 {K : Int → Int} {v : Int} (h : KOK K) (h0 : 0 ≤ v) (h1 : v ≤ 999) : KOK (iu K 28 v) := by
  obtain ⟨a1, a2, a3, a4, a5, a6, a7, a8, a9, a10, a11, a12⟩ := h
  have e : ∀ i, i ≠ 28 → iu K 28 v i = K i := fun i hi => iu_ne hi
  refine ⟨by rw [e 76 (by decide)]; exact a1, fun i h0 h1 => ?_, fun k h0 h1 => ?_, by rw [iu_self]; omega, by rw [e 77 (by decide)]; exact a5, fun i h0 h1 => ?_, by rw [e 78 (by decide)]; exact a7, fun i h0 h1 => ?_, by rw [e 74 (by decide)]; exact a9, by rw [e 75 (by decide)]; exact a10, by rw [e 79 (by decide)]; exact a11, by rw [e 79 (by decide), e 80 (by decide)]; exact a12⟩
  · rw [e 76 (by decide)] at h1
    rw [e i (by omega), e (10 + i) (by omega), e (29 + i) (by omega), e (39 + i) (by omega), e (49 + i) (by omega)]
    exact a2 i h0 h1
  · rw [e (20 + k) (by omega)]; exact a3 k h0 h1
  · rw [e 77 (by decide)] at h1
    rw [e (59 + i) (by omega)]; exact a6 i h0 h1
  · rw [e 78 (by decide)] at h1
    rw [e (62 + 2 * i) (by omega), e (62 + 2 * i + 1) (by omega)]; exact a8 i h0 h1
set_option maxHeartbeats 4000000 in
set_option maxRecDepth 100000 in
theorem m_passesKept {l : Launch} {o : Nat} {ar : Nat → Nat} {f : mF} {g j : mA} {K : Int → Int} {X34 : Int → Int} {u : Int} {cl : List Cla} (eg2 : g 2 = K) (eg34 : g 34 = X34) (ef36 : f 36 = u) (u0 : 0 ≤ u) (u1 : u ≤ 16) (hK : KOK K) (hL : LawK K cl) : MM l o ar MX8_passesKept 52 [.ref o] f g j (PI (fun r f' g' j' => (passS K X34 u cl r (g' 2) (g' 34) (f' 36)) ∧ eqx [22, 23, 24, 25, 33, 36] f f' ∧ eqx [2, 26, 30, 31, 32, 34] g g' ∧ j' = j)) := by
  refine MM.intro [some (.ref o)] (by decide) (Nat.le_of_ble_eq_true rfl) rfl (fun d hd h0 h hH hA => ?_)
  have hfE : eqx [22, 23, 24, 25, 33, 36] f f := eqx.rf
  have hgE : eqx [2, 26, 30, 31, 32, 34] g g := eqx.rf
  have hs := hK.2.2.2.1
  refine z_ald_0 (TX8_passesKept.at 0 rfl) ?_
  refine zm_getA (TX8_passesKept.at 1 rfl) fl8_28 hH (by decide) (by decide) ?_
  refine z_bipush (by decide) (TX8_passesKept.at 2 rfl) ?_
  refine zm_ialdE eg2 (TX8_passesKept.at 3 rfl) hH rfl (by omega) (show _ < ((5688 : Nat) : Int) by omega) (fun r6 => ?_)
  refine z_sipush (by decide) (TX8_passesKept.at 4 rfl) ?_
  refine z_icmp_ne (tgt := 16) (TX8_passesKept.at 5 rfl) rfl (by omega) (by omega) (fun c1 => ?_) (fun c1 => ?_)
  · skip
    refine z_ald_0 (TX8_passesKept.at 8 rfl) ?_
    refine z_iconst (TX8_passesKept.at 9 rfl) ?_
    refine zm_callV1 (m_keeps eg34 eg2 ef36 (by omega) u0 u1) (TX8_passesKept.at 10 rfl) c8_360 rfl rfl hH hA (by omega) (Nat.le_of_ble_eq_true rfl) (fun f18 g18 j18 h q18 hH hA => ?_)
    obtain ⟨q18, xf, xg, xj⟩ := q18
    rw [xj] at hH
    have hfE := hfE.trans xf (by decide)
    have eg2 := (xg 2 (by decide)).trans eg2
    have hgE := hgE.trans xg (by decide)
    have qL := q18
    have eg34 := qL.1
    have ef36 := qL.2
    refine z_ald_0 (TX8_passesKept.at 11 rfl) ?_
    refine zm_getA (TX8_passesKept.at 12 rfl) fl8_28 hH (by decide) (by decide) ?_
    refine z_bipush (by decide) (TX8_passesKept.at 13 rfl) ?_
    refine z_dup2 rfl rfl (TX8_passesKept.at 14 rfl) ?_
    refine zm_ialdE eg2 (TX8_passesKept.at 15 rfl) hH rfl (by omega) (show _ < ((5688 : Nat) : Int) by omega) (fun r28 => ?_)
    refine z_iconst (TX8_passesKept.at 16 rfl) ?_
    refine z_iadd (TX8_passesKept.at 17 rfl) ?_
    refine zm_iastE (TX8_passesKept.at 18 rfl) hH hA rfl (by omega) (show _ < ((5688 : Nat) : Int) by omega) (by omega) (fun h g31 e1 e2 hH hA => ?_)
    rw [eg2] at e2; have eg2 := e2
    have eg34 := (e1 34 (by decide)).trans eg34
    have hgE := hgE.put e1 (by decide)
    refine z_ald_0 (TX8_passesKept.at 19 rfl) ?_
    refine zm_callI0 (m_goneMany eg2 (KOK_28 hK (by omega) (by omega)) (LawK_iu hL (by decide))) (TX8_passesKept.at 20 rfl) c8_366 rfl rfl hH hA (by omega) (Nat.le_of_ble_eq_true rfl) (fun x33 f33 g33 j33 h r33 q33 hH hA => ?_)
    obtain ⟨q33, xf, xg, xj⟩ := q33
    rw [xj] at hH
    have ef36 := (xf 36 (by decide)).trans ef36
    have hfE := hfE.trans xf (by decide)
    have eg2 := (xg 2 (by decide)).trans eg2
    have eg34 := (xg 34 (by decide)).trans eg34
    have hgE := hgE.trans xg (by decide)
    have qL := q33
    refine zm_iret (TX8_passesKept.at 21 rfl) rfl hH hA (by omega) ?_
    exact ⟨Or.inr ⟨by omega, qL, eg2, eg34, ef36⟩, hfE, hgE, rfl⟩
  · skip
    refine z_bipush (by decide) (TX8_passesKept.at 6 rfl) ?_
    refine zm_iret (TX8_passesKept.at 7 rfl) rfl hH hA (by omega) ?_
    exact ⟨Or.inl ⟨by omega, rfl, eg2, eg34, ef36⟩, hfE, hgE, rfl⟩

set_option maxHeartbeats 4000000 in
set_option maxRecDepth 100000 in
theorem m_pass {l : Launch} {o : Nat} {ar : Nat → Nat} {f : mF} {g j : mA} {K : Int → Int} {X34 : Int → Int} {X1 : Int → Int} {u : Int} {cl : List Cla} (eg2 : g 2 = K) (eg34 : g 34 = X34) (eg1 : g 1 = X1) (ef36 : f 36 = u) (hb : ∀ i, X1 i ≤ 100000) (u0 : 0 ≤ u) (u1 : u ≤ 16) (hK : KOK K) (hL : LawK K cl) : MM l o ar MX8_pass 53 [.ref o] f g j (PI (fun r f' g' j' => (∃ v, passS K X34 u cl v (g' 2) (g' 34) (f' 36) ∧ mGood v r f' g' X1) ∧ eqx [0, 22, 23, 24, 25, 33, 36] f f' ∧ eqx [1, 2, 26, 30, 31, 32, 34] g g' ∧ j' = j)) := by
  refine MM.intro [some (.ref o)] (by decide) (Nat.le_of_ble_eq_true rfl) rfl (fun d hd h0 h hH hA => ?_)
  have hfE : eqx [0, 22, 23, 24, 25, 33, 36] f f := eqx.rf
  have hgE : eqx [1, 2, 26, 30, 31, 32, 34] g g := eqx.rf
  refine z_ald_0 (TX8_pass.at 0 rfl) ?_
  refine z_ald_0 (TX8_pass.at 1 rfl) ?_
  refine zm_callI0 (m_passesKept eg2 eg34 ef36 u0 u1 hK hL) (TX8_pass.at 2 rfl) c8_381 rfl rfl hH hA (by omega) (Nat.le_of_ble_eq_true rfl) (fun x2 f2 g2 j2 h r2 q2 hH hA => ?_)
  obtain ⟨q2, xf, xg, xj⟩ := q2
  rw [xj] at hH
  have hfE := hfE.trans xf (by decide)
  have eg1 := (xg 1 (by decide)).trans eg1
  have hgE := hgE.trans xg (by decide)
  have qL := q2
  obtain ⟨K1, eg2⟩ : ∃ z, g2 2 = z := ⟨_, rfl⟩
  obtain ⟨X2, eg34⟩ : ∃ z, g2 34 = z := ⟨_, rfl⟩
  obtain ⟨u2, ef36⟩ : ∃ z, f2 36 = z := ⟨_, rfl⟩
  rw [eg2, eg34, ef36] at qL
  have qI := qL
  have vb : -6 ≤ x2 := by
    rcases qI with q | q
    · omega
    · have := gonS_in (K := iu K 28 (K 28 + 1)) (cl := cl) (i := iu K 28 (K 28 + 1) 76) (by rw [iu_ne (by decide)]; exact hK.1.1)
      have e := q.2.1
      unfold gone at e
      omega
  refine zm_callI1 (m_goodOr eg1 (by omega) (by omega) hb) (TX8_pass.at 3 rfl) c8_372 rfl rfl hH hA (by omega) (Nat.le_of_ble_eq_true rfl) (fun x5 f5 g5 j5 h r5 q5 hH hA => ?_)
  obtain ⟨q5, xf, xg, xj⟩ := q5
  rw [xj] at hH
  have ef36 := (xf 36 (by decide)).trans ef36
  have hfE := hfE.trans xf (by decide)
  have eg2 := (xg 2 (by decide)).trans eg2
  have eg34 := (xg 34 (by decide)).trans eg34
  have hgE := hgE.trans xg (by decide)
  have qL := q5
  refine zm_iret (TX8_pass.at 4 rfl) rfl hH hA (by omega) ?_
  exact ⟨⟨_, by rw [eg2, eg34, ef36]; exact qI, qL⟩, hfE, hgE, rfl⟩

