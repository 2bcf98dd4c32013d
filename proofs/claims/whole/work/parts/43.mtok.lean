/-! ===== tokens, as mathematics; the reference's words and tokens ===== -/
def wL : List (List Int) := [[98, 117, 114, 110, 115], [104, 111, 108, 100, 115], [98, 97, 114, 115], [105, 102], [111, 114], [97, 110, 100], [110, 111, 116], [102, 117, 115, 101], [107, 105, 110, 100], [102, 114, 111, 109], [116, 111], [107, 110, 111, 116], [101, 110, 100, 115], [109, 111, 111, 100], [108, 111, 110, 103], [115, 101, 99, 111, 110, 100], [100, 111, 110, 101], [108, 97, 116, 101, 115, 116], [103, 111, 110, 101], [100, 97, 109, 112], [108, 105, 116], [108, 105, 103, 104, 116], [115, 111, 97, 107], [115, 119, 97, 112], [119, 105, 116, 104], [112, 97, 115, 115], [116, 105, 109, 101, 115]]
def wlen (w : Nat) : Nat := (wL.getD w []).length
def wch (w i : Nat) : Int := (wL.getD w []).getD i 0
def woff : Nat → Nat
  | 0 => 0
  | w + 1 => woff w + wlen w + 1
theorem w_tab : (List.range 27).all (fun w => decide (wlen w ≤ 6) && decide (woff w + wlen w < 134) && decide (mWords.getD (woff w + wlen w) 0 = 32) && (List.range 7).all (fun i => decide (¬ i < wlen w) || (decide (mWords.getD (woff w + i) 0 = wch w i) && decide (97 ≤ wch w i) && decide (wch w i ≤ 122)))) = true := by decide +kernel
theorem w_fact {w : Nat} (h : w < 27) : wlen w ≤ 6 ∧ woff w + wlen w < 134 ∧ mWords.getD (woff w + wlen w) 0 = 32 ∧ ∀ i : Nat, i < wlen w → mWords.getD (woff w + i) 0 = wch w i ∧ 97 ≤ wch w i ∧ wch w i ≤ 122 := by
  have t := List.all_eq_true.mp w_tab w (List.mem_range.mpr h)
  simp only [Bool.and_eq_true, decide_eq_true_eq] at t
  obtain ⟨⟨⟨t1, t2⟩, t3⟩, t4⟩ := t
  refine ⟨t1, t2, t3, fun i hi => ?_⟩
  have q := List.all_eq_true.mp t4 i (List.mem_range.mpr (by omega))
  simp only [Bool.or_eq_true, Bool.and_eq_true, decide_eq_true_eq] at q
  rcases q with q | ⟨⟨q1, q2⟩, q3⟩
  · exact absurd hi q
  · exact ⟨q1, q2, q3⟩
def wAl (U : Int → Int) (a : Int) (w : Nat) : Nat → Bool := alB (fun i => decide (wch w i.toNat = U (a + i)))
def wEqB (U : Int → Int) (a b w : Int) : Bool := decide (b - a = wlen w.toNat) && wAl U a w.toNat (wlen w.toNat)
def wordC (U : Int → Int) (a b : Int) : Int := fstP (wEqB U a b) 27 + 1
theorem alB_down {p : Int → Bool} {m : Nat} (h : ¬ alB p m = true) : ∀ k : Nat, ¬ alB p (m + k) = true := by
  intro k
  induction k with
  | zero => exact h
  | succ k ih => intro z; exact ih (Bool.and_eq_true_iff.mp z).1
def smB (u : Int) : Bool := decide (97 ≤ u ∧ u ≤ 122)
def dgB (u : Int) : Bool := decide (48 ≤ u ∧ u ≤ 57)
def runE (p : Int → Bool) (U : Int → Int) (z : Int) : Nat → Int → Int
  | 0, k => k
  | m + 1, k => if k < z ∧ p (U k) = true then runE p U z m (k + 1) else k
theorem runE_in {p : Int → Bool} {U : Int → Int} {z : Int} : ∀ (m : Nat) (k : Int), k ≤ z → k ≤ runE p U z m k ∧ runE p U z m k ≤ z := by
  intro m
  induction m with
  | zero => intro k h; simp only [runE]; omega
  | succ m ih =>
    intro k h
    simp only [runE]
    split
    · have := ih (k + 1) (by omega); omega
    · omega
def endT (U : Int → Int) (z k : Int) : Int := if smB (U k) = true then runE smB U z 400 (k + 1) else if dgB (U k) = true then runE dgB U z 400 (k + 1) else k + 1
theorem endT_in {U : Int → Int} {z k : Int} (h : k < z) : k < endT U z k ∧ endT U z k ≤ z := by
  have a := runE_in (p := smB) (U := U) (z := z) 400 (k + 1) (by omega)
  have b := runE_in (p := dgB) (U := U) (z := z) 400 (k + 1) (by omega)
  unfold endT
  split
  · omega
  · split <;> omega
def numN (U : Int → Int) (k : Int) : Nat → Int
  | 0 => 0
  | m + 1 => if numN U k m > 1000000 then numN U k m else 10 * numN U k m + U (k + m) - 48
def codeT (U : Int → Int) (z k : Int) : Int := if smB (U k) = true then wordC U k (endT U z k) else if dgB (U k) = true then 50 else 100 + U k
def valT (U : Int → Int) (z k : Int) : Int := if dgB (U k) = true then numN U k (endT U z k - k).toNat else 0
abbrev TKS : Type := Int × Int × (Int → Int)
def tkS1 (U : Int → Int) (z : Int) (s : TKS) : TKS := if s.1 < z then (if U s.1 = 32 then (s.1 + 1, s.2.1, s.2.2) else (endT U z s.1, s.2.1 + 1, iu s.2.2 s.2.1 s.1)) else s
def tkN (U : Int → Int) (z : Int) : Nat → TKS
  | 0 => (0, 0, fun _ => 0)
  | m + 1 => tkS1 U z (tkN U z m)
theorem tkN_b {U : Int → Int} {z k n : Int} {P : Int → Int} {m : Nat} (e : (k, n, P) = tkN U z m) (h : k < z) (hb : U k = 32) : (k + 1, n, P) = tkN U z (m + 1) := by
  rw [tkN, ← e, tkS1, if_pos h, if_pos hb]
theorem tkN_t {U : Int → Int} {z k n x : Int} {P : Int → Int} {m : Nat} (e : (k, n, P) = tkN U z m) (h : k < z) (hb : ¬ U k = 32) (hx : x = endT U z k) : (x, n + 1, iu P n k) = tkN U z (m + 1) := by
  rw [tkN, ← e, tkS1, if_pos h, if_neg hb, hx]
theorem tkN_e {U : Int → Int} {z k n : Int} {P : Int → Int} {m : Nat} (e : (k, n, P) = tkN U z m) (h : ¬ k < z) : ∀ p : Nat, tkN U z (m + p) = (k, n, P) := by
  intro p
  induction p with
  | zero => exact e.symm
  | succ p ih => show tkS1 U z (tkN U z (m + p)) = _; rw [ih, tkS1, if_neg h]
theorem tkN_in {U : Int → Int} {z : Int} (hz : 0 ≤ z) : ∀ m : Nat, (0 ≤ (tkN U z m).1 ∧ (tkN U z m).1 ≤ z) ∧ (0 ≤ (tkN U z m).2.1 ∧ (tkN U z m).2.1 ≤ (tkN U z m).1) ∧ ((m : Int) ≤ (tkN U z m).1 ∨ (tkN U z m).1 = z) ∧ ∀ i : Int, 0 ≤ i → i < (tkN U z m).2.1 → 0 ≤ (tkN U z m).2.2 i ∧ (tkN U z m).2.2 i < z := by
  intro m
  induction m with
  | zero => simp only [tkN]; exact ⟨by omega, by omega, by omega, fun i h0 h1 => by omega⟩
  | succ m ih =>
    obtain ⟨i1, i2, i3, i4⟩ := ih
    simp only [tkN, tkS1]
    split
    · rename_i h
      split
      · simp only; exact ⟨by omega, by omega, by omega, i4⟩
      · have q := endT_in (U := U) h
        simp only
        refine ⟨by omega, by omega, by omega, fun i h0 h1 => ?_⟩
        unfold iu
        split
        · omega
        · exact i4 i h0 (by omega)
    · exact ⟨i1, i2, by omega, i4⟩
/-- how many tokens; their places, codes, values -/
def tN (U : Int → Int) (z : Int) : Int := (tkN U z 400).2.1
def tP (U : Int → Int) (z : Int) : Int → Int := (tkN U z 400).2.2
def cT (U : Int → Int) (z i : Int) : Int := if i < tN U z then codeT U z (tP U z i) else 0
def vT (U : Int → Int) (z i : Int) : Int := if i < tN U z then valT U z (tP U z i) else 0
def pT (U : Int → Int) (z i : Int) : Int := if i < tN U z then tP U z i else z
/-- a tape's bytes, with a sign or without -/
def TpU (X U : Int → Int) : Prop := ∀ i : Int, 0 ≤ i → i < 400 → (0 ≤ U i ∧ U i ≤ 255) ∧ ((X i = U i ∧ U i ≤ 127) ∨ (X i = U i - 256 ∧ 128 ≤ U i))
def WdH (X : Int → Int) : Prop := ∀ i : Nat, i < 134 → X i = mWords.getD i 0
set_option maxHeartbeats 4000000 in
set_option maxRecDepth 100000 in
theorem lp_wd1 {l : Launch} {o : Nat} {ar : Nat → Nat} {d : Nat} {Pz : Option Value → zH → Prop} {h0 : zH} {f0 : mF} {g0 : mA} {j : mA}  {X7 : Int → Int} {a b k w : Int} {wn : Nat} {o6 o7 : Option Value} (hW : WdH X7) (hw : wn < 27) (ek : k = (woff wn : Int)) (kx : ∀ (f : mF) (g : mA) (h : zH), g 7 = X7 → eqx [] f0 f → eqx [] g0 g → HM o ar f g j h → zAg o ar h0 h → Z l MX8_wordOf d 0 0 Pz 39 [some (.ref o), some (vI a), some (vI b), some (vI (w + 1)), some (vI k), some (vI (wlen wn : Int)), o6, o7] [] h 0 0)  : ∀ (n : Nat) (m : Int) (f : mF) (g : mA) (h : zH) (m0 : 0 ≤ m) (m1 : m ≤ (wlen wn : Int)) (m2 : (wlen wn : Int) < m + n) (eg7 : g 7 = X7) (hfE : eqx [] f0 f) (hgE : eqx [] g0 g) (hH : HM o ar f g j h) (hA : zAg o ar h0 h), Z l MX8_wordOf d 0 0 Pz 18 [some (.ref o), some (vI a), some (vI b), some (vI (w + 1)), some (vI k), some (vI m), o6, o7] [] h 0 0 := by
  intro n
  induction n with
  | zero => intro m f g h m0 m1 m2 eg7 hfE hgE hH hA; exfalso; omega
  | succ n ih =>
    intro m f g h m0 m1 m2 eg7 hfE hgE hH hA
    obtain ⟨hf1, hf2, hf3, hf4⟩ := w_fact hw
    refine z_ald_0 (TX8_wordOf_0.at 11 rfl) ?_
    refine zm_getA (TX8_wordOf_0.at 12 rfl) fl8_41 hH (by decide) (by decide) ?_
    refine z_ild_4 (TX8_wordOf_0.at 13 rfl) ?_
    refine z_ild_5 (TX8_wordOf_0.at 14 rfl) ?_
    refine z_iadd (TX8_wordOf_0.at 15 rfl) ?_
    refine zm_baldE eg7 (TX8_wordOf_0.at 16 rfl) hH rfl (by omega) (show _ < ((134 : Nat) : Int) by omega) (fun r27 => ?_)
    have hx : X7 (k + m) = mWords.getD (woff wn + m.toNat) 0 := by
      rw [← hW (woff wn + m.toNat) (by omega)]; congr 1; omega
    rw [hx] at r27 ⊢
    have hlt : m < (wlen wn : Int) → mWords.getD (woff wn + m.toNat) 0 ≠ 32 := fun z => by have := hf4 m.toNat (by omega); omega
    have hge : m = (wlen wn : Int) → mWords.getD (woff wn + m.toNat) 0 = 32 := fun z => by rw [z]; exact hf3
    refine z_bipush (by decide) (TX8_wordOf_0.at 17 rfl) ?_
    refine z_icmp_eq (tgt := 39) (TX8_wordOf_0.at 18 rfl) rfl (by omega) (by omega) (fun c1 => ?_) (fun c1 => ?_)
    · skip
      have hm : m = (wlen wn : Int) := (by rcases (show m < (wlen wn : Int) ∨ m = (wlen wn : Int) by omega) with q | q; exact absurd (by omega) (hlt q); exact q)
      subst hm
      exact kx _ _ _ eg7 hfE hgE hH hA
    · skip
      have r32 : ¬ mWords.getD (woff wn + m.toNat) 0 = 32 := (by omega)
      refine z_iinc_5 (TX8_wordOf_0.at 19 rfl) (Nat.le_of_ble_eq_true rfl) rfl ?_
      refine z_goto (tgt := 18) (TX8_wordOf_0.at 20 rfl) rfl ?_
      exact ih (m + 1) _ _ _ (by omega) (by have : m ≠ (wlen wn : Int) := (fun z => r32 (hge z)); omega) (by omega) eg7 hfE hgE hH hA

theorem wal_s {U : Int → Int} {a i : Int} {w : Nat} (h : 0 ≤ i) : wAl U a w (i + 1).toNat = (wAl U a w i.toNat && decide (wch w i.toNat = U (a + i))) := alB_s h
set_option maxHeartbeats 4000000 in
set_option maxRecDepth 100000 in
theorem lp_wd2 {l : Launch} {o : Nat} {ar : Nat → Nat} {d : Nat} {Pz : Option Value → zH → Prop} {h0 : zH} {f0 : mF} {g0 : mA} {j : mA}  {X7 X11 U : Int → Int} {a b : Int} (hW : WdH X7) (hU : TpU X11 U) (a0 : 0 ≤ a) (ab : a < b) (b4 : b ≤ 400) {k w : Int} {wn : Nat} (hw : wn < 27) (ek : k = (woff wn : Int)) (kx : ∀ (i : Int) (f : mF) (g : mA) (h : zH), g 7 = X7 → g 11 = X11 → eqx [] f0 f → eqx [] g0 g → HM o ar f g j h → zAg o ar h0 h → Z l MX8_wordOf d 0 0 Pz 104 [some (.ref o), some (vI a), some (vI b), some (vI (w + 1)), some (vI k), some (vI (wlen wn : Int)), some (vI (b2i (b - a = (wlen wn : Int) ∧ wAl U a wn (wlen wn) = true))), some (vI i)] [] h 0 0)  : ∀ (n : Nat) (i : Int) (s : Int) (f : mF) (g : mA) (h : zH) (i0 : 0 ≤ i) (i1 : i ≤ (wlen wn : Int)) (i2 : (wlen wn : Int) < i + n) (es : s = b2i (b - a = (wlen wn : Int) ∧ wAl U a wn i.toNat = true)) (eg7 : g 7 = X7) (eg11 : g 11 = X11) (hfE : eqx [] f0 f) (hgE : eqx [] g0 g) (hH : HM o ar f g j h) (hA : zAg o ar h0 h), Z l MX8_wordOf d 0 0 Pz 57 [some (.ref o), some (vI a), some (vI b), some (vI (w + 1)), some (vI k), some (vI (wlen wn : Int)), some (vI s), some (vI i)] [] h 0 0 := by
  intro n
  induction n with
  | zero => intro i s f g h i0 i1 i2 es eg7 eg11 hfE hgE hH hA; exfalso; omega
  | succ n ih =>
    intro i s f g h i0 i1 i2 es eg7 eg11 hfE hgE hH hA
    obtain ⟨hf1, hf2, hf3, hf4⟩ := w_fact hw
    have hsz : s = 0 ∨ s = 1 := by rw [es]; exact b2i_01 _
    refine z_ild_7 (TX8_wordOf_0.at 32 rfl) ?_
    refine z_ild_5 (TX8_wordOf_0.at 33 rfl) ?_
    refine z_icmp_ge (tgt := 104) (TX8_wordOf_0.at 34 rfl) rfl (by omega) (by omega) (fun c1 => ?_) (fun c1 => ?_)
    · skip
      have hfin : s = b2i (b - a = (wlen wn : Int) ∧ wAl U a wn (wlen wn) = true) := by
        first
        | (have hi : i = (wlen wn : Int) := (by omega); subst hi; exact es)
        | (have h0 : s = 0 := (by omega); have hn0 : ¬ (b - a = (wlen wn : Int) ∧ wAl U a wn i.toNat = true) := b2i_0.mp (es.symm.trans h0); rw [h0, b2i_f (fun z => hn0 ⟨z.1, Decidable.byContradiction (fun y => by have q := alB_down (m := i.toNat) y (wlen wn - i.toNat); rw [show i.toNat + (wlen wn - i.toNat) = wlen wn by omega] at q; exact q z.2)⟩)])
      rw [hfin]
      exact kx i _ _ _ eg7 eg11 hfE hgE hH hA
    · skip
      refine z_ild_6 (TX8_wordOf_0.at 35 rfl) ?_
      refine z_if_eq (tgt := 104) (TX8_wordOf_0.at 36 rfl) rfl (by omega) (fun c2 => ?_) (fun c2 => ?_)
      · skip
        have hfin : s = b2i (b - a = (wlen wn : Int) ∧ wAl U a wn (wlen wn) = true) := by
          first
          | (have hi : i = (wlen wn : Int) := (by omega); subst hi; exact es)
          | (have h0 : s = 0 := (by omega); have hn0 : ¬ (b - a = (wlen wn : Int) ∧ wAl U a wn i.toNat = true) := b2i_0.mp (es.symm.trans h0); rw [h0, b2i_f (fun z => hn0 ⟨z.1, Decidable.byContradiction (fun y => by have q := alB_down (m := i.toNat) y (wlen wn - i.toNat); rw [show i.toNat + (wlen wn - i.toNat) = wlen wn by omega] at q; exact q z.2)⟩)])
        rw [hfin]
        exact kx i _ _ _ eg7 eg11 hfE hgE hH hA
      · skip
        have hs1 : b - a = (wlen wn : Int) ∧ wAl U a wn i.toNat = true := b2i_ne.mp (by rw [← es]; omega)
        have hx : X7 (k + i) = wch wn i.toNat := by
          rw [← (hf4 i.toNat (by omega)).1, ← hW (woff wn + i.toNat) (by omega)]; congr 1; omega
        have hwc := (hf4 i.toNat (by omega)).2
        have hu := hU (a + i) (by omega) (by have := hs1.1; omega)
        have hba := hs1.1
        refine z_ald_0 (TX8_wordOf_0.at 37 rfl) ?_
        refine zm_getA (TX8_wordOf_0.at 38 rfl) fl8_41 hH (by decide) (by decide) ?_
        refine z_ild_4 (TX8_wordOf_0.at 39 rfl) ?_
        refine z_ild_7 (TX8_wordOf_1.at 0 rfl) ?_
        refine z_iadd (TX8_wordOf_1.at 1 rfl) ?_
        refine zm_baldE eg7 (TX8_wordOf_1.at 2 rfl) hH rfl (by omega) (show _ < ((134 : Nat) : Int) by omega) (fun r78 => ?_)
        refine z_ald_0 (TX8_wordOf_1.at 3 rfl) ?_
        refine zm_getA (TX8_wordOf_1.at 4 rfl) fl8_45 hH (by decide) (by decide) ?_
        refine z_ild_1 (TX8_wordOf_1.at 5 rfl) ?_
        refine z_ild_7 (TX8_wordOf_1.at 6 rfl) ?_
        refine z_iadd (TX8_wordOf_1.at 7 rfl) ?_
        refine zm_baldE eg11 (TX8_wordOf_1.at 8 rfl) hH rfl (by omega) (show _ < ((400 : Nat) : Int) by omega) (fun r87 => ?_)
        rw [hx] at r78 ⊢
        refine z_icmp_ne (tgt := 95) (TX8_wordOf_1.at 9 rfl) rfl (by omega) (by omega) (fun c3 => ?_) (fun c3 => ?_)
        · skip
          refine z_iconst (TX8_wordOf_1.at 12 rfl) ?_
          refine z_ist_6 (TX8_wordOf_1.at 13 rfl) (Nat.le_of_ble_eq_true rfl) rfl ?_
          refine z_iinc_7 (TX8_wordOf_1.at 14 rfl) (Nat.le_of_ble_eq_true rfl) rfl ?_
          refine z_goto (tgt := 57) (TX8_wordOf_1.at 15 rfl) rfl ?_
          exact ih (i + 1) _ _ _ _ (by omega) (by omega) (by omega) (by first | (rw [b2i_t ⟨hs1.1, by rw [wal_s i0, hs1.2, decide_eq_true (show wch wn i.toNat = U (a + i) by omega)]; rfl⟩]; done) | (rw [b2i_f (fun z => absurd (of_decide_eq_true (Bool.and_eq_true_iff.mp (wal_s i0 ▸ z.2)).2) (by omega))]; done)) eg7 eg11 hfE hgE hH hA
        · skip
          refine z_iconst (TX8_wordOf_1.at 10 rfl) ?_
          refine z_goto (tgt := 96) (TX8_wordOf_1.at 11 rfl) rfl ?_
          refine z_ist_6 (TX8_wordOf_1.at 13 rfl) (Nat.le_of_ble_eq_true rfl) rfl ?_
          refine z_iinc_7 (TX8_wordOf_1.at 14 rfl) (Nat.le_of_ble_eq_true rfl) rfl ?_
          refine z_goto (tgt := 57) (TX8_wordOf_1.at 15 rfl) rfl ?_
          exact ih (i + 1) _ _ _ _ (by omega) (by omega) (by omega) (by first | (rw [b2i_t ⟨hs1.1, by rw [wal_s i0, hs1.2, decide_eq_true (show wch wn i.toNat = U (a + i) by omega)]; rfl⟩]; done) | (rw [b2i_f (fun z => absurd (of_decide_eq_true (Bool.and_eq_true_iff.mp (wal_s i0 ▸ z.2)).2) (by omega))]; done)) eg7 eg11 hfE hgE hH hA

set_option maxHeartbeats 4000000 in
set_option maxRecDepth 100000 in
theorem lp_wd3 {l : Launch} {o : Nat} {ar : Nat → Nat} {d : Nat} {Pz : Option Value → zH → Prop} {h0 : zH} {f0 : mF} {g0 : mA} {j : mA}  {X7 X11 U : Int → Int} {a b : Int} (hW : WdH X7) (hU : TpU X11 U) (a0 : 0 ≤ a) (ab : a < b) (b4 : b ≤ 400) (kx1 : ∀ (w : Int) (o4 o5 o6 o7 : Option Value) (f : mF) (g : mA) (h : zH), 0 ≤ w → w ≤ 26 → wordC U a b = w + 1 → eqx [] f0 f → eqx [] g0 g → HM o ar f g j h → zAg o ar h0 h → Z l MX8_wordOf d 0 0 Pz 109 [some (.ref o), some (vI a), some (vI b), some (vI (w + 1)), o4, o5, o6, o7] [] h 0 0) (kx2 : ∀ (o3 o4 o5 o6 o7 : Option Value) (f : mF) (g : mA) (h : zH), wordC U a b = 0 → eqx [] f0 f → eqx [] g0 g → HM o ar f g j h → zAg o ar h0 h → Z l MX8_wordOf d 0 0 Pz 126 [some (.ref o), some (vI a), some (vI b), o3, o4, o5, o6, o7] [] h 0 0)  : ∀ (n : Nat) (wn : Nat) (w : Int) (k : Int) (o5 : Option Value) (o6 : Option Value) (o7 : Option Value) (f : mF) (g : mA) (h : zH) (ew : w = (wn : Int)) (w27 : wn ≤ 27) (ek : k = (woff wn : Int)) (wf : 27 < wn + n) (hno : ∀ t : Int, 0 ≤ t → t < w → ¬ wEqB U a b t = true) (eg7 : g 7 = X7) (eg11 : g 11 = X11) (hfE : eqx [] f0 f) (hgE : eqx [] g0 g) (hH : HM o ar f g j h) (hA : zAg o ar h0 h), Z l MX8_wordOf d 0 0 Pz 5 [some (.ref o), some (vI a), some (vI b), some (vI (w + 1)), some (vI k), o5, o6, o7] [] h 0 0 := by
  intro n
  induction n with
  | zero => intro wn w k o5 o6 o7 f g h ew w27 ek wf hno eg7 eg11 hfE hgE hH hA; exfalso; omega
  | succ n ih =>
    intro wn w k o5 o6 o7 f g h ew w27 ek wf hno eg7 eg11 hfE hgE hH hA
    have hko : woff wn ≤ 134 := by
      rcases (show wn < 27 ∨ wn = 27 by omega) with q | q
      · have := (w_fact q).2.1; omega
      · subst q; decide
    refine z_ild_4 (TX8_wordOf_0.at 4 rfl) ?_
    refine z_ald_0 (TX8_wordOf_0.at 5 rfl) ?_
    refine zm_getA (TX8_wordOf_0.at 6 rfl) fl8_41 hH (by decide) (by decide) ?_
    refine zm_alen (TX8_wordOf_0.at 7 rfl) hH (by decide) ?_
    rw [show ((mlen 7 : Nat) : Int) = 134 from rfl]
    refine z_icmp_ge (tgt := 126) (TX8_wordOf_0.at 8 rfl) rfl (by omega) (by omega) (fun c1 => ?_) (fun c1 => ?_)
    · skip
      have h27 : wn = 27 := (by rcases (show wn < 27 ∨ wn = 27 by omega) with q | q; exact absurd (w_fact q).2.1 (by omega); exact q)
      exact kx2 _ _ _ _ _ _ _ _ (by unfold wordC; rw [fstP_none 27 (fun t t0 t1 => hno t t0 (by omega))]; rfl) hfE hgE hH hA
    · skip
      have hwn : wn < 27 := (by rcases (show wn < 27 ∨ wn = 27 by omega) with q | q; exact q; exact absurd (show woff 27 = 134 by decide) (by subst q; omega))
      obtain ⟨hf1, hf2, hf3, hf4⟩ := w_fact hwn
      refine z_iconst (TX8_wordOf_0.at 9 rfl) ?_
      refine z_ist_5 (TX8_wordOf_0.at 10 rfl) (Nat.le_of_ble_eq_true rfl) rfl ?_
      refine lp_wd1 (a := a) (b := b) (w := w) (wn := wn) (k := k) hW hwn ek (fun f18 g18 h eg7 xf xg hH hA => ?_) 8 0 _ _ _ (by omega) (by omega) (by omega) eg7 eqx.rf eqx.rf hH hA
      have hfE := hfE.trans xf (by decide)
      have eg11 := (xg 11 (by decide)).trans eg11
      have hgE := hgE.trans xg (by decide)
      refine z_ild_5 (TX8_wordOf_0.at 21 rfl) ?_
      refine z_ild_2 (TX8_wordOf_0.at 22 rfl) ?_
      refine z_ild_1 (TX8_wordOf_0.at 23 rfl) ?_
      refine z_isub (TX8_wordOf_0.at 24 rfl) ?_
      refine z_icmp_ne (tgt := 51) (TX8_wordOf_0.at 25 rfl) rfl (by omega) (by omega) (fun c2 => ?_) (fun c2 => ?_)
      · skip
        refine z_iconst (TX8_wordOf_0.at 28 rfl) ?_
        refine z_ist_6 (TX8_wordOf_0.at 29 rfl) (Nat.le_of_ble_eq_true rfl) rfl ?_
        refine z_iconst (TX8_wordOf_0.at 30 rfl) ?_
        refine z_ist_7 (TX8_wordOf_0.at 31 rfl) (Nat.le_of_ble_eq_true rfl) rfl ?_
        refine lp_wd2 (w := w) (wn := wn) (k := k) (U := U) hW hU a0 ab b4 hwn ek (fun i f57 g57 h eg7 eg11 xf xg hH hA => ?_) 8 0 _ _ _ _ (by omega) (by omega) (by omega) (by first | (rw [b2i_t ⟨by omega, rfl⟩]; done) | (rw [b2i_f (fun z => absurd z.1 (by omega))]; done)) eg7 eg11 eqx.rf eqx.rf hH hA
        have hfE := hfE.trans xf (by decide)
        have hgE := hgE.trans xg (by decide)
        have hwe : wEqB U a b w = true ↔ (b - a = (wlen wn : Int) ∧ wAl U a wn (wlen wn) = true) := by
          unfold wEqB; rw [ew, Int.toNat_natCast, Bool.and_eq_true_iff, decide_eq_true_iff]
        have hbb := b2i_01 (b - a = (wlen wn : Int) ∧ wAl U a wn (wlen wn) = true)
        refine z_ild_6 (TX8_wordOf_1.at 16 rfl) ?_
        refine z_if_eq (tgt := 111) (TX8_wordOf_1.at 17 rfl) rfl (by omega) (fun c3 => ?_) (fun c3 => ?_)
        · skip
          refine z_ild_4 (TX8_wordOf_1.at 20 rfl) ?_
          refine z_ild_5 (TX8_wordOf_1.at 21 rfl) ?_
          refine z_iconst (TX8_wordOf_1.at 22 rfl) ?_
          refine z_iadd (TX8_wordOf_1.at 23 rfl) ?_
          refine z_iadd (TX8_wordOf_1.at 24 rfl) ?_
          refine z_ist_4 (TX8_wordOf_1.at 25 rfl) (Nat.le_of_ble_eq_true rfl) rfl ?_
          refine z_iinc_3 (TX8_wordOf_1.at 26 rfl) (Nat.le_of_ble_eq_true rfl) rfl ?_
          refine z_goto (tgt := 5) (TX8_wordOf_1.at 27 rfl) rfl ?_
          exact ih (wn + 1) (w + 1) _ _ _ _ _ _ _ (by omega) (by omega) (by show _ = ((woff wn + wlen wn + 1 : Nat) : Int); omega) (by omega) (fun t t0 t1 => by rcases (show t < w ∨ t = w by omega) with q | q; exact hno t t0 q; subst q; exact fun z => absurd (b2i_t (hwe.mp z)) (by omega)) eg7 eg11 hfE hgE hH hA
        · skip
          have hy := hwe.mpr (b2i_ne.mp (by assumption))
          exact kx1 w _ _ _ _ _ _ _ (by omega) (by omega) (by unfold wordC; rw [fstP_at (by omega) hy 27 hno (by omega)]) hfE hgE hH hA
      · skip
        refine z_iconst (TX8_wordOf_0.at 26 rfl) ?_
        refine z_goto (tgt := 52) (TX8_wordOf_0.at 27 rfl) rfl ?_
        refine z_ist_6 (TX8_wordOf_0.at 29 rfl) (Nat.le_of_ble_eq_true rfl) rfl ?_
        refine z_iconst (TX8_wordOf_0.at 30 rfl) ?_
        refine z_ist_7 (TX8_wordOf_0.at 31 rfl) (Nat.le_of_ble_eq_true rfl) rfl ?_
        refine lp_wd2 (w := w) (wn := wn) (k := k) (U := U) hW hU a0 ab b4 hwn ek (fun i f57 g57 h eg7 eg11 xf xg hH hA => ?_) 8 0 _ _ _ _ (by omega) (by omega) (by omega) (by first | (rw [b2i_t ⟨by omega, rfl⟩]; done) | (rw [b2i_f (fun z => absurd z.1 (by omega))]; done)) eg7 eg11 eqx.rf eqx.rf hH hA
        have hfE := hfE.trans xf (by decide)
        have hgE := hgE.trans xg (by decide)
        have hwe : wEqB U a b w = true ↔ (b - a = (wlen wn : Int) ∧ wAl U a wn (wlen wn) = true) := by
          unfold wEqB; rw [ew, Int.toNat_natCast, Bool.and_eq_true_iff, decide_eq_true_iff]
        have hbb := b2i_01 (b - a = (wlen wn : Int) ∧ wAl U a wn (wlen wn) = true)
        refine z_ild_6 (TX8_wordOf_1.at 16 rfl) ?_
        refine z_if_eq (tgt := 111) (TX8_wordOf_1.at 17 rfl) rfl (by omega) (fun c4 => ?_) (fun c4 => ?_)
        · skip
          refine z_ild_4 (TX8_wordOf_1.at 20 rfl) ?_
          refine z_ild_5 (TX8_wordOf_1.at 21 rfl) ?_
          refine z_iconst (TX8_wordOf_1.at 22 rfl) ?_
          refine z_iadd (TX8_wordOf_1.at 23 rfl) ?_
          refine z_iadd (TX8_wordOf_1.at 24 rfl) ?_
          refine z_ist_4 (TX8_wordOf_1.at 25 rfl) (Nat.le_of_ble_eq_true rfl) rfl ?_
          refine z_iinc_3 (TX8_wordOf_1.at 26 rfl) (Nat.le_of_ble_eq_true rfl) rfl ?_
          refine z_goto (tgt := 5) (TX8_wordOf_1.at 27 rfl) rfl ?_
          exact ih (wn + 1) (w + 1) _ _ _ _ _ _ _ (by omega) (by omega) (by show _ = ((woff wn + wlen wn + 1 : Nat) : Int); omega) (by omega) (fun t t0 t1 => by rcases (show t < w ∨ t = w by omega) with q | q; exact hno t t0 q; subst q; exact fun z => absurd (b2i_t (hwe.mp z)) (by omega)) eg7 eg11 hfE hgE hH hA
        · skip
          have hy := hwe.mpr (b2i_ne.mp (by assumption))
          exact kx1 w _ _ _ _ _ _ _ (by omega) (by omega) (by unfold wordC; rw [fstP_at (by omega) hy 27 hno (by omega)]) hfE hgE hH hA

set_option maxHeartbeats 4000000 in
set_option maxRecDepth 100000 in
theorem m_wordOf {l : Launch} {o : Nat} {ar : Nat → Nat} {f : mF} {g j : mA} {X7 : Int → Int} {X11 : Int → Int} {a b : Int} {U : Int → Int} (eg7 : g 7 = X7) (eg11 : g 11 = X11) (ha : zIn a) (hb : zIn b) (hW : WdH X7) (hU : TpU X11 U) (a0 : 0 ≤ a) (ab : a < b) (b4 : b ≤ 400) : MM l o ar MX8_wordOf 0 [.ref o, vI a, vI b] f g j (PI (fun r f' g' j' => (r = wordC U a b) ∧ eqx [] f f' ∧ eqx [] g g' ∧ j' = j)) := by
  refine MM.intro [some (.ref o), some (vI a), some (vI b), none, none, none, none, none] (by decide) (Nat.le_of_ble_eq_true rfl) rfl (fun d hd h0 h hH hA => ?_)
  have hfE : eqx [] f f := eqx.rf
  have hgE : eqx [] g g := eqx.rf
  refine z_iconst (TX8_wordOf_0.at 0 rfl) ?_
  refine z_ist_3 (TX8_wordOf_0.at 1 rfl) (Nat.le_of_ble_eq_true rfl) rfl ?_
  refine z_iconst (TX8_wordOf_0.at 2 rfl) ?_
  refine z_ist_4 (TX8_wordOf_0.at 3 rfl) (Nat.le_of_ble_eq_true rfl) rfl ?_
  refine lp_wd3 (U := U) hW hU a0 ab b4 (fun w o4 o5 o6 o7 f3 g3 h3 w0 w1 er xf xg hH hA => ?_) (fun o3 o4 o5 o6 o7 f3 g3 h3 er xf xg hH hA => ?_) 28 0 0 0 none none none _ _ _ (by omega) (by omega) rfl (by omega) (fun t t0 t1 => by omega) eg7 eg11 hfE hgE hH hA
  · refine z_ild_3 (TX8_wordOf_1.at 18 rfl) ?_
    refine zm_iret (TX8_wordOf_1.at 19 rfl) rfl hH hA (by omega) ?_
    exact ⟨er.symm, xf, xg, rfl⟩
  · refine z_iconst (TX8_wordOf_1.at 28 rfl) ?_
    refine zm_iret (TX8_wordOf_1.at 29 rfl) rfl hH hA (by omega) ?_
    exact ⟨er.symm, xf, xg, rfl⟩

