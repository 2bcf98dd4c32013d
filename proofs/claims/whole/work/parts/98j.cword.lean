/-! ===== the class: which word it is ===== -/
def rpL : List Nat := [0, 1, 2, 21, 22, 23, 25, 3, 26, 24, 4, 5, 6, 7, 8, 9, 10, 11, 12, 13, 14, 15, 16, 17, 18, 19, 20]
def spl (U : Int → Int) (k b : Int) (i : Nat) : Prop := b - k = (zsLen.getD i 0 : Nat) ∧ ∀ t : Int, 0 ≤ t → t < (zsLen.getD i 0 : Nat) → zch i t = U (k + t)
theorem rp_all : ∀ w : Fin 27, rpL.getD w.val 0 < 27 ∧ wlen (rpL.getD w.val 0) = zsLen.getD w.val 0 ∧ ∀ t : Fin 6, t.val < zsLen.getD w.val 0 → wch (rpL.getD w.val 0) t.val = ((zsByt.getD w.val []).getD t.val 0).toInt := by decide +kernel
theorem rp_on : ∀ r : Fin 27, ∃ w : Fin 27, rpL.getD w.val 0 = r.val := by decide +kernel
theorem rp_wd : ∀ w : Fin 27, WdA ((rpL.getD w.val 0 : Nat) + 1) (w.val : Int) := by unfold WdA; decide +kernel
theorem wL_one : ∀ w1 w2 : Fin 27, (wlen w1.val = wlen w2.val ∧ ∀ t : Fin 6, t.val < wlen w1.val → wch w1.val t.val = wch w2.val t.val) → w1 = w2 := by decide +kernel
theorem alB_all {p : Int → Bool} : ∀ n : Nat, alB p n = true ↔ ∀ t : Int, 0 ≤ t → t < n → p t = true := by
  intro n
  induction n with
  | zero => exact ⟨fun _ t t0 t1 => by omega, fun _ => rfl⟩
  | succ n ih =>
    simp only [alB, Bool.and_eq_true, ih]
    constructor
    · intro h t t0 t1
      by_cases e : t = n
      · rw [e]; exact h.2
      · exact h.1 t t0 (by omega)
    · intro h
      exact ⟨fun t t0 t1 => h t t0 (by omega), h n (by omega) (by omega)⟩
theorem wEq_iff {U : Int → Int} {k b : Int} {r : Nat} : wEqB U k b r = true ↔ (b - k = (wlen r : Nat) ∧ ∀ t : Int, 0 ≤ t → t < (wlen r : Nat) → wch r t.toNat = U (k + t)) := by
  unfold wEqB wAl
  rw [Bool.and_eq_true, decide_eq_true_iff, Int.toNat_natCast, alB_all]
  constructor
  · intro h; exact ⟨h.1, fun t t0 t1 => of_decide_eq_true (h.2 t t0 t1)⟩
  · intro h; exact ⟨h.1, fun t t0 t1 => decide_eq_true (h.2 t t0 t1)⟩
theorem spl_iff {U : Int → Int} {k b : Int} {w : Nat} (hw : w < 27) : spl U k b w ↔ wEqB U k b (rpL.getD w 0 : Nat) = true := by
  have h := rp_all ⟨w, hw⟩
  simp only at h
  have h6 := zsl6 (i := w) (by omega)
  rw [wEq_iff, h.2.1]
  unfold spl
  constructor
  · intro q
    refine ⟨q.1, fun t t0 t1 => ?_⟩
    have := h.2.2 ⟨t.toNat, by omega⟩ (by simp only; omega)
    simp only at this
    rw [this]
    exact q.2 t t0 t1
  · intro q
    refine ⟨q.1, fun t t0 t1 => ?_⟩
    have := h.2.2 ⟨t.toNat, by omega⟩ (by simp only; omega)
    simp only at this
    have q2 := q.2 t t0 t1
    rw [this] at q2
    exact q2
theorem wEq_one {U : Int → Int} {k b : Int} {r1 r2 : Nat} (h1 : r1 < 27) (h2 : r2 < 27) (e1 : wEqB U k b r1 = true) (e2 : wEqB U k b r2 = true) : r1 = r2 := by
  rw [wEq_iff] at e1 e2
  have h6 : ∀ w : Fin 27, wlen w.val ≤ 6 := by decide +kernel
  have l1 := h6 ⟨r1, h1⟩
  simp only at l1
  have := wL_one ⟨r1, h1⟩ ⟨r2, h2⟩ ⟨by simp only; omega, fun t ht => by
    simp only at ht ⊢
    have a := e1.2 (t.val : Int) (by omega) (by omega)
    have c := e2.2 (t.val : Int) (by omega) (by omega)
    rw [Int.toNat_natCast] at a c
    rw [a, c]⟩
  exact congrArg Fin.val this
theorem word_r {U : Int → Int} {k b : Int} {w : Nat} (hw : w < 27) (hs : spl U k b w) : WdA (wordC U k b) (w : Int) := by
  have e := (spl_iff hw).mp hs
  have hr := (rp_all ⟨w, hw⟩).1
  simp only at hr
  have : fstP (wEqB U k b) 27 = (rpL.getD w 0 : Nat) := by
    refine fstP_i (by omega) (by omega) (fun t t0 t1 ht => ?_) e
    have h2 : wEqB U k b (t.toNat : Nat) = true := by rw [show ((t.toNat : Nat) : Int) = t by omega]; exact ht
    have := wEq_one (by omega) hr h2 e
    omega
  unfold wordC
  rw [this]
  exact rp_wd ⟨w, hw⟩
theorem word_n {U : Int → Int} {k b : Int} (h : ∀ w : Nat, w < 27 → ¬ spl U k b w) : WdA (wordC U k b) (-1) := by
  have : fstP (wEqB U k b) 27 = -1 := by
    refine fstP_none 27 (fun t t0 t1 ht => ?_)
    obtain ⟨w, hw⟩ := rp_on ⟨t.toNat, by omega⟩
    simp only at hw
    refine h w.val w.isLt ((spl_iff w.isLt).mpr ?_)
    rw [hw, show ((t.toNat : Nat) : Int) = t by omega]
    exact ht
  unfold wordC
  rw [this]
  exact Or.inl ⟨by decide, rfl⟩
section SPL
variable {G : zG} {l : Launch} {i : Nat} {U : Int → Int} {k b : Int} {h : zH} {a8 ab : Nat} {fs : List Value}
set_option maxHeartbeats 4000000 in
set_option maxRecDepth 100000 in
theorem s_spl (hi : i < 28) (h8 : h a8 = some (.inr (6, fs))) (hf1 : fs[1]? = some (.ref ab)) (hab : h ab = some (.inl (0, 400, .inl (fun n : Nat => Int32.ofInt (U n))))) (k0 : 0 ≤ k) (kb : k ≤ b) (b4 : b ≤ 400) (hU : ∀ n, zIn (U n)) : ∀ d, 4 ≤ d → MZG G l MX3_isSpelled d 0 0 [.ref a8, vI k, vI b, .ref (G.2.2.2.1 i)] h (fun v h' => h' = h ∧ ∃ r, v = some (vI r) ∧ (r = 0 ∨ r = 1) ∧ (r = 1 ↔ spl U k b i)) := by
  intro d hd
  have h6 := zsl6 hi
  have hlp : b - k = (zsLen.getD i 0 : Nat) → ∀ (n : Nat) (j : Int), 0 ≤ j → j ≤ (zsLen.getD i 0 : Nat) → (zsLen.getD i 0 : Nat) < j + n → (∀ t : Int, 0 ≤ t → t < j → zch i t = U (k + t)) → ZG G l MX3_isSpelled d 0 0 (fun v h' => h' = h ∧ ∃ r, v = some (vI r) ∧ (r = 0 ∨ r = 1) ∧ (r = 1 ↔ spl U k b i)) 15 [some (.ref a8), some (vI k), some (vI b), some (.ref (G.2.2.2.1 i)), some (vI j)] [] h 0 0 := by
    intro hlen n
    induction n with
    | zero => intro j j0 j1 j2; exfalso; omega
    | succ n ih =>
      intro j j0 j1 j2 hj
      refine zg_ild_4 (TX3_isSpelled.at 10 rfl) ?_
      refine zg_ald_3 (TX3_isSpelled.at 11 rfl) ?_
      refine zg_callS (As := []) hi rfl (s_len hi) (TX3_isSpelled.at 12 rfl) c3_111 rfl (by omega) (Nat.le_of_ble_eq_true rfl) (fun _ => ?_)
      refine zg_icmp_ge (tgt := 50) (TX3_isSpelled.at 13 rfl) rfl (by omega) (by omega) (fun c => ?_) (fun c => ?_)
      · refine zg_iconst (TX3_isSpelled.at 28 rfl) ?_
        exact zg_zret (TX3_isSpelled.at 29 rfl) rfl (Or.inr rfl) ⟨rfl, 1, rfl, Or.inr rfl, fun _ => ⟨hlen, fun t t0 t1 => hj t t0 (by omega)⟩, fun _ => rfl⟩
      · have hz := zch_in hi j0 (by omega)
        refine zg_ald_3 (TX3_isSpelled.at 14 rfl) ?_
        refine zg_ild_4 (TX3_isSpelled.at 15 rfl) ?_
        refine zg_callS (As := [vI j]) hi rfl (s_char hi j0 (by omega)) (TX3_isSpelled.at 16 rfl) c3_116 rfl (by omega) (Nat.le_of_ble_eq_true rfl) (fun _ => ?_)
        refine zg_ald_0 (TX3_isSpelled.at 17 rfl) ?_
        refine zg_getf (TX3_isSpelled.at 18 rfl) fl3_69 h8 hf1 ?_
        refine zg_ild_1 (TX3_isSpelled.at 19 rfl) ?_
        refine zg_ild_4 (TX3_isSpelled.at 20 rfl) ?_
        refine zg_iadd (TX3_isSpelled.at 21 rfl) ?_
        refine zg_iald (TX3_isSpelled.at 22 rfl) hab (by omega) (by omega) (by decide) ?_
        rw [show Value.int (Int32.ofInt (U (((k + j).toNat : Nat) : Int))) = vI (U (k + j)) by rw [show (((k + j).toNat : Nat) : Int) = k + j by omega]; rfl]
        refine zg_icmp_eq (tgt := 44) (TX3_isSpelled.at 23 rfl) rfl (by omega) (hU _) (fun c2 => ?_) (fun c2 => ?_)
        · refine zg_iinc_4 (TX3_isSpelled.at 26 rfl) (Nat.le_of_ble_eq_true rfl) rfl ?_
          refine zg_goto (tgt := 15) (TX3_isSpelled.at 27 rfl) rfl ?_
          refine ih (j + 1) (by omega) (by omega) (by omega) (fun t t0 t1 => ?_)
          by_cases e : t = j
          · rw [e]; exact c2
          · exact hj t t0 (by omega)
        · refine zg_iconst (TX3_isSpelled.at 24 rfl) ?_
          exact zg_zret (TX3_isSpelled.at 25 rfl) rfl (Or.inl rfl) ⟨rfl, 0, rfl, Or.inl rfl, fun z => absurd z (by decide), fun z => absurd (z.2 j j0 (by omega)) c2⟩
  refine MZG.intro [some (.ref a8), some (vI k), some (vI b), some (.ref (G.2.2.2.1 i)), none] (by decide) (Nat.le_of_ble_eq_true rfl) rfl ?_
  refine zg_ald_3 (TX3_isSpelled.at 0 rfl) ?_
  refine zg_callS (As := []) hi rfl (s_len hi) (TX3_isSpelled.at 1 rfl) c3_111 rfl (by omega) (Nat.le_of_ble_eq_true rfl) (fun _ => ?_)
  refine zg_ild_2 (TX3_isSpelled.at 2 rfl) ?_
  refine zg_ild_1 (TX3_isSpelled.at 3 rfl) ?_
  refine zg_isub (TX3_isSpelled.at 4 rfl) ?_
  refine zg_icmp_eq (tgt := 12) (TX3_isSpelled.at 5 rfl) rfl (by omega) (by omega) (fun c => ?_) (fun c => ?_)
  · refine zg_iconst (TX3_isSpelled.at 8 rfl) ?_
    refine zg_ist_4 (TX3_isSpelled.at 9 rfl) (Nat.le_of_ble_eq_true rfl) rfl ?_
    exact hlp (by omega) 8 0 (by omega) (by omega) (by omega) (fun t t0 t1 => by omega)
  · refine zg_iconst (TX3_isSpelled.at 6 rfl) ?_
    exact zg_zret (TX3_isSpelled.at 7 rfl) rfl (Or.inl rfl) ⟨rfl, 0, rfl, Or.inl rfl, fun z => absurd z (by decide), fun z => absurd z.1 (by omega)⟩
end SPL
set_option maxHeartbeats 4000000 in
set_option maxRecDepth 100000 in
theorem s_word {G : zG} {l : Launch} {U : Int → Int} {k b : Int} {h : zH} {a8 ab : Nat} {fs : List Value} (h8 : h a8 = some (.inr (6, fs))) (hf1 : fs[1]? = some (.ref ab)) (hab : h ab = some (.inl (0, 400, .inl (fun n : Nat => Int32.ofInt (U n))))) (k0 : 0 ≤ k) (kb : k ≤ b) (b4 : b ≤ 400) (hU : ∀ n, zIn (U n)) {Pz : Option Value → zH → Prop} (hP : ∀ r : Int, -1 ≤ r → r ≤ 26 → WdA (wordC U k b) r → Pz (some (vI r)) h) : ∀ d, 5 ≤ d → MZG G l MX3_wordAt d 0 0 [.ref a8, vI k, vI b] h Pz := by
  intro d hd
  have hlp : ∀ (n w : Nat), w ≤ 27 → 27 < w + n → (∀ t : Nat, t < w → ¬ spl U k b t) → ZG G l MX3_wordAt d 0 0 Pz 2 [some (.ref a8), some (vI k), some (vI b), some (vI (w : Int))] [] h 0 0 := by
    intro n
    induction n with
    | zero => intro w w1 w2; exfalso; omega
    | succ n ih =>
      intro w w1 w2 hw
      refine zg_ild_3 (TX3_wordAt.at 2 rfl) ?_
      refine zg_bipush (by decide) (TX3_wordAt.at 3 rfl) ?_
      refine zg_icmp_ge (tgt := 29) (TX3_wordAt.at 4 rfl) rfl (by omega) (by omega) (fun c => ?_) (fun c => ?_)
      · refine zg_iconst (TX3_wordAt.at 16 rfl) ?_
        exact zg_iret (TX3_wordAt.at 17 rfl) rfl (hP (-1) (by omega) (by omega) (word_n (fun t ht => hw t (by omega))))
      · refine zg_ald_0 (TX3_wordAt.at 5 rfl) ?_
        refine zg_ild_1 (TX3_wordAt.at 6 rfl) ?_
        refine zg_ild_2 (TX3_wordAt.at 7 rfl) ?_
        refine zg_ild_3 (TX3_wordAt.at 8 rfl) ?_
        obtain ⟨hd3, hp3⟩ := (TX3_wordAt.at 9 rfl)
        refine zg_invS (As := [vI (w : Int)]) (M' := MX3_spelled) hd3 c3_103 rfl (d' := d - 1) (by omega) (Nat.zero_le _) (Nat.zero_le _) (Nat.le_of_ble_eq_true rfl) (s_spelled (by omega) (d - 1) h) (fun v h' hp => ?_)
        obtain ⟨rfl, rfl⟩ := hp
        obtain ⟨hd4, hp4⟩ := (TX3_wordAt.at 10 rfl)
        refine zg_invS (As := [.ref a8, vI k, vI b, .ref (G.2.2.2.1 w)]) (S := []) (M' := MX3_isSpelled) hd4 c3_107 rfl (d' := d - 1) (by omega) (Nat.zero_le _) (Nat.zero_le _) (Nat.le_of_ble_eq_true rfl) (s_spl (i := w) (by omega) h8 hf1 hab k0 kb b4 hU (d - 1) (by omega)) (fun v h9 hp => ?_)
        obtain ⟨rfl, r, rfl, r01, hr⟩ := hp
        refine zg_if_eq (tgt := 23) (TX3_wordAt.at 11 rfl) rfl (by omega) (fun c2 => ?_) (fun c2 => ?_)
        · refine zg_iinc_3 (TX3_wordAt.at 14 rfl) (Nat.le_of_ble_eq_true rfl) rfl ?_
          refine zg_goto (tgt := 2) (TX3_wordAt.at 15 rfl) rfl ?_
          refine ih (w + 1) (by omega) (by omega) (fun t ht => ?_)
          by_cases e : t = w
          · rw [e]; exact fun z => absurd (hr.mpr z) (by omega)
          · exact hw t (by omega)
        · refine zg_ild_3 (TX3_wordAt.at 12 rfl) ?_
          exact zg_iret (TX3_wordAt.at 13 rfl) rfl (hP w (by omega) (by omega) (word_r (by omega) (hr.mp (by omega))))
  refine MZG.intro [some (.ref a8), some (vI k), some (vI b), none] (by decide) (Nat.le_of_ble_eq_true rfl) rfl ?_
  refine zg_iconst (TX3_wordAt.at 0 rfl) ?_
  refine zg_ist_3 (TX3_wordAt.at 1 rfl) (Nat.le_of_ble_eq_true rfl) rfl ?_
  exact hlp 28 0 (by omega) (by omega) (fun t ht => by omega)
theorem c_wordAt {l : Launch} {E : cE} {f : mF} {g j : mA} {U : Int → Int} {k b : Int} (eg257 : g 257 = U) (k0 : 0 ≤ k) (kb : k ≤ b) (b4 : b ≤ 400) : CM l E MX3_wordAt 5 [.ref (E.1 287), vI k, vI b] f g j (PI (fun r f' g' j' => ((-1 ≤ r ∧ r ≤ 26) ∧ WdA (wordC U k b) r) ∧ eqx [] f f' ∧ eqx [] g g' ∧ j' = j)) := by
  subst eg257
  intro d hd h hH
  refine MZ.of (fun G => ?_)
  have h8 := hH.1 8 (hH.lv (by decide))
  have hab := hH.arrI (k := 257) (hH.lv (by decide)) rfl
  rw [hH.2.2.2.2.1 257 (by decide)] at hab
  refine s_word (a8 := E.1 287) (ab := E.1 257) (U := g 257) h8 (cfs_get (by decide)) hab k0 kb b4 (hH.2.2.2.2.2.2.2.1 257) (fun r r0 r1 hr => ?_) d hd
  exact ⟨f, g, j, hH, cAg.refl, r, rfl, ⟨by omega, by omega⟩, ⟨⟨r0, r1⟩, hr⟩, eqx.rf, eqx.rf, rfl⟩
