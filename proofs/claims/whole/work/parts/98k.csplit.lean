/-! ===== the class: a text is split ===== -/
set_option maxHeartbeats 4000000 in
set_option maxRecDepth 100000 in
theorem c_isLet {l : Launch} {u : Int} (hu : zIn u) : SI l MX3_isLetter 0 [vI u] (b2i (97 ≤ u ∧ u ≤ 122)) := by
  have h01 := b2i_01 (97 ≤ u ∧ u ≤ 122)
  refine SI.intro [some (vI u)] (by omega) (by decide) (Nat.le_of_ble_eq_true rfl) rfl (fun d hd h => ?_)
  refine z_ild_0 (TX3_isLetter.at 0 rfl) ?_
  refine z_bipush (by decide) (TX3_isLetter.at 1 rfl) ?_
  refine z_icmp_lt (tgt := 16) (TX3_isLetter.at 2 rfl) rfl (by omega) (by omega) (fun c1 => ?_) (fun c1 => ?_)
  · skip
    refine z_iconst (TX3_isLetter.at 8 rfl) ?_
    exact zs_zret (TX3_isLetter.at 9 rfl) rfl (by first | omega | exact b2i_01 _) (by unfold b2i; split <;> omega)
  · skip
    refine z_ild_0 (TX3_isLetter.at 3 rfl) ?_
    refine z_bipush (by decide) (TX3_isLetter.at 4 rfl) ?_
    refine z_icmp_gt (tgt := 16) (TX3_isLetter.at 5 rfl) rfl (by omega) (by omega) (fun c2 => ?_) (fun c2 => ?_)
    · skip
      refine z_iconst (TX3_isLetter.at 8 rfl) ?_
      exact zs_zret (TX3_isLetter.at 9 rfl) rfl (by first | omega | exact b2i_01 _) (by unfold b2i; split <;> omega)
    · skip
      refine z_iconst (TX3_isLetter.at 6 rfl) ?_
      refine z_goto (tgt := 17) (TX3_isLetter.at 7 rfl) rfl ?_
      exact zs_zret (TX3_isLetter.at 9 rfl) rfl (by first | omega | exact b2i_01 _) (by unfold b2i; split <;> omega)

set_option maxHeartbeats 4000000 in
set_option maxRecDepth 100000 in
theorem c_isDig {l : Launch} {u : Int} (hu : zIn u) : SI l MX3_isDigit 0 [vI u] (b2i (48 ≤ u ∧ u ≤ 57)) := by
  have h01 := b2i_01 (48 ≤ u ∧ u ≤ 57)
  refine SI.intro [some (vI u)] (by omega) (by decide) (Nat.le_of_ble_eq_true rfl) rfl (fun d hd h => ?_)
  refine z_ild_0 (TX3_isDigit.at 0 rfl) ?_
  refine z_bipush (by decide) (TX3_isDigit.at 1 rfl) ?_
  refine z_icmp_lt (tgt := 16) (TX3_isDigit.at 2 rfl) rfl (by omega) (by omega) (fun c1 => ?_) (fun c1 => ?_)
  · skip
    refine z_iconst (TX3_isDigit.at 8 rfl) ?_
    exact zs_zret (TX3_isDigit.at 9 rfl) rfl (by first | omega | exact b2i_01 _) (by unfold b2i; split <;> omega)
  · skip
    refine z_ild_0 (TX3_isDigit.at 3 rfl) ?_
    refine z_bipush (by decide) (TX3_isDigit.at 4 rfl) ?_
    refine z_icmp_gt (tgt := 16) (TX3_isDigit.at 5 rfl) rfl (by omega) (by omega) (fun c2 => ?_) (fun c2 => ?_)
    · skip
      refine z_iconst (TX3_isDigit.at 8 rfl) ?_
      exact zs_zret (TX3_isDigit.at 9 rfl) rfl (by first | omega | exact b2i_01 _) (by unfold b2i; split <;> omega)
    · skip
      refine z_iconst (TX3_isDigit.at 6 rfl) ?_
      refine z_goto (tgt := 17) (TX3_isDigit.at 7 rfl) rfl ?_
      exact zs_zret (TX3_isDigit.at 9 rfl) rfl (by first | omega | exact b2i_01 _) (by unfold b2i; split <;> omega)

set_option maxHeartbeats 4000000 in
set_option maxRecDepth 100000 in
theorem lp_c_endL {l : Launch} {E : cE} {d : Nat} {Pz : Option Value → zH → Prop} {h0 : zH} {f0 : mF} {g0 j : mA} (hd : 1 ≤ d) {U : Int → Int} {z k R : Int} (z4 : z ≤ 400) (hU : ∀ i : Int, 0 ≤ i → i < 400 → 0 ≤ U i ∧ U i ≤ 255) (kx : ∀ (e : Int) (f : mF) (g : mA) (h : zH), e = R → eqx [] f0 f → eqx [] g0 g → HC E f g j h → cAg E h0 h → Z l MX3_endOfLetters d 0 0 Pz 28 [some (.ref (E.1 287)), some (vI k), some (vI e)] [] h 0 0) : ∀ (n : Nat) (m : Nat) (e : Int) (f : mF) (g : mA) (h : zH) (e0 : 0 ≤ e) (e1 : e ≤ z) (e2 : z < e + n) (er : runE smB U z m e = R) (em : z ≤ e + m) (eg257 : g 257 = U) (ef256 : f 256 = z) (hfE : eqx [] f0 f) (hgE : eqx [] g0 g) (hH : HC E f g j h) (hA : cAg E h0 h), Z l MX3_endOfLetters d 0 0 Pz 2 [some (.ref (E.1 287)), some (vI k), some (vI e)] [] h 0 0 := by
  intro n
  induction n with
  | zero => intro m e f g h e0 e1 e2 er em eg257 ef256 hfE hgE hH hA; exfalso; omega
  | succ n ih =>
    intro m e f g h e0 e1 e2 er em eg257 ef256 hfE hgE hH hA
    refine z_ild_2 (TX3_endOfLetters.at 2 rfl) ?_
    refine z_ald_0 (TX3_endOfLetters.at 3 rfl) ?_
    refine zc_getIE (m := 8) (s := 0) (k := 256) (hH.lv (by decide)) ef256 (TX3_endOfLetters.at 4 rfl) fl3_64 hH rfl rfl (by decide) (by decide) (fun r4 => ?_)
    refine z_icmp_ge (tgt := 28) (TX3_endOfLetters.at 5 rfl) rfl (by omega) (by omega) (fun c1 => ?_) (fun c1 => ?_)
    · skip
      exact kx _ _ _ _ (by first | (have he : e = z := (by omega); rw [← er]; cases m with | zero => rfl | succ m => exact (runE_f (fun q => by omega)).symm) | (rw [← er, show m = (m - 1) + 1 by omega]; exact (runE_f (fun q => absurd (of_decide_eq_true q.2) (by assumption))).symm)) hfE hgE hH hA
    · skip
      refine z_ald_0 (TX3_endOfLetters.at 6 rfl) ?_
      refine zc_getA (m := 8) (s := 1) (k := 257) (hH.lv (by decide)) (TX3_endOfLetters.at 7 rfl) fl3_69 hH rfl rfl (by decide) (by decide) ?_
      refine z_ild_2 (TX3_endOfLetters.at 8 rfl) ?_
      refine zcf_iald (k := 257) (N := 400) (hH.lv (by decide)) (by decide) rfl eg257 (TX3_endOfLetters.at 9 rfl) hH (by decide) (by omega) (show _ < ((400 : Nat) : Int) by omega) (fun r15 => ?_)
      have hu := hU e e0 (by omega)
      refine zs_call1 (c_isLet (by omega)) (TX3_endOfLetters.at 10 rfl) c3_72 rfl (by omega) (Nat.le_of_ble_eq_true rfl) (fun r16 => ?_)
      refine z_if_eqB (tgt := 28) (TX3_endOfLetters.at 11 rfl) rfl (fun c2 => ?_) (fun c2 => ?_)
      · skip
        exact kx _ _ _ _ (by first | (have he : e = z := (by omega); rw [← er]; cases m with | zero => rfl | succ m => exact (runE_f (fun q => by omega)).symm) | (rw [← er, show m = (m - 1) + 1 by omega]; exact (runE_f (fun q => absurd (of_decide_eq_true q.2) (by assumption))).symm)) hfE hgE hH hA
      · skip
        refine z_iinc_2 (TX3_endOfLetters.at 12 rfl) (Nat.le_of_ble_eq_true rfl) rfl ?_
        refine z_goto (tgt := 2) (TX3_endOfLetters.at 13 rfl) rfl ?_
        exact ih (m - 1) (e + 1) _ _ _ (by omega) (by omega) (by omega) (by rw [← er, show m = (m - 1) + 1 by omega]; exact (runE_t (by omega) (decide_eq_true (by assumption))).symm) (by omega) eg257 ef256 hfE hgE hH hA

theorem runE_m {p : Int → Bool} {U : Int → Int} {z : Int} : ∀ (m m' : Nat) (k : Int), z ≤ k + m → z ≤ k + m' → runE p U z m k = runE p U z m' k := by
  intro m
  induction m with
  | zero =>
    intro m' k h1 h2
    cases m' with
    | zero => rfl
    | succ m' => rw [runE_f (fun q => by omega)]; rfl
  | succ m ih =>
    intro m' k h1 h2
    by_cases q : k < z ∧ p (U k) = true
    · cases m' with
      | zero => omega
      | succ m' => rw [runE_t q.1 q.2, runE_t q.1 q.2]; exact ih m' (k + 1) (by omega) (by omega)
    · rw [runE_f q]
      cases m' with
      | zero => rfl
      | succ m' => rw [runE_f q]
theorem run_k {p : Int → Bool} {U : Int → Int} {z k : Int} (z4 : z ≤ k + 400) (hk : k < z) (hp : p (U k) = true) (k1 : z ≤ k + 1 + 400) : runE p U z 400 k = runE p U z 400 (k + 1) := by
  rw [show (400 : Nat) = 399 + 1 from rfl, runE_t hk hp]
  exact runE_m _ _ _ (by omega) (by omega)
set_option maxHeartbeats 4000000 in
set_option maxRecDepth 100000 in
theorem c_endL {l : Launch} {E : cE} {f : mF} {g j : mA} {U : Int → Int} {z k : Int} (eg257 : g 257 = U) (ef256 : f 256 = z) (k0 : 0 ≤ k) (kz : k < z) (z4 : z ≤ 400) (hU : ∀ i : Int, 0 ≤ i → i < 400 → 0 ≤ U i ∧ U i ≤ 255) (hp : smB (U k) = true) : CM l E MX3_endOfLetters 1 [.ref (E.1 287), vI k] f g j (PI (fun r f' g' j' => (r = runE smB U z 400 (k + 1)) ∧ eqx [] f f' ∧ eqx [] g g' ∧ j' = j)) := by
  refine CM.intro [some (.ref (E.1 287)), some (vI k), none] (by decide) (Nat.le_of_ble_eq_true rfl) rfl (fun d hd h0 h hH hA => ?_)
  have hfE : eqx [] f f := eqx.rf
  have hgE : eqx [] g g := eqx.rf
  refine z_ild_1 (TX3_endOfLetters.at 0 rfl) ?_
  refine z_ist_2 (TX3_endOfLetters.at 1 rfl) (Nat.le_of_ble_eq_true rfl) rfl ?_
  refine lp_c_endL (k := k) (by omega) z4 hU (fun e f9 g9 h9 er xf xg hH hA => ?_) 401 400 k _ _ _ (by omega) (by omega) (by omega) rfl (by omega) eg257 ef256 eqx.rf eqx.rf hH hA
  have hrr := runE_in (p := smB) (U := U) (z := z) 400 k (by omega)
  refine z_ild_2 (TX3_endOfLetters.at 14 rfl) ?_
  refine zc_iret (TX3_endOfLetters.at 15 rfl) rfl hH hA (by omega) ?_
  exact ⟨er.trans (run_k (by omega) kz hp (by omega)), xf, xg, rfl⟩

set_option maxHeartbeats 4000000 in
set_option maxRecDepth 100000 in
theorem lp_c_endD {l : Launch} {E : cE} {d : Nat} {Pz : Option Value → zH → Prop} {h0 : zH} {f0 : mF} {g0 j : mA} (hd : 1 ≤ d) {U : Int → Int} {z k R : Int} (z4 : z ≤ 400) (hU : ∀ i : Int, 0 ≤ i → i < 400 → 0 ≤ U i ∧ U i ≤ 255) (kx : ∀ (e : Int) (f : mF) (g : mA) (h : zH), e = R → eqx [] f0 f → eqx [] g0 g → HC E f g j h → cAg E h0 h → Z l MX3_endOfDigits d 0 0 Pz 28 [some (.ref (E.1 287)), some (vI k), some (vI e)] [] h 0 0) : ∀ (n : Nat) (m : Nat) (e : Int) (f : mF) (g : mA) (h : zH) (e0 : 0 ≤ e) (e1 : e ≤ z) (e2 : z < e + n) (er : runE dgB U z m e = R) (em : z ≤ e + m) (eg257 : g 257 = U) (ef256 : f 256 = z) (hfE : eqx [] f0 f) (hgE : eqx [] g0 g) (hH : HC E f g j h) (hA : cAg E h0 h), Z l MX3_endOfDigits d 0 0 Pz 2 [some (.ref (E.1 287)), some (vI k), some (vI e)] [] h 0 0 := by
  intro n
  induction n with
  | zero => intro m e f g h e0 e1 e2 er em eg257 ef256 hfE hgE hH hA; exfalso; omega
  | succ n ih =>
    intro m e f g h e0 e1 e2 er em eg257 ef256 hfE hgE hH hA
    refine z_ild_2 (TX3_endOfDigits.at 2 rfl) ?_
    refine z_ald_0 (TX3_endOfDigits.at 3 rfl) ?_
    refine zc_getIE (m := 8) (s := 0) (k := 256) (hH.lv (by decide)) ef256 (TX3_endOfDigits.at 4 rfl) fl3_64 hH rfl rfl (by decide) (by decide) (fun r4 => ?_)
    refine z_icmp_ge (tgt := 28) (TX3_endOfDigits.at 5 rfl) rfl (by omega) (by omega) (fun c1 => ?_) (fun c1 => ?_)
    · skip
      exact kx _ _ _ _ (by first | (have he : e = z := (by omega); rw [← er]; cases m with | zero => rfl | succ m => exact (runE_f (fun q => by omega)).symm) | (rw [← er, show m = (m - 1) + 1 by omega]; exact (runE_f (fun q => absurd (of_decide_eq_true q.2) (by assumption))).symm)) hfE hgE hH hA
    · skip
      refine z_ald_0 (TX3_endOfDigits.at 6 rfl) ?_
      refine zc_getA (m := 8) (s := 1) (k := 257) (hH.lv (by decide)) (TX3_endOfDigits.at 7 rfl) fl3_69 hH rfl rfl (by decide) (by decide) ?_
      refine z_ild_2 (TX3_endOfDigits.at 8 rfl) ?_
      refine zcf_iald (k := 257) (N := 400) (hH.lv (by decide)) (by decide) rfl eg257 (TX3_endOfDigits.at 9 rfl) hH (by decide) (by omega) (show _ < ((400 : Nat) : Int) by omega) (fun r15 => ?_)
      have hu := hU e e0 (by omega)
      refine zs_call1 (c_isDig (by omega)) (TX3_endOfDigits.at 10 rfl) c3_88 rfl (by omega) (Nat.le_of_ble_eq_true rfl) (fun r16 => ?_)
      refine z_if_eqB (tgt := 28) (TX3_endOfDigits.at 11 rfl) rfl (fun c2 => ?_) (fun c2 => ?_)
      · skip
        exact kx _ _ _ _ (by first | (have he : e = z := (by omega); rw [← er]; cases m with | zero => rfl | succ m => exact (runE_f (fun q => by omega)).symm) | (rw [← er, show m = (m - 1) + 1 by omega]; exact (runE_f (fun q => absurd (of_decide_eq_true q.2) (by assumption))).symm)) hfE hgE hH hA
      · skip
        refine z_iinc_2 (TX3_endOfDigits.at 12 rfl) (Nat.le_of_ble_eq_true rfl) rfl ?_
        refine z_goto (tgt := 2) (TX3_endOfDigits.at 13 rfl) rfl ?_
        exact ih (m - 1) (e + 1) _ _ _ (by omega) (by omega) (by omega) (by rw [← er, show m = (m - 1) + 1 by omega]; exact (runE_t (by omega) (decide_eq_true (by assumption))).symm) (by omega) eg257 ef256 hfE hgE hH hA

set_option maxHeartbeats 4000000 in
set_option maxRecDepth 100000 in
theorem c_endD {l : Launch} {E : cE} {f : mF} {g j : mA} {U : Int → Int} {z k : Int} (eg257 : g 257 = U) (ef256 : f 256 = z) (k0 : 0 ≤ k) (kz : k < z) (z4 : z ≤ 400) (hU : ∀ i : Int, 0 ≤ i → i < 400 → 0 ≤ U i ∧ U i ≤ 255) (hp : dgB (U k) = true) : CM l E MX3_endOfDigits 1 [.ref (E.1 287), vI k] f g j (PI (fun r f' g' j' => (r = runE dgB U z 400 (k + 1)) ∧ eqx [] f f' ∧ eqx [] g g' ∧ j' = j)) := by
  refine CM.intro [some (.ref (E.1 287)), some (vI k), none] (by decide) (Nat.le_of_ble_eq_true rfl) rfl (fun d hd h0 h hH hA => ?_)
  have hfE : eqx [] f f := eqx.rf
  have hgE : eqx [] g g := eqx.rf
  refine z_ild_1 (TX3_endOfDigits.at 0 rfl) ?_
  refine z_ist_2 (TX3_endOfDigits.at 1 rfl) (Nat.le_of_ble_eq_true rfl) rfl ?_
  refine lp_c_endD (k := k) (by omega) z4 hU (fun e f9 g9 h9 er xf xg hH hA => ?_) 401 400 k _ _ _ (by omega) (by omega) (by omega) rfl (by omega) eg257 ef256 eqx.rf eqx.rf hH hA
  have hrr := runE_in (p := dgB) (U := U) (z := z) 400 k (by omega)
  refine z_ild_2 (TX3_endOfDigits.at 14 rfl) ?_
  refine zc_iret (TX3_endOfDigits.at 15 rfl) rfl hH hA (by omega) ?_
  exact ⟨er.trans (run_k (by omega) kz hp (by omega)), xf, xg, rfl⟩

set_option maxHeartbeats 4000000 in
set_option maxRecDepth 100000 in
theorem lp_num {l : Launch} {E : cE} {d : Nat} {Pz : Option Value → zH → Prop} {h0 : zH} {f0 : mF} {g0 j : mA} (hd : 1 ≤ d) {U : Int → Int} {z k b : Int} (k0 : 0 ≤ k) (b4 : b ≤ 400) (hU : ∀ i : Int, k ≤ i → i < b → 48 ≤ U i ∧ U i ≤ 57) (kx : ∀ (n9 : Int) (f : mF) (g : mA) (h : zH), ((n9 = numN U k (b - k).toNat ∧ numN U k (b - k).toNat ≤ 1000) ∨ (n9 = 1001 ∧ 1000 < numN U k (b - k).toNat)) → eqx [] f0 f → eqx [] g0 g → HC E f g j h → cAg E h0 h → Z l MX3_numberAt d 0 0 Pz 39 [some (.ref (E.1 287)), some (vI k), some (vI b), some (vI n9), some (vI b)] [] h 0 0) : ∀ (n : Nat) (i : Int) (n9 : Int) (f : mF) (g : mA) (h : zH) (i0 : k ≤ i) (i1 : i ≤ b) (i2 : b < i + n) (hn : (n9 = numN U k (i - k).toNat ∧ numN U k (i - k).toNat ≤ 1000) ∨ (n9 = 1001 ∧ 1000 < numN U k (i - k).toNat)) (eg257 : g 257 = U) (ef256 : f 256 = z) (hfE : eqx [] f0 f) (hgE : eqx [] g0 g) (hH : HC E f g j h) (hA : cAg E h0 h), Z l MX3_numberAt d 0 0 Pz 5 [some (.ref (E.1 287)), some (vI k), some (vI b), some (vI n9), some (vI i)] [] h 0 0 := by
  intro n
  induction n with
  | zero => intro i n9 f g h i0 i1 i2 hn eg257 ef256 hfE hgE hH hA; exfalso; omega
  | succ n ih =>
    intro i n9 f g h i0 i1 i2 hn eg257 ef256 hfE hgE hH hA
    refine z_ild_4 (TX3_numberAt.at 4 rfl) ?_
    refine z_ild_2 (TX3_numberAt.at 5 rfl) ?_
    refine z_icmp_ge (tgt := 39) (TX3_numberAt.at 6 rfl) rfl (by omega) (by omega) (fun c1 => ?_) (fun c1 => ?_)
    · skip
      obtain rfl : i = b := by omega
      exact kx _ _ _ _ hn hfE hgE hH hA
    · skip
      refine z_sipush (by decide) (TX3_numberAt.at 7 rfl) ?_
      refine z_ild_3 (TX3_numberAt.at 8 rfl) ?_
      refine z_bipush (by decide) (TX3_numberAt.at 9 rfl) ?_
      refine z_imul (TX3_numberAt.at 10 rfl) ?_
      refine z_ald_0 (TX3_numberAt.at 11 rfl) ?_
      refine zc_getA (m := 8) (s := 1) (k := 257) (hH.lv (by decide)) (TX3_numberAt.at 12 rfl) fl3_69 hH rfl rfl (by decide) (by decide) ?_
      refine z_ild_4 (TX3_numberAt.at 13 rfl) ?_
      refine zcf_iald (k := 257) (N := 400) (hH.lv (by decide)) (by decide) rfl eg257 (TX3_numberAt.at 14 rfl) hH (by decide) (by omega) (show _ < ((400 : Nat) : Int) by omega) (fun r24 => ?_)
      have hu := hU i i0 (by omega)
      have hni := numN_in (U := U) (k := k) (i - k).toNat (fun j j0 j1 => hU j j0 (by omega))
      refine z_iadd (TX3_numberAt.at 15 rfl) ?_
      refine z_bipush (by decide) (TX3_numberAt.at 16 rfl) ?_
      refine z_isub (TX3_numberAt.at 17 rfl) ?_
      refine z_min (TX3_numberAt.at 18 rfl) cm3_97 (by omega) (by omega) (by omega) (Nat.le_of_ble_eq_true rfl) ?_
      refine z_ist_3 (TX3_numberAt.at 19 rfl) (Nat.le_of_ble_eq_true rfl) rfl ?_
      refine z_iinc_4 (TX3_numberAt.at 20 rfl) (Nat.le_of_ble_eq_true rfl) rfl ?_
      refine z_goto (tgt := 5) (TX3_numberAt.at 21 rfl) rfl ?_
      exact ih (i + 1) _ _ _ _ (by omega) (by omega) (by omega) (by rw [numN_s i0]; split <;> omega) eg257 ef256 hfE hgE hH hA

set_option maxHeartbeats 4000000 in
set_option maxRecDepth 100000 in
theorem c_num {l : Launch} {E : cE} {f : mF} {g j : mA} {U : Int → Int} {z k b : Int} (eg257 : g 257 = U) (ef256 : f 256 = z) (k0 : 0 ≤ k) (kb : k ≤ b) (b4 : b ≤ 400) (hU : ∀ i : Int, k ≤ i → i < b → 48 ≤ U i ∧ U i ≤ 57) : CM l E MX3_numberAt 1 [.ref (E.1 287), vI k, vI b] f g j (PI (fun r f' g' j' => ((r = numN U k (b - k).toNat ∧ numN U k (b - k).toNat ≤ 1000) ∨ (r = 1001 ∧ 1000 < numN U k (b - k).toNat)) ∧ eqx [] f f' ∧ eqx [] g g' ∧ j' = j)) := by
  refine CM.intro [some (.ref (E.1 287)), some (vI k), some (vI b), none, none] (by decide) (Nat.le_of_ble_eq_true rfl) rfl (fun d hd h0 h hH hA => ?_)
  have hfE : eqx [] f f := eqx.rf
  have hgE : eqx [] g g := eqx.rf
  refine z_iconst (TX3_numberAt.at 0 rfl) ?_
  refine z_ist_3 (TX3_numberAt.at 1 rfl) (Nat.le_of_ble_eq_true rfl) rfl ?_
  refine z_ild_1 (TX3_numberAt.at 2 rfl) ?_
  refine z_ist_4 (TX3_numberAt.at 3 rfl) (Nat.le_of_ble_eq_true rfl) rfl ?_
  have hni := numN_in (U := U) (k := k) (b - k).toNat (fun j j0 j1 => hU j j0 (by omega))
  refine lp_num (by omega) k0 b4 hU (fun n9 f9 g9 h9 hn xf xg hH hA => ?_) 402 k 0 _ _ _ (by omega) (by omega) (by omega) (Or.inl ⟨by rw [Int.sub_self]; rfl, by rw [Int.sub_self]; exact (show (0 : Int) ≤ 1000 by decide)⟩) eg257 ef256 eqx.rf eqx.rf hH hA
  refine z_ild_3 (TX3_numberAt.at 22 rfl) ?_
  refine zc_iret (TX3_numberAt.at 23 rfl) rfl hH hA (by omega) ?_
  exact ⟨hn, xf, xg, rfl⟩

def TkT (Kd Vl Pl : Int → Int) (U : Int → Int) (z n : Int) (P : Int → Int) : Prop := ∀ i : Int, 0 ≤ i → i < n → Pl i = P i ∧ 0 ≤ P i ∧ ((Kd i = 1 ∧ codeT U z (P i) = 50 ∧ 0 ≤ valT U z (P i) ∧ ((Vl i = valT U z (P i) ∧ valT U z (P i) ≤ 1000) ∨ (Vl i = 1001 ∧ 1000 < valT U z (P i)))) ∨ (Kd i = 3 ∧ codeT U z (P i) = 100 + Vl i ∧ 0 ≤ Vl i ∧ Vl i ≤ 255) ∨ (Kd i = 2 ∧ WdA (codeT U z (P i)) (Vl i)))
theorem TkT.s {Kd Vl Pl U P : Int → Int} {z n a b k : Int} (h : TkT Kd Vl Pl U z n P) (k0 : 0 ≤ k) (hn : (a = 1 ∧ codeT U z k = 50 ∧ 0 ≤ valT U z k ∧ ((b = valT U z k ∧ valT U z k ≤ 1000) ∨ (b = 1001 ∧ 1000 < valT U z k))) ∨ (a = 3 ∧ codeT U z k = 100 + b ∧ 0 ≤ b ∧ b ≤ 255) ∨ (a = 2 ∧ WdA (codeT U z k) b)) : TkT (iu Kd n a) (iu Vl n b) (iu Pl n k) U z (n + 1) (iu P n k) := by
  intro i i0 i1
  by_cases e : i = n
  · subst e
    rw [iu_self, iu_self, iu_self, iu_self]
    exact ⟨rfl, k0, hn⟩
  · rw [iu_ne e, iu_ne e, iu_ne e, iu_ne e]
    exact h i i0 (by omega)
theorem TkT.fin {Kd Vl Pl U : Int → Int} {z : Int} (z0 : 0 ≤ z) (z4 : z ≤ 400) (h : TkT Kd Vl Pl U z (tN U z) (tP U z)) : TkH (iu Kd (tN U z) 0) (iu Vl (tN U z) 0) (iu Pl (tN U z) z) (tN U z + 1) (cT U z) (vT U z) ∧ ∀ i : Int, 0 ≤ i → i ≤ tN U z → iu Pl (tN U z) z i = pT U z i ∧ (iu Kd (tN U z) 0 i = 0 ↔ i = tN U z) := by
  have hn := tN_in (U := U) z0
  refine ⟨⟨⟨by omega, by omega⟩, fun i i0 i1 => ?_, fun i hi => by unfold cT; rw [if_neg (by omega)]⟩, fun i i0 i1 => ?_⟩
  · by_cases e : i = tN U z
    · unfold TkA
      rw [e, iu_self, iu_self, iu_self]
      exact ⟨Or.inl ⟨rfl, by unfold cT; rw [if_neg (by omega)]⟩, z0⟩
    · have q := h i i0 (by omega)
      unfold TkA
      rw [iu_ne e, iu_ne e, iu_ne e]
      unfold cT vT
      rw [if_pos (by omega), if_pos (by omega), q.1]
      refine ⟨?_, q.2.1⟩
      rcases q.2.2 with y | y | y
      · exact Or.inr (Or.inl y)
      · exact Or.inr (Or.inr (Or.inl y))
      · exact Or.inr (Or.inr (Or.inr y))
  · unfold pT
    by_cases e : i = tN U z
    · rw [e, iu_self, iu_self, if_neg (by omega)]; exact ⟨rfl, fun _ => rfl, fun _ => rfl⟩
    · have q := h i i0 (by omega)
      rw [iu_ne e, iu_ne e, if_pos (by omega)]
      exact ⟨q.1, fun z => absurd z (by have := q.2.2; omega), fun z => absurd z e⟩
set_option maxHeartbeats 4000000 in
set_option maxRecDepth 100000 in
theorem lp_split {l : Launch} {E : cE} {d : Nat} {Pz : Option Value → zH → Prop} {h0 : zH} {f0 : mF} {g0 : mA} {j : mA} (hd : 6 ≤ d) {U : Int → Int} {z : Int} (z0 : 0 ≤ z) (z4 : z ≤ 400) (hU : ∀ i : Int, 0 ≤ i → i < 400 → 0 ≤ U i ∧ U i ≤ 255) (kx : ∀ (i k : Int) (Kd Vl Pl : Int → Int) (o4 o5 : Option Value) (f : mF) (g : mA) (h : zH), TkT Kd Vl Pl U z (tN U z) (tP U z) → g 290 = Kd → g 291 = Vl → g 292 = Pl → g 257 = U → f 256 = z → f 293 = tN U z → eqx [293] f0 f → eqx [290, 291, 292] g0 g → HC E f g j h → cAg E h0 h → Z l MX3_split d 0 0 Pz 123 [some (.ref (E.1 319)), some (.ref (E.1 287)), some (vI k), some (vI i), o4, o5] [] h 0 0)  : ∀ (n : Nat) (iN : Nat) (i : Int) (k : Int) (nn : Int) (P : Int → Int) (Kd : Int → Int) (Vl : Int → Int) (Pl : Int → Int) (o4 : Option Value) (o5 : Option Value) (f : mF) (g : mA) (h : zH) (ci : i = (iN : Int)) (i1 : i ≤ 400) (i2 : 400 < i + n) (kk : 0 ≤ k ∧ k ≤ z) (nk : 0 ≤ nn ∧ nn ≤ k) (es : (k, nn, P) = tkN U z iN) (hT : TkT Kd Vl Pl U z nn P) (eg290 : g 290 = Kd) (eg291 : g 291 = Vl) (eg292 : g 292 = Pl) (eg257 : g 257 = U) (ef256 : f 256 = z) (ef293 : f 293 = nn) (hfE : eqx [293] f0 f) (hgE : eqx [290, 291, 292] g0 g) (hH : HC E f g j h) (hA : cAg E h0 h), Z l MX3_split d 0 0 Pz 9 [some (.ref (E.1 319)), some (.ref (E.1 287)), some (vI k), some (vI i), o4, o5] [] h 0 0 := by
  intro n
  induction n with
  | zero => intro iN i k nn P Kd Vl Pl o4 o5 f g h ci i1 i2 kk nk es hT eg290 eg291 eg292 eg257 ef256 ef293 hfE hgE hH hA; exfalso; omega
  | succ n ih =>
    intro iN i k nn P Kd Vl Pl o4 o5 f g h ci i1 i2 kk nk es hT eg290 eg291 eg292 eg257 ef256 ef293 hfE hgE hH hA
    refine z_ild_3 (TX3_split_0.at 7 rfl) ?_
    refine z_sipush (by decide) (TX3_split_0.at 8 rfl) ?_
    refine z_icmp_ge (tgt := 123) (TX3_split_0.at 9 rfl) rfl (by omega) (by omega) (fun c1 => ?_) (fun c1 => ?_)
    · skip
      have hfin : tkN U z 400 = (k, nn, P) := by rw [show 400 = iN by omega]; exact es.symm
      exact kx _ _ Kd Vl Pl _ _ _ _ _ (by unfold tN tP; rw [hfin]; exact hT) eg290 eg291 eg292 eg257 ef256 (by unfold tN; rw [hfin]; exact ef293) hfE hgE hH hA
    · skip
      refine z_ild_2 (TX3_split_0.at 10 rfl) ?_
      refine z_ald_1 (TX3_split_0.at 11 rfl) ?_
      refine zc_getIE (m := 8) (s := 0) (k := 256) (hH.lv (by decide)) ef256 (TX3_split_0.at 12 rfl) fl3_64 hH rfl rfl (by decide) (by decide) (fun r18 => ?_)
      refine z_icmp_ge (tgt := 123) (TX3_split_0.at 13 rfl) rfl (by omega) (by omega) (fun c2 => ?_) (fun c2 => ?_)
      · skip
        have hfin : tkN U z 400 = (k, nn, P) := by have q := tkN_e es (by omega) (400 - iN); rw [show iN + (400 - iN) = 400 by omega] at q; exact q
        exact kx _ _ Kd Vl Pl _ _ _ _ _ (by unfold tN tP; rw [hfin]; exact hT) eg290 eg291 eg292 eg257 ef256 (by unfold tN; rw [hfin]; exact ef293) hfE hgE hH hA
      · skip
        refine z_ild_2 (TX3_split_0.at 14 rfl) ?_
        refine z_iconst (TX3_split_0.at 15 rfl) ?_
        refine z_iadd (TX3_split_0.at 16 rfl) ?_
        refine z_ist_4 (TX3_split_0.at 17 rfl) (Nat.le_of_ble_eq_true rfl) rfl ?_
        refine z_ald_1 (TX3_split_0.at 18 rfl) ?_
        refine zc_getA (m := 8) (s := 1) (k := 257) (hH.lv (by decide)) (TX3_split_0.at 19 rfl) fl3_69 hH rfl rfl (by decide) (by decide) ?_
        refine z_ild_2 (TX3_split_0.at 20 rfl) ?_
        refine zcf_iald (k := 257) (N := 400) (hH.lv (by decide)) (by decide) rfl eg257 (TX3_split_0.at 21 rfl) hH (by decide) (by omega) (show _ < ((400 : Nat) : Int) by omega) (fun r34 => ?_)
        refine z_ist_5 (TX3_split_0.at 22 rfl) (Nat.le_of_ble_eq_true rfl) rfl ?_
        have hu := hU k (by omega) (by omega)
        refine z_ild_5 (TX3_split_0.at 23 rfl) ?_
        refine zs_call1 (c_isLet (by omega)) (TX3_split_0.at 24 rfl) c3_72 rfl (by omega) (Nat.le_of_ble_eq_true rfl) (fun r39 => ?_)
        refine z_if_eqB (tgt := 68) (TX3_split_0.at 25 rfl) rfl (fun c3 => ?_) (fun c3 => ?_)
        · skip
          have hnl : ¬ smB (U k) = true := fun q => absurd (of_decide_eq_true q) (by assumption)
          refine z_ild_5 (TX3_split_0.at 39 rfl) ?_
          refine zs_call1 (c_isDig (by omega)) (TX3_split_1.at 0 rfl) c3_88 rfl (by omega) (Nat.le_of_ble_eq_true rfl) (fun r70 => ?_)
          refine z_if_eqB (tgt := 99) (TX3_split_1.at 1 rfl) rfl (fun c4 => ?_) (fun c4 => ?_)
          · skip
            have hnd : ¬ dgB (U k) = true := fun q => absurd (of_decide_eq_true q) (by assumption)
            refine z_ild_5 (TX3_split_1.at 15 rfl) ?_
            refine z_bipush (by decide) (TX3_split_1.at 16 rfl) ?_
            refine z_icmp_eq (tgt := 114) (TX3_split_1.at 17 rfl) rfl (by omega) (by omega) (fun c5 => ?_) (fun c5 => ?_)
            · skip
              refine z_ild_4 (TX3_split_1.at 23 rfl) ?_
              refine z_ist_2 (TX3_split_1.at 24 rfl) (Nat.le_of_ble_eq_true rfl) rfl ?_
              refine z_iinc_3 (TX3_split_1.at 25 rfl) (Nat.le_of_ble_eq_true rfl) rfl ?_
              refine z_goto (tgt := 9) (TX3_split_1.at 26 rfl) rfl ?_
              exact ih (iN + 1) _ _ _ _ _ _ _ _ _ _ _ _ (by omega) (by omega) (by omega) (by omega) (by omega) (tkN_b es (by omega) (by omega)) (hT) eg290 eg291 eg292 eg257 ef256 ef293 hfE hgE hH hA
            · skip
              refine z_ald_0 (TX3_split_1.at 18 rfl) ?_
              refine z_iconst (TX3_split_1.at 19 rfl) ?_
              refine z_ild_5 (TX3_split_1.at 20 rfl) ?_
              refine z_ild_2 (TX3_split_1.at 21 rfl) ?_
              refine zc_callV3 (m := 9) (c_addTok eg290 eg291 eg292 ef293 (by omega) (by omega) (by omega) (by omega) (by omega) ) (hH.lv (by decide)) (TX3_split_1.at 22 rfl) c3_84 rfl rfl hH hA (by omega) (Nat.le_of_ble_eq_true rfl) (fun f111 g111 j111 h q111 hH hA => ?_)
              obtain ⟨q111, xf, xg, xj⟩ := q111
              rw [xj] at hH
              have ef256 := (xf 256 (by decide)).trans ef256
              have hfE := hfE.trans xf (by decide)
              have eg257 := (xg 257 (by decide)).trans eg257
              have hgE := hgE.trans xg (by decide)
              have qL := q111
              obtain ⟨ef293, eg290, eg291, eg292⟩ := qL
              refine z_ild_4 (TX3_split_1.at 23 rfl) ?_
              refine z_ist_2 (TX3_split_1.at 24 rfl) (Nat.le_of_ble_eq_true rfl) rfl ?_
              refine z_iinc_3 (TX3_split_1.at 25 rfl) (Nat.le_of_ble_eq_true rfl) rfl ?_
              refine z_goto (tgt := 9) (TX3_split_1.at 26 rfl) rfl ?_
              exact ih (iN + 1) _ _ _ _ _ _ _ _ _ _ _ _ (by omega) (by omega) (by omega) (by omega) (by omega) (tkN_t es (by omega) (by omega) (by unfold endT; rw [if_neg hnl, if_neg hnd])) (hT.s (by omega) (Or.inr (Or.inl ⟨rfl, by unfold codeT; rw [if_neg hnl, if_neg hnd], by omega, by omega⟩))) eg290 eg291 eg292 eg257 ef256 ef293 hfE hgE hH hA
          · skip
            have hdg : dgB (U k) = true := decide_eq_true (by assumption)
            refine z_ald_1 (TX3_split_1.at 2 rfl) ?_
            refine z_ild_2 (TX3_split_1.at 3 rfl) ?_
            refine zc_scallI (As := [_, _]) (c_endD eg257 ef256 (by omega) (by omega) z4 hU hdg) (TX3_split_1.at 4 rfl) c3_91 rfl hH hA (by omega) (Nat.le_of_ble_eq_true rfl) (fun x78 f78 g78 j78 h r78 q78 hH hA => ?_)
            obtain ⟨q78, xf, xg, xj⟩ := q78
            rw [xj] at hH
            have ef256 := (xf 256 (by decide)).trans ef256
            have ef293 := (xf 293 (by decide)).trans ef293
            have hfE := hfE.trans xf (by decide)
            have eg290 := (xg 290 (by decide)).trans eg290
            have eg291 := (xg 291 (by decide)).trans eg291
            have eg292 := (xg 292 (by decide)).trans eg292
            have eg257 := (xg 257 (by decide)).trans eg257
            have hgE := hgE.trans xg (by decide)
            have qL := q78
            have het : endT U z k = x78 := by unfold endT; rw [if_neg hnl, if_pos hdg]; exact qL.symm
            have hei := endT_in (U := U) (z := z) (k := k) (by omega)
            rw [het] at hei
            refine z_ist_4 (TX3_split_1.at 5 rfl) (Nat.le_of_ble_eq_true rfl) rfl ?_
            refine z_ald_0 (TX3_split_1.at 6 rfl) ?_
            refine z_iconst (TX3_split_1.at 7 rfl) ?_
            refine z_ald_1 (TX3_split_1.at 8 rfl) ?_
            refine z_ild_2 (TX3_split_1.at 9 rfl) ?_
            refine z_ild_4 (TX3_split_1.at 10 rfl) ?_
            refine zc_scallI (As := [_, _, _]) (c_num eg257 ef256 (by omega) (by omega) (by omega) (fun i i0 i1 => dig_all (z := z) (by omega) hdg i0 (by rw [het]; exact i1))) (TX3_split_1.at 11 rfl) c3_94 rfl hH hA (by omega) (Nat.le_of_ble_eq_true rfl) (fun x89 f89 g89 j89 h r89 q89 hH hA => ?_)
            obtain ⟨q89, xf, xg, xj⟩ := q89
            rw [xj] at hH
            have ef256 := (xf 256 (by decide)).trans ef256
            have ef293 := (xf 293 (by decide)).trans ef293
            have hfE := hfE.trans xf (by decide)
            have eg290 := (xg 290 (by decide)).trans eg290
            have eg291 := (xg 291 (by decide)).trans eg291
            have eg292 := (xg 292 (by decide)).trans eg292
            have eg257 := (xg 257 (by decide)).trans eg257
            have hgE := hgE.trans xg (by decide)
            have qL := q89
            have hnm := qL
            have hni := numN_in (U := U) (k := k) (x78 - k).toNat (fun j j0 j1 => dig_all (z := z) (by omega) hdg j0 (by rw [het]; omega))
            refine z_ild_2 (TX3_split_1.at 12 rfl) ?_
            refine zc_callV3 (m := 9) (c_addTok eg290 eg291 eg292 ef293 (by omega) (by omega) (by omega) (by omega) (by omega) ) (hH.lv (by decide)) (TX3_split_1.at 13 rfl) c3_84 rfl rfl hH hA (by omega) (Nat.le_of_ble_eq_true rfl) (fun f93 g93 j93 h q93 hH hA => ?_)
            obtain ⟨q93, xf, xg, xj⟩ := q93
            rw [xj] at hH
            have ef256 := (xf 256 (by decide)).trans ef256
            have hfE := hfE.trans xf (by decide)
            have eg257 := (xg 257 (by decide)).trans eg257
            have hgE := hgE.trans xg (by decide)
            have qL := q93
            obtain ⟨ef293, eg290, eg291, eg292⟩ := qL
            refine z_goto (tgt := 114) (TX3_split_1.at 14 rfl) rfl ?_
            refine z_ild_4 (TX3_split_1.at 23 rfl) ?_
            refine z_ist_2 (TX3_split_1.at 24 rfl) (Nat.le_of_ble_eq_true rfl) rfl ?_
            refine z_iinc_3 (TX3_split_1.at 25 rfl) (Nat.le_of_ble_eq_true rfl) rfl ?_
            refine z_goto (tgt := 9) (TX3_split_1.at 26 rfl) rfl ?_
            exact ih (iN + 1) _ _ _ _ _ _ _ _ _ _ _ _ (by omega) (by omega) (by omega) (by omega) (by omega) (tkN_t es (by omega) (by have := of_decide_eq_true hdg; omega) het.symm) (hT.s (by omega) (Or.inl ⟨rfl, by unfold codeT; rw [if_neg hnl, if_pos hdg], by unfold valT; rw [if_pos hdg, het]; omega, by unfold valT; rw [if_pos hdg, het]; exact hnm⟩)) eg290 eg291 eg292 eg257 ef256 ef293 hfE hgE hH hA
        · skip
          have hsm : smB (U k) = true := decide_eq_true (by assumption)
          refine z_ald_1 (TX3_split_0.at 26 rfl) ?_
          refine z_ild_2 (TX3_split_0.at 27 rfl) ?_
          refine zc_scallI (As := [_, _]) (c_endL eg257 ef256 (by omega) (by omega) z4 hU hsm) (TX3_split_0.at 28 rfl) c3_76 rfl hH hA (by omega) (Nat.le_of_ble_eq_true rfl) (fun x47 f47 g47 j47 h r47 q47 hH hA => ?_)
          obtain ⟨q47, xf, xg, xj⟩ := q47
          rw [xj] at hH
          have ef256 := (xf 256 (by decide)).trans ef256
          have ef293 := (xf 293 (by decide)).trans ef293
          have hfE := hfE.trans xf (by decide)
          have eg290 := (xg 290 (by decide)).trans eg290
          have eg291 := (xg 291 (by decide)).trans eg291
          have eg292 := (xg 292 (by decide)).trans eg292
          have eg257 := (xg 257 (by decide)).trans eg257
          have hgE := hgE.trans xg (by decide)
          have qL := q47
          have het : endT U z k = x47 := by unfold endT; rw [if_pos hsm]; exact qL.symm
          have hei := endT_in (U := U) (z := z) (k := k) (by omega)
          rw [het] at hei
          refine z_ist_4 (TX3_split_0.at 29 rfl) (Nat.le_of_ble_eq_true rfl) rfl ?_
          refine z_ald_0 (TX3_split_0.at 30 rfl) ?_
          refine z_iconst (TX3_split_0.at 31 rfl) ?_
          refine z_ald_1 (TX3_split_0.at 32 rfl) ?_
          refine z_ild_2 (TX3_split_0.at 33 rfl) ?_
          refine z_ild_4 (TX3_split_0.at 34 rfl) ?_
          refine zc_scallI (As := [_, _, _]) (c_wordAt eg257 (by omega) (by omega) (by omega)) (TX3_split_0.at 35 rfl) c3_80 rfl hH hA (by omega) (Nat.le_of_ble_eq_true rfl) (fun x58 f58 g58 j58 h r58 q58 hH hA => ?_)
          obtain ⟨q58, xf, xg, xj⟩ := q58
          rw [xj] at hH
          have ef256 := (xf 256 (by decide)).trans ef256
          have ef293 := (xf 293 (by decide)).trans ef293
          have hfE := hfE.trans xf (by decide)
          have eg290 := (xg 290 (by decide)).trans eg290
          have eg291 := (xg 291 (by decide)).trans eg291
          have eg292 := (xg 292 (by decide)).trans eg292
          have eg257 := (xg 257 (by decide)).trans eg257
          have hgE := hgE.trans xg (by decide)
          have qL := q58
          have hwd := qL.2
          have hwr := qL.1
          refine z_ild_2 (TX3_split_0.at 36 rfl) ?_
          refine zc_callV3 (m := 9) (c_addTok eg290 eg291 eg292 ef293 (by omega) (by omega) (by omega) (by omega) (by omega) ) (hH.lv (by decide)) (TX3_split_0.at 37 rfl) c3_84 rfl rfl hH hA (by omega) (Nat.le_of_ble_eq_true rfl) (fun f62 g62 j62 h q62 hH hA => ?_)
          obtain ⟨q62, xf, xg, xj⟩ := q62
          rw [xj] at hH
          have ef256 := (xf 256 (by decide)).trans ef256
          have hfE := hfE.trans xf (by decide)
          have eg257 := (xg 257 (by decide)).trans eg257
          have hgE := hgE.trans xg (by decide)
          have qL := q62
          obtain ⟨ef293, eg290, eg291, eg292⟩ := qL
          refine z_goto (tgt := 114) (TX3_split_0.at 38 rfl) rfl ?_
          refine z_ild_4 (TX3_split_1.at 23 rfl) ?_
          refine z_ist_2 (TX3_split_1.at 24 rfl) (Nat.le_of_ble_eq_true rfl) rfl ?_
          refine z_iinc_3 (TX3_split_1.at 25 rfl) (Nat.le_of_ble_eq_true rfl) rfl ?_
          refine z_goto (tgt := 9) (TX3_split_1.at 26 rfl) rfl ?_
          exact ih (iN + 1) _ _ _ _ _ _ _ _ _ _ _ _ (by omega) (by omega) (by omega) (by omega) (by omega) (tkN_t es (by omega) (by have := of_decide_eq_true hsm; omega) het.symm) (hT.s (by omega) (Or.inr (Or.inr ⟨rfl, by unfold codeT; rw [if_pos hsm, het]; exact hwd⟩))) eg290 eg291 eg292 eg257 ef256 ef293 hfE hgE hH hA

set_option maxHeartbeats 4000000 in
set_option maxRecDepth 100000 in
theorem c_split {l : Launch} {E : cE} {f : mF} {g j : mA} {U : Int → Int} {z : Int}  (eg257 : g 257 = U) (ef256 : f 256 = z) (z0 : 0 ≤ z) (z4 : z ≤ 400) (hU : ∀ i : Int, 0 ≤ i → i < 400 → 0 ≤ U i ∧ U i ≤ 255) : CM l E MX3_split 6 [.ref (E.1 319), .ref (E.1 287)] f g j (PV (fun f' g' j' => (f' 293 = tN U z + 1 ∧ TkH (g' 290) (g' 291) (g' 292) (tN U z + 1) (cT U z) (vT U z) ∧ ∀ i : Int, 0 ≤ i → i ≤ tN U z → g' 292 i = pT U z i ∧ (g' 290 i = 0 ↔ i = tN U z)) ∧ eqx [293] f f' ∧ eqx [290, 291, 292] g g' ∧ j' = j)) := by
  refine CM.intro [some (.ref (E.1 319)), some (.ref (E.1 287)), none, none, none, none] (by decide) (Nat.le_of_ble_eq_true rfl) rfl (fun d hd h0 h hH hA => ?_)
  have hfE : eqx [293] f f := eqx.rf
  have hgE : eqx [290, 291, 292] g g := eqx.rf
  refine z_ald_0 (TX3_split_0.at 0 rfl) ?_
  refine z_iconst (TX3_split_0.at 1 rfl) ?_
  refine zc_putI (m := 9) (s := 5) (k := 293) (hH.lv (by decide)) (TX3_split_0.at 2 rfl) fp3_34 hH hA rfl rfl (by decide) (by decide) (by first | omega | exact b2i_01 _) (fun h f2 e1 e2 hH hA => ?_)
  have ef256 := (e1 256 (by decide)).trans ef256
  have hfE := hfE.put e1 (by decide)
  refine z_iconst (TX3_split_0.at 3 rfl) ?_
  refine z_ist_2 (TX3_split_0.at 4 rfl) (Nat.le_of_ble_eq_true rfl) rfl ?_
  refine z_iconst (TX3_split_0.at 5 rfl) ?_
  refine z_ist_3 (TX3_split_0.at 6 rfl) (Nat.le_of_ble_eq_true rfl) rfl ?_
  have hn := tN_in (U := U) z0
  refine lp_split (by omega) z0 z4 hU (fun i9 k9 Kd Vl Pl o4 o5 f9 g9 h9 hT eg290 eg291 eg292 eg257 ef256 ef293 xf xg hH hA => ?_) 401 0 0 0 0 (fun _ => 0) _ _ _ none none _ _ _ rfl (by omega) (by omega) (by omega) (by omega) rfl (fun i i0 i1 => by omega) rfl rfl rfl eg257 ef256 e2 eqx.rf eqx.rf hH hA
  have hfE := hfE.trans xf (by decide)
  have hgE := hgE.trans xg (by decide)
  refine z_ald_0 (TX3_split_1.at 27 rfl) ?_
  refine z_iconst (TX3_split_1.at 28 rfl) ?_
  refine z_iconst (TX3_split_1.at 29 rfl) ?_
  refine z_ald_1 (TX3_split_1.at 30 rfl) ?_
  refine zc_getIE (m := 8) (s := 0) (k := 256) (hH.lv (by decide)) ef256 (TX3_split_1.at 31 rfl) fl3_64 hH rfl rfl (by decide) (by decide) (fun r127 => ?_)
  refine zc_callV3 (m := 9) (c_addTok eg290 eg291 eg292 ef293 (by omega) (by omega) (by omega) (by omega) (by omega)) (hH.lv (by decide)) (TX3_split_1.at 32 rfl) c3_84 rfl rfl hH hA (by omega) (Nat.le_of_ble_eq_true rfl) (fun f130 g130 j130 h q130 hH hA => ?_)
  obtain ⟨⟨a1, a2, a3, a4⟩, xf, xg, xj⟩ := q130
  rw [xj] at hH
  refine zc_vret (TX3_split_1.at 33 rfl) rfl hH hA ?_
  have hk := hT.fin z0 z4
  exact ⟨⟨a1, by rw [a2, a3, a4]; exact hk.1, by rw [a2, a4]; exact hk.2⟩, hfE.trans xf (by decide), hgE.trans xg (by decide), rfl⟩

