/-! ===== the class: rows of references; frames ===== -/
section ZA
variable {l : Launch} {M M' : zM} {d mc ms kc ks : Nat} {P : Option Value → zH → Prop} {pc pc' : Nat} {L : List (Option Value)} {S : List Value} {h : zH}
theorem z_aast {a n t v ci : Nat} {i : Int} {r : vw_C} {fs : List Value} {f : Nat → Option Nat} (hd : zAt M 1 pc pc' .aastore) (ha : h a = some (.inl (t, n, .inr (.inr (.inr (.inr f)))))) (hv : h v = some (.inr (ci, fs))) (hc : vwCl[ci]? = some r) (ht : t < 6) (hC0 : zTy t = .object r.1) (h0 : 0 ≤ i) (h1 : i < n) (hn : n < 2147483648) (K : Z l M d mc ms P pc' L S (zup h a (.inl (t, n, .inr (.inr (.inr (.inr (va_up f i.toNat (some v)))))))) kc ks) : Z l M d mc ms P pc L (.ref v :: vI i :: .ref a :: S) h kc ks := by
  obtain ⟨hd, rfl⟩ := hd
  intro G p e s m args below meth c A H locs cells slots ls hCx hcc hss hl hR
  obtain ⟨hx, hb, hr, hml, hown, hX, hlk, hK, hA, hnm⟩ := id hCx
  obtain ⟨ws, hP, hD, hS, hC⟩ := id hR
  obtain ⟨q, hq⟩ := hC a _ ha
  obtain ⟨qv, hqv⟩ := hC v _ hv
  have htt : (zTys G)[t]? = some (zA G t, .object r.1) := by
    rw [← hC0]
    rcases (show t = 0 ∨ t = 1 ∨ t = 2 ∨ t = 3 ∨ t = 4 ∨ t = 5 by omega) with rfl | rfl | rfl | rfl | rfl | rfl <;> rfl
  refine va_astq hx hb hK hP hD hS q t qv ci hq htt hqv hc (zI_in h0 h1 hn) hd (fun H1 locs1 hP1 hD1 hS1 => ?_)
  rw [zI_clamp (by omega)] at hP1 hD1
  exact K G p e s m args below meth c A H1 locs1 cells slots ls hCx hcc hss hl ⟨_, hP1, hD1, hS1, hC.set (e0 := .inl (t, n, .inr (.inr (.inr (.inr f))))) (e := .inl (t, n, .inr (.inr (.inr (.inr (va_up f i.toNat (some v))))))) hD hq⟩
theorem z_aastN {a n t : Nat} {i : Int} {C : String} {f : Nat → Option Nat} (hd : zAt M 1 pc pc' .aastore) (ha : h a = some (.inl (t, n, .inr (.inr (.inr (.inr f)))))) (ht : t < 6) (hC0 : zTy t = .object C) (h0 : 0 ≤ i) (h1 : i < n) (hn : n < 2147483648) (K : Z l M d mc ms P pc' L S (zup h a (.inl (t, n, .inr (.inr (.inr (.inr (va_up f i.toNat none))))))) kc ks) : Z l M d mc ms P pc L (.null :: vI i :: .ref a :: S) h kc ks := by
  obtain ⟨hd, rfl⟩ := hd
  intro G p e s m args below meth c A H locs cells slots ls hCx hcc hss hl hR
  obtain ⟨hx, hb, hr, hml, hown, hX, hlk, hK, hA, hnm⟩ := id hCx
  obtain ⟨ws, hP, hD, hS, hC⟩ := id hR
  obtain ⟨q, hq⟩ := hC a _ ha
  have htt : (zTys G)[t]? = some (zA G t, .object C) := by
    rw [← hC0]
    rcases (show t = 0 ∨ t = 1 ∨ t = 2 ∨ t = 3 ∨ t = 4 ∨ t = 5 by omega) with rfl | rfl | rfl | rfl | rfl | rfl <;> rfl
  refine va_astqN hx hb hK hP hD hS q t hq htt (zI_in h0 h1 hn) hd (fun H1 locs1 hP1 hD1 hS1 => ?_)
  rw [zI_clamp (by omega)] at hP1 hD1
  exact K G p e s m args below meth c A H1 locs1 cells slots ls hCx hcc hss hl ⟨_, hP1, hD1, hS1, hC.set (e0 := .inl (t, n, .inr (.inr (.inr (.inr f))))) (e := .inl (t, n, .inr (.inr (.inr (.inr (va_up f i.toNat none)))))) hD hq⟩
end ZA
section CA
variable {l : Launch} {M M' : zM} {d : Nat} {Pz : Option Value → zH → Prop} {pc pc' : Nat} {L : List (Option Value)} {S : List Value} {h h0 : zH} {E : cE} {f : mF} {g j : mA}
theorem HC.arrR {k : Nat} (hH : HC E f g j h) (hm : E.2.1 (k / 32) = true) (ht : cTag k = 4 ∨ cTag k = 5) : h (E.1 k) = some (.inl (cTag k, E.2.2 k, .inr (.inr (.inr (.inr (fun i : Nat => crf E (g k i))))))) := by
  rw [hH.2.1 k hm (by omega), cCell, if_neg (by omega), if_neg (by omega)]
theorem zTy_o {k : Nat} (ht : k = 4 ∨ k = 5) : zTy k = .object (if k = 4 then "FuseFrames$Script" else "FuseFrames$Frame") := by rcases ht with rfl | rfl <;> rfl
theorem zcf_aald {k N : Nat} {i : Int} {G : Int → Int} (hm : E.2.1 (k / 32) = true) (hk : k < 448) (hN : cLn (cCls (k / 32)) (k % 32) = N) (e : g k = G) (hd : zAt M 1 pc pc' .aaload) (hH : HC E f g j h) (ht : cTag k = 4 ∨ cTag k = 5) (hi0 : 0 ≤ i) (hi1 : i < (N : Int)) (K : Z l M d 0 0 Pz pc' L (va_rf (crf E (G i)) :: S) h 0 0) : Z l M d 0 0 Pz pc L (vI i :: .ref (E.1 k) :: S) h 0 0 := by
  subst e
  exact z_aald hd (f := fun n : Nat => crf E (g k n)) (n := E.2.2 k) (hH.arrR hm ht) (by omega) (zTy_o ht) hi0 (by rw [hH.len hk hN]; exact hi1) (hH.2.2.2.2.2.1 k) (by rw [show ((i.toNat : Nat) : Int) = i by omega]; exact K)
/-- what may stand in a row of references of the tag t -/
def okR (E : cE) (t : Nat) (x : Int) : Prop := x = -1 ∨ (0 ≤ x ∧ E.2.1 x.toNat = true ∧ cCls x.toNat = (if t = 4 then 4 else 1) ∧ zIn x)
theorem up_crf {G : Int → Int} {i x : Int} (h0 : 0 ≤ i) : va_up (fun n : Nat => crf E (G n)) i.toNat (crf E x) = fun n : Nat => crf E (iu G i x n) := by
  funext n
  unfold va_up iu
  by_cases e : n = i.toNat
  · rw [if_pos e, if_pos (by omega)]
  · rw [if_neg e, if_neg (by omega)]
theorem zcf_aast {k N : Nat} {i x : Int} (hm : E.2.1 (k / 32) = true) (hk : k < 448) (hN : cLn (cCls (k / 32)) (k % 32) = N) (hd : zAt M 1 pc pc' .aastore) (hH : HC E f g j h) (hA : cAg E h0 h) (ht : cTag k = 4 ∨ cTag k = 5) (hi0 : 0 ≤ i) (hi1 : i < (N : Int)) (hx : okR E (cTag k) x) (K : ∀ (h : zH) (g1 : mA), (∀ q, q ≠ k → g1 q = g q) → g1 k = iu (g k) i x → HC E f g1 j h → cAg E h0 h → Z l M d 0 0 Pz pc' L S h 0 0) : Z l M d 0 0 Pz pc L (va_rf (crf E x) :: vI i :: .ref (E.1 k) :: S) h 0 0 := by
  have zx : zIn x := by
    rcases hx with q | q
    · rw [q]; decide
    · exact q.2.2.2
  have q := hH.putC (g' := va_up g k (iu (g k) i x)) (j' := j) (k := k) hA hm (by omega) (fun q e => va_up_ne _ _ e) (fun _ _ => rfl) (by rw [va_up_self]; exact iu_in (hH.2.2.2.2.2.2.2.1 k) zx) (hH.2.2.2.2.2.2.2.2 k)
  rw [cCell, if_neg (by omega), if_neg (by omega), va_up_self, ← up_crf hi0] at q
  rcases hx with rfl | ⟨x0, xl, xc, -⟩
  · exact z_aastN hd (hH.arrR hm ht) (by omega) (zTy_o ht) hi0 (by rw [hH.len hk hN]; exact hi1) (hH.2.2.2.2.2.1 k) (K _ _ (fun _ e => va_up_ne _ _ e) (va_up_self _ _ _) q.1 q.2)
  · have ex : crf E x = some (E.1 (32 * x.toNat + 31)) := by unfold crf; rw [if_neg (by omega)]
    rw [ex] at q ⊢
    rcases ht with t4 | t5
    · rw [t4] at xc q
      have ha := hH.arrR hm (Or.inl t4)
      rw [t4] at ha
      have hv : h (E.1 (32 * x.toNat + 31)) = some (.inr (4, cfs E f x.toNat)) := by
        have z := hH.1 x.toNat xl
        rw [xc, if_pos rfl] at z
        exact z
      exact z_aast (ci := 4) hd ha hv (r := ("FuseFrames$Script", TX4, 9)) rfl (by decide) rfl hi0 (by rw [hH.len hk hN]; exact hi1) (hH.2.2.2.2.2.1 k) (K _ _ (fun _ e => va_up_ne _ _ e) (va_up_self _ _ _) q.1 q.2)
    · rw [t5] at xc q
      have ha := hH.arrR hm (Or.inr t5)
      rw [t5] at ha
      have hv : h (E.1 (32 * x.toNat + 31)) = some (.inr (1, cfs E f x.toNat)) := by
        have z := hH.1 x.toNat xl
        rw [xc, if_neg (by decide)] at z
        exact z
      exact z_aast (ci := 1) hd ha hv (r := ("FuseFrames$Frame", TX1, 16)) rfl (by decide) rfl hi0 (by rw [hH.len hk hN]; exact hi1) (hH.2.2.2.2.2.1 k) (K _ _ (fun _ e => va_up_ne _ _ e) (va_up_self _ _ _) q.1 q.2)
end CA
/-- a reference is answered: -1 none, else a node -/
def PO (E : cE) (Q : Int → mF → mA → mA → Prop) : Option Value → mF → mA → mA → Prop := fun v f g j => ∃ y, v = some (va_rf (crf E y)) ∧ Q y f g j
section CO
variable {l : Launch} {M M' : zM} {d : Nat} {Pz : Option Value → zH → Prop} {pc pc' : Nat} {L : List (Option Value)} {S : List Value} {h h0 : zH} {E : cE} {f : mF} {g j : mA}
theorem zc_aret {y : Int} {C : String} {Q : Int → mF → mA → mA → Prop} (hd : zAt M 1 pc pc' .areturn) (hM : M.2.2.2 = some (.object C)) (hH : HC E f g j h) (hA : cAg E h0 h) (q : Q y f g j) : Z l M d 0 0 (CP E h0 (PO E Q)) pc L [va_rf (crf E y)] h 0 0 := by
  have p : CP E h0 (PO E Q) (some (va_rf (crf E y))) h := ⟨f, g, j, hH, hA, y, rfl, q⟩
  cases e : crf E y with
  | none => rw [e] at p; exact z_aretN hd hM p
  | some a => rw [e] at p; exact z_aret hd hM p
theorem zc_callO {idx n n' m : Nat} {As : List Value} {T : u_T} {N : Nat} {Q : Int → mF → mA → mA → Prop} (hM : CM l E M' n' (.ref (E.1 (32 * m + 31)) :: As) f g j (PO E Q)) (hm : E.2.1 m = true) (hd : zAt M 3 pc pc' (.invokevirtual idx)) (hc : zCV M.1.cls idx M' n) (hn : As.length = n) (hcl : vwCl[cCls m]? = some (M'.1.cls, T, N)) (hH : HC E f g j h) (hA : cAg E h0 h) (hdd : n' + 1 ≤ d) (hW : (S.map fun v => v.category).sum ≤ 8)
    (K : ∀ (y : Int) (f : mF) (g j : mA) (h : zH), Q y f g j → HC E f g j h → cAg E h0 h → Z l M d 0 0 Pz pc' L (va_rf (crf E y) :: S) h 0 0) : Z l M d 0 0 Pz pc L (As.reverse ++ .ref (E.1 (32 * m + 31)) :: S) h 0 0 := by
  obtain ⟨hd, rfl⟩ := hd
  refine z_invV (ci := cCls m) (T := T) (N := N) hd hc hn (hH.1 m hm) hcl (d' := d - 1) (by omega) (Nat.le_refl 0) (Nat.le_refl 0) hW (hM (d - 1) (by omega) h hH) (fun v h' hp => ?_)
  obtain ⟨f', g', j', hH', hA', y, rfl, hq⟩ := hp
  exact K y f' g' j' h' hq hH' (hA.trans hA')
end CO
set_option maxHeartbeats 4000000 in
set_option maxRecDepth 100000 in
theorem c_hasFuse1 {l : Launch} {E : cE} {f : mF} {g j : mA} {n : Int} {x : Int}  (ef32 : f 32 = n) (hx : zIn x) : CM l E MX1_hasFuse 0 [.ref (E.1 63), vI x] f g j (PI (fun r f' g' j' => (r = b2i (0 ≤ x ∧ x < n)) ∧ eqx [] f f' ∧ eqx [] g g' ∧ j' = j)) := by
  refine CM.intro [some (.ref (E.1 63)), some (vI x)] (by decide) (Nat.le_of_ble_eq_true rfl) rfl (fun d hd h0 h hH hA => ?_)
  have hfE : eqx [] f f := eqx.rf
  have hgE : eqx [] g g := eqx.rf
  refine z_ild_1 (TX1_hasFuse.at 0 rfl) ?_
  refine z_if_lt (tgt := 16) (TX1_hasFuse.at 1 rfl) rfl (by omega) (fun c1 => ?_) (fun c1 => ?_)
  · skip
    refine z_iconst (TX1_hasFuse.at 8 rfl) ?_
    refine zc_zret (TX1_hasFuse.at 9 rfl) rfl hH hA (by first | omega | exact b2i_01 _) ?_
    exact ⟨by first | (rw [b2i_t (by omega)]; done) | (rw [b2i_f (by omega)]; done), hfE, hgE, rfl⟩
  · skip
    refine z_ild_1 (TX1_hasFuse.at 2 rfl) ?_
    refine z_ald_0 (TX1_hasFuse.at 3 rfl) ?_
    refine zc_getIE (m := 1) (s := 0) (k := 32) (hH.lv (by decide)) ef32 (TX1_hasFuse.at 4 rfl) fl1_9 hH rfl rfl (by decide) (by decide) (fun r6 => ?_)
    refine z_icmp_ge (tgt := 16) (TX1_hasFuse.at 5 rfl) rfl (by omega) (by omega) (fun c2 => ?_) (fun c2 => ?_)
    · skip
      refine z_iconst (TX1_hasFuse.at 8 rfl) ?_
      refine zc_zret (TX1_hasFuse.at 9 rfl) rfl hH hA (by first | omega | exact b2i_01 _) ?_
      exact ⟨by first | (rw [b2i_t (by omega)]; done) | (rw [b2i_f (by omega)]; done), hfE, hgE, rfl⟩
    · skip
      refine z_iconst (TX1_hasFuse.at 6 rfl) ?_
      refine z_goto (tgt := 17) (TX1_hasFuse.at 7 rfl) rfl ?_
      refine zc_zret (TX1_hasFuse.at 9 rfl) rfl hH hA (by first | omega | exact b2i_01 _) ?_
      exact ⟨by first | (rw [b2i_t (by omega)]; done) | (rw [b2i_f (by omega)]; done), hfE, hgE, rfl⟩

set_option maxHeartbeats 4000000 in
set_option maxRecDepth 100000 in
theorem c_isTied1 {l : Launch} {E : cE} {f : mF} {g j : mA} {Fr : Int → Int} {To : Int → Int} {x k : Int}  (eg33 : g 33 = Fr) (eg34 : g 34 = To) (hx : zIn x) (hk : zIn k) (x0 : 0 ≤ x) (x1 : x ≤ 9) : CM l E MX1_isTied 0 [.ref (E.1 63), vI x, vI k] f g j (PI (fun r f' g' j' => (r = b2i (Fr x = k ∨ To x = k)) ∧ eqx [] f f' ∧ eqx [] g g' ∧ j' = j)) := by
  refine CM.intro [some (.ref (E.1 63)), some (vI x), some (vI k)] (by decide) (Nat.le_of_ble_eq_true rfl) rfl (fun d hd h0 h hH hA => ?_)
  have hfE : eqx [] f f := eqx.rf
  have hgE : eqx [] g g := eqx.rf
  refine z_ald_0 (TX1_isTied.at 0 rfl) ?_
  refine zc_getA (m := 1) (s := 1) (k := 33) (hH.lv (by decide)) (TX1_isTied.at 1 rfl) fl1_15 hH rfl rfl (by decide) (by decide) ?_
  refine z_ild_1 (TX1_isTied.at 2 rfl) ?_
  refine zcf_iald (k := 33) (N := 10) (hH.lv (by decide)) (by decide) rfl eg33 (TX1_isTied.at 3 rfl) hH (by decide) (by omega) (show _ < ((10 : Nat) : Int) by omega) (fun r5 => ?_)
  refine z_ild_2 (TX1_isTied.at 4 rfl) ?_
  refine z_icmp_eq (tgt := 20) (TX1_isTied.at 5 rfl) rfl (by omega) (by omega) (fun c1 => ?_) (fun c1 => ?_)
  · skip
    refine z_iconst (TX1_isTied.at 12 rfl) ?_
    refine z_goto (tgt := 25) (TX1_isTied.at 13 rfl) rfl ?_
    refine zc_zret (TX1_isTied.at 15 rfl) rfl hH hA (by first | omega | exact b2i_01 _) ?_
    exact ⟨by first | (rw [b2i_t (by omega)]; done) | (rw [b2i_f (by omega)]; done), hfE, hgE, rfl⟩
  · skip
    refine z_ald_0 (TX1_isTied.at 6 rfl) ?_
    refine zc_getA (m := 1) (s := 2) (k := 34) (hH.lv (by decide)) (TX1_isTied.at 7 rfl) fl1_19 hH rfl rfl (by decide) (by decide) ?_
    refine z_ild_1 (TX1_isTied.at 8 rfl) ?_
    refine zcf_iald (k := 34) (N := 10) (hH.lv (by decide)) (by decide) rfl eg34 (TX1_isTied.at 9 rfl) hH (by decide) (by omega) (show _ < ((10 : Nat) : Int) by omega) (fun r15 => ?_)
    refine z_ild_2 (TX1_isTied.at 10 rfl) ?_
    refine z_icmp_ne (tgt := 24) (TX1_isTied.at 11 rfl) rfl (by omega) (by omega) (fun c2 => ?_) (fun c2 => ?_)
    · skip
      refine z_iconst (TX1_isTied.at 14 rfl) ?_
      refine zc_zret (TX1_isTied.at 15 rfl) rfl hH hA (by first | omega | exact b2i_01 _) ?_
      exact ⟨by first | (rw [b2i_t (by omega)]; done) | (rw [b2i_f (by omega)]; done), hfE, hgE, rfl⟩
    · skip
      refine z_iconst (TX1_isTied.at 12 rfl) ?_
      refine z_goto (tgt := 25) (TX1_isTied.at 13 rfl) rfl ?_
      refine zc_zret (TX1_isTied.at 15 rfl) rfl hH hA (by first | omega | exact b2i_01 _) ?_
      exact ⟨by first | (rw [b2i_t (by omega)]; done) | (rw [b2i_f (by omega)]; done), hfE, hgE, rfl⟩

set_option maxHeartbeats 4000000 in
set_option maxRecDepth 100000 in
theorem lp_tiedTo1 {l : Launch} {E : cE} {d : Nat} {Pz : Option Value → zH → Prop} {h0 : zH} {f0 : mF} {g0 : mA} {j : mA} (hd : 1 ≤ d) {Fr To : Int → Int} {n9 k : Int} (hk : zIn k) (n1 : n9 ≤ 10) (kx : ∀ (f : mF) (g : mA) (h : zH), eqx [] f0 f → eqx [] g0 g → HC E f g j h → cAg E h0 h → Z l MX1_tiedTo d 0 0 Pz 30 [some (.ref (E.1 63)), some (vI k), some (vI (sm (fun q => b2i (Fr q = k ∨ To q = k)) n9)), some (vI n9)] [] h 0 0)  : ∀ (n : Nat) (i : Int) (s : Int) (f : mF) (g : mA) (h : zH) (i0 : 0 ≤ i) (i1 : i ≤ n9) (i2 : n9 < i + n) (es : s = sm (fun q => b2i (Fr q = k ∨ To q = k)) i) (eg33 : g 33 = Fr) (eg34 : g 34 = To) (ef32 : f 32 = n9) (hfE : eqx [] f0 f) (hgE : eqx [] g0 g) (hH : HC E f g j h) (hA : cAg E h0 h), Z l MX1_tiedTo d 0 0 Pz 4 [some (.ref (E.1 63)), some (vI k), some (vI s), some (vI i)] [] h 0 0 := by
  intro n
  induction n with
  | zero => intro i s f g h i0 i1 i2 es eg33 eg34 ef32 hfE hgE hH hA; exfalso; omega
  | succ n ih =>
    intro i s f g h i0 i1 i2 es eg33 eg34 ef32 hfE hgE hH hA
    have hs := sm_in (p := fun q => b2i (Fr q = k ∨ To q = k)) i0 (fun t _ _ => by have := b2i_01 (Fr t = k ∨ To t = k); omega)
    rw [← es] at hs
    refine z_ild_3 (TX1_tiedTo.at 4 rfl) ?_
    refine z_ald_0 (TX1_tiedTo.at 5 rfl) ?_
    refine zc_getIE (m := 1) (s := 0) (k := 32) (hH.lv (by decide)) ef32 (TX1_tiedTo.at 6 rfl) fl1_9 hH rfl rfl (by decide) (by decide) (fun r6 => ?_)
    refine z_icmp_ge (tgt := 30) (TX1_tiedTo.at 7 rfl) rfl (by omega) (by omega) (fun c1 => ?_) (fun c1 => ?_)
    · skip
      obtain rfl : i = n9 := by omega
      rw [es]
      exact kx _ _ _ hfE hgE hH hA
    · skip
      refine z_ald_0 (TX1_tiedTo.at 8 rfl) ?_
      refine z_ild_3 (TX1_tiedTo.at 9 rfl) ?_
      refine z_ild_1 (TX1_tiedTo.at 10 rfl) ?_
      refine zc_callI2 (m := 1) (c_isTied1 eg33 eg34 (by omega) (by omega) (by omega) (by omega)) (hH.lv (by decide)) (TX1_tiedTo.at 11 rfl) c1_80 rfl rfl hH hA (by omega) (Nat.le_of_ble_eq_true rfl) (fun x15 f15 g15 j15 h r15 q15 hH hA => ?_)
      obtain ⟨q15, xf, xg, xj⟩ := q15
      rw [xj] at hH
      have ef32 := (xf 32 (by decide)).trans ef32
      have hfE := hfE.trans xf (by decide)
      have eg33 := (xg 33 (by decide)).trans eg33
      have eg34 := (xg 34 (by decide)).trans eg34
      have hgE := hgE.trans xg (by decide)
      have qL := q15
      obtain rfl := qL
      refine z_if_eqB (tgt := 24) (TX1_tiedTo.at 12 rfl) rfl (fun c2 => ?_) (fun c2 => ?_)
      · skip
        refine z_iinc_3 (TX1_tiedTo.at 14 rfl) (Nat.le_of_ble_eq_true rfl) rfl ?_
        refine z_goto (tgt := 4) (TX1_tiedTo.at 15 rfl) rfl ?_
        exact ih (i + 1) _ _ _ _ (by omega) (by omega) (by omega) (by rw [es, sm_s i0]; first | (rw [b2i_t (by assumption)]; done) | (rw [b2i_f (by assumption)]; omega)) eg33 eg34 ef32 hfE hgE hH hA
      · skip
        refine z_iinc_2 (TX1_tiedTo.at 13 rfl) (Nat.le_of_ble_eq_true rfl) rfl ?_
        refine z_iinc_3 (TX1_tiedTo.at 14 rfl) (Nat.le_of_ble_eq_true rfl) rfl ?_
        refine z_goto (tgt := 4) (TX1_tiedTo.at 15 rfl) rfl ?_
        exact ih (i + 1) _ _ _ _ (by omega) (by omega) (by omega) (by rw [es, sm_s i0]; first | (rw [b2i_t (by assumption)]; done) | (rw [b2i_f (by assumption)]; omega)) eg33 eg34 ef32 hfE hgE hH hA

set_option maxHeartbeats 4000000 in
set_option maxRecDepth 100000 in
theorem c_tiedTo1 {l : Launch} {E : cE} {f : mF} {g j : mA} {Fr : Int → Int} {To : Int → Int} {n9 : Int} {k : Int}  (eg33 : g 33 = Fr) (eg34 : g 34 = To) (ef32 : f 32 = n9) (hk : zIn k) (n0 : 0 ≤ n9) (n1 : n9 ≤ 10) : CM l E MX1_tiedTo 1 [.ref (E.1 63), vI k] f g j (PI (fun r f' g' j' => (r = sm (fun q => b2i (Fr q = k ∨ To q = k)) n9) ∧ eqx [] f f' ∧ eqx [] g g' ∧ j' = j)) := by
  refine CM.intro [some (.ref (E.1 63)), some (vI k), none, none] (by decide) (Nat.le_of_ble_eq_true rfl) rfl (fun d hd h0 h hH hA => ?_)
  have hfE : eqx [] f f := eqx.rf
  have hgE : eqx [] g g := eqx.rf
  have hs := sm_in (p := fun q => b2i (Fr q = k ∨ To q = k)) n0 (fun t _ _ => by have := b2i_01 (Fr t = k ∨ To t = k); omega)
  refine z_iconst (TX1_tiedTo.at 0 rfl) ?_
  refine z_ist_2 (TX1_tiedTo.at 1 rfl) (Nat.le_of_ble_eq_true rfl) rfl ?_
  refine z_iconst (TX1_tiedTo.at 2 rfl) ?_
  refine z_ist_3 (TX1_tiedTo.at 3 rfl) (Nat.le_of_ble_eq_true rfl) rfl ?_
  refine lp_tiedTo1 hd (by omega) n1 (fun f4 g4 h  xf xg hH hA => ?_) 11 0 0 _ _ _ (by omega) (by omega) (by omega) rfl eg33 eg34 ef32 eqx.rf eqx.rf hH hA
  have ef32 := (xf 32 (by decide)).trans ef32
  have hfE := hfE.trans xf (by decide)
  have eg33 := (xg 33 (by decide)).trans eg33
  have eg34 := (xg 34 (by decide)).trans eg34
  have hgE := hgE.trans xg (by decide)
  refine z_ild_2 (TX1_tiedTo.at 16 rfl) ?_
  refine zc_iret (TX1_tiedTo.at 17 rfl) rfl hH hA (by omega) ?_
  exact ⟨rfl, hfE, hgE, rfl⟩

set_option maxHeartbeats 4000000 in
set_option maxRecDepth 100000 in
theorem c_hasFuse3 {l : Launch} {E : cE} {f : mF} {g j : mA} {n : Int} {x : Int}  (ef96 : f 96 = n) (hx : zIn x) : CM l E MX1_hasFuse 0 [.ref (E.1 127), vI x] f g j (PI (fun r f' g' j' => (r = b2i (0 ≤ x ∧ x < n)) ∧ eqx [] f f' ∧ eqx [] g g' ∧ j' = j)) := by
  refine CM.intro [some (.ref (E.1 127)), some (vI x)] (by decide) (Nat.le_of_ble_eq_true rfl) rfl (fun d hd h0 h hH hA => ?_)
  have hfE : eqx [] f f := eqx.rf
  have hgE : eqx [] g g := eqx.rf
  refine z_ild_1 (TX1_hasFuse.at 0 rfl) ?_
  refine z_if_lt (tgt := 16) (TX1_hasFuse.at 1 rfl) rfl (by omega) (fun c1 => ?_) (fun c1 => ?_)
  · skip
    refine z_iconst (TX1_hasFuse.at 8 rfl) ?_
    refine zc_zret (TX1_hasFuse.at 9 rfl) rfl hH hA (by first | omega | exact b2i_01 _) ?_
    exact ⟨by first | (rw [b2i_t (by omega)]; done) | (rw [b2i_f (by omega)]; done), hfE, hgE, rfl⟩
  · skip
    refine z_ild_1 (TX1_hasFuse.at 2 rfl) ?_
    refine z_ald_0 (TX1_hasFuse.at 3 rfl) ?_
    refine zc_getIE (m := 3) (s := 0) (k := 96) (hH.lv (by decide)) ef96 (TX1_hasFuse.at 4 rfl) fl1_9 hH rfl rfl (by decide) (by decide) (fun r6 => ?_)
    refine z_icmp_ge (tgt := 16) (TX1_hasFuse.at 5 rfl) rfl (by omega) (by omega) (fun c2 => ?_) (fun c2 => ?_)
    · skip
      refine z_iconst (TX1_hasFuse.at 8 rfl) ?_
      refine zc_zret (TX1_hasFuse.at 9 rfl) rfl hH hA (by first | omega | exact b2i_01 _) ?_
      exact ⟨by first | (rw [b2i_t (by omega)]; done) | (rw [b2i_f (by omega)]; done), hfE, hgE, rfl⟩
    · skip
      refine z_iconst (TX1_hasFuse.at 6 rfl) ?_
      refine z_goto (tgt := 17) (TX1_hasFuse.at 7 rfl) rfl ?_
      refine zc_zret (TX1_hasFuse.at 9 rfl) rfl hH hA (by first | omega | exact b2i_01 _) ?_
      exact ⟨by first | (rw [b2i_t (by omega)]; done) | (rw [b2i_f (by omega)]; done), hfE, hgE, rfl⟩

set_option maxHeartbeats 4000000 in
set_option maxRecDepth 100000 in
theorem c_isTied3 {l : Launch} {E : cE} {f : mF} {g j : mA} {Fr : Int → Int} {To : Int → Int} {x k : Int}  (eg97 : g 97 = Fr) (eg98 : g 98 = To) (hx : zIn x) (hk : zIn k) (x0 : 0 ≤ x) (x1 : x ≤ 9) : CM l E MX1_isTied 0 [.ref (E.1 127), vI x, vI k] f g j (PI (fun r f' g' j' => (r = b2i (Fr x = k ∨ To x = k)) ∧ eqx [] f f' ∧ eqx [] g g' ∧ j' = j)) := by
  refine CM.intro [some (.ref (E.1 127)), some (vI x), some (vI k)] (by decide) (Nat.le_of_ble_eq_true rfl) rfl (fun d hd h0 h hH hA => ?_)
  have hfE : eqx [] f f := eqx.rf
  have hgE : eqx [] g g := eqx.rf
  refine z_ald_0 (TX1_isTied.at 0 rfl) ?_
  refine zc_getA (m := 3) (s := 1) (k := 97) (hH.lv (by decide)) (TX1_isTied.at 1 rfl) fl1_15 hH rfl rfl (by decide) (by decide) ?_
  refine z_ild_1 (TX1_isTied.at 2 rfl) ?_
  refine zcf_iald (k := 97) (N := 10) (hH.lv (by decide)) (by decide) rfl eg97 (TX1_isTied.at 3 rfl) hH (by decide) (by omega) (show _ < ((10 : Nat) : Int) by omega) (fun r5 => ?_)
  refine z_ild_2 (TX1_isTied.at 4 rfl) ?_
  refine z_icmp_eq (tgt := 20) (TX1_isTied.at 5 rfl) rfl (by omega) (by omega) (fun c1 => ?_) (fun c1 => ?_)
  · skip
    refine z_iconst (TX1_isTied.at 12 rfl) ?_
    refine z_goto (tgt := 25) (TX1_isTied.at 13 rfl) rfl ?_
    refine zc_zret (TX1_isTied.at 15 rfl) rfl hH hA (by first | omega | exact b2i_01 _) ?_
    exact ⟨by first | (rw [b2i_t (by omega)]; done) | (rw [b2i_f (by omega)]; done), hfE, hgE, rfl⟩
  · skip
    refine z_ald_0 (TX1_isTied.at 6 rfl) ?_
    refine zc_getA (m := 3) (s := 2) (k := 98) (hH.lv (by decide)) (TX1_isTied.at 7 rfl) fl1_19 hH rfl rfl (by decide) (by decide) ?_
    refine z_ild_1 (TX1_isTied.at 8 rfl) ?_
    refine zcf_iald (k := 98) (N := 10) (hH.lv (by decide)) (by decide) rfl eg98 (TX1_isTied.at 9 rfl) hH (by decide) (by omega) (show _ < ((10 : Nat) : Int) by omega) (fun r15 => ?_)
    refine z_ild_2 (TX1_isTied.at 10 rfl) ?_
    refine z_icmp_ne (tgt := 24) (TX1_isTied.at 11 rfl) rfl (by omega) (by omega) (fun c2 => ?_) (fun c2 => ?_)
    · skip
      refine z_iconst (TX1_isTied.at 14 rfl) ?_
      refine zc_zret (TX1_isTied.at 15 rfl) rfl hH hA (by first | omega | exact b2i_01 _) ?_
      exact ⟨by first | (rw [b2i_t (by omega)]; done) | (rw [b2i_f (by omega)]; done), hfE, hgE, rfl⟩
    · skip
      refine z_iconst (TX1_isTied.at 12 rfl) ?_
      refine z_goto (tgt := 25) (TX1_isTied.at 13 rfl) rfl ?_
      refine zc_zret (TX1_isTied.at 15 rfl) rfl hH hA (by first | omega | exact b2i_01 _) ?_
      exact ⟨by first | (rw [b2i_t (by omega)]; done) | (rw [b2i_f (by omega)]; done), hfE, hgE, rfl⟩

set_option maxHeartbeats 4000000 in
set_option maxRecDepth 100000 in
theorem lp_tiedTo3 {l : Launch} {E : cE} {d : Nat} {Pz : Option Value → zH → Prop} {h0 : zH} {f0 : mF} {g0 : mA} {j : mA} (hd : 1 ≤ d) {Fr To : Int → Int} {n9 k : Int} (hk : zIn k) (n1 : n9 ≤ 10) (kx : ∀ (f : mF) (g : mA) (h : zH), eqx [] f0 f → eqx [] g0 g → HC E f g j h → cAg E h0 h → Z l MX1_tiedTo d 0 0 Pz 30 [some (.ref (E.1 127)), some (vI k), some (vI (sm (fun q => b2i (Fr q = k ∨ To q = k)) n9)), some (vI n9)] [] h 0 0)  : ∀ (n : Nat) (i : Int) (s : Int) (f : mF) (g : mA) (h : zH) (i0 : 0 ≤ i) (i1 : i ≤ n9) (i2 : n9 < i + n) (es : s = sm (fun q => b2i (Fr q = k ∨ To q = k)) i) (eg97 : g 97 = Fr) (eg98 : g 98 = To) (ef96 : f 96 = n9) (hfE : eqx [] f0 f) (hgE : eqx [] g0 g) (hH : HC E f g j h) (hA : cAg E h0 h), Z l MX1_tiedTo d 0 0 Pz 4 [some (.ref (E.1 127)), some (vI k), some (vI s), some (vI i)] [] h 0 0 := by
  intro n
  induction n with
  | zero => intro i s f g h i0 i1 i2 es eg97 eg98 ef96 hfE hgE hH hA; exfalso; omega
  | succ n ih =>
    intro i s f g h i0 i1 i2 es eg97 eg98 ef96 hfE hgE hH hA
    have hs := sm_in (p := fun q => b2i (Fr q = k ∨ To q = k)) i0 (fun t _ _ => by have := b2i_01 (Fr t = k ∨ To t = k); omega)
    rw [← es] at hs
    refine z_ild_3 (TX1_tiedTo.at 4 rfl) ?_
    refine z_ald_0 (TX1_tiedTo.at 5 rfl) ?_
    refine zc_getIE (m := 3) (s := 0) (k := 96) (hH.lv (by decide)) ef96 (TX1_tiedTo.at 6 rfl) fl1_9 hH rfl rfl (by decide) (by decide) (fun r6 => ?_)
    refine z_icmp_ge (tgt := 30) (TX1_tiedTo.at 7 rfl) rfl (by omega) (by omega) (fun c1 => ?_) (fun c1 => ?_)
    · skip
      obtain rfl : i = n9 := by omega
      rw [es]
      exact kx _ _ _ hfE hgE hH hA
    · skip
      refine z_ald_0 (TX1_tiedTo.at 8 rfl) ?_
      refine z_ild_3 (TX1_tiedTo.at 9 rfl) ?_
      refine z_ild_1 (TX1_tiedTo.at 10 rfl) ?_
      refine zc_callI2 (m := 3) (c_isTied3 eg97 eg98 (by omega) (by omega) (by omega) (by omega)) (hH.lv (by decide)) (TX1_tiedTo.at 11 rfl) c1_80 rfl rfl hH hA (by omega) (Nat.le_of_ble_eq_true rfl) (fun x15 f15 g15 j15 h r15 q15 hH hA => ?_)
      obtain ⟨q15, xf, xg, xj⟩ := q15
      rw [xj] at hH
      have ef96 := (xf 96 (by decide)).trans ef96
      have hfE := hfE.trans xf (by decide)
      have eg97 := (xg 97 (by decide)).trans eg97
      have eg98 := (xg 98 (by decide)).trans eg98
      have hgE := hgE.trans xg (by decide)
      have qL := q15
      obtain rfl := qL
      refine z_if_eqB (tgt := 24) (TX1_tiedTo.at 12 rfl) rfl (fun c2 => ?_) (fun c2 => ?_)
      · skip
        refine z_iinc_3 (TX1_tiedTo.at 14 rfl) (Nat.le_of_ble_eq_true rfl) rfl ?_
        refine z_goto (tgt := 4) (TX1_tiedTo.at 15 rfl) rfl ?_
        exact ih (i + 1) _ _ _ _ (by omega) (by omega) (by omega) (by rw [es, sm_s i0]; first | (rw [b2i_t (by assumption)]; done) | (rw [b2i_f (by assumption)]; omega)) eg97 eg98 ef96 hfE hgE hH hA
      · skip
        refine z_iinc_2 (TX1_tiedTo.at 13 rfl) (Nat.le_of_ble_eq_true rfl) rfl ?_
        refine z_iinc_3 (TX1_tiedTo.at 14 rfl) (Nat.le_of_ble_eq_true rfl) rfl ?_
        refine z_goto (tgt := 4) (TX1_tiedTo.at 15 rfl) rfl ?_
        exact ih (i + 1) _ _ _ _ (by omega) (by omega) (by omega) (by rw [es, sm_s i0]; first | (rw [b2i_t (by assumption)]; done) | (rw [b2i_f (by assumption)]; omega)) eg97 eg98 ef96 hfE hgE hH hA

set_option maxHeartbeats 4000000 in
set_option maxRecDepth 100000 in
theorem c_tiedTo3 {l : Launch} {E : cE} {f : mF} {g j : mA} {Fr : Int → Int} {To : Int → Int} {n9 : Int} {k : Int}  (eg97 : g 97 = Fr) (eg98 : g 98 = To) (ef96 : f 96 = n9) (hk : zIn k) (n0 : 0 ≤ n9) (n1 : n9 ≤ 10) : CM l E MX1_tiedTo 1 [.ref (E.1 127), vI k] f g j (PI (fun r f' g' j' => (r = sm (fun q => b2i (Fr q = k ∨ To q = k)) n9) ∧ eqx [] f f' ∧ eqx [] g g' ∧ j' = j)) := by
  refine CM.intro [some (.ref (E.1 127)), some (vI k), none, none] (by decide) (Nat.le_of_ble_eq_true rfl) rfl (fun d hd h0 h hH hA => ?_)
  have hfE : eqx [] f f := eqx.rf
  have hgE : eqx [] g g := eqx.rf
  have hs := sm_in (p := fun q => b2i (Fr q = k ∨ To q = k)) n0 (fun t _ _ => by have := b2i_01 (Fr t = k ∨ To t = k); omega)
  refine z_iconst (TX1_tiedTo.at 0 rfl) ?_
  refine z_ist_2 (TX1_tiedTo.at 1 rfl) (Nat.le_of_ble_eq_true rfl) rfl ?_
  refine z_iconst (TX1_tiedTo.at 2 rfl) ?_
  refine z_ist_3 (TX1_tiedTo.at 3 rfl) (Nat.le_of_ble_eq_true rfl) rfl ?_
  refine lp_tiedTo3 hd (by omega) n1 (fun f4 g4 h  xf xg hH hA => ?_) 11 0 0 _ _ _ (by omega) (by omega) (by omega) rfl eg97 eg98 ef96 eqx.rf eqx.rf hH hA
  have ef96 := (xf 96 (by decide)).trans ef96
  have hfE := hfE.trans xf (by decide)
  have eg97 := (xg 97 (by decide)).trans eg97
  have eg98 := (xg 98 (by decide)).trans eg98
  have hgE := hgE.trans xg (by decide)
  refine z_ild_2 (TX1_tiedTo.at 16 rfl) ?_
  refine zc_iret (TX1_tiedTo.at 17 rfl) rfl hH hA (by omega) ?_
  exact ⟨rfl, hfE, hgE, rfl⟩

set_option maxHeartbeats 4000000 in
set_option maxRecDepth 100000 in
theorem c_otherEnd {l : Launch} {E : cE} {f : mF} {g j : mA} {Fr : Int → Int} {To : Int → Int} {x k : Int}  (eg33 : g 33 = Fr) (eg34 : g 34 = To) (hx : zIn x) (hk : zIn k) (x0 : 0 ≤ x) (x1 : x ≤ 9) : CM l E MX1_otherEnd 0 [.ref (E.1 63), vI x, vI k] f g j (PI (fun r f' g' j' => (r = if Fr x = k then To x else Fr x) ∧ eqx [] f f' ∧ eqx [] g g' ∧ j' = j)) := by
  refine CM.intro [some (.ref (E.1 63)), some (vI x), some (vI k)] (by decide) (Nat.le_of_ble_eq_true rfl) rfl (fun d hd h0 h hH hA => ?_)
  have hfE : eqx [] f f := eqx.rf
  have hgE : eqx [] g g := eqx.rf
  refine z_ald_0 (TX1_otherEnd.at 0 rfl) ?_
  refine zc_getA (m := 1) (s := 1) (k := 33) (hH.lv (by decide)) (TX1_otherEnd.at 1 rfl) fl1_15 hH rfl rfl (by decide) (by decide) ?_
  refine z_ild_1 (TX1_otherEnd.at 2 rfl) ?_
  refine zcf_iald (k := 33) (N := 10) (hH.lv (by decide)) (by decide) rfl eg33 (TX1_otherEnd.at 3 rfl) hH (by decide) (by omega) (show _ < ((10 : Nat) : Int) by omega) (fun r5 => ?_)
  refine z_ild_2 (TX1_otherEnd.at 4 rfl) ?_
  refine z_icmp_ne (tgt := 19) (TX1_otherEnd.at 5 rfl) rfl (by omega) (by omega) (fun c1 => ?_) (fun c1 => ?_)
  · skip
    refine z_ald_0 (TX1_otherEnd.at 11 rfl) ?_
    refine zc_getA (m := 1) (s := 1) (k := 33) (hH.lv (by decide)) (TX1_otherEnd.at 12 rfl) fl1_15 hH rfl rfl (by decide) (by decide) ?_
    refine z_ild_1 (TX1_otherEnd.at 13 rfl) ?_
    refine zcf_iald (k := 33) (N := 10) (hH.lv (by decide)) (by decide) rfl eg33 (TX1_otherEnd.at 14 rfl) hH (by decide) (by omega) (show _ < ((10 : Nat) : Int) by omega) (fun r24 => ?_)
    refine zc_iret (TX1_otherEnd.at 15 rfl) rfl hH hA (by omega) ?_
    exact ⟨by first | (rw [if_pos (by omega)]; done) | (rw [if_neg (by omega)]; done), hfE, hgE, rfl⟩
  · skip
    refine z_ald_0 (TX1_otherEnd.at 6 rfl) ?_
    refine zc_getA (m := 1) (s := 2) (k := 34) (hH.lv (by decide)) (TX1_otherEnd.at 7 rfl) fl1_19 hH rfl rfl (by decide) (by decide) ?_
    refine z_ild_1 (TX1_otherEnd.at 8 rfl) ?_
    refine zcf_iald (k := 34) (N := 10) (hH.lv (by decide)) (by decide) rfl eg34 (TX1_otherEnd.at 9 rfl) hH (by decide) (by omega) (show _ < ((10 : Nat) : Int) by omega) (fun r15 => ?_)
    refine z_goto (tgt := 25) (TX1_otherEnd.at 10 rfl) rfl ?_
    refine zc_iret (TX1_otherEnd.at 15 rfl) rfl hH hA (by omega) ?_
    exact ⟨by first | (rw [if_pos (by omega)]; done) | (rw [if_neg (by omega)]; done), hfE, hgE, rfl⟩

set_option maxHeartbeats 4000000 in
set_option maxRecDepth 100000 in
theorem c_tie {l : Launch} {E : cE} {f : mF} {g j : mA} {Fr : Int → Int} {To : Int → Int} {Ln : Int → Int} {Kd : Int → Int} {n9 : Int} {a b c e : Int}  (eg33 : g 33 = Fr) (eg34 : g 34 = To) (eg35 : g 35 = Ln) (eg36 : g 36 = Kd) (ef32 : f 32 = n9) (ha : zIn a) (hb : zIn b) (hc : zIn c) (he : zIn e) (n0 : 0 ≤ n9) (n1 : n9 < 10) : CM l E MX1_tie 0 [.ref (E.1 63), vI a, vI b, vI c, vI e] f g j (PI (fun r f' g' j' => (r = n9 ∧ f' 32 = n9 + 1 ∧ g' 33 = iu Fr n9 a ∧ g' 34 = iu To n9 b ∧ g' 35 = iu Ln n9 c ∧ g' 36 = iu Kd n9 e) ∧ eqx [32] f f' ∧ eqx [33, 34, 35, 36] g g' ∧ j' = j)) := by
  refine CM.intro [some (.ref (E.1 63)), some (vI a), some (vI b), some (vI c), some (vI e)] (by decide) (Nat.le_of_ble_eq_true rfl) rfl (fun d hd h0 h hH hA => ?_)
  have hfE : eqx [32] f f := eqx.rf
  have hgE : eqx [33, 34, 35, 36] g g := eqx.rf
  refine z_ald_0 (TX1_tie.at 0 rfl) ?_
  refine zc_getIE (m := 1) (s := 0) (k := 32) (hH.lv (by decide)) ef32 (TX1_tie.at 1 rfl) fl1_9 hH rfl rfl (by decide) (by decide) (fun r1 => ?_)
  refine z_bipush (by decide) (TX1_tie.at 2 rfl) ?_
  refine z_icmp_lt (tgt := 11) (TX1_tie.at 3 rfl) rfl (by omega) (by omega) (fun c1 => ?_) (fun c1 => absurd c1 (by omega))
  refine z_ald_0 (TX1_tie.at 6 rfl) ?_
  refine zc_getA (m := 1) (s := 1) (k := 33) (hH.lv (by decide)) (TX1_tie.at 7 rfl) fl1_15 hH rfl rfl (by decide) (by decide) ?_
  refine z_ald_0 (TX1_tie.at 8 rfl) ?_
  refine zc_getIE (m := 1) (s := 0) (k := 32) (hH.lv (by decide)) ef32 (TX1_tie.at 9 rfl) fl1_9 hH rfl rfl (by decide) (by decide) (fun r16 => ?_)
  refine z_ild_1 (TX1_tie.at 10 rfl) ?_
  refine zcf_iast (k := 33) (N := 10) (hH.lv (by decide)) (by decide) rfl (TX1_tie.at 11 rfl) hH hA (by decide) (by omega) (show _ < ((10 : Nat) : Int) by omega) (by omega) (fun h g20 e1 e2 hH hA => ?_)
  rw [eg33] at e2; have eg33 := e2
  have eg34 := (e1 34 (by decide)).trans eg34
  have eg35 := (e1 35 (by decide)).trans eg35
  have eg36 := (e1 36 (by decide)).trans eg36
  have hgE := hgE.put e1 (by decide)
  refine z_ald_0 (TX1_tie.at 12 rfl) ?_
  refine zc_getA (m := 1) (s := 2) (k := 34) (hH.lv (by decide)) (TX1_tie.at 13 rfl) fl1_19 hH rfl rfl (by decide) (by decide) ?_
  refine z_ald_0 (TX1_tie.at 14 rfl) ?_
  refine zc_getIE (m := 1) (s := 0) (k := 32) (hH.lv (by decide)) ef32 (TX1_tie.at 15 rfl) fl1_9 hH rfl rfl (by decide) (by decide) (fun r26 => ?_)
  refine z_ild_2 (TX1_tie.at 16 rfl) ?_
  refine zcf_iast (k := 34) (N := 10) (hH.lv (by decide)) (by decide) rfl (TX1_tie.at 17 rfl) hH hA (by decide) (by omega) (show _ < ((10 : Nat) : Int) by omega) (by omega) (fun h g30 e1 e2 hH hA => ?_)
  have eg33 := (e1 33 (by decide)).trans eg33
  rw [eg34] at e2; have eg34 := e2
  have eg35 := (e1 35 (by decide)).trans eg35
  have eg36 := (e1 36 (by decide)).trans eg36
  have hgE := hgE.put e1 (by decide)
  refine z_ald_0 (TX1_tie.at 18 rfl) ?_
  refine zc_getA (m := 1) (s := 3) (k := 35) (hH.lv (by decide)) (TX1_tie.at 19 rfl) fl1_22 hH rfl rfl (by decide) (by decide) ?_
  refine z_ald_0 (TX1_tie.at 20 rfl) ?_
  refine zc_getIE (m := 1) (s := 0) (k := 32) (hH.lv (by decide)) ef32 (TX1_tie.at 21 rfl) fl1_9 hH rfl rfl (by decide) (by decide) (fun r36 => ?_)
  refine z_ild_3 (TX1_tie.at 22 rfl) ?_
  refine zcf_iast (k := 35) (N := 10) (hH.lv (by decide)) (by decide) rfl (TX1_tie.at 23 rfl) hH hA (by decide) (by omega) (show _ < ((10 : Nat) : Int) by omega) (by omega) (fun h g40 e1 e2 hH hA => ?_)
  have eg33 := (e1 33 (by decide)).trans eg33
  have eg34 := (e1 34 (by decide)).trans eg34
  rw [eg35] at e2; have eg35 := e2
  have eg36 := (e1 36 (by decide)).trans eg36
  have hgE := hgE.put e1 (by decide)
  refine z_ald_0 (TX1_tie.at 24 rfl) ?_
  refine zc_getA (m := 1) (s := 4) (k := 36) (hH.lv (by decide)) (TX1_tie.at 25 rfl) fl1_25 hH rfl rfl (by decide) (by decide) ?_
  refine z_ald_0 (TX1_tie.at 26 rfl) ?_
  refine zc_getIE (m := 1) (s := 0) (k := 32) (hH.lv (by decide)) ef32 (TX1_tie.at 27 rfl) fl1_9 hH rfl rfl (by decide) (by decide) (fun r46 => ?_)
  refine z_ild_4 (TX1_tie.at 28 rfl) ?_
  refine zcf_iast (k := 36) (N := 10) (hH.lv (by decide)) (by decide) rfl (TX1_tie.at 29 rfl) hH hA (by decide) (by omega) (show _ < ((10 : Nat) : Int) by omega) (by omega) (fun h g51 e1 e2 hH hA => ?_)
  have eg33 := (e1 33 (by decide)).trans eg33
  have eg34 := (e1 34 (by decide)).trans eg34
  have eg35 := (e1 35 (by decide)).trans eg35
  rw [eg36] at e2; have eg36 := e2
  have hgE := hgE.put e1 (by decide)
  refine z_ald_0 (TX1_tie.at 30 rfl) ?_
  refine z_dup rfl (TX1_tie.at 31 rfl) ?_
  refine zc_getIE (m := 1) (s := 0) (k := 32) (hH.lv (by decide)) ef32 (TX1_tie.at 32 rfl) fl1_9 hH rfl rfl (by decide) (by decide) (fun r54 => ?_)
  refine z_iconst (TX1_tie.at 33 rfl) ?_
  refine z_iadd (TX1_tie.at 34 rfl) ?_
  refine zc_putI (m := 1) (s := 0) (k := 32) (hH.lv (by decide)) (TX1_tie.at 35 rfl) fp1_9 hH hA rfl rfl (by decide) (by decide) (by first | omega | exact b2i_01 _) (fun h f59 e1 e2 hH hA => ?_)
  have ef32 := e2
  have hfE := hfE.put e1 (by decide)
  refine z_ald_0 (TX1_tie.at 36 rfl) ?_
  refine zc_getIE (m := 1) (s := 0) (k := 32) (hH.lv (by decide)) ef32 (TX1_tie.at 37 rfl) fl1_9 hH rfl rfl (by decide) (by decide) (fun r63 => ?_)
  refine z_iconst (TX1_tie.at 38 rfl) ?_
  refine z_isub (TX1_tie.at 39 rfl) ?_
  refine zc_iret (TX1_tie.at 40 rfl) rfl hH hA (by omega) ?_
  exact ⟨⟨by omega, ef32, eg33, eg34, eg35, eg36⟩, hfE, hgE, rfl⟩

set_option maxHeartbeats 4000000 in
set_option maxRecDepth 100000 in
theorem c_swapL {l : Launch} {E : cE} {f : mF} {g j : mA} {Ln : Int → Int} {a b : Int}  (eg35 : g 35 = Ln) (ha : zIn a) (hb : zIn b) (a0 : 0 ≤ a) (a1 : a ≤ 9) (b0 : 0 ≤ b) (b1 : b ≤ 9) : CM l E MX1_swapLengths 0 [.ref (E.1 63), vI a, vI b] f g j (PV (fun f' g' j' => (g' 35 = iu (iu Ln a (Ln b)) b (Ln a)) ∧ eqx [] f f' ∧ eqx [35] g g' ∧ j' = j)) := by
  refine CM.intro [some (.ref (E.1 63)), some (vI a), some (vI b), none] (by decide) (Nat.le_of_ble_eq_true rfl) rfl (fun d hd h0 h hH hA => ?_)
  have hfE : eqx [] f f := eqx.rf
  have hgE : eqx [35] g g := eqx.rf
  refine z_ald_0 (TX1_swapLengths.at 0 rfl) ?_
  refine zc_getA (m := 1) (s := 3) (k := 35) (hH.lv (by decide)) (TX1_swapLengths.at 1 rfl) fl1_22 hH rfl rfl (by decide) (by decide) ?_
  refine z_ild_1 (TX1_swapLengths.at 2 rfl) ?_
  refine zcf_iald (k := 35) (N := 10) (hH.lv (by decide)) (by decide) rfl eg35 (TX1_swapLengths.at 3 rfl) hH (by decide) (by omega) (show _ < ((10 : Nat) : Int) by omega) (fun r5 => ?_)
  refine z_ist_3 (TX1_swapLengths.at 4 rfl) (Nat.le_of_ble_eq_true rfl) rfl ?_
  refine z_ald_0 (TX1_swapLengths.at 5 rfl) ?_
  refine zc_getA (m := 1) (s := 3) (k := 35) (hH.lv (by decide)) (TX1_swapLengths.at 6 rfl) fl1_22 hH rfl rfl (by decide) (by decide) ?_
  refine z_ild_1 (TX1_swapLengths.at 7 rfl) ?_
  refine z_ald_0 (TX1_swapLengths.at 8 rfl) ?_
  refine zc_getA (m := 1) (s := 3) (k := 35) (hH.lv (by decide)) (TX1_swapLengths.at 9 rfl) fl1_22 hH rfl rfl (by decide) (by decide) ?_
  refine z_ild_2 (TX1_swapLengths.at 10 rfl) ?_
  refine zcf_iald (k := 35) (N := 10) (hH.lv (by decide)) (by decide) rfl eg35 (TX1_swapLengths.at 11 rfl) hH (by decide) (by omega) (show _ < ((10 : Nat) : Int) by omega) (fun r17 => ?_)
  refine zcf_iast (k := 35) (N := 10) (hH.lv (by decide)) (by decide) rfl (TX1_swapLengths.at 12 rfl) hH hA (by decide) (by omega) (show _ < ((10 : Nat) : Int) by omega) (by omega) (fun h g18 e1 e2 hH hA => ?_)
  rw [eg35] at e2; have eg35 := e2
  have hgE := hgE.put e1 (by decide)
  refine z_ald_0 (TX1_swapLengths.at 13 rfl) ?_
  refine zc_getA (m := 1) (s := 3) (k := 35) (hH.lv (by decide)) (TX1_swapLengths.at 14 rfl) fl1_22 hH rfl rfl (by decide) (by decide) ?_
  refine z_ild_2 (TX1_swapLengths.at 15 rfl) ?_
  refine z_ild_3 (TX1_swapLengths.at 16 rfl) ?_
  refine zcf_iast (k := 35) (N := 10) (hH.lv (by decide)) (by decide) rfl (TX1_swapLengths.at 17 rfl) hH hA (by decide) (by omega) (show _ < ((10 : Nat) : Int) by omega) (by omega) (fun h g25 e1 e2 hH hA => ?_)
  rw [eg35] at e2; have eg35 := e2
  have hgE := hgE.put e1 (by decide)
  refine zc_vret (TX1_swapLengths.at 18 rfl) rfl hH hA ?_
  exact ⟨eg35, hfE, hgE, rfl⟩

set_option maxHeartbeats 4000000 in
set_option maxRecDepth 100000 in
theorem lp_cmat {l : Launch} {E : cE} {d : Nat} {Pz : Option Value → zH → Prop} {h0 : zH} {f0 : mF} {g0 : mA} {j : mA}  {Mt : Int → Int} (kx : ∀ (f : mF) (g : mA) (h : zH), eqx [] f0 f → eqx [] g0 g → HC E f g j h → cAg E h0 h → Z l MX1_matches d 0 0 Pz 29 [some (.ref (E.1 63)), some (vI (sm (fun k => b2i (Mt k ≠ -1)) 8)), some (vI 8)] [] h 0 0)  : ∀ (n : Nat) (i : Int) (s : Int) (f : mF) (g : mA) (h : zH) (i0 : 0 ≤ i) (i1 : i ≤ 8) (i2 : 8 < i + n) (es : s = sm (fun k => b2i (Mt k ≠ -1)) i) (eg38 : g 38 = Mt) (hfE : eqx [] f0 f) (hgE : eqx [] g0 g) (hH : HC E f g j h) (hA : cAg E h0 h), Z l MX1_matches d 0 0 Pz 4 [some (.ref (E.1 63)), some (vI s), some (vI i)] [] h 0 0 := by
  intro n
  induction n with
  | zero => intro i s f g h i0 i1 i2 es eg38 hfE hgE hH hA; exfalso; omega
  | succ n ih =>
    intro i s f g h i0 i1 i2 es eg38 hfE hgE hH hA
    have hs := sm_in (p := fun k => b2i (Mt k ≠ -1)) i0 (fun t _ _ => by have := b2i_01 (Mt t ≠ -1); omega)
    rw [← es] at hs
    refine z_ild_2 (TX1_matches.at 4 rfl) ?_
    refine z_bipush (by decide) (TX1_matches.at 5 rfl) ?_
    refine z_icmp_ge (tgt := 29) (TX1_matches.at 6 rfl) rfl (by omega) (by omega) (fun c1 => ?_) (fun c1 => ?_)
    · skip
      obtain rfl : i = 8 := by omega
      rw [es]
      exact kx _ _ _ hfE hgE hH hA
    · skip
      refine z_ald_0 (TX1_matches.at 7 rfl) ?_
      refine zc_getA (m := 1) (s := 6) (k := 38) (hH.lv (by decide)) (TX1_matches.at 8 rfl) fl1_31 hH rfl rfl (by decide) (by decide) ?_
      refine z_ild_2 (TX1_matches.at 9 rfl) ?_
      refine zcf_iald (k := 38) (N := 8) (hH.lv (by decide)) (by decide) rfl eg38 (TX1_matches.at 10 rfl) hH (by decide) (by omega) (show _ < ((8 : Nat) : Int) by omega) (fun r15 => ?_)
      refine z_iconst (TX1_matches.at 11 rfl) ?_
      refine z_icmp_eq (tgt := 23) (TX1_matches.at 12 rfl) rfl (by omega) (by omega) (fun c2 => ?_) (fun c2 => ?_)
      · skip
        refine z_iinc_2 (TX1_matches.at 14 rfl) (Nat.le_of_ble_eq_true rfl) rfl ?_
        refine z_goto (tgt := 4) (TX1_matches.at 15 rfl) rfl ?_
        exact ih (i + 1) _ _ _ _ (by omega) (by omega) (by omega) (by rw [es, sm_s i0]; first | (rw [b2i_t (by omega)]; done) | (rw [b2i_f (by omega)]; omega)) eg38 hfE hgE hH hA
      · skip
        refine z_iinc_1 (TX1_matches.at 13 rfl) (Nat.le_of_ble_eq_true rfl) rfl ?_
        refine z_iinc_2 (TX1_matches.at 14 rfl) (Nat.le_of_ble_eq_true rfl) rfl ?_
        refine z_goto (tgt := 4) (TX1_matches.at 15 rfl) rfl ?_
        exact ih (i + 1) _ _ _ _ (by omega) (by omega) (by omega) (by rw [es, sm_s i0]; first | (rw [b2i_t (by omega)]; done) | (rw [b2i_f (by omega)]; omega)) eg38 hfE hgE hH hA

set_option maxHeartbeats 4000000 in
set_option maxRecDepth 100000 in
theorem c_matches {l : Launch} {E : cE} {f : mF} {g j : mA} {Mt : Int → Int}  (eg38 : g 38 = Mt)  : CM l E MX1_matches 0 [.ref (E.1 63)] f g j (PI (fun r f' g' j' => (r = sm (fun k => b2i (Mt k ≠ -1)) 8) ∧ eqx [] f f' ∧ eqx [] g g' ∧ j' = j)) := by
  refine CM.intro [some (.ref (E.1 63)), none, none] (by decide) (Nat.le_of_ble_eq_true rfl) rfl (fun d hd h0 h hH hA => ?_)
  have hfE : eqx [] f f := eqx.rf
  have hgE : eqx [] g g := eqx.rf
  have hs := sm_in (p := fun k => b2i (Mt k ≠ -1)) (i := 8) (by decide) (fun t _ _ => by have := b2i_01 (Mt t ≠ -1); omega)
  refine z_iconst (TX1_matches.at 0 rfl) ?_
  refine z_ist_1 (TX1_matches.at 1 rfl) (Nat.le_of_ble_eq_true rfl) rfl ?_
  refine z_iconst (TX1_matches.at 2 rfl) ?_
  refine z_ist_2 (TX1_matches.at 3 rfl) (Nat.le_of_ble_eq_true rfl) rfl ?_
  refine lp_cmat (fun f4 g4 h  xf xg hH hA => ?_) 9 0 0 _ _ _ (by omega) (by omega) (by omega) rfl eg38 eqx.rf eqx.rf hH hA
  have hfE := hfE.trans xf (by decide)
  have eg38 := (xg 38 (by decide)).trans eg38
  have hgE := hgE.trans xg (by decide)
  refine z_ild_1 (TX1_matches.at 16 rfl) ?_
  refine zc_iret (TX1_matches.at 17 rfl) rfl hH hA (by omega) ?_
  exact ⟨rfl, hfE, hgE, rfl⟩

theorem zxor_31 {s t : Int} (hs : z31 s) (ht : z31 t) : z31 (zxor s t) := by
  rw [zxor_nat hs ht]
  have h : s.toNat ^^^ t.toNat < 2 ^ 31 := Nat.xor_lt_two_pow (by omega) (by omega)
  exact ⟨by omega, by omega⟩
set_option maxHeartbeats 4000000 in
set_option maxRecDepth 100000 in
theorem c_happen {l : Launch} {E : cE} {f : mF} {g j : mA} {Mt : Int → Int} {Tm : Int → Int} {dp : Int} {w x k : Int}  (eg102 : g 102 = Mt) (eg108 : g 108 = Tm) (ef101 : f 101 = dp) (hw : zIn w) (hx : zIn x) (hk : zIn k) (x0 : 0 ≤ x ∧ x ≤ 9) (k0 : 0 ≤ k ∧ k ≤ 7) (hdp : z31 dp) (tm0 : 0 ≤ Tm 0 ∧ Tm 0 ≤ 998) : CM l E MX1_happen 0 [.ref (E.1 127), vI w, vI x, vI k] f g j (PV (fun f' g' j' => (f' 101 = (if w = 0 then zxor dp (zshl 1 x) else dp) ∧ g' 102 = (if w = 1 ∧ Mt k = -1 then iu Mt k (Tm 0) else Mt) ∧ g' 108 = iu Tm 0 (Tm 0 + 1)) ∧ eqx [101] f f' ∧ eqx [102, 108] g g' ∧ j' = j)) := by
  refine CM.intro [some (.ref (E.1 127)), some (vI w), some (vI x), some (vI k)] (by decide) (Nat.le_of_ble_eq_true rfl) rfl (fun d hd h0 h hH hA => ?_)
  have hfE : eqx [101] f f := eqx.rf
  have hgE : eqx [102, 108] g g := eqx.rf
  refine z_ild_1 (TX1_happen.at 0 rfl) ?_
  refine z_if_ne (tgt := 19) (TX1_happen.at 1 rfl) rfl (by omega) (fun c1 => ?_) (fun c1 => ?_)
  · skip
    refine z_ild_1 (TX1_happen.at 11 rfl) ?_
    refine z_iconst (TX1_happen.at 12 rfl) ?_
    refine z_icmp_ne (tgt := 46) (TX1_happen.at 13 rfl) rfl (by omega) (by omega) (fun c2 => ?_) (fun c2 => ?_)
    · skip
      refine z_ald_0 (TX1_happen.at 28 rfl) ?_
      refine zc_getA (m := 3) (s := 12) (k := 108) (hH.lv (by decide)) (TX1_happen.at 29 rfl) fl1_49 hH rfl rfl (by decide) (by decide) ?_
      refine z_iconst (TX1_happen.at 30 rfl) ?_
      refine z_dup2 rfl rfl (TX1_happen.at 31 rfl) ?_
      refine zcf_iald (k := 108) (N := 3) (hH.lv (by decide)) (by decide) rfl eg108 (TX1_happen.at 32 rfl) hH (by decide) (by omega) (show _ < ((3 : Nat) : Int) by omega) (fun r52 => ?_)
      refine z_iconst (TX1_happen.at 33 rfl) ?_
      refine z_iadd (TX1_happen.at 34 rfl) ?_
      refine zcf_iast (k := 108) (N := 3) (hH.lv (by decide)) (by decide) rfl (TX1_happen.at 35 rfl) hH hA (by decide) (by omega) (show _ < ((3 : Nat) : Int) by omega) (by omega) (fun h g55 e1 e2 hH hA => ?_)
      have eg102 := (e1 102 (by decide)).trans eg102
      rw [eg108] at e2; have eg108 := e2
      have hgE := hgE.put e1 (by decide)
      refine zc_vret (TX1_happen.at 36 rfl) rfl hH hA ?_
      exact ⟨by first | (have hw : w = 0 := (by omega); rw [if_pos hw, if_neg (by omega)]; exact ⟨ef101, eg102, eg108⟩) | (have hw : w = 1 ∧ Mt k = -1 := (by omega); rw [if_neg (by omega), if_pos hw]; exact ⟨ef101, eg102, eg108⟩) | (rw [if_neg (by omega), if_neg (by omega)]; exact ⟨ef101, eg102, eg108⟩), hfE, hgE, rfl⟩
    · skip
      refine z_ald_0 (TX1_happen.at 14 rfl) ?_
      refine zc_getA (m := 3) (s := 6) (k := 102) (hH.lv (by decide)) (TX1_happen.at 15 rfl) fl1_31 hH rfl rfl (by decide) (by decide) ?_
      refine z_ild_3 (TX1_happen.at 16 rfl) ?_
      refine zcf_iald (k := 102) (N := 8) (hH.lv (by decide)) (by decide) rfl eg102 (TX1_happen.at 17 rfl) hH (by decide) (by omega) (show _ < ((8 : Nat) : Int) by omega) (fun r29 => ?_)
      refine z_iconst (TX1_happen.at 18 rfl) ?_
      refine z_icmp_ne (tgt := 46) (TX1_happen.at 19 rfl) rfl (by omega) (by omega) (fun c3 => ?_) (fun c3 => ?_)
      · skip
        refine z_ald_0 (TX1_happen.at 28 rfl) ?_
        refine zc_getA (m := 3) (s := 12) (k := 108) (hH.lv (by decide)) (TX1_happen.at 29 rfl) fl1_49 hH rfl rfl (by decide) (by decide) ?_
        refine z_iconst (TX1_happen.at 30 rfl) ?_
        refine z_dup2 rfl rfl (TX1_happen.at 31 rfl) ?_
        refine zcf_iald (k := 108) (N := 3) (hH.lv (by decide)) (by decide) rfl eg108 (TX1_happen.at 32 rfl) hH (by decide) (by omega) (show _ < ((3 : Nat) : Int) by omega) (fun r52 => ?_)
        refine z_iconst (TX1_happen.at 33 rfl) ?_
        refine z_iadd (TX1_happen.at 34 rfl) ?_
        refine zcf_iast (k := 108) (N := 3) (hH.lv (by decide)) (by decide) rfl (TX1_happen.at 35 rfl) hH hA (by decide) (by omega) (show _ < ((3 : Nat) : Int) by omega) (by omega) (fun h g55 e1 e2 hH hA => ?_)
        have eg102 := (e1 102 (by decide)).trans eg102
        rw [eg108] at e2; have eg108 := e2
        have hgE := hgE.put e1 (by decide)
        refine zc_vret (TX1_happen.at 36 rfl) rfl hH hA ?_
        exact ⟨by first | (have hw : w = 0 := (by omega); rw [if_pos hw, if_neg (by omega)]; exact ⟨ef101, eg102, eg108⟩) | (have hw : w = 1 ∧ Mt k = -1 := (by omega); rw [if_neg (by omega), if_pos hw]; exact ⟨ef101, eg102, eg108⟩) | (rw [if_neg (by omega), if_neg (by omega)]; exact ⟨ef101, eg102, eg108⟩), hfE, hgE, rfl⟩
      · skip
        refine z_ald_0 (TX1_happen.at 20 rfl) ?_
        refine zc_getA (m := 3) (s := 6) (k := 102) (hH.lv (by decide)) (TX1_happen.at 21 rfl) fl1_31 hH rfl rfl (by decide) (by decide) ?_
        refine z_ild_3 (TX1_happen.at 22 rfl) ?_
        refine z_ald_0 (TX1_happen.at 23 rfl) ?_
        refine zc_getA (m := 3) (s := 12) (k := 108) (hH.lv (by decide)) (TX1_happen.at 24 rfl) fl1_49 hH rfl rfl (by decide) (by decide) ?_
        refine z_iconst (TX1_happen.at 25 rfl) ?_
        refine zcf_iald (k := 108) (N := 3) (hH.lv (by decide)) (by decide) rfl eg108 (TX1_happen.at 26 rfl) hH (by decide) (by omega) (show _ < ((3 : Nat) : Int) by omega) (fun r44 => ?_)
        refine zcf_iast (k := 102) (N := 8) (hH.lv (by decide)) (by decide) rfl (TX1_happen.at 27 rfl) hH hA (by decide) (by omega) (show _ < ((8 : Nat) : Int) by omega) (by omega) (fun h g45 e1 e2 hH hA => ?_)
        rw [eg102] at e2; have eg102 := e2
        have eg108 := (e1 108 (by decide)).trans eg108
        have hgE := hgE.put e1 (by decide)
        refine z_ald_0 (TX1_happen.at 28 rfl) ?_
        refine zc_getA (m := 3) (s := 12) (k := 108) (hH.lv (by decide)) (TX1_happen.at 29 rfl) fl1_49 hH rfl rfl (by decide) (by decide) ?_
        refine z_iconst (TX1_happen.at 30 rfl) ?_
        refine z_dup2 rfl rfl (TX1_happen.at 31 rfl) ?_
        refine zcf_iald (k := 108) (N := 3) (hH.lv (by decide)) (by decide) rfl eg108 (TX1_happen.at 32 rfl) hH (by decide) (by omega) (show _ < ((3 : Nat) : Int) by omega) (fun r52 => ?_)
        refine z_iconst (TX1_happen.at 33 rfl) ?_
        refine z_iadd (TX1_happen.at 34 rfl) ?_
        refine zcf_iast (k := 108) (N := 3) (hH.lv (by decide)) (by decide) rfl (TX1_happen.at 35 rfl) hH hA (by decide) (by omega) (show _ < ((3 : Nat) : Int) by omega) (by omega) (fun h g55 e1 e2 hH hA => ?_)
        have eg102 := (e1 102 (by decide)).trans eg102
        rw [eg108] at e2; have eg108 := e2
        have hgE := hgE.put e1 (by decide)
        refine zc_vret (TX1_happen.at 36 rfl) rfl hH hA ?_
        exact ⟨by first | (have hw : w = 0 := (by omega); rw [if_pos hw, if_neg (by omega)]; exact ⟨ef101, eg102, eg108⟩) | (have hw : w = 1 ∧ Mt k = -1 := (by omega); rw [if_neg (by omega), if_pos hw]; exact ⟨ef101, eg102, eg108⟩) | (rw [if_neg (by omega), if_neg (by omega)]; exact ⟨ef101, eg102, eg108⟩), hfE, hgE, rfl⟩
  · skip
    refine z_ald_0 (TX1_happen.at 2 rfl) ?_
    refine z_dup rfl (TX1_happen.at 3 rfl) ?_
    refine zc_getIE (m := 3) (s := 5) (k := 101) (hH.lv (by decide)) ef101 (TX1_happen.at 4 rfl) fl1_28 hH rfl rfl (by decide) (by decide) (fun r6 => ?_)
    refine z_iconst (TX1_happen.at 5 rfl) ?_
    refine z_ild_2 (TX1_happen.at 6 rfl) ?_
    refine z_ishl (TX1_happen.at 7 rfl) ?_
    have hz1 := shl_31 (i := x) (by omega) (by omega)
    have hz2 := zxor_31 hdp hz1
    refine z_ixor (TX1_happen.at 8 rfl) ?_
    refine zc_putI (m := 3) (s := 5) (k := 101) (hH.lv (by decide)) (TX1_happen.at 9 rfl) fp1_28 hH hA rfl rfl (by decide) (by decide) (by first | omega | exact b2i_01 _) (fun h f13 e1 e2 hH hA => ?_)
    have ef101 := e2
    have hfE := hfE.put e1 (by decide)
    refine z_goto (tgt := 46) (TX1_happen.at 10 rfl) rfl ?_
    refine z_ald_0 (TX1_happen.at 28 rfl) ?_
    refine zc_getA (m := 3) (s := 12) (k := 108) (hH.lv (by decide)) (TX1_happen.at 29 rfl) fl1_49 hH rfl rfl (by decide) (by decide) ?_
    refine z_iconst (TX1_happen.at 30 rfl) ?_
    refine z_dup2 rfl rfl (TX1_happen.at 31 rfl) ?_
    refine zcf_iald (k := 108) (N := 3) (hH.lv (by decide)) (by decide) rfl eg108 (TX1_happen.at 32 rfl) hH (by decide) (by omega) (show _ < ((3 : Nat) : Int) by omega) (fun r52 => ?_)
    refine z_iconst (TX1_happen.at 33 rfl) ?_
    refine z_iadd (TX1_happen.at 34 rfl) ?_
    refine zcf_iast (k := 108) (N := 3) (hH.lv (by decide)) (by decide) rfl (TX1_happen.at 35 rfl) hH hA (by decide) (by omega) (show _ < ((3 : Nat) : Int) by omega) (by omega) (fun h g55 e1 e2 hH hA => ?_)
    have eg102 := (e1 102 (by decide)).trans eg102
    rw [eg108] at e2; have eg108 := e2
    have hgE := hgE.put e1 (by decide)
    refine zc_vret (TX1_happen.at 36 rfl) rfl hH hA ?_
    exact ⟨by first | (have hw : w = 0 := (by omega); rw [if_pos hw, if_neg (by omega)]; exact ⟨ef101, eg102, eg108⟩) | (have hw : w = 1 ∧ Mt k = -1 := (by omega); rw [if_neg (by omega), if_pos hw]; exact ⟨ef101, eg102, eg108⟩) | (rw [if_neg (by omega), if_neg (by omega)]; exact ⟨ef101, eg102, eg108⟩), hfE, hgE, rfl⟩

