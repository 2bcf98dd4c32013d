/-! ===== the class: rows over its nodes ===== -/
theorem HC.lv {E : cE} {f : mF} {g j : mA} {h : zH} (hH : HC E f g j h) {m : Nat} (hm : m < 14 ∧ m ≠ 4 ∧ m ≠ 5) : E.2.1 m = true := hH.2.2.2.1 m hm.1 hm.2.1 hm.2.2
theorem HC.len {E : cE} {f : mF} {g j : mA} {h : zH} (hH : HC E f g j h) {k N : Nat} (hk : k < 448) (hN : cLn (cCls (k / 32)) (k % 32) = N) : E.2.2 k = N := (hH.2.2.2.2.1 k hk).trans hN
section CF
variable {l : Launch} {M M' : zM} {d : Nat} {Pz : Option Value → zH → Prop} {pc pc' : Nat} {L : List (Option Value)} {S : List Value} {h h0 : zH} {E : cE} {f : mF} {g j : mA}
theorem zc_getIE {idx ci m s k : Nat} {x : Int} (hm : E.2.1 m = true) (e : f k = x) (hd : zAt M 3 pc pc' (.getfield idx)) (hf : zFl M.1.cls idx ci s) (hH : HC E f g j h) (hc : cCls m = ci) (hk : 32 * m + s = k) (hs : s < cNf ci) (ht : cTg ci s = 9) (K : zIn x → Z l M d 0 0 Pz pc' L (vI x :: S) h 0 0) : Z l M d 0 0 Pz pc L (.ref (E.1 (32 * m + 31)) :: S) h 0 0 := by
  subst e
  exact zc_getI hm hd hf hH hc hk hs ht K
theorem zcf_iald {k N : Nat} {i : Int} {G : Int → Int} (hm : E.2.1 (k / 32) = true) (hk : k < 448) (hN : cLn (cCls (k / 32)) (k % 32) = N) (e : g k = G) (hd : zAt M 1 pc pc' .iaload) (hH : HC E f g j h) (ht : cTag k = 0) (hi0 : 0 ≤ i) (hi1 : i < (N : Int)) (K : zIn (G i) → Z l M d 0 0 Pz pc' L (vI (G i) :: S) h 0 0) : Z l M d 0 0 Pz pc L (vI i :: .ref (E.1 k) :: S) h 0 0 :=
  zc_iald hm e hd hH ht hi0 (by rw [hH.len hk hN]; exact hi1) K
theorem zcf_lald {k N : Nat} {i : Int} {G : Int → Int} (hm : E.2.1 (k / 32) = true) (hk : k < 448) (hN : cLn (cCls (k / 32)) (k % 32) = N) (e : j k = G) (hd : zAt M 1 pc pc' .laload) (hH : HC E f g j h) (ht : cTag k = 1) (hi0 : 0 ≤ i) (hi1 : i < (N : Int)) (K : zInL (G i) → Z l M d 0 0 Pz pc' L (vL (G i) :: S) h 0 0) : Z l M d 0 0 Pz pc L (vI i :: .ref (E.1 k) :: S) h 0 0 :=
  zc_lald hm e hd hH ht hi0 (by rw [hH.len hk hN]; exact hi1) K
theorem zcf_iast {k N : Nat} {i x : Int} (hm : E.2.1 (k / 32) = true) (hk : k < 448) (hN : cLn (cCls (k / 32)) (k % 32) = N) (hd : zAt M 1 pc pc' .iastore) (hH : HC E f g j h) (hA : cAg E h0 h) (ht : cTag k = 0) (hi0 : 0 ≤ i) (hi1 : i < (N : Int)) (hx : zIn x) (K : ∀ (h : zH) (g1 : mA), (∀ q, q ≠ k → g1 q = g q) → g1 k = iu (g k) i x → HC E f g1 j h → cAg E h0 h → Z l M d 0 0 Pz pc' L S h 0 0) : Z l M d 0 0 Pz pc L (vI x :: vI i :: .ref (E.1 k) :: S) h 0 0 :=
  zc_iast hm hd hH hA ht hi0 (by rw [hH.len hk hN]; exact hi1) hx K
theorem zcf_last {k N : Nat} {i x : Int} (hm : E.2.1 (k / 32) = true) (hk : k < 448) (hN : cLn (cCls (k / 32)) (k % 32) = N) (hd : zAt M 1 pc pc' .lastore) (hH : HC E f g j h) (hA : cAg E h0 h) (ht : cTag k = 1) (hi0 : 0 ≤ i) (hi1 : i < (N : Int)) (hx : zInL x) (K : ∀ (h : zH) (j1 : mA), (∀ q, q ≠ k → j1 q = j q) → j1 k = iu (j k) i x → HC E f g j1 h → cAg E h0 h → Z l M d 0 0 Pz pc' L S h 0 0) : Z l M d 0 0 Pz pc L (vL x :: vI i :: .ref (E.1 k) :: S) h 0 0 :=
  zc_last hm hd hH hA ht hi0 (by rw [hH.len hk hN]; exact hi1) hx K
theorem zcf_alen {k N : Nat} (hm : E.2.1 (k / 32) = true) (hk : k < 448) (hN : cLn (cCls (k / 32)) (k % 32) = N) (hd : zAt M 1 pc pc' .arraylength) (hH : HC E f g j h) (ht : cTag k < 6) (K : Z l M d 0 0 Pz pc' L (vI (N : Int) :: S) h 0 0) : Z l M d 0 0 Pz pc L (.ref (E.1 k) :: S) h 0 0 :=
  zc_alen hm hd hH ht (by rw [hH.len hk hN]; exact K)
/-- a node with a name, of the class Script -/
theorem zcs_iald {m s : Nat} {i : Int} {G : Int → Int} (hm : E.2.1 m = true) (hc : cCls m = 4) (e : g (32 * m + s) = G) (hd : zAt M 1 pc pc' .iaload) (hH : HC E f g j h) (hs : s < 32) (ht : cTg 4 s = 0) (hi0 : 0 ≤ i) (hi1 : i < E.2.2 (32 * m + s)) (K : zIn (G i) → Z l M d 0 0 Pz pc' L (vI (G i) :: S) h 0 0) : Z l M d 0 0 Pz pc L (vI i :: .ref (E.1 (32 * m + s)) :: S) h 0 0 := by
  have e1 : (32 * m + s) / 32 = m := by omega
  have e2 : (32 * m + s) % 32 = s := by omega
  exact zc_iald (by rw [e1]; exact hm) e hd hH (by unfold cTag; rw [e1, e2, hc]; exact ht) hi0 hi1 K
theorem cpy_va {F G : Int → Int} {sp dp n : Int} (h0 : 0 ≤ sp) (h1 : 0 ≤ dp) (h2 : 0 ≤ n) : va_cpy (fun i : Nat => Int32.ofInt (F i)) (fun i : Nat => Int32.ofInt (G i)) sp.toNat dp.toNat n.toNat = fun i : Nat => Int32.ofInt (cpy G F dp sp n i) := by
  funext i
  unfold va_cpy cpy
  by_cases q : dp.toNat ≤ i ∧ i < dp.toNat + n.toNat
  · rw [if_pos q, if_pos (by omega)]
    show Int32.ofInt (F ((sp.toNat + (i - dp.toNat) : Nat) : Int)) = _
    rw [show ((sp.toNat + (i - dp.toNat) : Nat) : Int) = (i : Int) - dp + sp by omega]
  · rw [if_neg q, if_neg (by omega)]
theorem cpy_in {F G : Int → Int} {a b n : Int} (h1 : ∀ t, zIn (F t)) (h2 : ∀ t, zIn (G t)) : ∀ t, zIn (cpy G F a b n t) := by
  intro t
  unfold cpy
  split
  · exact h1 _
  · exact h2 _
theorem zcf_copy {idx ks kd Ns Nd : Nat} {sp dp n : Int} {F : Int → Int} (hms : E.2.1 (ks / 32) = true) (hmd : E.2.1 (kd / 32) = true) (hks : ks < 448) (hkd : kd < 448) (hNs : cLn (cCls (ks / 32)) (ks % 32) = Ns) (hNd : cLn (cCls (kd / 32)) (kd % 32) = Nd) (e : g ks = F) (hd : zAt M 3 pc pc' (.invokestatic idx)) (hc : zCpy M.1.cls idx) (hH : HC E f g j h) (hA : cAg E h0 h) (hts : cTag ks = 0) (htd : cTag kd = 0) (hs : 0 ≤ sp) (hdp : 0 ≤ dp) (hn : 0 ≤ n) (b0 : sp + n ≤ (Ns : Int)) (b1 : dp + n ≤ (Nd : Int)) (hdd : 1 ≤ d) (K : ∀ (h : zH) (g1 : mA), (∀ q, q ≠ kd → g1 q = g q) → g1 kd = cpy (g kd) F dp sp n → HC E f g1 j h → cAg E h0 h → Z l M d 0 0 Pz pc' L [] h 0 0) : Z l M d 0 0 Pz pc L (vI n :: vI dp :: .ref (E.1 kd) :: vI sp :: .ref (E.1 ks) :: []) h 0 0 := by
  subst e
  have q := hH.putC (g' := va_up g kd (cpy (g kd) (g ks) dp sp n)) (j' := j) (k := kd) hA hmd (by rw [htd]; decide) (fun q e => va_up_ne _ _ e) (fun _ _ => rfl) (by rw [va_up_self]; exact cpy_in (hH.2.2.2.2.2.2.2.1 ks) (hH.2.2.2.2.2.2.2.1 kd)) (hH.2.2.2.2.2.2.2.2 kd)
  refine z_copy hd hc (hH.arrI hms hts) (hH.arrI hmd htd) hs hdp hn (by rw [hH.len hks hNs]; exact b0) (by rw [hH.len hkd hNd]; exact b1) (hH.2.2.2.2.2.1 ks) (hH.2.2.2.2.2.1 kd) hdd rfl ?_
  rw [cpy_va hs hdp hn]
  rw [cCell, if_neg (by rw [htd]; decide), if_pos htd, va_up_self] at q
  exact K _ _ (fun _ e => va_up_ne _ _ e) (va_up_self _ _ _) q.1 q.2
end CF
set_option maxHeartbeats 4000000 in
set_option maxRecDepth 100000 in
theorem c_isKnot {l : Launch} {k : Int} (hk : zIn k) : SI l MX7_isKnot 0 [vI k] (b2i (0 ≤ k ∧ k ≤ 7)) := by
  refine SI.intro [some (vI k)] (by first | omega | (split <;> omega) | (unfold b2i; split <;> omega)) (by decide) (Nat.le_of_ble_eq_true rfl) rfl (fun d hd h => ?_)
  refine z_ild_0 (TX7_isKnot.at 0 rfl) ?_
  refine z_if_lt (tgt := 14) (TX7_isKnot.at 1 rfl) rfl (by omega) (fun c1 => ?_) (fun c1 => ?_)
  · skip
    refine z_iconst (TX7_isKnot.at 7 rfl) ?_
    exact zs_zret (TX7_isKnot.at 8 rfl) rfl (by first | omega | exact b2i_01 _) (by first | (rw [b2i_t (by omega)]; done) | (rw [b2i_f (by omega)]; done))
  · skip
    refine z_ild_0 (TX7_isKnot.at 2 rfl) ?_
    refine z_bipush (by decide) (TX7_isKnot.at 3 rfl) ?_
    refine z_icmp_ge (tgt := 14) (TX7_isKnot.at 4 rfl) rfl (by omega) (by omega) (fun c2 => ?_) (fun c2 => ?_)
    · skip
      refine z_iconst (TX7_isKnot.at 7 rfl) ?_
      exact zs_zret (TX7_isKnot.at 8 rfl) rfl (by first | omega | exact b2i_01 _) (by first | (rw [b2i_t (by omega)]; done) | (rw [b2i_f (by omega)]; done))
    · skip
      refine z_iconst (TX7_isKnot.at 5 rfl) ?_
      refine z_goto (tgt := 15) (TX7_isKnot.at 6 rfl) rfl ?_
      exact zs_zret (TX7_isKnot.at 8 rfl) rfl (by first | omega | exact b2i_01 _) (by first | (rw [b2i_t (by omega)]; done) | (rw [b2i_f (by omega)]; done))

set_option maxHeartbeats 4000000 in
set_option maxRecDepth 100000 in
theorem c_areKnots {l : Launch} {k : Int} (hk : zIn k) : SI l MX7_areKnots 0 [vI k] (b2i (0 ≤ k ∧ k ≤ 255)) := by
  refine SI.intro [some (vI k)] (by first | omega | (split <;> omega) | (unfold b2i; split <;> omega)) (by decide) (Nat.le_of_ble_eq_true rfl) rfl (fun d hd h => ?_)
  refine z_ild_0 (TX7_areKnots.at 0 rfl) ?_
  refine z_if_lt (tgt := 15) (TX7_areKnots.at 1 rfl) rfl (by omega) (fun c1 => ?_) (fun c1 => ?_)
  · skip
    refine z_iconst (TX7_areKnots.at 7 rfl) ?_
    exact zs_zret (TX7_areKnots.at 8 rfl) rfl (by first | omega | exact b2i_01 _) (by first | (rw [b2i_t (by omega)]; done) | (rw [b2i_f (by omega)]; done))
  · skip
    refine z_ild_0 (TX7_areKnots.at 2 rfl) ?_
    refine z_sipush (by decide) (TX7_areKnots.at 3 rfl) ?_
    refine z_icmp_gt (tgt := 15) (TX7_areKnots.at 4 rfl) rfl (by omega) (by omega) (fun c2 => ?_) (fun c2 => ?_)
    · skip
      refine z_iconst (TX7_areKnots.at 7 rfl) ?_
      exact zs_zret (TX7_areKnots.at 8 rfl) rfl (by first | omega | exact b2i_01 _) (by first | (rw [b2i_t (by omega)]; done) | (rw [b2i_f (by omega)]; done))
    · skip
      refine z_iconst (TX7_areKnots.at 5 rfl) ?_
      refine z_goto (tgt := 16) (TX7_areKnots.at 6 rfl) rfl ?_
      exact zs_zret (TX7_areKnots.at 8 rfl) rfl (by first | omega | exact b2i_01 _) (by first | (rw [b2i_t (by omega)]; done) | (rw [b2i_f (by omega)]; done))

set_option maxHeartbeats 4000000 in
set_option maxRecDepth 100000 in
theorem c_isPair {l : Launch} {k : Int} (hk : zIn k) : SI l MX7_isPair 0 [vI k] (b2i (k = 0 ∨ k = 1)) := by
  refine SI.intro [some (vI k)] (by first | omega | (split <;> omega) | (unfold b2i; split <;> omega)) (by decide) (Nat.le_of_ble_eq_true rfl) rfl (fun d hd h => ?_)
  refine z_ild_0 (TX7_isPair.at 0 rfl) ?_
  refine z_if_eq (tgt := 9) (TX7_isPair.at 1 rfl) rfl (by omega) (fun c1 => ?_) (fun c1 => ?_)
  · skip
    refine z_iconst (TX7_isPair.at 5 rfl) ?_
    refine z_goto (tgt := 14) (TX7_isPair.at 6 rfl) rfl ?_
    exact zs_zret (TX7_isPair.at 8 rfl) rfl (by first | omega | exact b2i_01 _) (by first | (rw [b2i_t (by omega)]; done) | (rw [b2i_f (by omega)]; done))
  · skip
    refine z_ild_0 (TX7_isPair.at 2 rfl) ?_
    refine z_iconst (TX7_isPair.at 3 rfl) ?_
    refine z_icmp_ne (tgt := 13) (TX7_isPair.at 4 rfl) rfl (by omega) (by omega) (fun c2 => ?_) (fun c2 => ?_)
    · skip
      refine z_iconst (TX7_isPair.at 7 rfl) ?_
      exact zs_zret (TX7_isPair.at 8 rfl) rfl (by first | omega | exact b2i_01 _) (by first | (rw [b2i_t (by omega)]; done) | (rw [b2i_f (by omega)]; done))
    · skip
      refine z_iconst (TX7_isPair.at 5 rfl) ?_
      refine z_goto (tgt := 14) (TX7_isPair.at 6 rfl) rfl ?_
      exact zs_zret (TX7_isPair.at 8 rfl) rfl (by first | omega | exact b2i_01 _) (by first | (rw [b2i_t (by omega)]; done) | (rw [b2i_f (by omega)]; done))

set_option maxHeartbeats 4000000 in
set_option maxRecDepth 100000 in
theorem c_isSooner {l : Launch} {a b : Int} (ha : zIn a) (hb : zIn b) : SI l MX7_isSooner 0 [vI a, vI b] (b2i (a ≠ -1 ∧ (b = -1 ∨ a < b))) := by
  refine SI.intro [some (vI a), some (vI b)] (by first | omega | (split <;> omega) | (unfold b2i; split <;> omega)) (by decide) (Nat.le_of_ble_eq_true rfl) rfl (fun d hd h => ?_)
  refine z_ild_0 (TX7_isSooner.at 0 rfl) ?_
  refine z_iconst (TX7_isSooner.at 1 rfl) ?_
  refine z_icmp_eq (tgt := 19) (TX7_isSooner.at 2 rfl) rfl (by omega) (by omega) (fun c1 => ?_) (fun c1 => ?_)
  · skip
    refine z_iconst (TX7_isSooner.at 11 rfl) ?_
    exact zs_zret (TX7_isSooner.at 12 rfl) rfl (by first | omega | exact b2i_01 _) (by first | (rw [b2i_t (by omega)]; done) | (rw [b2i_f (by omega)]; done))
  · skip
    refine z_ild_1 (TX7_isSooner.at 3 rfl) ?_
    refine z_iconst (TX7_isSooner.at 4 rfl) ?_
    refine z_icmp_eq (tgt := 15) (TX7_isSooner.at 5 rfl) rfl (by omega) (by omega) (fun c2 => ?_) (fun c2 => ?_)
    · skip
      refine z_iconst (TX7_isSooner.at 9 rfl) ?_
      refine z_goto (tgt := 20) (TX7_isSooner.at 10 rfl) rfl ?_
      exact zs_zret (TX7_isSooner.at 12 rfl) rfl (by first | omega | exact b2i_01 _) (by first | (rw [b2i_t (by omega)]; done) | (rw [b2i_f (by omega)]; done))
    · skip
      refine z_ild_0 (TX7_isSooner.at 6 rfl) ?_
      refine z_ild_1 (TX7_isSooner.at 7 rfl) ?_
      refine z_icmp_ge (tgt := 19) (TX7_isSooner.at 8 rfl) rfl (by omega) (by omega) (fun c3 => ?_) (fun c3 => ?_)
      · skip
        refine z_iconst (TX7_isSooner.at 11 rfl) ?_
        exact zs_zret (TX7_isSooner.at 12 rfl) rfl (by first | omega | exact b2i_01 _) (by first | (rw [b2i_t (by omega)]; done) | (rw [b2i_f (by omega)]; done))
      · skip
        refine z_iconst (TX7_isSooner.at 9 rfl) ?_
        refine z_goto (tgt := 20) (TX7_isSooner.at 10 rfl) rfl ?_
        exact zs_zret (TX7_isSooner.at 12 rfl) rfl (by first | omega | exact b2i_01 _) (by first | (rw [b2i_t (by omega)]; done) | (rw [b2i_f (by omega)]; done))

set_option maxHeartbeats 4000000 in
set_option maxRecDepth 100000 in
theorem c_bit {l : Launch} {s k : Int} (hs : z31 s) (hk : 0 ≤ k ∧ k ≤ 31) : SI l MX7_bit 0 [vI s, vI k] (b2i (bt s k)) := by
  refine SI.intro [some (vI s), some (vI k)] (b2i_in _) (by decide) (Nat.le_of_ble_eq_true rfl) rfl (fun d hd h => ?_)
  refine z_ild_0 (TX7_bit.at 0 rfl) ?_
  refine z_ild_1 (TX7_bit.at 1 rfl) ?_
  refine z_ishr (TX7_bit.at 2 rfl) ?_
  refine z_iconst (TX7_bit.at 3 rfl) ?_
  refine z_iand (TX7_bit.at 4 rfl) ?_
  rw [z_bit hs hk.1 hk.2]
  exact zs_iret (TX7_bit.at 5 rfl) rfl (rfl)

set_option maxHeartbeats 4000000 in
set_option maxRecDepth 100000 in
theorem c_canF {l : Launch} {a b c e : Int} (ha : zIn a) (hb : zIn b) (hc : zIn c) (he : zIn e) : SI l MX1_fuseCanBe 1 [vI a, vI b, vI c, vI e] (b2i (canF a b c e)) := by
  refine SI.intro [some (vI a), some (vI b), some (vI c), some (vI e)] (by first | omega | (split <;> omega) | (unfold b2i; split <;> omega)) (by decide) (Nat.le_of_ble_eq_true rfl) rfl (fun d hd h => ?_)
  refine z_ild_0 (TX1_fuseCanBe.at 0 rfl) ?_
  refine zs_callN1 (c_isKnot (by omega)) (TX1_fuseCanBe.at 1 rfl) c1_76 rfl (by omega) (Nat.le_of_ble_eq_true rfl) (fun r1 => ?_)
  refine z_if_eqB (tgt := 43) (TX1_fuseCanBe.at 2 rfl) rfl (fun c1 => ?_) (fun c1 => ?_)
  · skip
    refine z_iconst (TX1_fuseCanBe.at 22 rfl) ?_
    exact zs_zret (TX1_fuseCanBe.at 23 rfl) rfl (by first | omega | exact b2i_01 _) (by first | (rw [b2i_t (by unfold canF; omega)]; done) | (rw [b2i_f (by unfold canF; omega)]; done))
  · skip
    refine z_ild_1 (TX1_fuseCanBe.at 3 rfl) ?_
    refine zs_callN1 (c_isKnot (by omega)) (TX1_fuseCanBe.at 4 rfl) c1_76 rfl (by omega) (Nat.le_of_ble_eq_true rfl) (fun r8 => ?_)
    refine z_if_eqB (tgt := 43) (TX1_fuseCanBe.at 5 rfl) rfl (fun c2 => ?_) (fun c2 => ?_)
    · skip
      refine z_iconst (TX1_fuseCanBe.at 22 rfl) ?_
      exact zs_zret (TX1_fuseCanBe.at 23 rfl) rfl (by first | omega | exact b2i_01 _) (by first | (rw [b2i_t (by unfold canF; omega)]; done) | (rw [b2i_f (by unfold canF; omega)]; done))
    · skip
      refine z_ild_0 (TX1_fuseCanBe.at 6 rfl) ?_
      refine z_ild_1 (TX1_fuseCanBe.at 7 rfl) ?_
      refine z_icmp_eq (tgt := 43) (TX1_fuseCanBe.at 8 rfl) rfl (by omega) (by omega) (fun c3 => ?_) (fun c3 => ?_)
      · skip
        refine z_iconst (TX1_fuseCanBe.at 22 rfl) ?_
        exact zs_zret (TX1_fuseCanBe.at 23 rfl) rfl (by first | omega | exact b2i_01 _) (by first | (rw [b2i_t (by unfold canF; omega)]; done) | (rw [b2i_f (by unfold canF; omega)]; done))
      · skip
        refine z_ild_2 (TX1_fuseCanBe.at 9 rfl) ?_
        refine z_iconst (TX1_fuseCanBe.at 10 rfl) ?_
        refine z_icmp_lt (tgt := 43) (TX1_fuseCanBe.at 11 rfl) rfl (by omega) (by omega) (fun c4 => ?_) (fun c4 => ?_)
        · skip
          refine z_iconst (TX1_fuseCanBe.at 22 rfl) ?_
          exact zs_zret (TX1_fuseCanBe.at 23 rfl) rfl (by first | omega | exact b2i_01 _) (by first | (rw [b2i_t (by unfold canF; omega)]; done) | (rw [b2i_f (by unfold canF; omega)]; done))
        · skip
          refine z_ild_2 (TX1_fuseCanBe.at 12 rfl) ?_
          refine z_bipush (by decide) (TX1_fuseCanBe.at 13 rfl) ?_
          refine z_icmp_gt (tgt := 43) (TX1_fuseCanBe.at 14 rfl) rfl (by omega) (by omega) (fun c5 => ?_) (fun c5 => ?_)
          · skip
            refine z_iconst (TX1_fuseCanBe.at 22 rfl) ?_
            exact zs_zret (TX1_fuseCanBe.at 23 rfl) rfl (by first | omega | exact b2i_01 _) (by first | (rw [b2i_t (by unfold canF; omega)]; done) | (rw [b2i_f (by unfold canF; omega)]; done))
          · skip
            refine z_ild_3 (TX1_fuseCanBe.at 15 rfl) ?_
            refine z_if_lt (tgt := 43) (TX1_fuseCanBe.at 16 rfl) rfl (by omega) (fun c6 => ?_) (fun c6 => ?_)
            · skip
              refine z_iconst (TX1_fuseCanBe.at 22 rfl) ?_
              exact zs_zret (TX1_fuseCanBe.at 23 rfl) rfl (by first | omega | exact b2i_01 _) (by first | (rw [b2i_t (by unfold canF; omega)]; done) | (rw [b2i_f (by unfold canF; omega)]; done))
            · skip
              refine z_ild_3 (TX1_fuseCanBe.at 17 rfl) ?_
              refine z_iconst (TX1_fuseCanBe.at 18 rfl) ?_
              refine z_icmp_ge (tgt := 43) (TX1_fuseCanBe.at 19 rfl) rfl (by omega) (by omega) (fun c7 => ?_) (fun c7 => ?_)
              · skip
                refine z_iconst (TX1_fuseCanBe.at 22 rfl) ?_
                exact zs_zret (TX1_fuseCanBe.at 23 rfl) rfl (by first | omega | exact b2i_01 _) (by first | (rw [b2i_t (by unfold canF; omega)]; done) | (rw [b2i_f (by unfold canF; omega)]; done))
              · skip
                refine z_iconst (TX1_fuseCanBe.at 20 rfl) ?_
                refine z_goto (tgt := 44) (TX1_fuseCanBe.at 21 rfl) rfl ?_
                exact zs_zret (TX1_fuseCanBe.at 23 rfl) rfl (by first | omega | exact b2i_01 _) (by first | (rw [b2i_t (by unfold canF; omega)]; done) | (rw [b2i_f (by unfold canF; omega)]; done))

/-- four bytes of a number come behind -/
def byT (x : Int) (s : Int) : Int := zand (zshr x s) 255
theorem byT_in (x s : Int) : 0 ≤ byT x s ∧ byT x s ≤ 255 := by
  have key : ∀ w : Int32, 0 ≤ (w &&& 255).toInt ∧ (w &&& 255).toInt ≤ 255 := by
    intro w
    have h : (w &&& 255).toBitVec.toNat ≤ 255 := by
      rw [Int32.toBitVec_and, BitVec.toNat_and]
      exact Nat.and_le_right
    have e := zb_toInt (w := w &&& 255) (n := (w &&& 255).toBitVec.toNat) rfl (by omega)
    omega
  exact key _
set_option maxHeartbeats 4000000 in
set_option maxRecDepth 100000 in
theorem lp_cadd {l : Launch} {E : cE} {d : Nat} {Pz : Option Value → zH → Prop} {h0 : zH} {f0 : mF} {g0 : mA} {j : mA}  {X : Int → Int} {x z : Int} (z0 : 0 ≤ z) (z4 : z ≤ 396) (kx : ∀ (f : mF) (g : mA) (h : zH), f 256 = z + 4 → g 257 = cpF X (fun q => byT x (24 - 8 * q)) z 4 → eqx [256] f0 f → eqx [257] g0 g → HC E f g j h → cAg E h0 h → Z l MX6_add d 0 0 Pz 49 [some (.ref (E.1 287)), some (vI x), some (vI (-8))] [] h 0 0)  : ∀ (n : Nat) (i : Int) (s : Int) (f : mF) (g : mA) (h : zH) (i0 : 0 ≤ i) (i1 : i ≤ 4) (i2 : 4 < i + n) (es : s = 24 - 8 * i) (eg257 : g 257 = cpF X (fun q => byT x (24 - 8 * q)) z i) (ef256 : f 256 = z + i) (hfE : eqx [256] f0 f) (hgE : eqx [257] g0 g) (hH : HC E f g j h) (hA : cAg E h0 h), Z l MX6_add d 0 0 Pz 3 [some (.ref (E.1 287)), some (vI x), some (vI s)] [] h 0 0 := by
  intro n
  induction n with
  | zero => intro i s f g h i0 i1 i2 es eg257 ef256 hfE hgE hH hA; exfalso; omega
  | succ n ih =>
    intro i s f g h i0 i1 i2 es eg257 ef256 hfE hgE hH hA
    refine z_ild_2 (TX6_add.at 2 rfl) ?_
    refine z_if_lt (tgt := 49) (TX6_add.at 3 rfl) rfl (by omega) (fun c1 => ?_) (fun c1 => ?_)
    · skip
      first | (have hi : i = 4 := (by omega); subst hi; rw [es]; exact kx _ _ _ ef256 eg257 hfE hgE hH hA) | (exfalso; omega)
    · skip
      refine z_ald_0 (TX6_add.at 4 rfl) ?_
      refine zc_getIE (m := 8) (s := 0) (k := 256) (hH.lv (by decide)) ef256 (TX6_add.at 5 rfl) fl6_9 hH rfl rfl (by decide) (by decide) (fun r8 => ?_)
      refine z_sipush (by decide) (TX6_add.at 6 rfl) ?_
      refine z_icmp_ge (tgt := 49) (TX6_add.at 7 rfl) rfl (by omega) (by omega) (fun c2 => ?_) (fun c2 => ?_)
      · skip
        first | (have hi : i = 4 := (by omega); subst hi; rw [es]; exact kx _ _ _ ef256 eg257 hfE hgE hH hA) | (exfalso; omega)
      · skip
        refine z_ald_0 (TX6_add.at 8 rfl) ?_
        refine zc_getA (m := 8) (s := 1) (k := 257) (hH.lv (by decide)) (TX6_add.at 9 rfl) fl6_15 hH rfl rfl (by decide) (by decide) ?_
        refine z_ald_0 (TX6_add.at 10 rfl) ?_
        refine zc_getIE (m := 8) (s := 0) (k := 256) (hH.lv (by decide)) ef256 (TX6_add.at 11 rfl) fl6_9 hH rfl rfl (by decide) (by decide) (fun r22 => ?_)
        refine z_ild_1 (TX6_add.at 12 rfl) ?_
        refine z_ild_2 (TX6_add.at 13 rfl) ?_
        refine z_ishr (TX6_add.at 14 rfl) ?_
        refine z_sipush (by decide) (TX6_add.at 15 rfl) ?_
        have hby := byT_in x s
        unfold byT at hby
        refine z_iand (TX6_add.at 16 rfl) ?_
        refine zcf_iast (k := 257) (N := 400) (hH.lv (by decide)) (by decide) rfl (TX6_add.at 17 rfl) hH hA (by decide) (by omega) (show _ < ((400 : Nat) : Int) by omega) (by omega) (fun h g32 e1 e2 hH hA => ?_)
        rw [eg257] at e2; have eg257 := e2
        have hgE := hgE.put e1 (by decide)
        refine z_ald_0 (TX6_add.at 18 rfl) ?_
        refine z_dup rfl (TX6_add.at 19 rfl) ?_
        refine zc_getIE (m := 8) (s := 0) (k := 256) (hH.lv (by decide)) ef256 (TX6_add.at 20 rfl) fl6_9 hH rfl rfl (by decide) (by decide) (fun r35 => ?_)
        refine z_iconst (TX6_add.at 21 rfl) ?_
        refine z_iadd (TX6_add.at 22 rfl) ?_
        refine zc_putI (m := 8) (s := 0) (k := 256) (hH.lv (by decide)) (TX6_add.at 23 rfl) fp6_9 hH hA rfl rfl (by decide) (by decide) (by first | omega | exact b2i_01 _) (fun h f40 e1 e2 hH hA => ?_)
        have ef256 := e2
        have hfE := hfE.put e1 (by decide)
        refine z_iinc_2 (TX6_add.at 24 rfl) (Nat.le_of_ble_eq_true rfl) rfl ?_
        refine z_goto (tgt := 3) (TX6_add.at 25 rfl) rfl ?_
        exact ih (i + 1) _ _ _ _ (by omega) (by omega) (by omega) (by omega) (eg257.trans (cpF_s i0 rfl (by rw [es]; rfl))) (ef256.trans (by omega)) hfE hgE hH hA

set_option maxHeartbeats 4000000 in
set_option maxRecDepth 100000 in
theorem c_add {l : Launch} {E : cE} {f : mF} {g j : mA} {X : Int → Int} {z : Int} {x : Int}  (eg257 : g 257 = X) (ef256 : f 256 = z) (hx : zIn x) (z0 : 0 ≤ z) (z4 : z ≤ 396) : CM l E MX6_add 0 [.ref (E.1 287), vI x] f g j (PV (fun f' g' j' => (f' 256 = z + 4 ∧ g' 257 = cpF X (fun q => byT x (24 - 8 * q)) z 4) ∧ eqx [256] f f' ∧ eqx [257] g g' ∧ j' = j)) := by
  refine CM.intro [some (.ref (E.1 287)), some (vI x), none] (by decide) (Nat.le_of_ble_eq_true rfl) rfl (fun d hd h0 h hH hA => ?_)
  have hfE : eqx [256] f f := eqx.rf
  have hgE : eqx [257] g g := eqx.rf
  refine z_bipush (by decide) (TX6_add.at 0 rfl) ?_
  refine z_ist_2 (TX6_add.at 1 rfl) (Nat.le_of_ble_eq_true rfl) rfl ?_
  refine lp_cadd z0 z4 (fun f3 g3 h ef256 eg257 xf xg hH hA => ?_) 5 0 24 _ _ _ (by omega) (by omega) (by omega) (by omega) (eg257.trans (cpF_0 _ _ _).symm) (ef256.trans (by omega)) eqx.rf eqx.rf hH hA
  have hfE := hfE.trans xf (by decide)
  have hgE := hgE.trans xg (by decide)
  refine zc_vret (TX6_add.at 26 rfl) rfl hH hA ?_
  exact ⟨⟨ef256, eg257⟩, hfE, hgE, rfl⟩

set_option maxHeartbeats 4000000 in
set_option maxRecDepth 100000 in
theorem c_keep {l : Launch} {E : cE} {f : mF} {g j : mA} {D : Int → Int} {O1 : Int → Int} {O2 : Int → Int} {kp : Int} {a b c : Int}  (eg193 : g 193 = D) (eg194 : g 194 = O1) (eg195 : g 195 = O2) (ef192 : f 192 = kp) (ha : zIn a) (hb : zIn b) (hc : zIn c) (k0 : 0 ≤ kp) (k1 : kp ≤ 16) : CM l E MX2_keep 1 [.ref (E.1 223), vI a, vI b, vI c] f g j (PV (fun f' g' j' => (f' 192 = (if kp = 16 then 15 else kp) + 1 ∧ g' 193 = iu (if kp = 16 then cpy D D 0 1 15 else D) (if kp = 16 then 15 else kp) a ∧ g' 194 = iu (if kp = 16 then cpy O1 O1 0 1 15 else O1) (if kp = 16 then 15 else kp) b ∧ g' 195 = iu (if kp = 16 then cpy O2 O2 0 1 15 else O2) (if kp = 16 then 15 else kp) c) ∧ eqx [192] f f' ∧ eqx [193, 194, 195] g g' ∧ j' = j)) := by
  refine CM.intro [some (.ref (E.1 223)), some (vI a), some (vI b), some (vI c)] (by decide) (Nat.le_of_ble_eq_true rfl) rfl (fun d hd h0 h hH hA => ?_)
  have hfE : eqx [192] f f := eqx.rf
  have hgE : eqx [193, 194, 195] g g := eqx.rf
  refine z_ald_0 (TX2_keep.at 0 rfl) ?_
  refine zc_getIE (m := 6) (s := 0) (k := 192) (hH.lv (by decide)) ef192 (TX2_keep.at 1 rfl) fl2_9 hH rfl rfl (by decide) (by decide) (fun r1 => ?_)
  refine z_bipush (by decide) (TX2_keep.at 2 rfl) ?_
  refine z_icmp_lt (tgt := 60) (TX2_keep.at 3 rfl) rfl (by omega) (by omega) (fun c1 => ?_) (fun c1 => ?_)
  · skip
    refine z_ald_0 (TX2_keep.at 31 rfl) ?_
    refine zc_getA (m := 6) (s := 1) (k := 193) (hH.lv (by decide)) (TX2_keep.at 32 rfl) fl2_15 hH rfl rfl (by decide) (by decide) ?_
    refine z_ald_0 (TX2_keep.at 33 rfl) ?_
    refine zc_getIE (m := 6) (s := 0) (k := 192) (hH.lv (by decide)) ef192 (TX2_keep.at 34 rfl) fl2_9 hH rfl rfl (by decide) (by decide) (fun r65 => ?_)
    refine z_ild_1 (TX2_keep.at 35 rfl) ?_
    refine zcf_iast (k := 193) (N := 16) (hH.lv (by decide)) (by decide) rfl (TX2_keep.at 36 rfl) hH hA (by decide) (by omega) (show _ < ((16 : Nat) : Int) by omega) (by omega) (fun h g69 e1 e2 hH hA => ?_)
    rw [eg193] at e2; have eg193 := e2
    have eg194 := (e1 194 (by decide)).trans eg194
    have eg195 := (e1 195 (by decide)).trans eg195
    have hgE := hgE.put e1 (by decide)
    refine z_ald_0 (TX2_keep.at 37 rfl) ?_
    refine zc_getA (m := 6) (s := 2) (k := 194) (hH.lv (by decide)) (TX2_keep.at 38 rfl) fl2_19 hH rfl rfl (by decide) (by decide) ?_
    refine z_ald_0 (TX2_keep.at 39 rfl) ?_
    refine zc_getIE (m := 6) (s := 0) (k := 192) (hH.lv (by decide)) ef192 (TX2_keep.at 40 rfl) fl2_9 hH rfl rfl (by decide) (by decide) (fun r75 => ?_)
    refine z_ild_2 (TX2_keep.at 41 rfl) ?_
    refine zcf_iast (k := 194) (N := 16) (hH.lv (by decide)) (by decide) rfl (TX2_keep.at 42 rfl) hH hA (by decide) (by omega) (show _ < ((16 : Nat) : Int) by omega) (by omega) (fun h g79 e1 e2 hH hA => ?_)
    have eg193 := (e1 193 (by decide)).trans eg193
    rw [eg194] at e2; have eg194 := e2
    have eg195 := (e1 195 (by decide)).trans eg195
    have hgE := hgE.put e1 (by decide)
    refine z_ald_0 (TX2_keep.at 43 rfl) ?_
    refine zc_getA (m := 6) (s := 3) (k := 195) (hH.lv (by decide)) (TX2_keep.at 44 rfl) fl2_22 hH rfl rfl (by decide) (by decide) ?_
    refine z_ald_0 (TX2_keep.at 45 rfl) ?_
    refine zc_getIE (m := 6) (s := 0) (k := 192) (hH.lv (by decide)) ef192 (TX2_keep.at 46 rfl) fl2_9 hH rfl rfl (by decide) (by decide) (fun r85 => ?_)
    refine z_ild_3 (TX2_keep.at 47 rfl) ?_
    refine zcf_iast (k := 195) (N := 16) (hH.lv (by decide)) (by decide) rfl (TX2_keep.at 48 rfl) hH hA (by decide) (by omega) (show _ < ((16 : Nat) : Int) by omega) (by omega) (fun h g89 e1 e2 hH hA => ?_)
    have eg193 := (e1 193 (by decide)).trans eg193
    have eg194 := (e1 194 (by decide)).trans eg194
    rw [eg195] at e2; have eg195 := e2
    have hgE := hgE.put e1 (by decide)
    refine z_ald_0 (TX2_keep.at 49 rfl) ?_
    refine z_dup rfl (TX2_keep.at 50 rfl) ?_
    refine zc_getIE (m := 6) (s := 0) (k := 192) (hH.lv (by decide)) ef192 (TX2_keep.at 51 rfl) fl2_9 hH rfl rfl (by decide) (by decide) (fun r92 => ?_)
    refine z_iconst (TX2_keep.at 52 rfl) ?_
    refine z_iadd (TX2_keep.at 53 rfl) ?_
    refine zc_putI (m := 6) (s := 0) (k := 192) (hH.lv (by decide)) (TX2_keep.at 54 rfl) fp2_9 hH hA rfl rfl (by decide) (by decide) (by first | omega | exact b2i_01 _) (fun h f97 e1 e2 hH hA => ?_)
    have ef192 := e2
    have hfE := hfE.put e1 (by decide)
    refine zc_vret (TX2_keep.at 55 rfl) rfl hH hA ?_
    exact ⟨by first | (have hk : kp = 16 := (by omega); rw [if_pos hk, if_pos hk, if_pos hk, if_pos hk]; exact ⟨ef192, eg193, eg194, eg195⟩) | (have hk : kp ≠ 16 := (by omega); rw [if_neg hk, if_neg hk, if_neg hk, if_neg hk]; exact ⟨ef192, eg193, eg194, eg195⟩), hfE, hgE, rfl⟩
  · skip
    refine z_ald_0 (TX2_keep.at 4 rfl) ?_
    refine zc_getA (m := 6) (s := 1) (k := 193) (hH.lv (by decide)) (TX2_keep.at 5 rfl) fl2_15 hH rfl rfl (by decide) (by decide) ?_
    refine z_iconst (TX2_keep.at 6 rfl) ?_
    refine z_ald_0 (TX2_keep.at 7 rfl) ?_
    refine zc_getA (m := 6) (s := 1) (k := 193) (hH.lv (by decide)) (TX2_keep.at 8 rfl) fl2_15 hH rfl rfl (by decide) (by decide) ?_
    refine z_iconst (TX2_keep.at 9 rfl) ?_
    refine z_bipush (by decide) (TX2_keep.at 10 rfl) ?_
    refine zcf_copy (ks := 193) (kd := 193) (Ns := 16) (Nd := 16) (hH.lv (by decide)) (hH.lv (by decide)) (by decide) (by decide) rfl rfl eg193 (TX2_keep.at 11 rfl) cp2_25 hH hA (by decide) (by decide) (by omega) (by omega) (by omega) (show _ ≤ ((16 : Nat) : Int) by omega) (show _ ≤ ((16 : Nat) : Int) by omega) (by omega) (fun h g21 e1 e2 hH hA => ?_)
    rw [eg193] at e2; have eg193 := e2
    have eg194 := (e1 194 (by decide)).trans eg194
    have eg195 := (e1 195 (by decide)).trans eg195
    have hgE := hgE.put e1 (by decide)
    refine z_ald_0 (TX2_keep.at 12 rfl) ?_
    refine zc_getA (m := 6) (s := 2) (k := 194) (hH.lv (by decide)) (TX2_keep.at 13 rfl) fl2_19 hH rfl rfl (by decide) (by decide) ?_
    refine z_iconst (TX2_keep.at 14 rfl) ?_
    refine z_ald_0 (TX2_keep.at 15 rfl) ?_
    refine zc_getA (m := 6) (s := 2) (k := 194) (hH.lv (by decide)) (TX2_keep.at 16 rfl) fl2_19 hH rfl rfl (by decide) (by decide) ?_
    refine z_iconst (TX2_keep.at 17 rfl) ?_
    refine z_bipush (by decide) (TX2_keep.at 18 rfl) ?_
    refine zcf_copy (ks := 194) (kd := 194) (Ns := 16) (Nd := 16) (hH.lv (by decide)) (hH.lv (by decide)) (by decide) (by decide) rfl rfl eg194 (TX2_keep.at 19 rfl) cp2_25 hH hA (by decide) (by decide) (by omega) (by omega) (by omega) (show _ ≤ ((16 : Nat) : Int) by omega) (show _ ≤ ((16 : Nat) : Int) by omega) (by omega) (fun h g36 e1 e2 hH hA => ?_)
    have eg193 := (e1 193 (by decide)).trans eg193
    rw [eg194] at e2; have eg194 := e2
    have eg195 := (e1 195 (by decide)).trans eg195
    have hgE := hgE.put e1 (by decide)
    refine z_ald_0 (TX2_keep.at 20 rfl) ?_
    refine zc_getA (m := 6) (s := 3) (k := 195) (hH.lv (by decide)) (TX2_keep.at 21 rfl) fl2_22 hH rfl rfl (by decide) (by decide) ?_
    refine z_iconst (TX2_keep.at 22 rfl) ?_
    refine z_ald_0 (TX2_keep.at 23 rfl) ?_
    refine zc_getA (m := 6) (s := 3) (k := 195) (hH.lv (by decide)) (TX2_keep.at 24 rfl) fl2_22 hH rfl rfl (by decide) (by decide) ?_
    refine z_iconst (TX2_keep.at 25 rfl) ?_
    refine z_bipush (by decide) (TX2_keep.at 26 rfl) ?_
    refine zcf_copy (ks := 195) (kd := 195) (Ns := 16) (Nd := 16) (hH.lv (by decide)) (hH.lv (by decide)) (by decide) (by decide) rfl rfl eg195 (TX2_keep.at 27 rfl) cp2_25 hH hA (by decide) (by decide) (by omega) (by omega) (by omega) (show _ ≤ ((16 : Nat) : Int) by omega) (show _ ≤ ((16 : Nat) : Int) by omega) (by omega) (fun h g51 e1 e2 hH hA => ?_)
    have eg193 := (e1 193 (by decide)).trans eg193
    have eg194 := (e1 194 (by decide)).trans eg194
    rw [eg195] at e2; have eg195 := e2
    have hgE := hgE.put e1 (by decide)
    refine z_ald_0 (TX2_keep.at 28 rfl) ?_
    refine z_bipush (by decide) (TX2_keep.at 29 rfl) ?_
    refine zc_putI (m := 6) (s := 0) (k := 192) (hH.lv (by decide)) (TX2_keep.at 30 rfl) fp2_9 hH hA rfl rfl (by decide) (by decide) (by first | omega | exact b2i_01 _) (fun h f57 e1 e2 hH hA => ?_)
    have ef192 := e2
    have hfE := hfE.put e1 (by decide)
    refine z_ald_0 (TX2_keep.at 31 rfl) ?_
    refine zc_getA (m := 6) (s := 1) (k := 193) (hH.lv (by decide)) (TX2_keep.at 32 rfl) fl2_15 hH rfl rfl (by decide) (by decide) ?_
    refine z_ald_0 (TX2_keep.at 33 rfl) ?_
    refine zc_getIE (m := 6) (s := 0) (k := 192) (hH.lv (by decide)) ef192 (TX2_keep.at 34 rfl) fl2_9 hH rfl rfl (by decide) (by decide) (fun r65 => ?_)
    refine z_ild_1 (TX2_keep.at 35 rfl) ?_
    refine zcf_iast (k := 193) (N := 16) (hH.lv (by decide)) (by decide) rfl (TX2_keep.at 36 rfl) hH hA (by decide) (by omega) (show _ < ((16 : Nat) : Int) by omega) (by omega) (fun h g69 e1 e2 hH hA => ?_)
    rw [eg193] at e2; have eg193 := e2
    have eg194 := (e1 194 (by decide)).trans eg194
    have eg195 := (e1 195 (by decide)).trans eg195
    have hgE := hgE.put e1 (by decide)
    refine z_ald_0 (TX2_keep.at 37 rfl) ?_
    refine zc_getA (m := 6) (s := 2) (k := 194) (hH.lv (by decide)) (TX2_keep.at 38 rfl) fl2_19 hH rfl rfl (by decide) (by decide) ?_
    refine z_ald_0 (TX2_keep.at 39 rfl) ?_
    refine zc_getIE (m := 6) (s := 0) (k := 192) (hH.lv (by decide)) ef192 (TX2_keep.at 40 rfl) fl2_9 hH rfl rfl (by decide) (by decide) (fun r75 => ?_)
    refine z_ild_2 (TX2_keep.at 41 rfl) ?_
    refine zcf_iast (k := 194) (N := 16) (hH.lv (by decide)) (by decide) rfl (TX2_keep.at 42 rfl) hH hA (by decide) (by omega) (show _ < ((16 : Nat) : Int) by omega) (by omega) (fun h g79 e1 e2 hH hA => ?_)
    have eg193 := (e1 193 (by decide)).trans eg193
    rw [eg194] at e2; have eg194 := e2
    have eg195 := (e1 195 (by decide)).trans eg195
    have hgE := hgE.put e1 (by decide)
    refine z_ald_0 (TX2_keep.at 43 rfl) ?_
    refine zc_getA (m := 6) (s := 3) (k := 195) (hH.lv (by decide)) (TX2_keep.at 44 rfl) fl2_22 hH rfl rfl (by decide) (by decide) ?_
    refine z_ald_0 (TX2_keep.at 45 rfl) ?_
    refine zc_getIE (m := 6) (s := 0) (k := 192) (hH.lv (by decide)) ef192 (TX2_keep.at 46 rfl) fl2_9 hH rfl rfl (by decide) (by decide) (fun r85 => ?_)
    refine z_ild_3 (TX2_keep.at 47 rfl) ?_
    refine zcf_iast (k := 195) (N := 16) (hH.lv (by decide)) (by decide) rfl (TX2_keep.at 48 rfl) hH hA (by decide) (by omega) (show _ < ((16 : Nat) : Int) by omega) (by omega) (fun h g89 e1 e2 hH hA => ?_)
    have eg193 := (e1 193 (by decide)).trans eg193
    have eg194 := (e1 194 (by decide)).trans eg194
    rw [eg195] at e2; have eg195 := e2
    have hgE := hgE.put e1 (by decide)
    refine z_ald_0 (TX2_keep.at 49 rfl) ?_
    refine z_dup rfl (TX2_keep.at 50 rfl) ?_
    refine zc_getIE (m := 6) (s := 0) (k := 192) (hH.lv (by decide)) ef192 (TX2_keep.at 51 rfl) fl2_9 hH rfl rfl (by decide) (by decide) (fun r92 => ?_)
    refine z_iconst (TX2_keep.at 52 rfl) ?_
    refine z_iadd (TX2_keep.at 53 rfl) ?_
    refine zc_putI (m := 6) (s := 0) (k := 192) (hH.lv (by decide)) (TX2_keep.at 54 rfl) fp2_9 hH hA rfl rfl (by decide) (by decide) (by first | omega | exact b2i_01 _) (fun h f97 e1 e2 hH hA => ?_)
    have ef192 := e2
    have hfE := hfE.put e1 (by decide)
    refine zc_vret (TX2_keep.at 55 rfl) rfl hH hA ?_
    exact ⟨by first | (have hk : kp = 16 := (by omega); rw [if_pos hk, if_pos hk, if_pos hk, if_pos hk]; exact ⟨ef192, eg193, eg194, eg195⟩) | (have hk : kp ≠ 16 := (by omega); rw [if_neg hk, if_neg hk, if_neg hk, if_neg hk]; exact ⟨ef192, eg193, eg194, eg195⟩), hfE, hgE, rfl⟩

set_option maxHeartbeats 4000000 in
set_option maxRecDepth 100000 in
theorem c_logb6 {l : Launch} {E : cE} {f : mF} {g j : mA} {A1 : Int → Int} {A2 : Int → Int} {A3 : Int → Int} {D : Int → Int} {O1 : Int → Int} {O2 : Int → Int} {kp : Int}  (eg193 : g 193 = A1) (eg194 : g 194 = A2) (eg195 : g 195 = A3) (eg225 : g 225 = D) (eg226 : g 226 = O1) (eg227 : g 227 = O2) (ef224 : f 224 = kp)  : CM l E MX2_become 1 [.ref (E.1 223), .ref (E.1 255)] f g j (PV (fun f' g' j' => (f' 192 = kp ∧ g' 193 = cpy A1 D 0 0 16 ∧ g' 194 = cpy A2 O1 0 0 16 ∧ g' 195 = cpy A3 O2 0 0 16) ∧ eqx [192] f f' ∧ eqx [193, 194, 195] g g' ∧ j' = j)) := by
  refine CM.intro [some (.ref (E.1 223)), some (.ref (E.1 255))] (by decide) (Nat.le_of_ble_eq_true rfl) rfl (fun d hd h0 h hH hA => ?_)
  have hfE : eqx [192] f f := eqx.rf
  have hgE : eqx [193, 194, 195] g g := eqx.rf
  refine z_ald_0 (TX2_become.at 0 rfl) ?_
  refine z_ald_1 (TX2_become.at 1 rfl) ?_
  refine zc_getIE (m := 7) (s := 0) (k := 224) (hH.lv (by decide)) ef224 (TX2_become.at 2 rfl) fl2_9 hH rfl rfl (by decide) (by decide) (fun r2 => ?_)
  refine zc_putI (m := 6) (s := 0) (k := 192) (hH.lv (by decide)) (TX2_become.at 3 rfl) fp2_9 hH hA rfl rfl (by decide) (by decide) (by first | omega | exact b2i_01 _) (fun h f5 e1 e2 hH hA => ?_)
  have ef224 := (e1 224 (by decide)).trans ef224
  have ef192 := e2
  have hfE := hfE.put e1 (by decide)
  refine z_ald_1 (TX2_become.at 4 rfl) ?_
  refine zc_getA (m := 7) (s := 1) (k := 225) (hH.lv (by decide)) (TX2_become.at 5 rfl) fl2_15 hH rfl rfl (by decide) (by decide) ?_
  refine z_iconst (TX2_become.at 6 rfl) ?_
  refine z_ald_0 (TX2_become.at 7 rfl) ?_
  refine zc_getA (m := 6) (s := 1) (k := 193) (hH.lv (by decide)) (TX2_become.at 8 rfl) fl2_15 hH rfl rfl (by decide) (by decide) ?_
  refine z_iconst (TX2_become.at 9 rfl) ?_
  refine z_bipush (by decide) (TX2_become.at 10 rfl) ?_
  refine zcf_copy (ks := 225) (kd := 193) (Ns := 16) (Nd := 16) (hH.lv (by decide)) (hH.lv (by decide)) (by decide) (by decide) rfl rfl eg225 (TX2_become.at 11 rfl) cp2_25 hH hA (by decide) (by decide) (by omega) (by omega) (by omega) (show _ ≤ ((16 : Nat) : Int) by omega) (show _ ≤ ((16 : Nat) : Int) by omega) (by omega) (fun h g20 e1 e2 hH hA => ?_)
  rw [eg193] at e2; have eg193 := e2
  have eg194 := (e1 194 (by decide)).trans eg194
  have eg195 := (e1 195 (by decide)).trans eg195
  have eg225 := (e1 225 (by decide)).trans eg225
  have eg226 := (e1 226 (by decide)).trans eg226
  have eg227 := (e1 227 (by decide)).trans eg227
  have hgE := hgE.put e1 (by decide)
  refine z_ald_1 (TX2_become.at 12 rfl) ?_
  refine zc_getA (m := 7) (s := 2) (k := 226) (hH.lv (by decide)) (TX2_become.at 13 rfl) fl2_19 hH rfl rfl (by decide) (by decide) ?_
  refine z_iconst (TX2_become.at 14 rfl) ?_
  refine z_ald_0 (TX2_become.at 15 rfl) ?_
  refine zc_getA (m := 6) (s := 2) (k := 194) (hH.lv (by decide)) (TX2_become.at 16 rfl) fl2_19 hH rfl rfl (by decide) (by decide) ?_
  refine z_iconst (TX2_become.at 17 rfl) ?_
  refine z_bipush (by decide) (TX2_become.at 18 rfl) ?_
  refine zcf_copy (ks := 226) (kd := 194) (Ns := 16) (Nd := 16) (hH.lv (by decide)) (hH.lv (by decide)) (by decide) (by decide) rfl rfl eg226 (TX2_become.at 19 rfl) cp2_25 hH hA (by decide) (by decide) (by omega) (by omega) (by omega) (show _ ≤ ((16 : Nat) : Int) by omega) (show _ ≤ ((16 : Nat) : Int) by omega) (by omega) (fun h g35 e1 e2 hH hA => ?_)
  have eg193 := (e1 193 (by decide)).trans eg193
  rw [eg194] at e2; have eg194 := e2
  have eg195 := (e1 195 (by decide)).trans eg195
  have eg225 := (e1 225 (by decide)).trans eg225
  have eg226 := (e1 226 (by decide)).trans eg226
  have eg227 := (e1 227 (by decide)).trans eg227
  have hgE := hgE.put e1 (by decide)
  refine z_ald_1 (TX2_become.at 20 rfl) ?_
  refine zc_getA (m := 7) (s := 3) (k := 227) (hH.lv (by decide)) (TX2_become.at 21 rfl) fl2_22 hH rfl rfl (by decide) (by decide) ?_
  refine z_iconst (TX2_become.at 22 rfl) ?_
  refine z_ald_0 (TX2_become.at 23 rfl) ?_
  refine zc_getA (m := 6) (s := 3) (k := 195) (hH.lv (by decide)) (TX2_become.at 24 rfl) fl2_22 hH rfl rfl (by decide) (by decide) ?_
  refine z_iconst (TX2_become.at 25 rfl) ?_
  refine z_bipush (by decide) (TX2_become.at 26 rfl) ?_
  refine zcf_copy (ks := 227) (kd := 195) (Ns := 16) (Nd := 16) (hH.lv (by decide)) (hH.lv (by decide)) (by decide) (by decide) rfl rfl eg227 (TX2_become.at 27 rfl) cp2_25 hH hA (by decide) (by decide) (by omega) (by omega) (by omega) (show _ ≤ ((16 : Nat) : Int) by omega) (show _ ≤ ((16 : Nat) : Int) by omega) (by omega) (fun h g50 e1 e2 hH hA => ?_)
  have eg193 := (e1 193 (by decide)).trans eg193
  have eg194 := (e1 194 (by decide)).trans eg194
  rw [eg195] at e2; have eg195 := e2
  have eg225 := (e1 225 (by decide)).trans eg225
  have eg226 := (e1 226 (by decide)).trans eg226
  have eg227 := (e1 227 (by decide)).trans eg227
  have hgE := hgE.put e1 (by decide)
  refine zc_vret (TX2_become.at 28 rfl) rfl hH hA ?_
  exact ⟨⟨ef192, eg193, eg194, eg195⟩, hfE, hgE, rfl⟩

set_option maxHeartbeats 4000000 in
set_option maxRecDepth 100000 in
theorem c_logb7 {l : Launch} {E : cE} {f : mF} {g j : mA} {A1 : Int → Int} {A2 : Int → Int} {A3 : Int → Int} {D : Int → Int} {O1 : Int → Int} {O2 : Int → Int} {kp : Int}  (eg225 : g 225 = A1) (eg226 : g 226 = A2) (eg227 : g 227 = A3) (eg193 : g 193 = D) (eg194 : g 194 = O1) (eg195 : g 195 = O2) (ef192 : f 192 = kp)  : CM l E MX2_become 1 [.ref (E.1 255), .ref (E.1 223)] f g j (PV (fun f' g' j' => (f' 224 = kp ∧ g' 225 = cpy A1 D 0 0 16 ∧ g' 226 = cpy A2 O1 0 0 16 ∧ g' 227 = cpy A3 O2 0 0 16) ∧ eqx [224] f f' ∧ eqx [225, 226, 227] g g' ∧ j' = j)) := by
  refine CM.intro [some (.ref (E.1 255)), some (.ref (E.1 223))] (by decide) (Nat.le_of_ble_eq_true rfl) rfl (fun d hd h0 h hH hA => ?_)
  have hfE : eqx [224] f f := eqx.rf
  have hgE : eqx [225, 226, 227] g g := eqx.rf
  refine z_ald_0 (TX2_become.at 0 rfl) ?_
  refine z_ald_1 (TX2_become.at 1 rfl) ?_
  refine zc_getIE (m := 6) (s := 0) (k := 192) (hH.lv (by decide)) ef192 (TX2_become.at 2 rfl) fl2_9 hH rfl rfl (by decide) (by decide) (fun r2 => ?_)
  refine zc_putI (m := 7) (s := 0) (k := 224) (hH.lv (by decide)) (TX2_become.at 3 rfl) fp2_9 hH hA rfl rfl (by decide) (by decide) (by first | omega | exact b2i_01 _) (fun h f5 e1 e2 hH hA => ?_)
  have ef192 := (e1 192 (by decide)).trans ef192
  have ef224 := e2
  have hfE := hfE.put e1 (by decide)
  refine z_ald_1 (TX2_become.at 4 rfl) ?_
  refine zc_getA (m := 6) (s := 1) (k := 193) (hH.lv (by decide)) (TX2_become.at 5 rfl) fl2_15 hH rfl rfl (by decide) (by decide) ?_
  refine z_iconst (TX2_become.at 6 rfl) ?_
  refine z_ald_0 (TX2_become.at 7 rfl) ?_
  refine zc_getA (m := 7) (s := 1) (k := 225) (hH.lv (by decide)) (TX2_become.at 8 rfl) fl2_15 hH rfl rfl (by decide) (by decide) ?_
  refine z_iconst (TX2_become.at 9 rfl) ?_
  refine z_bipush (by decide) (TX2_become.at 10 rfl) ?_
  refine zcf_copy (ks := 193) (kd := 225) (Ns := 16) (Nd := 16) (hH.lv (by decide)) (hH.lv (by decide)) (by decide) (by decide) rfl rfl eg193 (TX2_become.at 11 rfl) cp2_25 hH hA (by decide) (by decide) (by omega) (by omega) (by omega) (show _ ≤ ((16 : Nat) : Int) by omega) (show _ ≤ ((16 : Nat) : Int) by omega) (by omega) (fun h g20 e1 e2 hH hA => ?_)
  rw [eg225] at e2; have eg225 := e2
  have eg226 := (e1 226 (by decide)).trans eg226
  have eg227 := (e1 227 (by decide)).trans eg227
  have eg193 := (e1 193 (by decide)).trans eg193
  have eg194 := (e1 194 (by decide)).trans eg194
  have eg195 := (e1 195 (by decide)).trans eg195
  have hgE := hgE.put e1 (by decide)
  refine z_ald_1 (TX2_become.at 12 rfl) ?_
  refine zc_getA (m := 6) (s := 2) (k := 194) (hH.lv (by decide)) (TX2_become.at 13 rfl) fl2_19 hH rfl rfl (by decide) (by decide) ?_
  refine z_iconst (TX2_become.at 14 rfl) ?_
  refine z_ald_0 (TX2_become.at 15 rfl) ?_
  refine zc_getA (m := 7) (s := 2) (k := 226) (hH.lv (by decide)) (TX2_become.at 16 rfl) fl2_19 hH rfl rfl (by decide) (by decide) ?_
  refine z_iconst (TX2_become.at 17 rfl) ?_
  refine z_bipush (by decide) (TX2_become.at 18 rfl) ?_
  refine zcf_copy (ks := 194) (kd := 226) (Ns := 16) (Nd := 16) (hH.lv (by decide)) (hH.lv (by decide)) (by decide) (by decide) rfl rfl eg194 (TX2_become.at 19 rfl) cp2_25 hH hA (by decide) (by decide) (by omega) (by omega) (by omega) (show _ ≤ ((16 : Nat) : Int) by omega) (show _ ≤ ((16 : Nat) : Int) by omega) (by omega) (fun h g35 e1 e2 hH hA => ?_)
  have eg225 := (e1 225 (by decide)).trans eg225
  rw [eg226] at e2; have eg226 := e2
  have eg227 := (e1 227 (by decide)).trans eg227
  have eg193 := (e1 193 (by decide)).trans eg193
  have eg194 := (e1 194 (by decide)).trans eg194
  have eg195 := (e1 195 (by decide)).trans eg195
  have hgE := hgE.put e1 (by decide)
  refine z_ald_1 (TX2_become.at 20 rfl) ?_
  refine zc_getA (m := 6) (s := 3) (k := 195) (hH.lv (by decide)) (TX2_become.at 21 rfl) fl2_22 hH rfl rfl (by decide) (by decide) ?_
  refine z_iconst (TX2_become.at 22 rfl) ?_
  refine z_ald_0 (TX2_become.at 23 rfl) ?_
  refine zc_getA (m := 7) (s := 3) (k := 227) (hH.lv (by decide)) (TX2_become.at 24 rfl) fl2_22 hH rfl rfl (by decide) (by decide) ?_
  refine z_iconst (TX2_become.at 25 rfl) ?_
  refine z_bipush (by decide) (TX2_become.at 26 rfl) ?_
  refine zcf_copy (ks := 195) (kd := 227) (Ns := 16) (Nd := 16) (hH.lv (by decide)) (hH.lv (by decide)) (by decide) (by decide) rfl rfl eg195 (TX2_become.at 27 rfl) cp2_25 hH hA (by decide) (by decide) (by omega) (by omega) (by omega) (show _ ≤ ((16 : Nat) : Int) by omega) (show _ ≤ ((16 : Nat) : Int) by omega) (by omega) (fun h g50 e1 e2 hH hA => ?_)
  have eg225 := (e1 225 (by decide)).trans eg225
  have eg226 := (e1 226 (by decide)).trans eg226
  rw [eg227] at e2; have eg227 := e2
  have eg193 := (e1 193 (by decide)).trans eg193
  have eg194 := (e1 194 (by decide)).trans eg194
  have eg195 := (e1 195 (by decide)).trans eg195
  have hgE := hgE.put e1 (by decide)
  refine zc_vret (TX2_become.at 28 rfl) rfl hH hA ?_
  exact ⟨⟨ef224, eg225, eg226, eg227⟩, hfE, hgE, rfl⟩

