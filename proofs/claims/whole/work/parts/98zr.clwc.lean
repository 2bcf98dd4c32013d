/-! ===== the law: its cases ===== -/
set_option maxHeartbeats 1000000 in
theorem lk_0 {l : Launch} {b Ln : Nat} {xs : Nat → Int32} {G : zG} {o : Nat} {ar : Nat → Nat} {E : cE} {f : mF} {g j : mA} {f2 : mF} {g2 j2 : mA} {n : Nat} {h : zH} {kc ks : Nat} {i : Int} (hn : n ≤ 1000) (i0 : 0 ≤ i) (i1 : i + 6 ≤ Ln) (hL : Ln ≤ 384) (S : Sim E f g f2 g2 n) (B : BH E f g j o ar f2 g2 j2 h) (K : ∀ (E' : cE) (f' : mF) (g' j' : mA) (f2' : mF) (g2' j2' : mA) (h' : zH), E'.1 31 = E.1 31 → BH E' f' g' j' o ar f2' g2' j2' h' → Sim E' f' g' f2' g2' (n + 1) → ZL l b Ln xs G 1353 [some (.ref b), some (.ref (E.1 31)), some (.ref o), some (vI i)] [] h' kc ks) : ZL l b Ln xs G 216 [some (.ref b), some (.ref (E.1 31)), some (.ref o), some (vI i)] [] h (kc + 11) (ks + 469) := by
  refine zl_ald_1 (TL_law_0.at 22 rfl) ?_
  refine zl_ald_0 (TL_law_0.at 23 rfl) ?_
  refine zl_ild_3 (TL_law_0.at 24 rfl) ?_
  refine zl_iconst (TL_law_0.at 25 rfl) ?_
  refine zl_iadd (TL_law_0.at 26 rfl) ?_
  refine zl_sld (TL_law_0.at 27 rfl) (by omega) (by omega) hL ?_
  refine zl_ald_0 (TL_law_0.at 28 rfl) ?_
  refine zl_ild_3 (TL_law_0.at 29 rfl) ?_
  refine zl_iconst (TL_law_0.at 30 rfl) ?_
  refine zl_iadd (TL_law_0.at 31 rfl) ?_
  refine zl_sld (TL_law_0.at 32 rfl) (by omega) (by omega) hL ?_
  refine zl_ald_0 (TL_law_0.at 33 rfl) ?_
  refine zl_ild_3 (TL_law_0.at 34 rfl) ?_
  refine zl_iconst (TL_law_0.at 35 rfl) ?_
  refine zl_iadd (TL_law_0.at 36 rfl) ?_
  refine zl_sld (TL_law_0.at 37 rfl) (by omega) (by omega) hL ?_
  refine zl_ald_0 (TL_law_0.at 38 rfl) ?_
  refine zl_ild_3 (TL_law_0.at 39 rfl) ?_
  refine zl_iconst (TL_law_1.at 0 rfl) ?_
  refine zl_iadd (TL_law_1.at 1 rfl) ?_
  refine zl_sld (TL_law_1.at 2 rfl) (by omega) (by omega) hL ?_
  refine zl_callC4 (s_fuse sx_in sx_in sx_in sx_in hn S B) B (TL_law_1.at 3 rfl) cL_13 rfl (Nat.le_of_ble_eq_true rfl) (fun r E' f' g' j' h' rz e31 B' hH => ?_)
  refine zl_ald_2 (TL_law_1.at 4 rfl) ?_
  refine zl_ald_0 (TL_law_1.at 5 rfl) ?_
  refine zl_ild_3 (TL_law_1.at 6 rfl) ?_
  refine zl_iconst (TL_law_1.at 7 rfl) ?_
  refine zl_iadd (TL_law_1.at 8 rfl) ?_
  refine zl_sld (TL_law_1.at 9 rfl) (by omega) (by omega) hL ?_
  refine zl_ald_0 (TL_law_1.at 10 rfl) ?_
  refine zl_ild_3 (TL_law_1.at 11 rfl) ?_
  refine zl_iconst (TL_law_1.at 12 rfl) ?_
  refine zl_iadd (TL_law_1.at 13 rfl) ?_
  refine zl_sld (TL_law_1.at 14 rfl) (by omega) (by omega) hL ?_
  refine zl_ald_0 (TL_law_1.at 15 rfl) ?_
  refine zl_ild_3 (TL_law_1.at 16 rfl) ?_
  refine zl_iconst (TL_law_1.at 17 rfl) ?_
  refine zl_iadd (TL_law_1.at 18 rfl) ?_
  refine zl_sld (TL_law_1.at 19 rfl) (by omega) (by omega) hL ?_
  refine zl_ald_0 (TL_law_1.at 20 rfl) ?_
  refine zl_ild_3 (TL_law_1.at 21 rfl) ?_
  refine zl_iconst (TL_law_1.at 22 rfl) ?_
  refine zl_iadd (TL_law_1.at 23 rfl) ?_
  refine zl_sld (TL_law_1.at 24 rfl) (by omega) (by omega) hL ?_
  refine zl_callM4 hH B' (TL_law_1.at 25 rfl) cL_17 rfl (Nat.le_of_ble_eq_true rfl) (fun f2' g2' j2' h2 B2 S2 => ?_)
  refine zl_icmp_eq (tgt := 1353) (TL_law_1.at 26 rfl) rfl rz rz (fun _ => ?_) (fun q => absurd rfl q)
  exact K E' f' g' j' f2' g2' j2' h2 e31 B2 S2
set_option maxHeartbeats 1000000 in
theorem lk_1 {l : Launch} {b Ln : Nat} {xs : Nat → Int32} {G : zG} {o : Nat} {ar : Nat → Nat} {E : cE} {f : mF} {g j : mA} {f2 : mF} {g2 j2 : mA} {n : Nat} {h : zH} {kc ks : Nat} {i : Int} (hn : n ≤ 1000) (i0 : 0 ≤ i) (i1 : i + 6 ≤ Ln) (hL : Ln ≤ 384) (S : Sim E f g f2 g2 n) (B : BH E f g j o ar f2 g2 j2 h) (K : ∀ (E' : cE) (f' : mF) (g' j' : mA) (f2' : mF) (g2' j2' : mA) (h' : zH), E'.1 31 = E.1 31 → BH E' f' g' j' o ar f2' g2' j2' h' → Sim E' f' g' f2' g2' (n + 1) → ZL l b Ln xs G 1353 [some (.ref b), some (.ref (E.1 31)), some (.ref o), some (vI i)] [] h' kc ks) : ZL l b Ln xs G 269 [some (.ref b), some (.ref (E.1 31)), some (.ref o), some (vI i)] [] h (kc + 11) (ks + 469) := by
  refine zl_ald_1 (TL_law_1.at 29 rfl) ?_
  refine zl_ald_0 (TL_law_1.at 30 rfl) ?_
  refine zl_ild_3 (TL_law_1.at 31 rfl) ?_
  refine zl_iconst (TL_law_1.at 32 rfl) ?_
  refine zl_iadd (TL_law_1.at 33 rfl) ?_
  refine zl_sld (TL_law_1.at 34 rfl) (by omega) (by omega) hL ?_
  refine zl_ald_0 (TL_law_1.at 35 rfl) ?_
  refine zl_ild_3 (TL_law_1.at 36 rfl) ?_
  refine zl_iconst (TL_law_1.at 37 rfl) ?_
  refine zl_iadd (TL_law_1.at 38 rfl) ?_
  refine zl_sld (TL_law_1.at 39 rfl) (by omega) (by omega) hL ?_
  refine zl_callC2 (s_of sx_in sx_in S B) B (TL_law_2.at 0 rfl) cL_18 rfl (Nat.le_of_ble_eq_true rfl) (fun r E' f' g' j' h' rz e31 B' hH => ?_)
  refine zl_ald_2 (TL_law_2.at 1 rfl) ?_
  refine zl_ald_0 (TL_law_2.at 2 rfl) ?_
  refine zl_ild_3 (TL_law_2.at 3 rfl) ?_
  refine zl_iconst (TL_law_2.at 4 rfl) ?_
  refine zl_iadd (TL_law_2.at 5 rfl) ?_
  refine zl_sld (TL_law_2.at 6 rfl) (by omega) (by omega) hL ?_
  refine zl_ald_0 (TL_law_2.at 7 rfl) ?_
  refine zl_ild_3 (TL_law_2.at 8 rfl) ?_
  refine zl_iconst (TL_law_2.at 9 rfl) ?_
  refine zl_iadd (TL_law_2.at 10 rfl) ?_
  refine zl_sld (TL_law_2.at 11 rfl) (by omega) (by omega) hL ?_
  refine zl_callM2 hH B' (TL_law_2.at 12 rfl) cL_22 rfl (Nat.le_of_ble_eq_true rfl) (fun f2' g2' j2' h2 B2 S2 => ?_)
  refine zl_icmp_eq (tgt := 1353) (TL_law_2.at 13 rfl) rfl rz rz (fun _ => ?_) (fun q => absurd rfl q)
  exact K E' f' g' j' f2' g2' j2' h2 e31 B2 S2
set_option maxHeartbeats 1000000 in
theorem lk_2 {l : Launch} {b Ln : Nat} {xs : Nat → Int32} {G : zG} {o : Nat} {ar : Nat → Nat} {E : cE} {f : mF} {g j : mA} {f2 : mF} {g2 j2 : mA} {n : Nat} {h : zH} {kc ks : Nat} {i : Int} (hn : n ≤ 1000) (i0 : 0 ≤ i) (i1 : i + 6 ≤ Ln) (hL : Ln ≤ 384) (S : Sim E f g f2 g2 n) (B : BH E f g j o ar f2 g2 j2 h) (K : ∀ (E' : cE) (f' : mF) (g' j' : mA) (f2' : mF) (g2' j2' : mA) (h' : zH), E'.1 31 = E.1 31 → BH E' f' g' j' o ar f2' g2' j2' h' → Sim E' f' g' f2' g2' (n + 1) → ZL l b Ln xs G 1353 [some (.ref b), some (.ref (E.1 31)), some (.ref o), some (vI i)] [] h' kc ks) : ZL l b Ln xs G 302 [some (.ref b), some (.ref (E.1 31)), some (.ref o), some (vI i)] [] h (kc + 11) (ks + 469) := by
  refine zl_ald_1 (TL_law_2.at 16 rfl) ?_
  refine zl_ald_0 (TL_law_2.at 17 rfl) ?_
  refine zl_ild_3 (TL_law_2.at 18 rfl) ?_
  refine zl_iconst (TL_law_2.at 19 rfl) ?_
  refine zl_iadd (TL_law_2.at 20 rfl) ?_
  refine zl_sld (TL_law_2.at 21 rfl) (by omega) (by omega) hL ?_
  refine zl_ald_0 (TL_law_2.at 22 rfl) ?_
  refine zl_ild_3 (TL_law_2.at 23 rfl) ?_
  refine zl_iconst (TL_law_2.at 24 rfl) ?_
  refine zl_iadd (TL_law_2.at 25 rfl) ?_
  refine zl_sld (TL_law_2.at 26 rfl) (by omega) (by omega) hL ?_
  refine zl_callC2 (s_at sx_in sx_in S B) B (TL_law_2.at 27 rfl) cL_23 rfl (Nat.le_of_ble_eq_true rfl) (fun r E' f' g' j' h' rz e31 B' hH => ?_)
  refine zl_ald_2 (TL_law_2.at 28 rfl) ?_
  refine zl_ald_0 (TL_law_2.at 29 rfl) ?_
  refine zl_ild_3 (TL_law_2.at 30 rfl) ?_
  refine zl_iconst (TL_law_2.at 31 rfl) ?_
  refine zl_iadd (TL_law_2.at 32 rfl) ?_
  refine zl_sld (TL_law_2.at 33 rfl) (by omega) (by omega) hL ?_
  refine zl_ald_0 (TL_law_2.at 34 rfl) ?_
  refine zl_ild_3 (TL_law_2.at 35 rfl) ?_
  refine zl_iconst (TL_law_2.at 36 rfl) ?_
  refine zl_iadd (TL_law_2.at 37 rfl) ?_
  refine zl_sld (TL_law_2.at 38 rfl) (by omega) (by omega) hL ?_
  refine zl_callM2 hH B' (TL_law_2.at 39 rfl) cL_26 rfl (Nat.le_of_ble_eq_true rfl) (fun f2' g2' j2' h2 B2 S2 => ?_)
  refine zl_icmp_eq (tgt := 1353) (TL_law_3.at 0 rfl) rfl rz rz (fun _ => ?_) (fun q => absurd rfl q)
  exact K E' f' g' j' f2' g2' j2' h2 e31 B2 S2
set_option maxHeartbeats 1000000 in
theorem lk_3 {l : Launch} {b Ln : Nat} {xs : Nat → Int32} {G : zG} {o : Nat} {ar : Nat → Nat} {E : cE} {f : mF} {g j : mA} {f2 : mF} {g2 j2 : mA} {n : Nat} {h : zH} {kc ks : Nat} {i : Int} (hn : n ≤ 1000) (i0 : 0 ≤ i) (i1 : i + 6 ≤ Ln) (hL : Ln ≤ 384) (S : Sim E f g f2 g2 n) (B : BH E f g j o ar f2 g2 j2 h) (K : ∀ (E' : cE) (f' : mF) (g' j' : mA) (f2' : mF) (g2' j2' : mA) (h' : zH), E'.1 31 = E.1 31 → BH E' f' g' j' o ar f2' g2' j2' h' → Sim E' f' g' f2' g2' (n + 1) → ZL l b Ln xs G 1353 [some (.ref b), some (.ref (E.1 31)), some (.ref o), some (vI i)] [] h' kc ks) : ZL l b Ln xs G 335 [some (.ref b), some (.ref (E.1 31)), some (.ref o), some (vI i)] [] h (kc + 11) (ks + 469) := by
  refine zl_ald_1 (TL_law_3.at 3 rfl) ?_
  refine zl_ald_0 (TL_law_3.at 4 rfl) ?_
  refine zl_ild_3 (TL_law_3.at 5 rfl) ?_
  refine zl_iconst (TL_law_3.at 6 rfl) ?_
  refine zl_iadd (TL_law_3.at 7 rfl) ?_
  refine zl_sld (TL_law_3.at 8 rfl) (by omega) (by omega) hL ?_
  refine zl_callC1 (s_letter sx_in hn S B) B (TL_law_3.at 9 rfl) cL_27 rfl (Nat.le_of_ble_eq_true rfl) (fun r E' f' g' j' h' rz e31 B' hH => ?_)
  refine zl_ald_2 (TL_law_3.at 10 rfl) ?_
  refine zl_ald_0 (TL_law_3.at 11 rfl) ?_
  refine zl_ild_3 (TL_law_3.at 12 rfl) ?_
  refine zl_iconst (TL_law_3.at 13 rfl) ?_
  refine zl_iadd (TL_law_3.at 14 rfl) ?_
  refine zl_sld (TL_law_3.at 15 rfl) (by omega) (by omega) hL ?_
  refine zl_callM1 hH B' (TL_law_3.at 16 rfl) cL_31 rfl (Nat.le_of_ble_eq_true rfl) (fun f2' g2' j2' h2 B2 S2 => ?_)
  refine zl_icmp_eq (tgt := 1353) (TL_law_3.at 17 rfl) rfl rz rz (fun _ => ?_) (fun q => absurd rfl q)
  exact K E' f' g' j' f2' g2' j2' h2 e31 B2 S2
set_option maxHeartbeats 1000000 in
theorem lk_4 {l : Launch} {b Ln : Nat} {xs : Nat → Int32} {G : zG} {o : Nat} {ar : Nat → Nat} {E : cE} {f : mF} {g j : mA} {f2 : mF} {g2 j2 : mA} {n : Nat} {h : zH} {kc ks : Nat} {i : Int} (hn : n ≤ 1000) (i0 : 0 ≤ i) (i1 : i + 6 ≤ Ln) (hL : Ln ≤ 384) (S : Sim E f g f2 g2 n) (B : BH E f g j o ar f2 g2 j2 h) (K : ∀ (E' : cE) (f' : mF) (g' j' : mA) (f2' : mF) (g2' j2' : mA) (h' : zH), E'.1 31 = E.1 31 → BH E' f' g' j' o ar f2' g2' j2' h' → Sim E' f' g' f2' g2' (n + 1) → ZL l b Ln xs G 1353 [some (.ref b), some (.ref (E.1 31)), some (.ref o), some (vI i)] [] h' kc ks) : ZL l b Ln xs G 358 [some (.ref b), some (.ref (E.1 31)), some (.ref o), some (vI i)] [] h (kc + 11) (ks + 469) := by
  refine zl_ald_1 (TL_law_3.at 20 rfl) ?_
  refine zl_ald_0 (TL_law_3.at 21 rfl) ?_
  refine zl_ild_3 (TL_law_3.at 22 rfl) ?_
  refine zl_iconst (TL_law_3.at 23 rfl) ?_
  refine zl_iadd (TL_law_3.at 24 rfl) ?_
  refine zl_sld (TL_law_3.at 25 rfl) (by omega) (by omega) hL ?_
  refine zl_ald_0 (TL_law_3.at 26 rfl) ?_
  refine zl_ild_3 (TL_law_3.at 27 rfl) ?_
  refine zl_iconst (TL_law_3.at 28 rfl) ?_
  refine zl_iadd (TL_law_3.at 29 rfl) ?_
  refine zl_sld (TL_law_3.at 30 rfl) (by omega) (by omega) hL ?_
  refine zl_callC2 (s_terms sx_in sx_in hn S B) B (TL_law_3.at 31 rfl) cL_32 rfl (Nat.le_of_ble_eq_true rfl) (fun r E' f' g' j' h' rz e31 B' hH => ?_)
  refine zl_ald_2 (TL_law_3.at 32 rfl) ?_
  refine zl_ald_0 (TL_law_3.at 33 rfl) ?_
  refine zl_ild_3 (TL_law_3.at 34 rfl) ?_
  refine zl_iconst (TL_law_3.at 35 rfl) ?_
  refine zl_iadd (TL_law_3.at 36 rfl) ?_
  refine zl_sld (TL_law_3.at 37 rfl) (by omega) (by omega) hL ?_
  refine zl_ald_0 (TL_law_3.at 38 rfl) ?_
  refine zl_ild_3 (TL_law_3.at 39 rfl) ?_
  refine zl_iconst (TL_law_4.at 0 rfl) ?_
  refine zl_iadd (TL_law_4.at 1 rfl) ?_
  refine zl_sld (TL_law_4.at 2 rfl) (by omega) (by omega) hL ?_
  refine zl_callM2 hH B' (TL_law_4.at 3 rfl) cL_35 rfl (Nat.le_of_ble_eq_true rfl) (fun f2' g2' j2' h2 B2 S2 => ?_)
  refine zl_icmp_eq (tgt := 1353) (TL_law_4.at 4 rfl) rfl rz rz (fun _ => ?_) (fun q => absurd rfl q)
  exact K E' f' g' j' f2' g2' j2' h2 e31 B2 S2
set_option maxHeartbeats 1000000 in
theorem lk_5 {l : Launch} {b Ln : Nat} {xs : Nat → Int32} {G : zG} {o : Nat} {ar : Nat → Nat} {E : cE} {f : mF} {g j : mA} {f2 : mF} {g2 j2 : mA} {n : Nat} {h : zH} {kc ks : Nat} {i : Int} (hn : n ≤ 1000) (i0 : 0 ≤ i) (i1 : i + 6 ≤ Ln) (hL : Ln ≤ 384) (S : Sim E f g f2 g2 n) (B : BH E f g j o ar f2 g2 j2 h) (K : ∀ (E' : cE) (f' : mF) (g' j' : mA) (f2' : mF) (g2' j2' : mA) (h' : zH), E'.1 31 = E.1 31 → BH E' f' g' j' o ar f2' g2' j2' h' → Sim E' f' g' f2' g2' (n + 1) → ZL l b Ln xs G 1353 [some (.ref b), some (.ref (E.1 31)), some (.ref o), some (vI i)] [] h' kc ks) : ZL l b Ln xs G 391 [some (.ref b), some (.ref (E.1 31)), some (.ref o), some (vI i)] [] h (kc + 11) (ks + 469) := by
  refine zl_ald_1 (TL_law_4.at 7 rfl) ?_
  refine zl_ald_0 (TL_law_4.at 8 rfl) ?_
  refine zl_ild_3 (TL_law_4.at 9 rfl) ?_
  refine zl_iconst (TL_law_4.at 10 rfl) ?_
  refine zl_iadd (TL_law_4.at 11 rfl) ?_
  refine zl_sld (TL_law_4.at 12 rfl) (by omega) (by omega) hL ?_
  refine zl_ald_0 (TL_law_4.at 13 rfl) ?_
  refine zl_ild_3 (TL_law_4.at 14 rfl) ?_
  refine zl_iconst (TL_law_4.at 15 rfl) ?_
  refine zl_iadd (TL_law_4.at 16 rfl) ?_
  refine zl_sld (TL_law_4.at 17 rfl) (by omega) (by omega) hL ?_
  refine zl_ald_0 (TL_law_4.at 18 rfl) ?_
  refine zl_ild_3 (TL_law_4.at 19 rfl) ?_
  refine zl_iconst (TL_law_4.at 20 rfl) ?_
  refine zl_iadd (TL_law_4.at 21 rfl) ?_
  refine zl_sld (TL_law_4.at 22 rfl) (by omega) (by omega) hL ?_
  refine zl_ald_0 (TL_law_4.at 23 rfl) ?_
  refine zl_ild_3 (TL_law_4.at 24 rfl) ?_
  refine zl_iconst (TL_law_4.at 25 rfl) ?_
  refine zl_iadd (TL_law_4.at 26 rfl) ?_
  refine zl_sld (TL_law_4.at 27 rfl) (by omega) (by omega) hL ?_
  refine zl_ald_0 (TL_law_4.at 28 rfl) ?_
  refine zl_ild_3 (TL_law_4.at 29 rfl) ?_
  refine zl_iconst (TL_law_4.at 30 rfl) ?_
  refine zl_iadd (TL_law_4.at 31 rfl) ?_
  refine zl_sld (TL_law_4.at 32 rfl) (by omega) (by omega) hL ?_
  refine zl_callC5 (s_feed sx_in sx_in sx_in sx_in sx_in hn S B) B (TL_law_4.at 33 rfl) cL_36 rfl (Nat.le_of_ble_eq_true rfl) (fun r E' f' g' j' h' rz e31 B' hH => ?_)
  refine zl_ald_2 (TL_law_4.at 34 rfl) ?_
  refine zl_ald_0 (TL_law_4.at 35 rfl) ?_
  refine zl_ild_3 (TL_law_4.at 36 rfl) ?_
  refine zl_iconst (TL_law_4.at 37 rfl) ?_
  refine zl_iadd (TL_law_4.at 38 rfl) ?_
  refine zl_sld (TL_law_4.at 39 rfl) (by omega) (by omega) hL ?_
  refine zl_ald_0 (TL_law_5.at 0 rfl) ?_
  refine zl_ild_3 (TL_law_5.at 1 rfl) ?_
  refine zl_iconst (TL_law_5.at 2 rfl) ?_
  refine zl_iadd (TL_law_5.at 3 rfl) ?_
  refine zl_sld (TL_law_5.at 4 rfl) (by omega) (by omega) hL ?_
  refine zl_ald_0 (TL_law_5.at 5 rfl) ?_
  refine zl_ild_3 (TL_law_5.at 6 rfl) ?_
  refine zl_iconst (TL_law_5.at 7 rfl) ?_
  refine zl_iadd (TL_law_5.at 8 rfl) ?_
  refine zl_sld (TL_law_5.at 9 rfl) (by omega) (by omega) hL ?_
  refine zl_ald_0 (TL_law_5.at 10 rfl) ?_
  refine zl_ild_3 (TL_law_5.at 11 rfl) ?_
  refine zl_iconst (TL_law_5.at 12 rfl) ?_
  refine zl_iadd (TL_law_5.at 13 rfl) ?_
  refine zl_sld (TL_law_5.at 14 rfl) (by omega) (by omega) hL ?_
  refine zl_ald_0 (TL_law_5.at 15 rfl) ?_
  refine zl_ild_3 (TL_law_5.at 16 rfl) ?_
  refine zl_iconst (TL_law_5.at 17 rfl) ?_
  refine zl_iadd (TL_law_5.at 18 rfl) ?_
  refine zl_sld (TL_law_5.at 19 rfl) (by omega) (by omega) hL ?_
  refine zl_callM5 hH B' (TL_law_5.at 20 rfl) cL_40 rfl (Nat.le_of_ble_eq_true rfl) (fun f2' g2' j2' h2 B2 S2 => ?_)
  refine zl_icmp_eq (tgt := 1353) (TL_law_5.at 21 rfl) rfl rz rz (fun _ => ?_) (fun q => absurd rfl q)
  exact K E' f' g' j' f2' g2' j2' h2 e31 B2 S2
set_option maxHeartbeats 1000000 in
theorem lk_6 {l : Launch} {b Ln : Nat} {xs : Nat → Int32} {G : zG} {o : Nat} {ar : Nat → Nat} {E : cE} {f : mF} {g j : mA} {f2 : mF} {g2 j2 : mA} {n : Nat} {h : zH} {kc ks : Nat} {i : Int} (hn : n ≤ 1000) (i0 : 0 ≤ i) (i1 : i + 6 ≤ Ln) (hL : Ln ≤ 384) (S : Sim E f g f2 g2 n) (B : BH E f g j o ar f2 g2 j2 h) (K : ∀ (E' : cE) (f' : mF) (g' j' : mA) (f2' : mF) (g2' j2' : mA) (h' : zH), E'.1 31 = E.1 31 → BH E' f' g' j' o ar f2' g2' j2' h' → Sim E' f' g' f2' g2' (n + 1) → ZL l b Ln xs G 1353 [some (.ref b), some (.ref (E.1 31)), some (.ref o), some (vI i)] [] h' kc ks) : ZL l b Ln xs G 454 [some (.ref b), some (.ref (E.1 31)), some (.ref o), some (vI i)] [] h (kc + 11) (ks + 469) := by
  refine zl_ald_1 (TL_law_5.at 24 rfl) ?_
  refine zl_ald_0 (TL_law_5.at 25 rfl) ?_
  refine zl_ild_3 (TL_law_5.at 26 rfl) ?_
  refine zl_iconst (TL_law_5.at 27 rfl) ?_
  refine zl_iadd (TL_law_5.at 28 rfl) ?_
  refine zl_sld (TL_law_5.at 29 rfl) (by omega) (by omega) hL ?_
  refine zl_callC1 (s_end sx_in hn S B) B (TL_law_5.at 30 rfl) cL_41 rfl (Nat.le_of_ble_eq_true rfl) (fun r E' f' g' j' h' rz e31 B' hH => ?_)
  refine zl_ald_2 (TL_law_5.at 31 rfl) ?_
  refine zl_ald_0 (TL_law_5.at 32 rfl) ?_
  refine zl_ild_3 (TL_law_5.at 33 rfl) ?_
  refine zl_iconst (TL_law_5.at 34 rfl) ?_
  refine zl_iadd (TL_law_5.at 35 rfl) ?_
  refine zl_sld (TL_law_5.at 36 rfl) (by omega) (by omega) hL ?_
  refine zl_callM1 hH B' (TL_law_5.at 37 rfl) cL_44 rfl (Nat.le_of_ble_eq_true rfl) (fun f2' g2' j2' h2 B2 S2 => ?_)
  refine zl_icmp_eq (tgt := 1353) (TL_law_5.at 38 rfl) rfl rz rz (fun _ => ?_) (fun q => absurd rfl q)
  exact K E' f' g' j' f2' g2' j2' h2 e31 B2 S2
set_option maxHeartbeats 1000000 in
theorem lk_7 {l : Launch} {b Ln : Nat} {xs : Nat → Int32} {G : zG} {o : Nat} {ar : Nat → Nat} {E : cE} {f : mF} {g j : mA} {f2 : mF} {g2 j2 : mA} {n : Nat} {h : zH} {kc ks : Nat} {i : Int} (hn : n ≤ 1000) (i0 : 0 ≤ i) (i1 : i + 6 ≤ Ln) (hL : Ln ≤ 384) (S : Sim E f g f2 g2 n) (B : BH E f g j o ar f2 g2 j2 h) (K : ∀ (E' : cE) (f' : mF) (g' j' : mA) (f2' : mF) (g2' j2' : mA) (h' : zH), E'.1 31 = E.1 31 → BH E' f' g' j' o ar f2' g2' j2' h' → Sim E' f' g' f2' g2' (n + 1) → ZL l b Ln xs G 1353 [some (.ref b), some (.ref (E.1 31)), some (.ref o), some (vI i)] [] h' kc ks) : ZL l b Ln xs G 477 [some (.ref b), some (.ref (E.1 31)), some (.ref o), some (vI i)] [] h (kc + 11) (ks + 469) := by
  refine zl_ald_1 (TL_law_6.at 1 rfl) ?_
  refine zl_callC0 (s_row  hn S B) B (TL_law_6.at 2 rfl) cL_45 rfl (Nat.le_of_ble_eq_true rfl) (fun r E' f' g' j' h' rz e31 B' hH => ?_)
  refine zl_ald_2 (TL_law_6.at 3 rfl) ?_
  refine zl_callM0 hH B' (TL_law_6.at 4 rfl) cL_49 rfl (Nat.le_of_ble_eq_true rfl) (fun f2' g2' j2' h2 B2 S2 => ?_)
  refine zl_icmp_eq (tgt := 1353) (TL_law_6.at 5 rfl) rfl rz rz (fun _ => ?_) (fun q => absurd rfl q)
  exact K E' f' g' j' f2' g2' j2' h2 e31 B2 S2
set_option maxHeartbeats 1000000 in
theorem lk_8 {l : Launch} {b Ln : Nat} {xs : Nat → Int32} {G : zG} {o : Nat} {ar : Nat → Nat} {E : cE} {f : mF} {g j : mA} {f2 : mF} {g2 j2 : mA} {n : Nat} {h : zH} {kc ks : Nat} {i : Int} (hn : n ≤ 1000) (i0 : 0 ≤ i) (i1 : i + 6 ≤ Ln) (hL : Ln ≤ 384) (S : Sim E f g f2 g2 n) (B : BH E f g j o ar f2 g2 j2 h) (K : ∀ (E' : cE) (f' : mF) (g' j' : mA) (f2' : mF) (g2' j2' : mA) (h' : zH), E'.1 31 = E.1 31 → BH E' f' g' j' o ar f2' g2' j2' h' → Sim E' f' g' f2' g2' (n + 1) → ZL l b Ln xs G 1353 [some (.ref b), some (.ref (E.1 31)), some (.ref o), some (vI i)] [] h' kc ks) : ZL l b Ln xs G 490 [some (.ref b), some (.ref (E.1 31)), some (.ref o), some (vI i)] [] h (kc + 11) (ks + 469) := by
  refine zl_ald_1 (TL_law_6.at 8 rfl) ?_
  refine zl_callC0 (s_ash  S B) B (TL_law_6.at 9 rfl) cL_50 rfl (Nat.le_of_ble_eq_true rfl) (fun r E' f' g' j' h' rz e31 B' hH => ?_)
  refine zl_ald_2 (TL_law_6.at 10 rfl) ?_
  refine zl_callM0 hH B' (TL_law_6.at 11 rfl) cL_53 rfl (Nat.le_of_ble_eq_true rfl) (fun f2' g2' j2' h2 B2 S2 => ?_)
  refine zl_icmp_eq (tgt := 1353) (TL_law_6.at 12 rfl) rfl rz rz (fun _ => ?_) (fun q => absurd rfl q)
  exact K E' f' g' j' f2' g2' j2' h2 e31 B2 S2
set_option maxHeartbeats 1000000 in
theorem lk_9 {l : Launch} {b Ln : Nat} {xs : Nat → Int32} {G : zG} {o : Nat} {ar : Nat → Nat} {E : cE} {f : mF} {g j : mA} {f2 : mF} {g2 j2 : mA} {n : Nat} {h : zH} {kc ks : Nat} {i : Int} (hn : n ≤ 1000) (i0 : 0 ≤ i) (i1 : i + 6 ≤ Ln) (hL : Ln ≤ 384) (S : Sim E f g f2 g2 n) (B : BH E f g j o ar f2 g2 j2 h) (K : ∀ (E' : cE) (f' : mF) (g' j' : mA) (f2' : mF) (g2' j2' : mA) (h' : zH), E'.1 31 = E.1 31 → BH E' f' g' j' o ar f2' g2' j2' h' → Sim E' f' g' f2' g2' (n + 1) → ZL l b Ln xs G 1353 [some (.ref b), some (.ref (E.1 31)), some (.ref o), some (vI i)] [] h' kc ks) : ZL l b Ln xs G 503 [some (.ref b), some (.ref (E.1 31)), some (.ref o), some (vI i)] [] h (kc + 11) (ks + 469) := by
  refine zl_ald_1 (TL_law_6.at 15 rfl) ?_
  refine zl_callC0 (s_law  hn S B) B (TL_law_6.at 16 rfl) cL_54 rfl (Nat.le_of_ble_eq_true rfl) (fun r E' f' g' j' h' rz e31 B' hH => ?_)
  refine zl_ald_2 (TL_law_6.at 17 rfl) ?_
  refine zl_callM0 hH B' (TL_law_6.at 18 rfl) cL_57 rfl (Nat.le_of_ble_eq_true rfl) (fun f2' g2' j2' h2 B2 S2 => ?_)
  refine zl_icmp_eq (tgt := 1353) (TL_law_6.at 19 rfl) rfl rz rz (fun _ => ?_) (fun q => absurd rfl q)
  exact K E' f' g' j' f2' g2' j2' h2 e31 B2 S2
set_option maxHeartbeats 1000000 in
theorem lk_10 {l : Launch} {b Ln : Nat} {xs : Nat → Int32} {G : zG} {o : Nat} {ar : Nat → Nat} {E : cE} {f : mF} {g j : mA} {f2 : mF} {g2 j2 : mA} {n : Nat} {h : zH} {kc ks : Nat} {i : Int} (hn : n ≤ 1000) (i0 : 0 ≤ i) (i1 : i + 6 ≤ Ln) (hL : Ln ≤ 384) (S : Sim E f g f2 g2 n) (B : BH E f g j o ar f2 g2 j2 h) (K : ∀ (E' : cE) (f' : mF) (g' j' : mA) (f2' : mF) (g2' j2' : mA) (h' : zH), E'.1 31 = E.1 31 → BH E' f' g' j' o ar f2' g2' j2' h' → Sim E' f' g' f2' g2' (n + 1) → ZL l b Ln xs G 1353 [some (.ref b), some (.ref (E.1 31)), some (.ref o), some (vI i)] [] h' kc ks) : ZL l b Ln xs G 516 [some (.ref b), some (.ref (E.1 31)), some (.ref o), some (vI i)] [] h (kc + 11) (ks + 469) := by
  refine zl_ald_1 (TL_law_6.at 22 rfl) ?_
  refine zl_callC0 (s_orders  hn S B) B (TL_law_6.at 23 rfl) cL_58 rfl (Nat.le_of_ble_eq_true rfl) (fun r E' f' g' j' h' rz e31 B' hH => ?_)
  refine zl_ald_2 (TL_law_6.at 24 rfl) ?_
  refine zl_callM0 hH B' (TL_law_6.at 25 rfl) cL_61 rfl (Nat.le_of_ble_eq_true rfl) (fun f2' g2' j2' h2 B2 S2 => ?_)
  refine zl_icmp_eq (tgt := 1353) (TL_law_6.at 26 rfl) rfl rz rz (fun _ => ?_) (fun q => absurd rfl q)
  exact K E' f' g' j' f2' g2' j2' h2 e31 B2 S2
set_option maxHeartbeats 1000000 in
theorem lk_11 {l : Launch} {b Ln : Nat} {xs : Nat → Int32} {G : zG} {o : Nat} {ar : Nat → Nat} {E : cE} {f : mF} {g j : mA} {f2 : mF} {g2 j2 : mA} {n : Nat} {h : zH} {kc ks : Nat} {i : Int} (hn : n ≤ 1000) (i0 : 0 ≤ i) (i1 : i + 6 ≤ Ln) (hL : Ln ≤ 384) (S : Sim E f g f2 g2 n) (B : BH E f g j o ar f2 g2 j2 h) (K : ∀ (E' : cE) (f' : mF) (g' j' : mA) (f2' : mF) (g2' j2' : mA) (h' : zH), E'.1 31 = E.1 31 → BH E' f' g' j' o ar f2' g2' j2' h' → Sim E' f' g' f2' g2' (n + 1) → ZL l b Ln xs G 1353 [some (.ref b), some (.ref (E.1 31)), some (.ref o), some (vI i)] [] h' kc ks) : ZL l b Ln xs G 529 [some (.ref b), some (.ref (E.1 31)), some (.ref o), some (vI i)] [] h (kc + 11) (ks + 469) := by
  refine zl_ald_1 (TL_law_6.at 29 rfl) ?_
  refine zl_callC0 (s_fault  S B) B (TL_law_6.at 30 rfl) cL_62 rfl (Nat.le_of_ble_eq_true rfl) (fun r E' f' g' j' h' rz e31 B' hH => ?_)
  refine zl_ald_2 (TL_law_6.at 31 rfl) ?_
  refine zl_callM0 hH B' (TL_law_6.at 32 rfl) cL_65 rfl (Nat.le_of_ble_eq_true rfl) (fun f2' g2' j2' h2 B2 S2 => ?_)
  refine zl_icmp_eq (tgt := 1353) (TL_law_6.at 33 rfl) rfl rz rz (fun _ => ?_) (fun q => absurd rfl q)
  exact K E' f' g' j' f2' g2' j2' h2 e31 B2 S2
set_option maxHeartbeats 1000000 in
theorem lk_12 {l : Launch} {b Ln : Nat} {xs : Nat → Int32} {G : zG} {o : Nat} {ar : Nat → Nat} {E : cE} {f : mF} {g j : mA} {f2 : mF} {g2 j2 : mA} {n : Nat} {h : zH} {kc ks : Nat} {i : Int} (hn : n ≤ 1000) (i0 : 0 ≤ i) (i1 : i + 6 ≤ Ln) (hL : Ln ≤ 384) (S : Sim E f g f2 g2 n) (B : BH E f g j o ar f2 g2 j2 h) (K : ∀ (E' : cE) (f' : mF) (g' j' : mA) (f2' : mF) (g2' j2' : mA) (h' : zH), E'.1 31 = E.1 31 → BH E' f' g' j' o ar f2' g2' j2' h' → Sim E' f' g' f2' g2' (n + 1) → ZL l b Ln xs G 1353 [some (.ref b), some (.ref (E.1 31)), some (.ref o), some (vI i)] [] h' kc ks) : ZL l b Ln xs G 542 [some (.ref b), some (.ref (E.1 31)), some (.ref o), some (vI i)] [] h (kc + 11) (ks + 469) := by
  refine zl_ald_1 (TL_law_6.at 36 rfl) ?_
  refine zl_callC0 (s_stopped  S B) B (TL_law_6.at 37 rfl) cL_66 rfl (Nat.le_of_ble_eq_true rfl) (fun r E' f' g' j' h' rz e31 B' hH => ?_)
  refine zl_ald_2 (TL_law_6.at 38 rfl) ?_
  refine zl_callM0 hH B' (TL_law_6.at 39 rfl) cL_69 rfl (Nat.le_of_ble_eq_true rfl) (fun f2' g2' j2' h2 B2 S2 => ?_)
  refine zl_icmp_eq (tgt := 1353) (TL_law_7.at 0 rfl) rfl rz rz (fun _ => ?_) (fun q => absurd rfl q)
  exact K E' f' g' j' f2' g2' j2' h2 e31 B2 S2
set_option maxHeartbeats 1000000 in
theorem lk_13 {l : Launch} {b Ln : Nat} {xs : Nat → Int32} {G : zG} {o : Nat} {ar : Nat → Nat} {E : cE} {f : mF} {g j : mA} {f2 : mF} {g2 j2 : mA} {n : Nat} {h : zH} {kc ks : Nat} {i : Int} (hn : n ≤ 1000) (i0 : 0 ≤ i) (i1 : i + 6 ≤ Ln) (hL : Ln ≤ 384) (S : Sim E f g f2 g2 n) (B : BH E f g j o ar f2 g2 j2 h) (K : ∀ (E' : cE) (f' : mF) (g' j' : mA) (f2' : mF) (g2' j2' : mA) (h' : zH), E'.1 31 = E.1 31 → BH E' f' g' j' o ar f2' g2' j2' h' → Sim E' f' g' f2' g2' (n + 1) → ZL l b Ln xs G 1353 [some (.ref b), some (.ref (E.1 31)), some (.ref o), some (vI i)] [] h' kc ks) : ZL l b Ln xs G 555 [some (.ref b), some (.ref (E.1 31)), some (.ref o), some (vI i)] [] h (kc + 11) (ks + 469) := by
  refine zl_ald_1 (TL_law_7.at 3 rfl) ?_
  refine zl_ald_0 (TL_law_7.at 4 rfl) ?_
  refine zl_ild_3 (TL_law_7.at 5 rfl) ?_
  refine zl_iconst (TL_law_7.at 6 rfl) ?_
  refine zl_iadd (TL_law_7.at 7 rfl) ?_
  refine zl_sld (TL_law_7.at 8 rfl) (by omega) (by omega) hL ?_
  refine zl_callC1 (s_force sx_in hn S B) B (TL_law_7.at 9 rfl) cL_70 rfl (Nat.le_of_ble_eq_true rfl) (fun r E' f' g' j' h' rz e31 B' hH => ?_)
  refine zl_ald_2 (TL_law_7.at 10 rfl) ?_
  refine zl_ald_0 (TL_law_7.at 11 rfl) ?_
  refine zl_ild_3 (TL_law_7.at 12 rfl) ?_
  refine zl_iconst (TL_law_7.at 13 rfl) ?_
  refine zl_iadd (TL_law_7.at 14 rfl) ?_
  refine zl_sld (TL_law_7.at 15 rfl) (by omega) (by omega) hL ?_
  refine zl_callM1 hH B' (TL_law_7.at 16 rfl) cL_73 rfl (Nat.le_of_ble_eq_true rfl) (fun f2' g2' j2' h2 B2 S2 => ?_)
  refine zl_icmp_eq (tgt := 1353) (TL_law_7.at 17 rfl) rfl rz rz (fun _ => ?_) (fun q => absurd rfl q)
  exact K E' f' g' j' f2' g2' j2' h2 e31 B2 S2
set_option maxHeartbeats 1000000 in
theorem lk_14 {l : Launch} {b Ln : Nat} {xs : Nat → Int32} {G : zG} {o : Nat} {ar : Nat → Nat} {E : cE} {f : mF} {g j : mA} {f2 : mF} {g2 j2 : mA} {n : Nat} {h : zH} {kc ks : Nat} {i : Int} (hn : n ≤ 1000) (i0 : 0 ≤ i) (i1 : i + 6 ≤ Ln) (hL : Ln ≤ 384) (S : Sim E f g f2 g2 n) (B : BH E f g j o ar f2 g2 j2 h) (K : ∀ (E' : cE) (f' : mF) (g' j' : mA) (f2' : mF) (g2' j2' : mA) (h' : zH), E'.1 31 = E.1 31 → BH E' f' g' j' o ar f2' g2' j2' h' → Sim E' f' g' f2' g2' (n + 1) → ZL l b Ln xs G 1353 [some (.ref b), some (.ref (E.1 31)), some (.ref o), some (vI i)] [] h' kc ks) : ZL l b Ln xs G 578 [some (.ref b), some (.ref (E.1 31)), some (.ref o), some (vI i)] [] h (kc + 11) (ks + 469) := by
  refine zl_ald_1 (TL_law_7.at 20 rfl) ?_
  refine zl_ald_0 (TL_law_7.at 21 rfl) ?_
  refine zl_ild_3 (TL_law_7.at 22 rfl) ?_
  refine zl_iconst (TL_law_7.at 23 rfl) ?_
  refine zl_iadd (TL_law_7.at 24 rfl) ?_
  refine zl_sld (TL_law_7.at 25 rfl) (by omega) (by omega) hL ?_
  refine zl_callC1 (s_light sx_in hn S B) B (TL_law_7.at 26 rfl) cL_74 rfl (Nat.le_of_ble_eq_true rfl) (fun r E' f' g' j' h' rz e31 B' hH => ?_)
  refine zl_ald_2 (TL_law_7.at 27 rfl) ?_
  refine zl_ald_0 (TL_law_7.at 28 rfl) ?_
  refine zl_ild_3 (TL_law_7.at 29 rfl) ?_
  refine zl_iconst (TL_law_7.at 30 rfl) ?_
  refine zl_iadd (TL_law_7.at 31 rfl) ?_
  refine zl_sld (TL_law_7.at 32 rfl) (by omega) (by omega) hL ?_
  refine zl_callM1 hH B' (TL_law_7.at 33 rfl) cL_77 rfl (Nat.le_of_ble_eq_true rfl) (fun f2' g2' j2' h2 B2 S2 => ?_)
  refine zl_icmp_eq (tgt := 1353) (TL_law_7.at 34 rfl) rfl rz rz (fun _ => ?_) (fun q => absurd rfl q)
  exact K E' f' g' j' f2' g2' j2' h2 e31 B2 S2
set_option maxHeartbeats 1000000 in
theorem lk_15 {l : Launch} {b Ln : Nat} {xs : Nat → Int32} {G : zG} {o : Nat} {ar : Nat → Nat} {E : cE} {f : mF} {g j : mA} {f2 : mF} {g2 j2 : mA} {n : Nat} {h : zH} {kc ks : Nat} {i : Int} (hn : n ≤ 1000) (i0 : 0 ≤ i) (i1 : i + 6 ≤ Ln) (hL : Ln ≤ 384) (S : Sim E f g f2 g2 n) (B : BH E f g j o ar f2 g2 j2 h) (K : ∀ (E' : cE) (f' : mF) (g' j' : mA) (f2' : mF) (g2' j2' : mA) (h' : zH), E'.1 31 = E.1 31 → BH E' f' g' j' o ar f2' g2' j2' h' → Sim E' f' g' f2' g2' (n + 1) → ZL l b Ln xs G 1353 [some (.ref b), some (.ref (E.1 31)), some (.ref o), some (vI i)] [] h' kc ks) : ZL l b Ln xs G 601 [some (.ref b), some (.ref (E.1 31)), some (.ref o), some (vI i)] [] h (kc + 11) (ks + 469) := by
  refine zl_ald_1 (TL_law_7.at 37 rfl) ?_
  refine zl_ald_0 (TL_law_7.at 38 rfl) ?_
  refine zl_ild_3 (TL_law_7.at 39 rfl) ?_
  refine zl_iconst (TL_law_8.at 0 rfl) ?_
  refine zl_iadd (TL_law_8.at 1 rfl) ?_
  refine zl_sld (TL_law_8.at 2 rfl) (by omega) (by omega) hL ?_
  refine zl_callC1 (s_soak sx_in hn S B) B (TL_law_8.at 3 rfl) cL_78 rfl (Nat.le_of_ble_eq_true rfl) (fun r E' f' g' j' h' rz e31 B' hH => ?_)
  refine zl_ald_2 (TL_law_8.at 4 rfl) ?_
  refine zl_ald_0 (TL_law_8.at 5 rfl) ?_
  refine zl_ild_3 (TL_law_8.at 6 rfl) ?_
  refine zl_iconst (TL_law_8.at 7 rfl) ?_
  refine zl_iadd (TL_law_8.at 8 rfl) ?_
  refine zl_sld (TL_law_8.at 9 rfl) (by omega) (by omega) hL ?_
  refine zl_callM1 hH B' (TL_law_8.at 10 rfl) cL_81 rfl (Nat.le_of_ble_eq_true rfl) (fun f2' g2' j2' h2 B2 S2 => ?_)
  refine zl_icmp_eq (tgt := 1353) (TL_law_8.at 11 rfl) rfl rz rz (fun _ => ?_) (fun q => absurd rfl q)
  exact K E' f' g' j' f2' g2' j2' h2 e31 B2 S2
set_option maxHeartbeats 1000000 in
theorem lk_16 {l : Launch} {b Ln : Nat} {xs : Nat → Int32} {G : zG} {o : Nat} {ar : Nat → Nat} {E : cE} {f : mF} {g j : mA} {f2 : mF} {g2 j2 : mA} {n : Nat} {h : zH} {kc ks : Nat} {i : Int} (hn : n ≤ 1000) (i0 : 0 ≤ i) (i1 : i + 6 ≤ Ln) (hL : Ln ≤ 384) (S : Sim E f g f2 g2 n) (B : BH E f g j o ar f2 g2 j2 h) (K : ∀ (E' : cE) (f' : mF) (g' j' : mA) (f2' : mF) (g2' j2' : mA) (h' : zH), E'.1 31 = E.1 31 → BH E' f' g' j' o ar f2' g2' j2' h' → Sim E' f' g' f2' g2' (n + 1) → ZL l b Ln xs G 1353 [some (.ref b), some (.ref (E.1 31)), some (.ref o), some (vI i)] [] h' kc ks) : ZL l b Ln xs G 624 [some (.ref b), some (.ref (E.1 31)), some (.ref o), some (vI i)] [] h (kc + 11) (ks + 469) := by
  refine zl_ald_1 (TL_law_8.at 14 rfl) ?_
  refine zl_ald_0 (TL_law_8.at 15 rfl) ?_
  refine zl_ild_3 (TL_law_8.at 16 rfl) ?_
  refine zl_iconst (TL_law_8.at 17 rfl) ?_
  refine zl_iadd (TL_law_8.at 18 rfl) ?_
  refine zl_sld (TL_law_8.at 19 rfl) (by omega) (by omega) hL ?_
  refine zl_ald_0 (TL_law_8.at 20 rfl) ?_
  refine zl_ild_3 (TL_law_8.at 21 rfl) ?_
  refine zl_iconst (TL_law_8.at 22 rfl) ?_
  refine zl_iadd (TL_law_8.at 23 rfl) ?_
  refine zl_sld (TL_law_8.at 24 rfl) (by omega) (by omega) hL ?_
  refine zl_callC2 (s_swap sx_in sx_in hn S B) B (TL_law_8.at 25 rfl) cL_82 rfl (Nat.le_of_ble_eq_true rfl) (fun r E' f' g' j' h' rz e31 B' hH => ?_)
  refine zl_ald_2 (TL_law_8.at 26 rfl) ?_
  refine zl_ald_0 (TL_law_8.at 27 rfl) ?_
  refine zl_ild_3 (TL_law_8.at 28 rfl) ?_
  refine zl_iconst (TL_law_8.at 29 rfl) ?_
  refine zl_iadd (TL_law_8.at 30 rfl) ?_
  refine zl_sld (TL_law_8.at 31 rfl) (by omega) (by omega) hL ?_
  refine zl_ald_0 (TL_law_8.at 32 rfl) ?_
  refine zl_ild_3 (TL_law_8.at 33 rfl) ?_
  refine zl_iconst (TL_law_8.at 34 rfl) ?_
  refine zl_iadd (TL_law_8.at 35 rfl) ?_
  refine zl_sld (TL_law_8.at 36 rfl) (by omega) (by omega) hL ?_
  refine zl_callM2 hH B' (TL_law_8.at 37 rfl) cL_85 rfl (Nat.le_of_ble_eq_true rfl) (fun f2' g2' j2' h2 B2 S2 => ?_)
  refine zl_icmp_eq (tgt := 1353) (TL_law_8.at 38 rfl) rfl rz rz (fun _ => ?_) (fun q => absurd rfl q)
  exact K E' f' g' j' f2' g2' j2' h2 e31 B2 S2
set_option maxHeartbeats 1000000 in
theorem lk_17 {l : Launch} {b Ln : Nat} {xs : Nat → Int32} {G : zG} {o : Nat} {ar : Nat → Nat} {E : cE} {f : mF} {g j : mA} {f2 : mF} {g2 j2 : mA} {n : Nat} {h : zH} {kc ks : Nat} {i : Int} (hn : n ≤ 1000) (i0 : 0 ≤ i) (i1 : i + 6 ≤ Ln) (hL : Ln ≤ 384) (S : Sim E f g f2 g2 n) (B : BH E f g j o ar f2 g2 j2 h) (K : ∀ (E' : cE) (f' : mF) (g' j' : mA) (f2' : mF) (g2' j2' : mA) (h' : zH), E'.1 31 = E.1 31 → BH E' f' g' j' o ar f2' g2' j2' h' → Sim E' f' g' f2' g2' (n + 1) → ZL l b Ln xs G 1353 [some (.ref b), some (.ref (E.1 31)), some (.ref o), some (vI i)] [] h' kc ks) : ZL l b Ln xs G 657 [some (.ref b), some (.ref (E.1 31)), some (.ref o), some (vI i)] [] h (kc + 11) (ks + 469) := by
  refine zl_ald_1 (TL_law_9.at 1 rfl) ?_
  refine zl_callC0 (s_pass  hn S B) B (TL_law_9.at 2 rfl) cL_86 rfl (Nat.le_of_ble_eq_true rfl) (fun r E' f' g' j' h' rz e31 B' hH => ?_)
  refine zl_ald_2 (TL_law_9.at 3 rfl) ?_
  refine zl_callM0 hH B' (TL_law_9.at 4 rfl) cL_89 rfl (Nat.le_of_ble_eq_true rfl) (fun f2' g2' j2' h2 B2 S2 => ?_)
  refine zl_icmp_eq (tgt := 1353) (TL_law_9.at 5 rfl) rfl rz rz (fun _ => ?_) (fun q => absurd rfl q)
  exact K E' f' g' j' f2' g2' j2' h2 e31 B2 S2
set_option maxHeartbeats 1000000 in
theorem lk_18 {l : Launch} {b Ln : Nat} {xs : Nat → Int32} {G : zG} {o : Nat} {ar : Nat → Nat} {E : cE} {f : mF} {g j : mA} {f2 : mF} {g2 j2 : mA} {n : Nat} {h : zH} {kc ks : Nat} {i : Int} (hn : n ≤ 1000) (i0 : 0 ≤ i) (i1 : i + 6 ≤ Ln) (hL : Ln ≤ 384) (S : Sim E f g f2 g2 n) (B : BH E f g j o ar f2 g2 j2 h) (K : ∀ (E' : cE) (f' : mF) (g' j' : mA) (f2' : mF) (g2' j2' : mA) (h' : zH), E'.1 31 = E.1 31 → BH E' f' g' j' o ar f2' g2' j2' h' → Sim E' f' g' f2' g2' (n + 1) → ZL l b Ln xs G 1353 [some (.ref b), some (.ref (E.1 31)), some (.ref o), some (vI i)] [] h' kc ks) : ZL l b Ln xs G 670 [some (.ref b), some (.ref (E.1 31)), some (.ref o), some (vI i)] [] h (kc + 11) (ks + 469) := by
  refine zl_ald_1 (TL_law_9.at 8 rfl) ?_
  refine zl_callC0 (s_undo  hn S B) B (TL_law_9.at 9 rfl) cL_90 rfl (Nat.le_of_ble_eq_true rfl) (fun r E' f' g' j' h' rz e31 B' hH => ?_)
  refine zl_ald_2 (TL_law_9.at 10 rfl) ?_
  refine zl_callM0 hH B' (TL_law_9.at 11 rfl) cL_93 rfl (Nat.le_of_ble_eq_true rfl) (fun f2' g2' j2' h2 B2 S2 => ?_)
  refine zl_icmp_eq (tgt := 1353) (TL_law_9.at 12 rfl) rfl rz rz (fun _ => ?_) (fun q => absurd rfl q)
  exact K E' f' g' j' f2' g2' j2' h2 e31 B2 S2
set_option maxHeartbeats 1000000 in
theorem lk_19 {l : Launch} {b Ln : Nat} {xs : Nat → Int32} {G : zG} {o : Nat} {ar : Nat → Nat} {E : cE} {f : mF} {g j : mA} {f2 : mF} {g2 j2 : mA} {n : Nat} {h : zH} {kc ks : Nat} {i : Int} (hn : n ≤ 1000) (i0 : 0 ≤ i) (i1 : i + 6 ≤ Ln) (hL : Ln ≤ 384) (S : Sim E f g f2 g2 n) (B : BH E f g j o ar f2 g2 j2 h) (K : ∀ (E' : cE) (f' : mF) (g' j' : mA) (f2' : mF) (g2' j2' : mA) (h' : zH), E'.1 31 = E.1 31 → BH E' f' g' j' o ar f2' g2' j2' h' → Sim E' f' g' f2' g2' (n + 1) → ZL l b Ln xs G 1353 [some (.ref b), some (.ref (E.1 31)), some (.ref o), some (vI i)] [] h' kc ks) : ZL l b Ln xs G 683 [some (.ref b), some (.ref (E.1 31)), some (.ref o), some (vI i)] [] h (kc + 11) (ks + 469) := by
  refine zl_ald_1 (TL_law_9.at 15 rfl) ?_
  refine zl_ald_0 (TL_law_9.at 16 rfl) ?_
  refine zl_ild_3 (TL_law_9.at 17 rfl) ?_
  refine zl_iconst (TL_law_9.at 18 rfl) ?_
  refine zl_iadd (TL_law_9.at 19 rfl) ?_
  refine zl_sld (TL_law_9.at 20 rfl) (by omega) (by omega) hL ?_
  refine zl_ald_0 (TL_law_9.at 21 rfl) ?_
  refine zl_ild_3 (TL_law_9.at 22 rfl) ?_
  refine zl_iconst (TL_law_9.at 23 rfl) ?_
  refine zl_iadd (TL_law_9.at 24 rfl) ?_
  refine zl_sld (TL_law_9.at 25 rfl) (by omega) (by omega) hL ?_
  refine zl_callC2 (s_when sx_in sx_in S B) B (TL_law_9.at 26 rfl) cL_94 rfl (Nat.le_of_ble_eq_true rfl) (fun r E' f' g' j' h' rz e31 B' hH => ?_)
  refine zl_ald_2 (TL_law_9.at 27 rfl) ?_
  refine zl_ald_0 (TL_law_9.at 28 rfl) ?_
  refine zl_ild_3 (TL_law_9.at 29 rfl) ?_
  refine zl_iconst (TL_law_9.at 30 rfl) ?_
  refine zl_iadd (TL_law_9.at 31 rfl) ?_
  refine zl_sld (TL_law_9.at 32 rfl) (by omega) (by omega) hL ?_
  refine zl_ald_0 (TL_law_9.at 33 rfl) ?_
  refine zl_ild_3 (TL_law_9.at 34 rfl) ?_
  refine zl_iconst (TL_law_9.at 35 rfl) ?_
  refine zl_iadd (TL_law_9.at 36 rfl) ?_
  refine zl_sld (TL_law_9.at 37 rfl) (by omega) (by omega) hL ?_
  refine zl_callM2 hH B' (TL_law_9.at 38 rfl) cL_97 rfl (Nat.le_of_ble_eq_true rfl) (fun f2' g2' j2' h2 B2 S2 => ?_)
  refine zl_icmp_eq (tgt := 1353) (TL_law_9.at 39 rfl) rfl rz rz (fun _ => ?_) (fun q => absurd rfl q)
  exact K E' f' g' j' f2' g2' j2' h2 e31 B2 S2
set_option maxHeartbeats 1000000 in
theorem lk_20 {l : Launch} {b Ln : Nat} {xs : Nat → Int32} {G : zG} {o : Nat} {ar : Nat → Nat} {E : cE} {f : mF} {g j : mA} {f2 : mF} {g2 j2 : mA} {n : Nat} {h : zH} {kc ks : Nat} {i : Int} (hn : n ≤ 1000) (i0 : 0 ≤ i) (i1 : i + 6 ≤ Ln) (hL : Ln ≤ 384) (S : Sim E f g f2 g2 n) (B : BH E f g j o ar f2 g2 j2 h) (K : ∀ (E' : cE) (f' : mF) (g' j' : mA) (f2' : mF) (g2' j2' : mA) (h' : zH), E'.1 31 = E.1 31 → BH E' f' g' j' o ar f2' g2' j2' h' → Sim E' f' g' f2' g2' (n + 1) → ZL l b Ln xs G 1353 [some (.ref b), some (.ref (E.1 31)), some (.ref o), some (vI i)] [] h' kc ks) : ZL l b Ln xs G 716 [some (.ref b), some (.ref (E.1 31)), some (.ref o), some (vI i)] [] h (kc + 11) (ks + 469) := by
  refine zl_ald_1 (TL_law_10.at 2 rfl) ?_
  refine zl_ald_0 (TL_law_10.at 3 rfl) ?_
  refine zl_ild_3 (TL_law_10.at 4 rfl) ?_
  refine zl_iconst (TL_law_10.at 5 rfl) ?_
  refine zl_iadd (TL_law_10.at 6 rfl) ?_
  refine zl_sld (TL_law_10.at 7 rfl) (by omega) (by omega) hL ?_
  refine zl_ald_0 (TL_law_10.at 8 rfl) ?_
  refine zl_ild_3 (TL_law_10.at 9 rfl) ?_
  refine zl_iconst (TL_law_10.at 10 rfl) ?_
  refine zl_iadd (TL_law_10.at 11 rfl) ?_
  refine zl_sld (TL_law_10.at 12 rfl) (by omega) (by omega) hL ?_
  refine zl_callC2 (s_out sx_in sx_in S B) B (TL_law_10.at 13 rfl) cL_98 rfl (Nat.le_of_ble_eq_true rfl) (fun r E' f' g' j' h' rz e31 B' hH => ?_)
  refine zl_ald_2 (TL_law_10.at 14 rfl) ?_
  refine zl_ald_0 (TL_law_10.at 15 rfl) ?_
  refine zl_ild_3 (TL_law_10.at 16 rfl) ?_
  refine zl_iconst (TL_law_10.at 17 rfl) ?_
  refine zl_iadd (TL_law_10.at 18 rfl) ?_
  refine zl_sld (TL_law_10.at 19 rfl) (by omega) (by omega) hL ?_
  refine zl_ald_0 (TL_law_10.at 20 rfl) ?_
  refine zl_ild_3 (TL_law_10.at 21 rfl) ?_
  refine zl_iconst (TL_law_10.at 22 rfl) ?_
  refine zl_iadd (TL_law_10.at 23 rfl) ?_
  refine zl_sld (TL_law_10.at 24 rfl) (by omega) (by omega) hL ?_
  refine zl_callM2 hH B' (TL_law_10.at 25 rfl) cL_101 rfl (Nat.le_of_ble_eq_true rfl) (fun f2' g2' j2' h2 B2 S2 => ?_)
  refine zl_icmp_eq (tgt := 1353) (TL_law_10.at 26 rfl) rfl rz rz (fun _ => ?_) (fun q => absurd rfl q)
  exact K E' f' g' j' f2' g2' j2' h2 e31 B2 S2
set_option maxHeartbeats 1000000 in
theorem lk_21 {l : Launch} {b Ln : Nat} {xs : Nat → Int32} {G : zG} {o : Nat} {ar : Nat → Nat} {E : cE} {f : mF} {g j : mA} {f2 : mF} {g2 j2 : mA} {n : Nat} {h : zH} {kc ks : Nat} {i : Int} (hn : n ≤ 1000) (i0 : 0 ≤ i) (i1 : i + 6 ≤ Ln) (hL : Ln ≤ 384) (S : Sim E f g f2 g2 n) (B : BH E f g j o ar f2 g2 j2 h) (K : ∀ (E' : cE) (f' : mF) (g' j' : mA) (f2' : mF) (g2' j2' : mA) (h' : zH), E'.1 31 = E.1 31 → BH E' f' g' j' o ar f2' g2' j2' h' → Sim E' f' g' f2' g2' (n + 1) → ZL l b Ln xs G 1353 [some (.ref b), some (.ref (E.1 31)), some (.ref o), some (vI i)] [] h' kc ks) : ZL l b Ln xs G 749 [some (.ref b), some (.ref (E.1 31)), some (.ref o), some (vI i)] [] h (kc + 11) (ks + 469) := by
  refine zl_ald_1 (TL_law_10.at 29 rfl) ?_
  refine zl_ald_0 (TL_law_10.at 30 rfl) ?_
  refine zl_ild_3 (TL_law_10.at 31 rfl) ?_
  refine zl_iconst (TL_law_10.at 32 rfl) ?_
  refine zl_iadd (TL_law_10.at 33 rfl) ?_
  refine zl_sld (TL_law_10.at 34 rfl) (by omega) (by omega) hL ?_
  refine zl_ald_0 (TL_law_10.at 35 rfl) ?_
  refine zl_ild_3 (TL_law_10.at 36 rfl) ?_
  refine zl_iconst (TL_law_10.at 37 rfl) ?_
  refine zl_iadd (TL_law_10.at 38 rfl) ?_
  refine zl_sld (TL_law_10.at 39 rfl) (by omega) (by omega) hL ?_
  refine zl_callC2 (s_stands sx_in sx_in S B) B (TL_law_11.at 0 rfl) cL_102 rfl (Nat.le_of_ble_eq_true rfl) (fun r E' f' g' j' h' rz e31 B' hH => ?_)
  refine zl_ald_2 (TL_law_11.at 1 rfl) ?_
  refine zl_ald_0 (TL_law_11.at 2 rfl) ?_
  refine zl_ild_3 (TL_law_11.at 3 rfl) ?_
  refine zl_iconst (TL_law_11.at 4 rfl) ?_
  refine zl_iadd (TL_law_11.at 5 rfl) ?_
  refine zl_sld (TL_law_11.at 6 rfl) (by omega) (by omega) hL ?_
  refine zl_ald_0 (TL_law_11.at 7 rfl) ?_
  refine zl_ild_3 (TL_law_11.at 8 rfl) ?_
  refine zl_iconst (TL_law_11.at 9 rfl) ?_
  refine zl_iadd (TL_law_11.at 10 rfl) ?_
  refine zl_sld (TL_law_11.at 11 rfl) (by omega) (by omega) hL ?_
  refine zl_callM2 hH B' (TL_law_11.at 12 rfl) cL_105 rfl (Nat.le_of_ble_eq_true rfl) (fun f2' g2' j2' h2 B2 S2 => ?_)
  refine zl_icmp_eq (tgt := 1353) (TL_law_11.at 13 rfl) rfl rz rz (fun _ => ?_) (fun q => absurd rfl q)
  exact K E' f' g' j' f2' g2' j2' h2 e31 B2 S2
set_option maxHeartbeats 1000000 in
theorem lk_22 {l : Launch} {b Ln : Nat} {xs : Nat → Int32} {G : zG} {o : Nat} {ar : Nat → Nat} {E : cE} {f : mF} {g j : mA} {f2 : mF} {g2 j2 : mA} {n : Nat} {h : zH} {kc ks : Nat} {i : Int} (hn : n ≤ 1000) (i0 : 0 ≤ i) (i1 : i + 6 ≤ Ln) (hL : Ln ≤ 384) (S : Sim E f g f2 g2 n) (B : BH E f g j o ar f2 g2 j2 h) (K : ∀ (E' : cE) (f' : mF) (g' j' : mA) (f2' : mF) (g2' j2' : mA) (h' : zH), E'.1 31 = E.1 31 → BH E' f' g' j' o ar f2' g2' j2' h' → Sim E' f' g' f2' g2' (n + 1) → ZL l b Ln xs G 1353 [some (.ref b), some (.ref (E.1 31)), some (.ref o), some (vI i)] [] h' kc ks) : ZL l b Ln xs G 782 [some (.ref b), some (.ref (E.1 31)), some (.ref o), some (vI i)] [] h (kc + 11) (ks + 469) := by
  refine zl_ald_1 (TL_law_11.at 16 rfl) ?_
  refine zl_ald_0 (TL_law_11.at 17 rfl) ?_
  refine zl_ild_3 (TL_law_11.at 18 rfl) ?_
  refine zl_iconst (TL_law_11.at 19 rfl) ?_
  refine zl_iadd (TL_law_11.at 20 rfl) ?_
  refine zl_sld (TL_law_11.at 21 rfl) (by omega) (by omega) hL ?_
  refine zl_ald_0 (TL_law_11.at 22 rfl) ?_
  refine zl_ild_3 (TL_law_11.at 23 rfl) ?_
  refine zl_iconst (TL_law_11.at 24 rfl) ?_
  refine zl_iadd (TL_law_11.at 25 rfl) ?_
  refine zl_sld (TL_law_11.at 26 rfl) (by omega) (by omega) hL ?_
  refine zl_callC2 (s_best sx_in sx_in S B) B (TL_law_11.at 27 rfl) cL_106 rfl (Nat.le_of_ble_eq_true rfl) (fun r E' f' g' j' h' rz e31 B' hH => ?_)
  refine zl_ald_2 (TL_law_11.at 28 rfl) ?_
  refine zl_ald_0 (TL_law_11.at 29 rfl) ?_
  refine zl_ild_3 (TL_law_11.at 30 rfl) ?_
  refine zl_iconst (TL_law_11.at 31 rfl) ?_
  refine zl_iadd (TL_law_11.at 32 rfl) ?_
  refine zl_sld (TL_law_11.at 33 rfl) (by omega) (by omega) hL ?_
  refine zl_ald_0 (TL_law_11.at 34 rfl) ?_
  refine zl_ild_3 (TL_law_11.at 35 rfl) ?_
  refine zl_iconst (TL_law_11.at 36 rfl) ?_
  refine zl_iadd (TL_law_11.at 37 rfl) ?_
  refine zl_sld (TL_law_11.at 38 rfl) (by omega) (by omega) hL ?_
  refine zl_callM2 hH B' (TL_law_11.at 39 rfl) cL_109 rfl (Nat.le_of_ble_eq_true rfl) (fun f2' g2' j2' h2 B2 S2 => ?_)
  refine zl_icmp_eq (tgt := 1353) (TL_law_12.at 0 rfl) rfl rz rz (fun _ => ?_) (fun q => absurd rfl q)
  exact K E' f' g' j' f2' g2' j2' h2 e31 B2 S2
set_option maxHeartbeats 1000000 in
theorem lk_23 {l : Launch} {b Ln : Nat} {xs : Nat → Int32} {G : zG} {o : Nat} {ar : Nat → Nat} {E : cE} {f : mF} {g j : mA} {f2 : mF} {g2 j2 : mA} {n : Nat} {h : zH} {kc ks : Nat} {i : Int} (hn : n ≤ 1000) (i0 : 0 ≤ i) (i1 : i + 6 ≤ Ln) (hL : Ln ≤ 384) (S : Sim E f g f2 g2 n) (B : BH E f g j o ar f2 g2 j2 h) (K : ∀ (E' : cE) (f' : mF) (g' j' : mA) (f2' : mF) (g2' j2' : mA) (h' : zH), E'.1 31 = E.1 31 → BH E' f' g' j' o ar f2' g2' j2' h' → Sim E' f' g' f2' g2' (n + 1) → ZL l b Ln xs G 1353 [some (.ref b), some (.ref (E.1 31)), some (.ref o), some (vI i)] [] h' kc ks) : ZL l b Ln xs G 815 [some (.ref b), some (.ref (E.1 31)), some (.ref o), some (vI i)] [] h (kc + 11) (ks + 469) := by
  refine zl_ald_1 (TL_law_12.at 3 rfl) ?_
  refine zl_ald_0 (TL_law_12.at 4 rfl) ?_
  refine zl_ild_3 (TL_law_12.at 5 rfl) ?_
  refine zl_iconst (TL_law_12.at 6 rfl) ?_
  refine zl_iadd (TL_law_12.at 7 rfl) ?_
  refine zl_sld (TL_law_12.at 8 rfl) (by omega) (by omega) hL ?_
  refine zl_callC1 (s_even sx_in S B) B (TL_law_12.at 9 rfl) cL_110 rfl (Nat.le_of_ble_eq_true rfl) (fun r E' f' g' j' h' rz e31 B' hH => ?_)
  refine zl_ald_2 (TL_law_12.at 10 rfl) ?_
  refine zl_ald_0 (TL_law_12.at 11 rfl) ?_
  refine zl_ild_3 (TL_law_12.at 12 rfl) ?_
  refine zl_iconst (TL_law_12.at 13 rfl) ?_
  refine zl_iadd (TL_law_12.at 14 rfl) ?_
  refine zl_sld (TL_law_12.at 15 rfl) (by omega) (by omega) hL ?_
  refine zl_callM1 hH B' (TL_law_12.at 16 rfl) cL_113 rfl (Nat.le_of_ble_eq_true rfl) (fun f2' g2' j2' h2 B2 S2 => ?_)
  refine zl_icmp_eq (tgt := 1353) (TL_law_12.at 17 rfl) rfl rz rz (fun _ => ?_) (fun q => absurd rfl q)
  exact K E' f' g' j' f2' g2' j2' h2 e31 B2 S2
set_option maxHeartbeats 1000000 in
theorem lk_24 {l : Launch} {b Ln : Nat} {xs : Nat → Int32} {G : zG} {o : Nat} {ar : Nat → Nat} {E : cE} {f : mF} {g j : mA} {f2 : mF} {g2 j2 : mA} {n : Nat} {h : zH} {kc ks : Nat} {i : Int} (hn : n ≤ 1000) (i0 : 0 ≤ i) (i1 : i + 6 ≤ Ln) (hL : Ln ≤ 384) (S : Sim E f g f2 g2 n) (B : BH E f g j o ar f2 g2 j2 h) (K : ∀ (E' : cE) (f' : mF) (g' j' : mA) (f2' : mF) (g2' j2' : mA) (h' : zH), E'.1 31 = E.1 31 → BH E' f' g' j' o ar f2' g2' j2' h' → Sim E' f' g' f2' g2' (n + 1) → ZL l b Ln xs G 1353 [some (.ref b), some (.ref (E.1 31)), some (.ref o), some (vI i)] [] h' kc ks) : ZL l b Ln xs G 838 [some (.ref b), some (.ref (E.1 31)), some (.ref o), some (vI i)] [] h (kc + 11) (ks + 469) := by
  refine zl_ald_1 (TL_law_12.at 20 rfl) ?_
  refine zl_ald_0 (TL_law_12.at 21 rfl) ?_
  refine zl_ild_3 (TL_law_12.at 22 rfl) ?_
  refine zl_iconst (TL_law_12.at 23 rfl) ?_
  refine zl_iadd (TL_law_12.at 24 rfl) ?_
  refine zl_sld (TL_law_12.at 25 rfl) (by omega) (by omega) hL ?_
  refine zl_callC1 (s_centre sx_in S B) B (TL_law_12.at 26 rfl) cL_114 rfl (Nat.le_of_ble_eq_true rfl) (fun r E' f' g' j' h' rz e31 B' hH => ?_)
  refine zl_ald_2 (TL_law_12.at 27 rfl) ?_
  refine zl_ald_0 (TL_law_12.at 28 rfl) ?_
  refine zl_ild_3 (TL_law_12.at 29 rfl) ?_
  refine zl_iconst (TL_law_12.at 30 rfl) ?_
  refine zl_iadd (TL_law_12.at 31 rfl) ?_
  refine zl_sld (TL_law_12.at 32 rfl) (by omega) (by omega) hL ?_
  refine zl_callM1 hH B' (TL_law_12.at 33 rfl) cL_117 rfl (Nat.le_of_ble_eq_true rfl) (fun f2' g2' j2' h2 B2 S2 => ?_)
  refine zl_icmp_eq (tgt := 1353) (TL_law_12.at 34 rfl) rfl rz rz (fun _ => ?_) (fun q => absurd rfl q)
  exact K E' f' g' j' f2' g2' j2' h2 e31 B2 S2
set_option maxHeartbeats 1000000 in
theorem lk_25 {l : Launch} {b Ln : Nat} {xs : Nat → Int32} {G : zG} {o : Nat} {ar : Nat → Nat} {E : cE} {f : mF} {g j : mA} {f2 : mF} {g2 j2 : mA} {n : Nat} {h : zH} {kc ks : Nat} {i : Int} (hn : n ≤ 1000) (i0 : 0 ≤ i) (i1 : i + 6 ≤ Ln) (hL : Ln ≤ 384) (S : Sim E f g f2 g2 n) (B : BH E f g j o ar f2 g2 j2 h) (K : ∀ (E' : cE) (f' : mF) (g' j' : mA) (f2' : mF) (g2' j2' : mA) (h' : zH), E'.1 31 = E.1 31 → BH E' f' g' j' o ar f2' g2' j2' h' → Sim E' f' g' f2' g2' (n + 1) → ZL l b Ln xs G 1353 [some (.ref b), some (.ref (E.1 31)), some (.ref o), some (vI i)] [] h' kc ks) : ZL l b Ln xs G 861 [some (.ref b), some (.ref (E.1 31)), some (.ref o), some (vI i)] [] h (kc + 11) (ks + 469) := by
  refine zl_ald_1 (TL_law_12.at 37 rfl) ?_
  refine zl_ald_0 (TL_law_12.at 38 rfl) ?_
  refine zl_ild_3 (TL_law_12.at 39 rfl) ?_
  refine zl_iconst (TL_law_13.at 0 rfl) ?_
  refine zl_iadd (TL_law_13.at 1 rfl) ?_
  refine zl_sld (TL_law_13.at 2 rfl) (by omega) (by omega) hL ?_
  refine zl_ald_0 (TL_law_13.at 3 rfl) ?_
  refine zl_ild_3 (TL_law_13.at 4 rfl) ?_
  refine zl_iconst (TL_law_13.at 5 rfl) ?_
  refine zl_iadd (TL_law_13.at 6 rfl) ?_
  refine zl_sld (TL_law_13.at 7 rfl) (by omega) (by omega) hL ?_
  refine zl_ald_0 (TL_law_13.at 8 rfl) ?_
  refine zl_ild_3 (TL_law_13.at 9 rfl) ?_
  refine zl_iconst (TL_law_13.at 10 rfl) ?_
  refine zl_iadd (TL_law_13.at 11 rfl) ?_
  refine zl_sld (TL_law_13.at 12 rfl) (by omega) (by omega) hL ?_
  refine zl_callC3 (s_way sx_in sx_in sx_in S B) B (TL_law_13.at 13 rfl) cL_118 rfl (Nat.le_of_ble_eq_true rfl) (fun r E' f' g' j' h' rz e31 B' hH => ?_)
  refine zl_ald_2 (TL_law_13.at 14 rfl) ?_
  refine zl_ald_0 (TL_law_13.at 15 rfl) ?_
  refine zl_ild_3 (TL_law_13.at 16 rfl) ?_
  refine zl_iconst (TL_law_13.at 17 rfl) ?_
  refine zl_iadd (TL_law_13.at 18 rfl) ?_
  refine zl_sld (TL_law_13.at 19 rfl) (by omega) (by omega) hL ?_
  refine zl_ald_0 (TL_law_13.at 20 rfl) ?_
  refine zl_ild_3 (TL_law_13.at 21 rfl) ?_
  refine zl_iconst (TL_law_13.at 22 rfl) ?_
  refine zl_iadd (TL_law_13.at 23 rfl) ?_
  refine zl_sld (TL_law_13.at 24 rfl) (by omega) (by omega) hL ?_
  refine zl_ald_0 (TL_law_13.at 25 rfl) ?_
  refine zl_ild_3 (TL_law_13.at 26 rfl) ?_
  refine zl_iconst (TL_law_13.at 27 rfl) ?_
  refine zl_iadd (TL_law_13.at 28 rfl) ?_
  refine zl_sld (TL_law_13.at 29 rfl) (by omega) (by omega) hL ?_
  refine zl_callM3 hH B' (TL_law_13.at 30 rfl) cL_122 rfl (Nat.le_of_ble_eq_true rfl) (fun f2' g2' j2' h2 B2 S2 => ?_)
  refine zl_icmp_eq (tgt := 1353) (TL_law_13.at 31 rfl) rfl rz rz (fun _ => ?_) (fun q => absurd rfl q)
  exact K E' f' g' j' f2' g2' j2' h2 e31 B2 S2
set_option maxHeartbeats 1000000 in
theorem lk_26 {l : Launch} {b Ln : Nat} {xs : Nat → Int32} {G : zG} {o : Nat} {ar : Nat → Nat} {E : cE} {f : mF} {g j : mA} {f2 : mF} {g2 j2 : mA} {n : Nat} {h : zH} {kc ks : Nat} {i : Int} (hn : n ≤ 1000) (i0 : 0 ≤ i) (i1 : i + 6 ≤ Ln) (hL : Ln ≤ 384) (S : Sim E f g f2 g2 n) (B : BH E f g j o ar f2 g2 j2 h) (K : ∀ (E' : cE) (f' : mF) (g' j' : mA) (f2' : mF) (g2' j2' : mA) (h' : zH), E'.1 31 = E.1 31 → BH E' f' g' j' o ar f2' g2' j2' h' → Sim E' f' g' f2' g2' (n + 1) → ZL l b Ln xs G 1353 [some (.ref b), some (.ref (E.1 31)), some (.ref o), some (vI i)] [] h' kc ks) : ZL l b Ln xs G 904 [some (.ref b), some (.ref (E.1 31)), some (.ref o), some (vI i)] [] h (kc + 11) (ks + 469) := by
  refine zl_ald_1 (TL_law_13.at 34 rfl) ?_
  refine zl_ald_0 (TL_law_13.at 35 rfl) ?_
  refine zl_ild_3 (TL_law_13.at 36 rfl) ?_
  refine zl_iconst (TL_law_13.at 37 rfl) ?_
  refine zl_iadd (TL_law_13.at 38 rfl) ?_
  refine zl_sld (TL_law_13.at 39 rfl) (by omega) (by omega) hL ?_
  refine zl_ald_0 (TL_law_14.at 0 rfl) ?_
  refine zl_ild_3 (TL_law_14.at 1 rfl) ?_
  refine zl_iconst (TL_law_14.at 2 rfl) ?_
  refine zl_iadd (TL_law_14.at 3 rfl) ?_
  refine zl_sld (TL_law_14.at 4 rfl) (by omega) (by omega) hL ?_
  refine zl_ald_0 (TL_law_14.at 5 rfl) ?_
  refine zl_ild_3 (TL_law_14.at 6 rfl) ?_
  refine zl_iconst (TL_law_14.at 7 rfl) ?_
  refine zl_iadd (TL_law_14.at 8 rfl) ?_
  refine zl_sld (TL_law_14.at 9 rfl) (by omega) (by omega) hL ?_
  refine zl_callC3 (s_cut sx_in sx_in sx_in S B) B (TL_law_14.at 10 rfl) cL_123 rfl (Nat.le_of_ble_eq_true rfl) (fun r E' f' g' j' h' rz e31 B' hH => ?_)
  refine zl_ald_2 (TL_law_14.at 11 rfl) ?_
  refine zl_ald_0 (TL_law_14.at 12 rfl) ?_
  refine zl_ild_3 (TL_law_14.at 13 rfl) ?_
  refine zl_iconst (TL_law_14.at 14 rfl) ?_
  refine zl_iadd (TL_law_14.at 15 rfl) ?_
  refine zl_sld (TL_law_14.at 16 rfl) (by omega) (by omega) hL ?_
  refine zl_ald_0 (TL_law_14.at 17 rfl) ?_
  refine zl_ild_3 (TL_law_14.at 18 rfl) ?_
  refine zl_iconst (TL_law_14.at 19 rfl) ?_
  refine zl_iadd (TL_law_14.at 20 rfl) ?_
  refine zl_sld (TL_law_14.at 21 rfl) (by omega) (by omega) hL ?_
  refine zl_ald_0 (TL_law_14.at 22 rfl) ?_
  refine zl_ild_3 (TL_law_14.at 23 rfl) ?_
  refine zl_iconst (TL_law_14.at 24 rfl) ?_
  refine zl_iadd (TL_law_14.at 25 rfl) ?_
  refine zl_sld (TL_law_14.at 26 rfl) (by omega) (by omega) hL ?_
  refine zl_callM3 hH B' (TL_law_14.at 27 rfl) cL_126 rfl (Nat.le_of_ble_eq_true rfl) (fun f2' g2' j2' h2 B2 S2 => ?_)
  refine zl_icmp_eq (tgt := 1353) (TL_law_14.at 28 rfl) rfl rz rz (fun _ => ?_) (fun q => absurd rfl q)
  exact K E' f' g' j' f2' g2' j2' h2 e31 B2 S2
set_option maxHeartbeats 1000000 in
theorem lk_27 {l : Launch} {b Ln : Nat} {xs : Nat → Int32} {G : zG} {o : Nat} {ar : Nat → Nat} {E : cE} {f : mF} {g j : mA} {f2 : mF} {g2 j2 : mA} {n : Nat} {h : zH} {kc ks : Nat} {i : Int} (hn : n ≤ 1000) (i0 : 0 ≤ i) (i1 : i + 6 ≤ Ln) (hL : Ln ≤ 384) (S : Sim E f g f2 g2 n) (B : BH E f g j o ar f2 g2 j2 h) (K : ∀ (E' : cE) (f' : mF) (g' j' : mA) (f2' : mF) (g2' j2' : mA) (h' : zH), E'.1 31 = E.1 31 → BH E' f' g' j' o ar f2' g2' j2' h' → Sim E' f' g' f2' g2' (n + 1) → ZL l b Ln xs G 1353 [some (.ref b), some (.ref (E.1 31)), some (.ref o), some (vI i)] [] h' kc ks) : ZL l b Ln xs G 947 [some (.ref b), some (.ref (E.1 31)), some (.ref o), some (vI i)] [] h (kc + 11) (ks + 469) := by
  refine zl_ald_1 (TL_law_14.at 31 rfl) ?_
  refine zl_ald_0 (TL_law_14.at 32 rfl) ?_
  refine zl_ild_3 (TL_law_14.at 33 rfl) ?_
  refine zl_iconst (TL_law_14.at 34 rfl) ?_
  refine zl_iadd (TL_law_14.at 35 rfl) ?_
  refine zl_sld (TL_law_14.at 36 rfl) (by omega) (by omega) hL ?_
  refine zl_ald_0 (TL_law_14.at 37 rfl) ?_
  refine zl_ild_3 (TL_law_14.at 38 rfl) ?_
  refine zl_iconst (TL_law_14.at 39 rfl) ?_
  refine zl_iadd (TL_law_15.at 0 rfl) ?_
  refine zl_sld (TL_law_15.at 1 rfl) (by omega) (by omega) hL ?_
  refine zl_callC2 (s_exchanged sx_in sx_in S B) B (TL_law_15.at 2 rfl) cL_127 rfl (Nat.le_of_ble_eq_true rfl) (fun r E' f' g' j' h' rz e31 B' hH => ?_)
  refine zl_ald_2 (TL_law_15.at 3 rfl) ?_
  refine zl_ald_0 (TL_law_15.at 4 rfl) ?_
  refine zl_ild_3 (TL_law_15.at 5 rfl) ?_
  refine zl_iconst (TL_law_15.at 6 rfl) ?_
  refine zl_iadd (TL_law_15.at 7 rfl) ?_
  refine zl_sld (TL_law_15.at 8 rfl) (by omega) (by omega) hL ?_
  refine zl_ald_0 (TL_law_15.at 9 rfl) ?_
  refine zl_ild_3 (TL_law_15.at 10 rfl) ?_
  refine zl_iconst (TL_law_15.at 11 rfl) ?_
  refine zl_iadd (TL_law_15.at 12 rfl) ?_
  refine zl_sld (TL_law_15.at 13 rfl) (by omega) (by omega) hL ?_
  refine zl_callM2 hH B' (TL_law_15.at 14 rfl) cL_130 rfl (Nat.le_of_ble_eq_true rfl) (fun f2' g2' j2' h2 B2 S2 => ?_)
  refine zl_icmp_eq (tgt := 1353) (TL_law_15.at 15 rfl) rfl rz rz (fun _ => ?_) (fun q => absurd rfl q)
  exact K E' f' g' j' f2' g2' j2' h2 e31 B2 S2
set_option maxHeartbeats 1000000 in
theorem lk_28 {l : Launch} {b Ln : Nat} {xs : Nat → Int32} {G : zG} {o : Nat} {ar : Nat → Nat} {E : cE} {f : mF} {g j : mA} {f2 : mF} {g2 j2 : mA} {n : Nat} {h : zH} {kc ks : Nat} {i : Int} (hn : n ≤ 1000) (i0 : 0 ≤ i) (i1 : i + 6 ≤ Ln) (hL : Ln ≤ 384) (S : Sim E f g f2 g2 n) (B : BH E f g j o ar f2 g2 j2 h) (K : ∀ (E' : cE) (f' : mF) (g' j' : mA) (f2' : mF) (g2' j2' : mA) (h' : zH), E'.1 31 = E.1 31 → BH E' f' g' j' o ar f2' g2' j2' h' → Sim E' f' g' f2' g2' (n + 1) → ZL l b Ln xs G 1353 [some (.ref b), some (.ref (E.1 31)), some (.ref o), some (vI i)] [] h' kc ks) : ZL l b Ln xs G 980 [some (.ref b), some (.ref (E.1 31)), some (.ref o), some (vI i)] [] h (kc + 11) (ks + 469) := by
  refine zl_ald_1 (TL_law_15.at 18 rfl) ?_
  refine zl_ald_0 (TL_law_15.at 19 rfl) ?_
  refine zl_ild_3 (TL_law_15.at 20 rfl) ?_
  refine zl_iconst (TL_law_15.at 21 rfl) ?_
  refine zl_iadd (TL_law_15.at 22 rfl) ?_
  refine zl_sld (TL_law_15.at 23 rfl) (by omega) (by omega) hL ?_
  refine zl_ald_0 (TL_law_15.at 24 rfl) ?_
  refine zl_ild_3 (TL_law_15.at 25 rfl) ?_
  refine zl_iconst (TL_law_15.at 26 rfl) ?_
  refine zl_iadd (TL_law_15.at 27 rfl) ?_
  refine zl_sld (TL_law_15.at 28 rfl) (by omega) (by omega) hL ?_
  refine zl_callC2 (s_measured sx_in sx_in S B) B (TL_law_15.at 29 rfl) cL_131 rfl (Nat.le_of_ble_eq_true rfl) (fun r E' f' g' j' h' rz e31 B' hH => ?_)
  refine zl_ald_2 (TL_law_15.at 30 rfl) ?_
  refine zl_ald_0 (TL_law_15.at 31 rfl) ?_
  refine zl_ild_3 (TL_law_15.at 32 rfl) ?_
  refine zl_iconst (TL_law_15.at 33 rfl) ?_
  refine zl_iadd (TL_law_15.at 34 rfl) ?_
  refine zl_sld (TL_law_15.at 35 rfl) (by omega) (by omega) hL ?_
  refine zl_ald_0 (TL_law_15.at 36 rfl) ?_
  refine zl_ild_3 (TL_law_15.at 37 rfl) ?_
  refine zl_iconst (TL_law_15.at 38 rfl) ?_
  refine zl_iadd (TL_law_15.at 39 rfl) ?_
  refine zl_sld (TL_law_16.at 0 rfl) (by omega) (by omega) hL ?_
  refine zl_callM2 hH B' (TL_law_16.at 1 rfl) cL_134 rfl (Nat.le_of_ble_eq_true rfl) (fun f2' g2' j2' h2 B2 S2 => ?_)
  refine zl_icmp_eq (tgt := 1353) (TL_law_16.at 2 rfl) rfl rz rz (fun _ => ?_) (fun q => absurd rfl q)
  exact K E' f' g' j' f2' g2' j2' h2 e31 B2 S2
set_option maxHeartbeats 1000000 in
theorem lk_29 {l : Launch} {b Ln : Nat} {xs : Nat → Int32} {G : zG} {o : Nat} {ar : Nat → Nat} {E : cE} {f : mF} {g j : mA} {f2 : mF} {g2 j2 : mA} {n : Nat} {h : zH} {kc ks : Nat} {i : Int} (hn : n ≤ 1000) (i0 : 0 ≤ i) (i1 : i + 6 ≤ Ln) (hL : Ln ≤ 384) (S : Sim E f g f2 g2 n) (B : BH E f g j o ar f2 g2 j2 h) (K : ∀ (E' : cE) (f' : mF) (g' j' : mA) (f2' : mF) (g2' j2' : mA) (h' : zH), E'.1 31 = E.1 31 → BH E' f' g' j' o ar f2' g2' j2' h' → Sim E' f' g' f2' g2' (n + 1) → ZL l b Ln xs G 1353 [some (.ref b), some (.ref (E.1 31)), some (.ref o), some (vI i)] [] h' kc ks) : ZL l b Ln xs G 1013 [some (.ref b), some (.ref (E.1 31)), some (.ref o), some (vI i)] [] h (kc + 11) (ks + 469) := by
  refine zl_ald_1 (TL_law_16.at 5 rfl) ?_
  refine zl_ald_0 (TL_law_16.at 6 rfl) ?_
  refine zl_ild_3 (TL_law_16.at 7 rfl) ?_
  refine zl_iconst (TL_law_16.at 8 rfl) ?_
  refine zl_iadd (TL_law_16.at 9 rfl) ?_
  refine zl_sld (TL_law_16.at 10 rfl) (by omega) (by omega) hL ?_
  refine zl_ald_0 (TL_law_16.at 11 rfl) ?_
  refine zl_ild_3 (TL_law_16.at 12 rfl) ?_
  refine zl_iconst (TL_law_16.at 13 rfl) ?_
  refine zl_iadd (TL_law_16.at 14 rfl) ?_
  refine zl_sld (TL_law_16.at 15 rfl) (by omega) (by omega) hL ?_
  refine zl_callC2 (s_seen sx_in sx_in hn S B) B (TL_law_16.at 16 rfl) cL_135 rfl (Nat.le_of_ble_eq_true rfl) (fun r E' f' g' j' h' rz e31 B' hH => ?_)
  refine zl_ald_2 (TL_law_16.at 17 rfl) ?_
  refine zl_ald_0 (TL_law_16.at 18 rfl) ?_
  refine zl_ild_3 (TL_law_16.at 19 rfl) ?_
  refine zl_iconst (TL_law_16.at 20 rfl) ?_
  refine zl_iadd (TL_law_16.at 21 rfl) ?_
  refine zl_sld (TL_law_16.at 22 rfl) (by omega) (by omega) hL ?_
  refine zl_ald_0 (TL_law_16.at 23 rfl) ?_
  refine zl_ild_3 (TL_law_16.at 24 rfl) ?_
  refine zl_iconst (TL_law_16.at 25 rfl) ?_
  refine zl_iadd (TL_law_16.at 26 rfl) ?_
  refine zl_sld (TL_law_16.at 27 rfl) (by omega) (by omega) hL ?_
  refine zl_callM2 hH B' (TL_law_16.at 28 rfl) cL_138 rfl (Nat.le_of_ble_eq_true rfl) (fun f2' g2' j2' h2 B2 S2 => ?_)
  refine zl_icmp_eq (tgt := 1353) (TL_law_16.at 29 rfl) rfl rz rz (fun _ => ?_) (fun q => absurd rfl q)
  exact K E' f' g' j' f2' g2' j2' h2 e31 B2 S2
set_option maxHeartbeats 1000000 in
theorem lk_30 {l : Launch} {b Ln : Nat} {xs : Nat → Int32} {G : zG} {o : Nat} {ar : Nat → Nat} {E : cE} {f : mF} {g j : mA} {f2 : mF} {g2 j2 : mA} {n : Nat} {h : zH} {kc ks : Nat} {i : Int} (hn : n ≤ 1000) (i0 : 0 ≤ i) (i1 : i + 6 ≤ Ln) (hL : Ln ≤ 384) (S : Sim E f g f2 g2 n) (B : BH E f g j o ar f2 g2 j2 h) (K : ∀ (E' : cE) (f' : mF) (g' j' : mA) (f2' : mF) (g2' j2' : mA) (h' : zH), E'.1 31 = E.1 31 → BH E' f' g' j' o ar f2' g2' j2' h' → Sim E' f' g' f2' g2' (n + 1) → ZL l b Ln xs G 1353 [some (.ref b), some (.ref (E.1 31)), some (.ref o), some (vI i)] [] h' kc ks) : ZL l b Ln xs G 1046 [some (.ref b), some (.ref (E.1 31)), some (.ref o), some (vI i)] [] h (kc + 11) (ks + 469) := by
  refine zl_ald_1 (TL_law_16.at 32 rfl) ?_
  refine zl_callC0 (s_forget  hn S B) B (TL_law_16.at 33 rfl) cL_139 rfl (Nat.le_of_ble_eq_true rfl) (fun r E' f' g' j' h' rz e31 B' hH => ?_)
  refine zl_ald_2 (TL_law_16.at 34 rfl) ?_
  refine zl_callM0 hH B' (TL_law_16.at 35 rfl) cL_142 rfl (Nat.le_of_ble_eq_true rfl) (fun f2' g2' j2' h2 B2 S2 => ?_)
  refine zl_icmp_eq (tgt := 1353) (TL_law_16.at 36 rfl) rfl rz rz (fun _ => ?_) (fun q => absurd rfl q)
  exact K E' f' g' j' f2' g2' j2' h2 e31 B2 S2
set_option maxHeartbeats 1000000 in
theorem lk_31 {l : Launch} {b Ln : Nat} {xs : Nat → Int32} {G : zG} {o : Nat} {ar : Nat → Nat} {E : cE} {f : mF} {g j : mA} {f2 : mF} {g2 j2 : mA} {n : Nat} {h : zH} {kc ks : Nat} {i : Int} (hn : n ≤ 1000) (i0 : 0 ≤ i) (i1 : i + 6 ≤ Ln) (hL : Ln ≤ 384) (S : Sim E f g f2 g2 n) (B : BH E f g j o ar f2 g2 j2 h) (K : ∀ (E' : cE) (f' : mF) (g' j' : mA) (f2' : mF) (g2' j2' : mA) (h' : zH), E'.1 31 = E.1 31 → BH E' f' g' j' o ar f2' g2' j2' h' → Sim E' f' g' f2' g2' (n + 1) → ZL l b Ln xs G 1353 [some (.ref b), some (.ref (E.1 31)), some (.ref o), some (vI i)] [] h' kc ks) : ZL l b Ln xs G 1059 [some (.ref b), some (.ref (E.1 31)), some (.ref o), some (vI i)] [] h (kc + 11) (ks + 469) := by
  refine zl_ald_1 (TL_law_16.at 39 rfl) ?_
  refine zl_callC0 (s_was  S B) B (TL_law_17.at 0 rfl) cL_143 rfl (Nat.le_of_ble_eq_true rfl) (fun r E' f' g' j' h' rz e31 B' hH => ?_)
  refine zl_ald_2 (TL_law_17.at 1 rfl) ?_
  refine zl_callM0 hH B' (TL_law_17.at 2 rfl) cL_146 rfl (Nat.le_of_ble_eq_true rfl) (fun f2' g2' j2' h2 B2 S2 => ?_)
  refine zl_icmp_eq (tgt := 1353) (TL_law_17.at 3 rfl) rfl rz rz (fun _ => ?_) (fun q => absurd rfl q)
  exact K E' f' g' j' f2' g2' j2' h2 e31 B2 S2
set_option maxHeartbeats 1000000 in
theorem lk_32 {l : Launch} {b Ln : Nat} {xs : Nat → Int32} {G : zG} {o : Nat} {ar : Nat → Nat} {E : cE} {f : mF} {g j : mA} {f2 : mF} {g2 j2 : mA} {n : Nat} {h : zH} {kc ks : Nat} {i : Int} (hn : n ≤ 1000) (i0 : 0 ≤ i) (i1 : i + 6 ≤ Ln) (hL : Ln ≤ 384) (S : Sim E f g f2 g2 n) (B : BH E f g j o ar f2 g2 j2 h) (K : ∀ (E' : cE) (f' : mF) (g' j' : mA) (f2' : mF) (g2' j2' : mA) (h' : zH), E'.1 31 = E.1 31 → BH E' f' g' j' o ar f2' g2' j2' h' → Sim E' f' g' f2' g2' (n + 1) → ZL l b Ln xs G 1353 [some (.ref b), some (.ref (E.1 31)), some (.ref o), some (vI i)] [] h' kc ks) : ZL l b Ln xs G 1072 [some (.ref b), some (.ref (E.1 31)), some (.ref o), some (vI i)] [] h (kc + 11) (ks + 469) := by
  refine zl_ald_1 (TL_law_17.at 6 rfl) ?_
  refine zl_ald_0 (TL_law_17.at 7 rfl) ?_
  refine zl_ild_3 (TL_law_17.at 8 rfl) ?_
  refine zl_iconst (TL_law_17.at 9 rfl) ?_
  refine zl_iadd (TL_law_17.at 10 rfl) ?_
  refine zl_sld (TL_law_17.at 11 rfl) (by omega) (by omega) hL ?_
  refine zl_callC1 (s_look sx_in S B) B (TL_law_17.at 12 rfl) cL_147 rfl (Nat.le_of_ble_eq_true rfl) (fun r E' f' g' j' h' rz e31 B' hH => ?_)
  refine zl_ald_2 (TL_law_17.at 13 rfl) ?_
  refine zl_ald_0 (TL_law_17.at 14 rfl) ?_
  refine zl_ild_3 (TL_law_17.at 15 rfl) ?_
  refine zl_iconst (TL_law_17.at 16 rfl) ?_
  refine zl_iadd (TL_law_17.at 17 rfl) ?_
  refine zl_sld (TL_law_17.at 18 rfl) (by omega) (by omega) hL ?_
  refine zl_callM1 hH B' (TL_law_17.at 19 rfl) cL_150 rfl (Nat.le_of_ble_eq_true rfl) (fun f2' g2' j2' h2 B2 S2 => ?_)
  refine zl_icmp_eq (tgt := 1353) (TL_law_17.at 20 rfl) rfl rz rz (fun _ => ?_) (fun q => absurd rfl q)
  exact K E' f' g' j' f2' g2' j2' h2 e31 B2 S2
set_option maxHeartbeats 1000000 in
theorem lk_33 {l : Launch} {b Ln : Nat} {xs : Nat → Int32} {G : zG} {o : Nat} {ar : Nat → Nat} {E : cE} {f : mF} {g j : mA} {f2 : mF} {g2 j2 : mA} {n : Nat} {h : zH} {kc ks : Nat} {i : Int} (hn : n ≤ 1000) (i0 : 0 ≤ i) (i1 : i + 6 ≤ Ln) (hL : Ln ≤ 384) (S : Sim E f g f2 g2 n) (B : BH E f g j o ar f2 g2 j2 h) (K : ∀ (E' : cE) (f' : mF) (g' j' : mA) (f2' : mF) (g2' j2' : mA) (h' : zH), E'.1 31 = E.1 31 → BH E' f' g' j' o ar f2' g2' j2' h' → Sim E' f' g' f2' g2' (n + 1) → ZL l b Ln xs G 1353 [some (.ref b), some (.ref (E.1 31)), some (.ref o), some (vI i)] [] h' kc ks) : ZL l b Ln xs G 1095 [some (.ref b), some (.ref (E.1 31)), some (.ref o), some (vI i)] [] h (kc + 11) (ks + 469) := by
  refine zl_ald_1 (TL_law_17.at 23 rfl) ?_
  refine zl_ald_0 (TL_law_17.at 24 rfl) ?_
  refine zl_ild_3 (TL_law_17.at 25 rfl) ?_
  refine zl_iconst (TL_law_17.at 26 rfl) ?_
  refine zl_iadd (TL_law_17.at 27 rfl) ?_
  refine zl_sld (TL_law_17.at 28 rfl) (by omega) (by omega) hL ?_
  refine zl_ald_0 (TL_law_17.at 29 rfl) ?_
  refine zl_ild_3 (TL_law_17.at 30 rfl) ?_
  refine zl_iconst (TL_law_17.at 31 rfl) ?_
  refine zl_iadd (TL_law_17.at 32 rfl) ?_
  refine zl_sld (TL_law_17.at 33 rfl) (by omega) (by omega) hL ?_
  refine zl_ald_0 (TL_law_17.at 34 rfl) ?_
  refine zl_ild_3 (TL_law_17.at 35 rfl) ?_
  refine zl_iconst (TL_law_17.at 36 rfl) ?_
  refine zl_iadd (TL_law_17.at 37 rfl) ?_
  refine zl_sld (TL_law_17.at 38 rfl) (by omega) (by omega) hL ?_
  refine zl_callC3 (s_wet sx_in sx_in sx_in S B) B (TL_law_17.at 39 rfl) cL_151 rfl (Nat.le_of_ble_eq_true rfl) (fun r E' f' g' j' h' rz e31 B' hH => ?_)
  refine zl_ald_2 (TL_law_18.at 0 rfl) ?_
  refine zl_ald_0 (TL_law_18.at 1 rfl) ?_
  refine zl_ild_3 (TL_law_18.at 2 rfl) ?_
  refine zl_iconst (TL_law_18.at 3 rfl) ?_
  refine zl_iadd (TL_law_18.at 4 rfl) ?_
  refine zl_sld (TL_law_18.at 5 rfl) (by omega) (by omega) hL ?_
  refine zl_ald_0 (TL_law_18.at 6 rfl) ?_
  refine zl_ild_3 (TL_law_18.at 7 rfl) ?_
  refine zl_iconst (TL_law_18.at 8 rfl) ?_
  refine zl_iadd (TL_law_18.at 9 rfl) ?_
  refine zl_sld (TL_law_18.at 10 rfl) (by omega) (by omega) hL ?_
  refine zl_ald_0 (TL_law_18.at 11 rfl) ?_
  refine zl_ild_3 (TL_law_18.at 12 rfl) ?_
  refine zl_iconst (TL_law_18.at 13 rfl) ?_
  refine zl_iadd (TL_law_18.at 14 rfl) ?_
  refine zl_sld (TL_law_18.at 15 rfl) (by omega) (by omega) hL ?_
  refine zl_callM3 hH B' (TL_law_18.at 16 rfl) cL_154 rfl (Nat.le_of_ble_eq_true rfl) (fun f2' g2' j2' h2 B2 S2 => ?_)
  refine zl_icmp_eq (tgt := 1353) (TL_law_18.at 17 rfl) rfl rz rz (fun _ => ?_) (fun q => absurd rfl q)
  exact K E' f' g' j' f2' g2' j2' h2 e31 B2 S2
set_option maxHeartbeats 1000000 in
theorem lk_34 {l : Launch} {b Ln : Nat} {xs : Nat → Int32} {G : zG} {o : Nat} {ar : Nat → Nat} {E : cE} {f : mF} {g j : mA} {f2 : mF} {g2 j2 : mA} {n : Nat} {h : zH} {kc ks : Nat} {i : Int} (hn : n ≤ 1000) (i0 : 0 ≤ i) (i1 : i + 6 ≤ Ln) (hL : Ln ≤ 384) (S : Sim E f g f2 g2 n) (B : BH E f g j o ar f2 g2 j2 h) (K : ∀ (E' : cE) (f' : mF) (g' j' : mA) (f2' : mF) (g2' j2' : mA) (h' : zH), E'.1 31 = E.1 31 → BH E' f' g' j' o ar f2' g2' j2' h' → Sim E' f' g' f2' g2' (n + 1) → ZL l b Ln xs G 1353 [some (.ref b), some (.ref (E.1 31)), some (.ref o), some (vI i)] [] h' kc ks) : ZL l b Ln xs G 1138 [some (.ref b), some (.ref (E.1 31)), some (.ref o), some (vI i)] [] h (kc + 11) (ks + 469) := by
  refine zl_ald_1 (TL_law_18.at 20 rfl) ?_
  refine zl_ald_0 (TL_law_18.at 21 rfl) ?_
  refine zl_ild_3 (TL_law_18.at 22 rfl) ?_
  refine zl_iconst (TL_law_18.at 23 rfl) ?_
  refine zl_iadd (TL_law_18.at 24 rfl) ?_
  refine zl_sld (TL_law_18.at 25 rfl) (by omega) (by omega) hL ?_
  refine zl_ald_0 (TL_law_18.at 26 rfl) ?_
  refine zl_ild_3 (TL_law_18.at 27 rfl) ?_
  refine zl_iconst (TL_law_18.at 28 rfl) ?_
  refine zl_iadd (TL_law_18.at 29 rfl) ?_
  refine zl_sld (TL_law_18.at 30 rfl) (by omega) (by omega) hL ?_
  refine zl_callC2 (s_few sx_in sx_in S B) B (TL_law_18.at 31 rfl) cL_155 rfl (Nat.le_of_ble_eq_true rfl) (fun r E' f' g' j' h' rz e31 B' hH => ?_)
  refine zl_ald_2 (TL_law_18.at 32 rfl) ?_
  refine zl_ald_0 (TL_law_18.at 33 rfl) ?_
  refine zl_ild_3 (TL_law_18.at 34 rfl) ?_
  refine zl_iconst (TL_law_18.at 35 rfl) ?_
  refine zl_iadd (TL_law_18.at 36 rfl) ?_
  refine zl_sld (TL_law_18.at 37 rfl) (by omega) (by omega) hL ?_
  refine zl_ald_0 (TL_law_18.at 38 rfl) ?_
  refine zl_ild_3 (TL_law_18.at 39 rfl) ?_
  refine zl_iconst (TL_law_19.at 0 rfl) ?_
  refine zl_iadd (TL_law_19.at 1 rfl) ?_
  refine zl_sld (TL_law_19.at 2 rfl) (by omega) (by omega) hL ?_
  refine zl_callM2 hH B' (TL_law_19.at 3 rfl) cL_159 rfl (Nat.le_of_ble_eq_true rfl) (fun f2' g2' j2' h2 B2 S2 => ?_)
  refine zl_lcmp rz rz (TL_law_19.at 4 rfl) ?_
  have hz : zlcmp r r = 0 := by unfold zlcmp; rw [if_neg (by omega), if_pos rfl]
  refine zl_if_eq (tgt := 1353) (TL_law_19.at 5 rfl) rfl (by rw [hz]; decide) (fun _ => ?_) (fun q => absurd hz q)
  exact K E' f' g' j' f2' g2' j2' h2 e31 B2 S2
set_option maxHeartbeats 1000000 in
theorem lk_35 {l : Launch} {b Ln : Nat} {xs : Nat → Int32} {G : zG} {o : Nat} {ar : Nat → Nat} {E : cE} {f : mF} {g j : mA} {f2 : mF} {g2 j2 : mA} {n : Nat} {h : zH} {kc ks : Nat} {i : Int} (hn : n ≤ 1000) (i0 : 0 ≤ i) (i1 : i + 6 ≤ Ln) (hL : Ln ≤ 384) (S : Sim E f g f2 g2 n) (B : BH E f g j o ar f2 g2 j2 h) (K : ∀ (E' : cE) (f' : mF) (g' j' : mA) (f2' : mF) (g2' j2' : mA) (h' : zH), E'.1 31 = E.1 31 → BH E' f' g' j' o ar f2' g2' j2' h' → Sim E' f' g' f2' g2' (n + 1) → ZL l b Ln xs G 1353 [some (.ref b), some (.ref (E.1 31)), some (.ref o), some (vI i)] [] h' kc ks) : ZL l b Ln xs G 1172 [some (.ref b), some (.ref (E.1 31)), some (.ref o), some (vI i)] [] h (kc + 11) (ks + 469) := by
  refine zl_ald_1 (TL_law_19.at 8 rfl) ?_
  refine zl_ald_0 (TL_law_19.at 9 rfl) ?_
  refine zl_ild_3 (TL_law_19.at 10 rfl) ?_
  refine zl_iconst (TL_law_19.at 11 rfl) ?_
  refine zl_iadd (TL_law_19.at 12 rfl) ?_
  refine zl_sld (TL_law_19.at 13 rfl) (by omega) (by omega) hL ?_
  refine zl_ald_0 (TL_law_19.at 14 rfl) ?_
  refine zl_ild_3 (TL_law_19.at 15 rfl) ?_
  refine zl_iconst (TL_law_19.at 16 rfl) ?_
  refine zl_iadd (TL_law_19.at 17 rfl) ?_
  refine zl_sld (TL_law_19.at 18 rfl) (by omega) (by omega) hL ?_
  refine zl_callC2 (s_compare sx_in sx_in S B) B (TL_law_19.at 19 rfl) cL_160 rfl (Nat.le_of_ble_eq_true rfl) (fun r E' f' g' j' h' rz e31 B' hH => ?_)
  refine zl_ald_2 (TL_law_19.at 20 rfl) ?_
  refine zl_ald_0 (TL_law_19.at 21 rfl) ?_
  refine zl_ild_3 (TL_law_19.at 22 rfl) ?_
  refine zl_iconst (TL_law_19.at 23 rfl) ?_
  refine zl_iadd (TL_law_19.at 24 rfl) ?_
  refine zl_sld (TL_law_19.at 25 rfl) (by omega) (by omega) hL ?_
  refine zl_ald_0 (TL_law_19.at 26 rfl) ?_
  refine zl_ild_3 (TL_law_19.at 27 rfl) ?_
  refine zl_iconst (TL_law_19.at 28 rfl) ?_
  refine zl_iadd (TL_law_19.at 29 rfl) ?_
  refine zl_sld (TL_law_19.at 30 rfl) (by omega) (by omega) hL ?_
  refine zl_callM2 hH B' (TL_law_19.at 31 rfl) cL_163 rfl (Nat.le_of_ble_eq_true rfl) (fun f2' g2' j2' h2 B2 S2 => ?_)
  refine zl_icmp_eq (tgt := 1353) (TL_law_19.at 32 rfl) rfl rz rz (fun _ => ?_) (fun q => absurd rfl q)
  exact K E' f' g' j' f2' g2' j2' h2 e31 B2 S2
set_option maxHeartbeats 1000000 in
theorem lk_36 {l : Launch} {b Ln : Nat} {xs : Nat → Int32} {G : zG} {o : Nat} {ar : Nat → Nat} {E : cE} {f : mF} {g j : mA} {f2 : mF} {g2 j2 : mA} {n : Nat} {h : zH} {kc ks : Nat} {i : Int} (hn : n ≤ 1000) (i0 : 0 ≤ i) (i1 : i + 6 ≤ Ln) (hL : Ln ≤ 384) (S : Sim E f g f2 g2 n) (B : BH E f g j o ar f2 g2 j2 h) (K : ∀ (E' : cE) (f' : mF) (g' j' : mA) (f2' : mF) (g2' j2' : mA) (h' : zH), E'.1 31 = E.1 31 → BH E' f' g' j' o ar f2' g2' j2' h' → Sim E' f' g' f2' g2' (n + 1) → ZL l b Ln xs G 1353 [some (.ref b), some (.ref (E.1 31)), some (.ref o), some (vI i)] [] h' kc ks) : ZL l b Ln xs G 1205 [some (.ref b), some (.ref (E.1 31)), some (.ref o), some (vI i)] [] h (kc + 11) (ks + 469) := by
  refine zl_ald_1 (TL_law_19.at 35 rfl) ?_
  refine zl_ald_0 (TL_law_19.at 36 rfl) ?_
  refine zl_ild_3 (TL_law_19.at 37 rfl) ?_
  refine zl_iconst (TL_law_19.at 38 rfl) ?_
  refine zl_iadd (TL_law_19.at 39 rfl) ?_
  refine zl_sld (TL_law_20.at 0 rfl) (by omega) (by omega) hL ?_
  refine zl_ald_0 (TL_law_20.at 1 rfl) ?_
  refine zl_ild_3 (TL_law_20.at 2 rfl) ?_
  refine zl_iconst (TL_law_20.at 3 rfl) ?_
  refine zl_iadd (TL_law_20.at 4 rfl) ?_
  refine zl_sld (TL_law_20.at 5 rfl) (by omega) (by omega) hL ?_
  refine zl_callC2 (s_evenings sx_in sx_in hn S B) B (TL_law_20.at 6 rfl) cL_164 rfl (Nat.le_of_ble_eq_true rfl) (fun r E' f' g' j' h' rz e31 B' hH => ?_)
  refine zl_ald_2 (TL_law_20.at 7 rfl) ?_
  refine zl_ald_0 (TL_law_20.at 8 rfl) ?_
  refine zl_ild_3 (TL_law_20.at 9 rfl) ?_
  refine zl_iconst (TL_law_20.at 10 rfl) ?_
  refine zl_iadd (TL_law_20.at 11 rfl) ?_
  refine zl_sld (TL_law_20.at 12 rfl) (by omega) (by omega) hL ?_
  refine zl_ald_0 (TL_law_20.at 13 rfl) ?_
  refine zl_ild_3 (TL_law_20.at 14 rfl) ?_
  refine zl_iconst (TL_law_20.at 15 rfl) ?_
  refine zl_iadd (TL_law_20.at 16 rfl) ?_
  refine zl_sld (TL_law_20.at 17 rfl) (by omega) (by omega) hL ?_
  refine zl_callM2 hH B' (TL_law_20.at 18 rfl) cL_167 rfl (Nat.le_of_ble_eq_true rfl) (fun f2' g2' j2' h2 B2 S2 => ?_)
  refine zl_icmp_eq (tgt := 1353) (TL_law_20.at 19 rfl) rfl rz rz (fun _ => ?_) (fun q => absurd rfl q)
  exact K E' f' g' j' f2' g2' j2' h2 e31 B2 S2
set_option maxHeartbeats 1000000 in
theorem lk_37 {l : Launch} {b Ln : Nat} {xs : Nat → Int32} {G : zG} {o : Nat} {ar : Nat → Nat} {E : cE} {f : mF} {g j : mA} {f2 : mF} {g2 j2 : mA} {n : Nat} {h : zH} {kc ks : Nat} {i : Int} (hn : n ≤ 1000) (i0 : 0 ≤ i) (i1 : i + 6 ≤ Ln) (hL : Ln ≤ 384) (S : Sim E f g f2 g2 n) (B : BH E f g j o ar f2 g2 j2 h) (K : ∀ (E' : cE) (f' : mF) (g' j' : mA) (f2' : mF) (g2' j2' : mA) (h' : zH), E'.1 31 = E.1 31 → BH E' f' g' j' o ar f2' g2' j2' h' → Sim E' f' g' f2' g2' (n + 1) → ZL l b Ln xs G 1353 [some (.ref b), some (.ref (E.1 31)), some (.ref o), some (vI i)] [] h' kc ks) : ZL l b Ln xs G 1238 [some (.ref b), some (.ref (E.1 31)), some (.ref o), some (vI i)] [] h (kc + 11) (ks + 469) := by
  refine zl_ald_1 (TL_law_20.at 22 rfl) ?_
  refine zl_ald_0 (TL_law_20.at 23 rfl) ?_
  refine zl_ild_3 (TL_law_20.at 24 rfl) ?_
  refine zl_iconst (TL_law_20.at 25 rfl) ?_
  refine zl_iadd (TL_law_20.at 26 rfl) ?_
  refine zl_sld (TL_law_20.at 27 rfl) (by omega) (by omega) hL ?_
  refine zl_ald_0 (TL_law_20.at 28 rfl) ?_
  refine zl_ild_3 (TL_law_20.at 29 rfl) ?_
  refine zl_iconst (TL_law_20.at 30 rfl) ?_
  refine zl_iadd (TL_law_20.at 31 rfl) ?_
  refine zl_sld (TL_law_20.at 32 rfl) (by omega) (by omega) hL ?_
  refine zl_callC2 (s_drawn sx_in sx_in S B) B (TL_law_20.at 33 rfl) cL_168 rfl (Nat.le_of_ble_eq_true rfl) (fun r E' f' g' j' h' rz e31 B' hH => ?_)
  refine zl_ald_2 (TL_law_20.at 34 rfl) ?_
  refine zl_ald_0 (TL_law_20.at 35 rfl) ?_
  refine zl_ild_3 (TL_law_20.at 36 rfl) ?_
  refine zl_iconst (TL_law_20.at 37 rfl) ?_
  refine zl_iadd (TL_law_20.at 38 rfl) ?_
  refine zl_sld (TL_law_20.at 39 rfl) (by omega) (by omega) hL ?_
  refine zl_ald_0 (TL_law_21.at 0 rfl) ?_
  refine zl_ild_3 (TL_law_21.at 1 rfl) ?_
  refine zl_iconst (TL_law_21.at 2 rfl) ?_
  refine zl_iadd (TL_law_21.at 3 rfl) ?_
  refine zl_sld (TL_law_21.at 4 rfl) (by omega) (by omega) hL ?_
  refine zl_callM2 hH B' (TL_law_21.at 5 rfl) cL_171 rfl (Nat.le_of_ble_eq_true rfl) (fun f2' g2' j2' h2 B2 S2 => ?_)
  refine zl_icmp_eq (tgt := 1353) (TL_law_21.at 6 rfl) rfl rz rz (fun _ => ?_) (fun q => absurd rfl q)
  exact K E' f' g' j' f2' g2' j2' h2 e31 B2 S2
set_option maxHeartbeats 1000000 in
theorem lk_38 {l : Launch} {b Ln : Nat} {xs : Nat → Int32} {G : zG} {o : Nat} {ar : Nat → Nat} {E : cE} {f : mF} {g j : mA} {f2 : mF} {g2 j2 : mA} {n : Nat} {h : zH} {kc ks : Nat} {i : Int} (hn : n ≤ 1000) (i0 : 0 ≤ i) (i1 : i + 6 ≤ Ln) (hL : Ln ≤ 384) (S : Sim E f g f2 g2 n) (B : BH E f g j o ar f2 g2 j2 h) (K : ∀ (E' : cE) (f' : mF) (g' j' : mA) (f2' : mF) (g2' j2' : mA) (h' : zH), E'.1 31 = E.1 31 → BH E' f' g' j' o ar f2' g2' j2' h' → Sim E' f' g' f2' g2' (n + 1) → ZL l b Ln xs G 1353 [some (.ref b), some (.ref (E.1 31)), some (.ref o), some (vI i)] [] h' kc ks) : ZL l b Ln xs G 1271 [some (.ref b), some (.ref (E.1 31)), some (.ref o), some (vI i)] [] h (kc + 11) (ks + 469) := by
  refine zl_ald_1 (TL_law_21.at 9 rfl) ?_
  refine zl_ald_0 (TL_law_21.at 10 rfl) ?_
  refine zl_ild_3 (TL_law_21.at 11 rfl) ?_
  refine zl_iconst (TL_law_21.at 12 rfl) ?_
  refine zl_iadd (TL_law_21.at 13 rfl) ?_
  refine zl_sld (TL_law_21.at 14 rfl) (by omega) (by omega) hL ?_
  refine zl_callC1 (s_image sx_in hn S B) B (TL_law_21.at 15 rfl) cL_172 rfl (Nat.le_of_ble_eq_true rfl) (fun r E' f' g' j' h' rz e31 B' hH => ?_)
  refine zl_ald_2 (TL_law_21.at 16 rfl) ?_
  refine zl_ald_0 (TL_law_21.at 17 rfl) ?_
  refine zl_ild_3 (TL_law_21.at 18 rfl) ?_
  refine zl_iconst (TL_law_21.at 19 rfl) ?_
  refine zl_iadd (TL_law_21.at 20 rfl) ?_
  refine zl_sld (TL_law_21.at 21 rfl) (by omega) (by omega) hL ?_
  refine zl_callM1 hH B' (TL_law_21.at 22 rfl) cL_175 rfl (Nat.le_of_ble_eq_true rfl) (fun f2' g2' j2' h2 B2 S2 => ?_)
  refine zl_icmp_eq (tgt := 1353) (TL_law_21.at 23 rfl) rfl rz rz (fun _ => ?_) (fun q => absurd rfl q)
  exact K E' f' g' j' f2' g2' j2' h2 e31 B2 S2
set_option maxHeartbeats 1000000 in
theorem lk_39 {l : Launch} {b Ln : Nat} {xs : Nat → Int32} {G : zG} {o : Nat} {ar : Nat → Nat} {E : cE} {f : mF} {g j : mA} {f2 : mF} {g2 j2 : mA} {n : Nat} {h : zH} {kc ks : Nat} {i : Int} (hn : n ≤ 1000) (i0 : 0 ≤ i) (i1 : i + 6 ≤ Ln) (hL : Ln ≤ 384) (S : Sim E f g f2 g2 n) (B : BH E f g j o ar f2 g2 j2 h) (K : ∀ (E' : cE) (f' : mF) (g' j' : mA) (f2' : mF) (g2' j2' : mA) (h' : zH), E'.1 31 = E.1 31 → BH E' f' g' j' o ar f2' g2' j2' h' → Sim E' f' g' f2' g2' (n + 1) → ZL l b Ln xs G 1353 [some (.ref b), some (.ref (E.1 31)), some (.ref o), some (vI i)] [] h' kc ks) : ZL l b Ln xs G 1294 [some (.ref b), some (.ref (E.1 31)), some (.ref o), some (vI i)] [] h (kc + 11) (ks + 469) := by
  refine zl_ald_1 (TL_law_21.at 26 rfl) ?_
  refine zl_ald_0 (TL_law_21.at 27 rfl) ?_
  refine zl_ild_3 (TL_law_21.at 28 rfl) ?_
  refine zl_iconst (TL_law_21.at 29 rfl) ?_
  refine zl_iadd (TL_law_21.at 30 rfl) ?_
  refine zl_sld (TL_law_21.at 31 rfl) (by omega) (by omega) hL ?_
  refine zl_callC1 (s_back sx_in hn S B) B (TL_law_21.at 32 rfl) cL_176 rfl (Nat.le_of_ble_eq_true rfl) (fun r E' f' g' j' h' rz e31 B' hH => ?_)
  refine zl_ald_2 (TL_law_21.at 33 rfl) ?_
  refine zl_ald_0 (TL_law_21.at 34 rfl) ?_
  refine zl_ild_3 (TL_law_21.at 35 rfl) ?_
  refine zl_iconst (TL_law_21.at 36 rfl) ?_
  refine zl_iadd (TL_law_21.at 37 rfl) ?_
  refine zl_sld (TL_law_21.at 38 rfl) (by omega) (by omega) hL ?_
  refine zl_callM1 hH B' (TL_law_21.at 39 rfl) cL_179 rfl (Nat.le_of_ble_eq_true rfl) (fun f2' g2' j2' h2 B2 S2 => ?_)
  refine zl_icmp_eq (tgt := 1353) (TL_law_22.at 0 rfl) rfl rz rz (fun _ => ?_) (fun q => absurd rfl q)
  exact K E' f' g' j' f2' g2' j2' h2 e31 B2 S2
set_option maxHeartbeats 1000000 in
theorem lk_40 {l : Launch} {b Ln : Nat} {xs : Nat → Int32} {G : zG} {o : Nat} {ar : Nat → Nat} {E : cE} {f : mF} {g j : mA} {f2 : mF} {g2 j2 : mA} {n : Nat} {h : zH} {kc ks : Nat} {i : Int} (hn : n ≤ 1000) (i0 : 0 ≤ i) (i1 : i + 6 ≤ Ln) (hL : Ln ≤ 384) (S : Sim E f g f2 g2 n) (B : BH E f g j o ar f2 g2 j2 h) (K : ∀ (E' : cE) (f' : mF) (g' j' : mA) (f2' : mF) (g2' j2' : mA) (h' : zH), E'.1 31 = E.1 31 → BH E' f' g' j' o ar f2' g2' j2' h' → Sim E' f' g' f2' g2' (n + 1) → ZL l b Ln xs G 1353 [some (.ref b), some (.ref (E.1 31)), some (.ref o), some (vI i)] [] h' kc ks) : ZL l b Ln xs G 1317 [some (.ref b), some (.ref (E.1 31)), some (.ref o), some (vI i)] [] h (kc + 11) (ks + 469) := by
  refine zl_ald_1 (TL_law_22.at 3 rfl) ?_
  refine zl_ald_0 (TL_law_22.at 4 rfl) ?_
  refine zl_ild_3 (TL_law_22.at 5 rfl) ?_
  refine zl_iconst (TL_law_22.at 6 rfl) ?_
  refine zl_iadd (TL_law_22.at 7 rfl) ?_
  refine zl_sld (TL_law_22.at 8 rfl) (by omega) (by omega) hL ?_
  refine zl_callC1 (s_count sx_in S B) B (TL_law_22.at 9 rfl) cL_180 rfl (Nat.le_of_ble_eq_true rfl) (fun r E' f' g' j' h' rz e31 B' hH => ?_)
  refine zl_ald_2 (TL_law_22.at 10 rfl) ?_
  refine zl_ald_0 (TL_law_22.at 11 rfl) ?_
  refine zl_ild_3 (TL_law_22.at 12 rfl) ?_
  refine zl_iconst (TL_law_22.at 13 rfl) ?_
  refine zl_iadd (TL_law_22.at 14 rfl) ?_
  refine zl_sld (TL_law_22.at 15 rfl) (by omega) (by omega) hL ?_
  refine zl_callM1 hH B' (TL_law_22.at 16 rfl) cL_183 rfl (Nat.le_of_ble_eq_true rfl) (fun f2' g2' j2' h2 B2 S2 => ?_)
  refine zl_icmp_eq (tgt := 1353) (TL_law_22.at 17 rfl) rfl rz rz (fun _ => ?_) (fun q => absurd rfl q)
  exact K E' f' g' j' f2' g2' j2' h2 e31 B2 S2
set_option maxHeartbeats 1000000 in
theorem lk_41 {l : Launch} {b Ln : Nat} {xs : Nat → Int32} {G : zG} {o : Nat} {ar : Nat → Nat} {E : cE} {f : mF} {g j : mA} {f2 : mF} {g2 j2 : mA} {n : Nat} {h : zH} {kc ks : Nat} {i : Int} (hn : n ≤ 1000) (i0 : 0 ≤ i) (i1 : i + 6 ≤ Ln) (hL : Ln ≤ 384) (S : Sim E f g f2 g2 n) (B : BH E f g j o ar f2 g2 j2 h) (K : ∀ (E' : cE) (f' : mF) (g' j' : mA) (f2' : mF) (g2' j2' : mA) (h' : zH), E'.1 31 = E.1 31 → BH E' f' g' j' o ar f2' g2' j2' h' → Sim E' f' g' f2' g2' (n + 1) → ZL l b Ln xs G 1353 [some (.ref b), some (.ref (E.1 31)), some (.ref o), some (vI i)] [] h' kc ks) : ZL l b Ln xs G 1340 [some (.ref b), some (.ref (E.1 31)), some (.ref o), some (vI i)] [] h (kc + 11) (ks + 469) := by
  refine zl_ald_1 (TL_law_22.at 20 rfl) ?_
  refine zl_callC0 (s_status  S B) B (TL_law_22.at 21 rfl) cL_184 rfl (Nat.le_of_ble_eq_true rfl) (fun r E' f' g' j' h' rz e31 B' hH => ?_)
  refine zl_ald_2 (TL_law_22.at 22 rfl) ?_
  refine zl_callM0 hH B' (TL_law_22.at 23 rfl) cL_187 rfl (Nat.le_of_ble_eq_true rfl) (fun f2' g2' j2' h2 B2 S2 => ?_)
  refine zl_icmp_eq (tgt := 1353) (TL_law_22.at 24 rfl) rfl rz rz (fun _ => ?_) (fun q => absurd rfl q)
  exact K E' f' g' j' f2' g2' j2' h2 e31 B2 S2
theorem zand_63 (x : Int) : 0 ≤ zand x 63 ∧ zand x 63 ≤ 63 := by
  have key : ∀ w : Int32, 0 ≤ (w &&& 63).toInt ∧ (w &&& 63).toInt ≤ 63 := by
    intro w
    have h : (w &&& 63).toBitVec.toNat ≤ 63 := by
      rw [Int32.toBitVec_and, BitVec.toNat_and]
      exact Nat.and_le_right
    have e := zb_toInt (w := w &&& 63) (n := (w &&& 63).toBitVec.toNat) rfl (by omega)
    omega
  exact key _

set_option maxHeartbeats 4000000 in
theorem lw_loop {l : Launch} {b Ln : Nat} {xs : Nat → Int32} {G : zG} {o a : Nat} {ar : Nat → Nat} (hL : Ln ≤ 384) : ∀ (q n : Nat) (i : Int) (E : cE) (f : mF) (g j : mA) (f2 : mF) (g2 j2 : mA) (h : zH), i = 6 * (n : Int) → (Ln : Int) < i + 6 * (q : Int) + 6 → n + q ≤ 900 → BH E f g j o ar f2 g2 j2 h → Sim E f g f2 g2 n → E.1 31 = a → ZL l b Ln xs G 18 [some (.ref b), some (.ref a), some (.ref o), some (vI i)] [] h (11 * q) (469 * q) := by
  intro q
  induction q with
  | zero =>
    intro n i E f g j f2 g2 j2 h hi hq hnq B S ea
    refine zl_ild_3 (TL_law_0.at 10 rfl) ?_
    refine zl_ald_0 (TL_law_0.at 11 rfl) ?_
    refine zl_slen (TL_law_0.at 12 rfl) ?_
    refine zl_bipush (by decide) (TL_law_0.at 13 rfl) ?_
    refine zl_isub (TL_law_0.at 14 rfl) ?_
    refine zl_icmp_gt (tgt := 1359) (TL_law_0.at 15 rfl) rfl (by omega) (by omega) (fun c1 => ?_) (fun c1 => ?_)
    · refine zl_iconst (TL_law_22.at 29 rfl) ?_
      exact zl_ret (TL_law_22.at 30 rfl)
    · exfalso; omega
  | succ q ih =>
    intro n i E f g j f2 g2 j2 h hi hq hnq B S ea
    subst ea
    refine zl_ild_3 (TL_law_0.at 10 rfl) ?_
    refine zl_ald_0 (TL_law_0.at 11 rfl) ?_
    refine zl_slen (TL_law_0.at 12 rfl) ?_
    refine zl_bipush (by decide) (TL_law_0.at 13 rfl) ?_
    refine zl_isub (TL_law_0.at 14 rfl) ?_
    refine zl_icmp_gt (tgt := 1359) (TL_law_0.at 15 rfl) rfl (by omega) (by omega) (fun c1 => ?_) (fun c1 => ?_)
    · refine zl_iconst (TL_law_22.at 29 rfl) ?_
      exact zl_ret (TL_law_22.at 30 rfl)
    have hK : ∀ (E' : cE) (f' : mF) (g' j' : mA) (f2' : mF) (g2' j2' : mA) (h' : zH), E'.1 31 = E.1 31 → BH E' f' g' j' o ar f2' g2' j2' h' → Sim E' f' g' f2' g2' (n + 1) → ZL l b Ln xs G 1353 [some (.ref b), some (.ref (E.1 31)), some (.ref o), some (vI i)] [] h' (11 * q) (469 * q) := by
      intro E' f' g' j' f2' g2' j2' h' e31 B' S'
      refine zl_iinc_3 (TL_law_22.at 27 rfl) (by decide) rfl ?_
      refine zl_goto (tgt := 18) (TL_law_22.at 28 rfl) rfl ?_
      exact ih (n + 1) (i + 6) E' f' g' j' f2' g2' j2' h' (by omega) (by omega) (by omega) B' S' e31
    rw [show 11 * (q + 1) = 11 * q + 11 by omega, show 469 * (q + 1) = 469 * q + 469 by omega]
    refine zl_ald_0 (TL_law_0.at 16 rfl) ?_
    refine zl_ild_3 (TL_law_0.at 17 rfl) ?_
    refine zl_sld (TL_law_0.at 18 rfl) (by omega) (by omega) hL ?_
    refine zl_bipush (by decide) (TL_law_0.at 19 rfl) ?_
    refine zl_iand (TL_law_0.at 20 rfl) ?_
    have hv9 := zand_63 (sx xs i)
    generalize zand (sx xs i) 63 = v at hv9 ⊢
    rcases (show v = 0 ∨ v = 1 ∨ v = 2 ∨ v = 3 ∨ v = 4 ∨ v = 5 ∨ v = 6 ∨ v = 7 ∨ v = 8 ∨ v = 9 ∨ v = 10 ∨ v = 11 ∨ v = 12 ∨ v = 13 ∨ v = 14 ∨ v = 15 ∨ v = 16 ∨ v = 17 ∨ v = 18 ∨ v = 19 ∨ v = 20 ∨ v = 21 ∨ v = 22 ∨ v = 23 ∨ v = 24 ∨ v = 25 ∨ v = 26 ∨ v = 27 ∨ v = 28 ∨ v = 29 ∨ v = 30 ∨ v = 31 ∨ v = 32 ∨ v = 33 ∨ v = 34 ∨ v = 35 ∨ v = 36 ∨ v = 37 ∨ v = 38 ∨ v = 39 ∨ v = 40 ∨ v = 41 ∨ 41 < v by omega) with rfl | rfl | rfl | rfl | rfl | rfl | rfl | rfl | rfl | rfl | rfl | rfl | rfl | rfl | rfl | rfl | rfl | rfl | rfl | rfl | rfl | rfl | rfl | rfl | rfl | rfl | rfl | rfl | rfl | rfl | rfl | rfl | rfl | rfl | rfl | rfl | rfl | rfl | rfl | rfl | rfl | rfl | hv
    · refine zl_swIn (tgt := 216) (TL_law_0.at 21 rfl) (by decide) (by decide) (by decide) rfl rfl ?_
      exact lk_0 (by omega) (by omega) (by omega) hL S B hK
    · refine zl_swIn (tgt := 269) (TL_law_0.at 21 rfl) (by decide) (by decide) (by decide) rfl rfl ?_
      exact lk_1 (by omega) (by omega) (by omega) hL S B hK
    · refine zl_swIn (tgt := 302) (TL_law_0.at 21 rfl) (by decide) (by decide) (by decide) rfl rfl ?_
      exact lk_2 (by omega) (by omega) (by omega) hL S B hK
    · refine zl_swIn (tgt := 335) (TL_law_0.at 21 rfl) (by decide) (by decide) (by decide) rfl rfl ?_
      exact lk_3 (by omega) (by omega) (by omega) hL S B hK
    · refine zl_swIn (tgt := 358) (TL_law_0.at 21 rfl) (by decide) (by decide) (by decide) rfl rfl ?_
      exact lk_4 (by omega) (by omega) (by omega) hL S B hK
    · refine zl_swIn (tgt := 391) (TL_law_0.at 21 rfl) (by decide) (by decide) (by decide) rfl rfl ?_
      exact lk_5 (by omega) (by omega) (by omega) hL S B hK
    · refine zl_swIn (tgt := 454) (TL_law_0.at 21 rfl) (by decide) (by decide) (by decide) rfl rfl ?_
      exact lk_6 (by omega) (by omega) (by omega) hL S B hK
    · refine zl_swIn (tgt := 477) (TL_law_0.at 21 rfl) (by decide) (by decide) (by decide) rfl rfl ?_
      exact lk_7 (by omega) (by omega) (by omega) hL S B hK
    · refine zl_swIn (tgt := 490) (TL_law_0.at 21 rfl) (by decide) (by decide) (by decide) rfl rfl ?_
      exact lk_8 (by omega) (by omega) (by omega) hL S B hK
    · refine zl_swIn (tgt := 503) (TL_law_0.at 21 rfl) (by decide) (by decide) (by decide) rfl rfl ?_
      exact lk_9 (by omega) (by omega) (by omega) hL S B hK
    · refine zl_swIn (tgt := 516) (TL_law_0.at 21 rfl) (by decide) (by decide) (by decide) rfl rfl ?_
      exact lk_10 (by omega) (by omega) (by omega) hL S B hK
    · refine zl_swIn (tgt := 529) (TL_law_0.at 21 rfl) (by decide) (by decide) (by decide) rfl rfl ?_
      exact lk_11 (by omega) (by omega) (by omega) hL S B hK
    · refine zl_swIn (tgt := 542) (TL_law_0.at 21 rfl) (by decide) (by decide) (by decide) rfl rfl ?_
      exact lk_12 (by omega) (by omega) (by omega) hL S B hK
    · refine zl_swIn (tgt := 555) (TL_law_0.at 21 rfl) (by decide) (by decide) (by decide) rfl rfl ?_
      exact lk_13 (by omega) (by omega) (by omega) hL S B hK
    · refine zl_swIn (tgt := 578) (TL_law_0.at 21 rfl) (by decide) (by decide) (by decide) rfl rfl ?_
      exact lk_14 (by omega) (by omega) (by omega) hL S B hK
    · refine zl_swIn (tgt := 601) (TL_law_0.at 21 rfl) (by decide) (by decide) (by decide) rfl rfl ?_
      exact lk_15 (by omega) (by omega) (by omega) hL S B hK
    · refine zl_swIn (tgt := 624) (TL_law_0.at 21 rfl) (by decide) (by decide) (by decide) rfl rfl ?_
      exact lk_16 (by omega) (by omega) (by omega) hL S B hK
    · refine zl_swIn (tgt := 657) (TL_law_0.at 21 rfl) (by decide) (by decide) (by decide) rfl rfl ?_
      exact lk_17 (by omega) (by omega) (by omega) hL S B hK
    · refine zl_swIn (tgt := 670) (TL_law_0.at 21 rfl) (by decide) (by decide) (by decide) rfl rfl ?_
      exact lk_18 (by omega) (by omega) (by omega) hL S B hK
    · refine zl_swIn (tgt := 683) (TL_law_0.at 21 rfl) (by decide) (by decide) (by decide) rfl rfl ?_
      exact lk_19 (by omega) (by omega) (by omega) hL S B hK
    · refine zl_swIn (tgt := 716) (TL_law_0.at 21 rfl) (by decide) (by decide) (by decide) rfl rfl ?_
      exact lk_20 (by omega) (by omega) (by omega) hL S B hK
    · refine zl_swIn (tgt := 749) (TL_law_0.at 21 rfl) (by decide) (by decide) (by decide) rfl rfl ?_
      exact lk_21 (by omega) (by omega) (by omega) hL S B hK
    · refine zl_swIn (tgt := 782) (TL_law_0.at 21 rfl) (by decide) (by decide) (by decide) rfl rfl ?_
      exact lk_22 (by omega) (by omega) (by omega) hL S B hK
    · refine zl_swIn (tgt := 815) (TL_law_0.at 21 rfl) (by decide) (by decide) (by decide) rfl rfl ?_
      exact lk_23 (by omega) (by omega) (by omega) hL S B hK
    · refine zl_swIn (tgt := 838) (TL_law_0.at 21 rfl) (by decide) (by decide) (by decide) rfl rfl ?_
      exact lk_24 (by omega) (by omega) (by omega) hL S B hK
    · refine zl_swIn (tgt := 861) (TL_law_0.at 21 rfl) (by decide) (by decide) (by decide) rfl rfl ?_
      exact lk_25 (by omega) (by omega) (by omega) hL S B hK
    · refine zl_swIn (tgt := 904) (TL_law_0.at 21 rfl) (by decide) (by decide) (by decide) rfl rfl ?_
      exact lk_26 (by omega) (by omega) (by omega) hL S B hK
    · refine zl_swIn (tgt := 947) (TL_law_0.at 21 rfl) (by decide) (by decide) (by decide) rfl rfl ?_
      exact lk_27 (by omega) (by omega) (by omega) hL S B hK
    · refine zl_swIn (tgt := 980) (TL_law_0.at 21 rfl) (by decide) (by decide) (by decide) rfl rfl ?_
      exact lk_28 (by omega) (by omega) (by omega) hL S B hK
    · refine zl_swIn (tgt := 1013) (TL_law_0.at 21 rfl) (by decide) (by decide) (by decide) rfl rfl ?_
      exact lk_29 (by omega) (by omega) (by omega) hL S B hK
    · refine zl_swIn (tgt := 1046) (TL_law_0.at 21 rfl) (by decide) (by decide) (by decide) rfl rfl ?_
      exact lk_30 (by omega) (by omega) (by omega) hL S B hK
    · refine zl_swIn (tgt := 1059) (TL_law_0.at 21 rfl) (by decide) (by decide) (by decide) rfl rfl ?_
      exact lk_31 (by omega) (by omega) (by omega) hL S B hK
    · refine zl_swIn (tgt := 1072) (TL_law_0.at 21 rfl) (by decide) (by decide) (by decide) rfl rfl ?_
      exact lk_32 (by omega) (by omega) (by omega) hL S B hK
    · refine zl_swIn (tgt := 1095) (TL_law_0.at 21 rfl) (by decide) (by decide) (by decide) rfl rfl ?_
      exact lk_33 (by omega) (by omega) (by omega) hL S B hK
    · refine zl_swIn (tgt := 1138) (TL_law_0.at 21 rfl) (by decide) (by decide) (by decide) rfl rfl ?_
      exact lk_34 (by omega) (by omega) (by omega) hL S B hK
    · refine zl_swIn (tgt := 1172) (TL_law_0.at 21 rfl) (by decide) (by decide) (by decide) rfl rfl ?_
      exact lk_35 (by omega) (by omega) (by omega) hL S B hK
    · refine zl_swIn (tgt := 1205) (TL_law_0.at 21 rfl) (by decide) (by decide) (by decide) rfl rfl ?_
      exact lk_36 (by omega) (by omega) (by omega) hL S B hK
    · refine zl_swIn (tgt := 1238) (TL_law_0.at 21 rfl) (by decide) (by decide) (by decide) rfl rfl ?_
      exact lk_37 (by omega) (by omega) (by omega) hL S B hK
    · refine zl_swIn (tgt := 1271) (TL_law_0.at 21 rfl) (by decide) (by decide) (by decide) rfl rfl ?_
      exact lk_38 (by omega) (by omega) (by omega) hL S B hK
    · refine zl_swIn (tgt := 1294) (TL_law_0.at 21 rfl) (by decide) (by decide) (by decide) rfl rfl ?_
      exact lk_39 (by omega) (by omega) (by omega) hL S B hK
    · refine zl_swIn (tgt := 1317) (TL_law_0.at 21 rfl) (by decide) (by decide) (by decide) rfl rfl ?_
      exact lk_40 (by omega) (by omega) (by omega) hL S B hK
    · refine zl_swIn (tgt := 1340) (TL_law_0.at 21 rfl) (by decide) (by decide) (by decide) rfl rfl ?_
      exact lk_41 (by omega) (by omega) (by omega) hL S B hK
    · refine zl_swOut (tgt := 1353) (TL_law_0.at 21 rfl) (by omega) (Or.inr hv) rfl ?_
      refine (hK E f g j f2 g2 j2 h rfl B ?_).less (by omega) (by omega)
      exact S.qu (fm := []) (gm := []) (fm2 := []) (gm2 := []) eqx.rf eqx.rf eqx.rf eqx.rf (by decide) (by decide) (by decide) (by decide)

