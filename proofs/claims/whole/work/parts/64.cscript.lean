/-! ===== the class: scripts; sums ===== -/
theorem pk_o {o a : Int} (h0 : 0 ≤ o) (h1 : o ≤ 15) (a0 : 0 ≤ a) (a1 : a ≤ 1023) : zshr (o * 1024 + a) 10 = o := by
  rw [zshr_nat ⟨by omega, by omega⟩ (by decide) (by decide), Nat.shiftRight_eq_div_pow]
  show ((((o * 1024 + a).toNat / 1024 : Nat)) : Int) = o
  omega
theorem pk_a {o a : Int} (h0 : 0 ≤ o) (h1 : o ≤ 15) (a0 : 0 ≤ a) (a1 : a ≤ 1023) : zand (o * 1024 + a) 1023 = a := by
  rw [zand_nat ⟨by omega, by omega⟩ ⟨by decide, by decide⟩]
  have h := Nat.and_two_pow_sub_one_eq_mod (o * 1024 + a).toNat 10
  have h2 : (1023 : Int).toNat = 2 ^ 10 - 1 := by decide
  rw [h2, h]
  omega
theorem pk_tab : (List.range 16).all (fun n => decide (zshl (n : Int) 10 = (n : Int) * 1024)) = true := by decide +kernel
theorem pks {o : Int} (h0 : 0 ≤ o) (h1 : o ≤ 15) : zshl o 10 = o * 1024 := by
  have h := List.all_eq_true.mp pk_tab o.toNat (List.mem_range.mpr (by omega))
  have h := of_decide_eq_true h
  rw [show ((o.toNat : Nat) : Int) = o by omega] at h
  exact h
theorem pk_or {o a : Int} (h0 : 0 ≤ o) (h1 : o ≤ 15) (a0 : 0 ≤ a) (a1 : a ≤ 1023) : zor (o * 1024) a = o * 1024 + a := by
  rw [zor_nat ⟨by omega, by omega⟩ ⟨by omega, by omega⟩]
  have h := Nat.two_pow_add_eq_or_of_lt (i := 10) (b := a.toNat) (by omega) o.toNat
  rw [show (o * 1024).toNat = 2 ^ 10 * o.toNat by omega, ← h]
  omega
theorem pk_put {o a : Int} (h0 : 0 ≤ o) (h1 : o ≤ 15) (a0 : 0 ≤ a) (a1 : a ≤ 1023) : zor (zshl o 10) (zand a 1023) = o * 1024 + a := by
  have h := pk_a (o := 0) (a := a) (by decide) (by decide) a0 a1
  rw [show (0 : Int) * 1024 + a = a by omega] at h
  rw [h, pks h0 h1, pk_or h0 h1 a0 a1]
theorem pk_aim {o a : Int} (ho : o = 12 ∨ o = 13) (a0 : 0 ≤ a) (a1 : a ≤ 1023) : zor (zand (o * 1024) (-1024)) (zand a 1023) = o * 1024 + a := by
  have h := pk_a (o := 0) (a := a) (by decide) (by decide) a0 a1
  rw [show (0 : Int) * 1024 + a = a by omega] at h
  rw [h]
  have e : zand (o * 1024) (-1024) = o * 1024 := by rcases ho with rfl | rfl <;> decide +kernel
  rw [e, pk_or (by omega) (by omega) a0 a1]
set_option maxHeartbeats 4000000 in
set_option maxRecDepth 100000 in
theorem c_clear {l : Launch} {E : cE} {f : mF} {g j : mA} {n1 : Int} {n2 : Int} {n3 : Int}  (ef416 : f 416 = n1) (ef417 : f 417 = n2) (ef418 : f 418 = n3)  : CM l E MX4_clear 0 [.ref (E.1 447)] f g j (PV (fun f' g' j' => (f' 416 = 0 ∧ f' 417 = 0 ∧ f' 418 = 0) ∧ eqx [416, 417, 418] f f' ∧ eqx [] g g' ∧ j' = j)) := by
  refine CM.intro [some (.ref (E.1 447))] (by decide) (Nat.le_of_ble_eq_true rfl) rfl (fun d hd h0 h hH hA => ?_)
  have hfE : eqx [416, 417, 418] f f := eqx.rf
  have hgE : eqx [] g g := eqx.rf
  refine z_ald_0 (TX4_clear.at 0 rfl) ?_
  refine z_iconst (TX4_clear.at 1 rfl) ?_
  refine zc_putI (m := 13) (s := 0) (k := 416) (hH.lv (by decide)) (TX4_clear.at 2 rfl) fp4_9 hH hA rfl rfl (by decide) (by decide) (by first | omega | exact b2i_01 _) (fun h f2 e1 e2 hH hA => ?_)
  have ef416 := e2
  have ef417 := (e1 417 (by decide)).trans ef417
  have ef418 := (e1 418 (by decide)).trans ef418
  have hfE := hfE.put e1 (by decide)
  refine z_ald_0 (TX4_clear.at 3 rfl) ?_
  refine z_iconst (TX4_clear.at 4 rfl) ?_
  refine zc_putI (m := 13) (s := 1) (k := 417) (hH.lv (by decide)) (TX4_clear.at 5 rfl) fp4_15 hH hA rfl rfl (by decide) (by decide) (by first | omega | exact b2i_01 _) (fun h f7 e1 e2 hH hA => ?_)
  have ef416 := (e1 416 (by decide)).trans ef416
  have ef417 := e2
  have ef418 := (e1 418 (by decide)).trans ef418
  have hfE := hfE.put e1 (by decide)
  refine z_ald_0 (TX4_clear.at 6 rfl) ?_
  refine z_iconst (TX4_clear.at 7 rfl) ?_
  refine zc_putZ (m := 13) (s := 2) (k := 418) (hH.lv (by decide)) (TX4_clear.at 8 rfl) fp4_18 hH hA rfl rfl (by decide) (by decide) (by first | omega | exact b2i_01 _) (fun h f12 e1 e2 hH hA => ?_)
  have ef416 := (e1 416 (by decide)).trans ef416
  have ef417 := (e1 417 (by decide)).trans ef417
  have ef418 := e2
  have hfE := hfE.put e1 (by decide)
  refine zc_vret (TX4_clear.at 9 rfl) rfl hH hA ?_
  exact ⟨⟨ef416, ef417, ef418⟩, hfE, hgE, rfl⟩

set_option maxHeartbeats 4000000 in
set_option maxRecDepth 100000 in
theorem c_open {l : Launch} {E : cE} {f : mF} {g j : mA} {Vb : Int → Int} {Tm : Int → Int} {On : Int → Int} {Ot : Int → Int} {Te : Int → Int} {cl : Int} {w : Int}  (eg419 : g 419 = Vb) (eg420 : g 420 = Tm) (eg421 : g 421 = On) (eg422 : g 422 = Ot) (eg423 : g 423 = Te) (ef416 : f 416 = cl) (hw : zIn w) (c0 : 0 ≤ cl) (c1 : cl ≤ 11) : CM l E MX4_open 0 [.ref (E.1 447), vI w] f g j (PV (fun f' g' j' => (g' 419 = iu Vb cl w ∧ g' 420 = iu Tm cl 1 ∧ g' 421 = iu On cl (-1) ∧ g' 422 = iu Ot cl (-1) ∧ g' 423 = iu Te cl (-1)) ∧ eqx [] f f' ∧ eqx [419, 420, 421, 422, 423] g g' ∧ j' = j)) := by
  refine CM.intro [some (.ref (E.1 447)), some (vI w)] (by decide) (Nat.le_of_ble_eq_true rfl) rfl (fun d hd h0 h hH hA => ?_)
  have hfE : eqx [] f f := eqx.rf
  have hgE : eqx [419, 420, 421, 422, 423] g g := eqx.rf
  refine z_ald_0 (TX4_open.at 0 rfl) ?_
  refine zc_getIE (m := 13) (s := 0) (k := 416) (hH.lv (by decide)) ef416 (TX4_open.at 1 rfl) fl4_9 hH rfl rfl (by decide) (by decide) (fun r1 => ?_)
  refine z_ald_0 (TX4_open.at 2 rfl) ?_
  refine zc_getA (m := 13) (s := 3) (k := 419) (hH.lv (by decide)) (TX4_open.at 3 rfl) fl4_28 hH rfl rfl (by decide) (by decide) ?_
  refine zcf_alen (k := 419) (N := 12) (hH.lv (by decide)) (by decide) rfl (TX4_open.at 4 rfl) hH (by decide) ?_
  refine z_icmp_ge (tgt := 62) (TX4_open.at 5 rfl) rfl (by omega) (by omega) (fun c1 => absurd c1 (by omega)) (fun c1 => ?_)
  refine z_ald_0 (TX4_open.at 6 rfl) ?_
  refine zc_getA (m := 13) (s := 3) (k := 419) (hH.lv (by decide)) (TX4_open.at 7 rfl) fl4_28 hH rfl rfl (by decide) (by decide) ?_
  refine z_ald_0 (TX4_open.at 8 rfl) ?_
  refine zc_getIE (m := 13) (s := 0) (k := 416) (hH.lv (by decide)) ef416 (TX4_open.at 9 rfl) fl4_9 hH rfl rfl (by decide) (by decide) (fun r17 => ?_)
  refine z_ild_1 (TX4_open.at 10 rfl) ?_
  refine zcf_iast (k := 419) (N := 12) (hH.lv (by decide)) (by decide) rfl (TX4_open.at 11 rfl) hH hA (by decide) (by omega) (show _ < ((12 : Nat) : Int) by omega) (by omega) (fun h g21 e1 e2 hH hA => ?_)
  rw [eg419] at e2; have eg419 := e2
  have eg420 := (e1 420 (by decide)).trans eg420
  have eg421 := (e1 421 (by decide)).trans eg421
  have eg422 := (e1 422 (by decide)).trans eg422
  have eg423 := (e1 423 (by decide)).trans eg423
  have hgE := hgE.put e1 (by decide)
  refine z_ald_0 (TX4_open.at 12 rfl) ?_
  refine zc_getA (m := 13) (s := 4) (k := 420) (hH.lv (by decide)) (TX4_open.at 13 rfl) fl4_32 hH rfl rfl (by decide) (by decide) ?_
  refine z_ald_0 (TX4_open.at 14 rfl) ?_
  refine zc_getIE (m := 13) (s := 0) (k := 416) (hH.lv (by decide)) ef416 (TX4_open.at 15 rfl) fl4_9 hH rfl rfl (by decide) (by decide) (fun r27 => ?_)
  refine z_iconst (TX4_open.at 16 rfl) ?_
  refine zcf_iast (k := 420) (N := 12) (hH.lv (by decide)) (by decide) rfl (TX4_open.at 17 rfl) hH hA (by decide) (by omega) (show _ < ((12 : Nat) : Int) by omega) (by omega) (fun h g31 e1 e2 hH hA => ?_)
  have eg419 := (e1 419 (by decide)).trans eg419
  rw [eg420] at e2; have eg420 := e2
  have eg421 := (e1 421 (by decide)).trans eg421
  have eg422 := (e1 422 (by decide)).trans eg422
  have eg423 := (e1 423 (by decide)).trans eg423
  have hgE := hgE.put e1 (by decide)
  refine z_ald_0 (TX4_open.at 18 rfl) ?_
  refine zc_getA (m := 13) (s := 5) (k := 421) (hH.lv (by decide)) (TX4_open.at 19 rfl) fl4_35 hH rfl rfl (by decide) (by decide) ?_
  refine z_ald_0 (TX4_open.at 20 rfl) ?_
  refine zc_getIE (m := 13) (s := 0) (k := 416) (hH.lv (by decide)) ef416 (TX4_open.at 21 rfl) fl4_9 hH rfl rfl (by decide) (by decide) (fun r37 => ?_)
  refine z_iconst (TX4_open.at 22 rfl) ?_
  refine zcf_iast (k := 421) (N := 12) (hH.lv (by decide)) (by decide) rfl (TX4_open.at 23 rfl) hH hA (by decide) (by omega) (show _ < ((12 : Nat) : Int) by omega) (by omega) (fun h g41 e1 e2 hH hA => ?_)
  have eg419 := (e1 419 (by decide)).trans eg419
  have eg420 := (e1 420 (by decide)).trans eg420
  rw [eg421] at e2; have eg421 := e2
  have eg422 := (e1 422 (by decide)).trans eg422
  have eg423 := (e1 423 (by decide)).trans eg423
  have hgE := hgE.put e1 (by decide)
  refine z_ald_0 (TX4_open.at 24 rfl) ?_
  refine zc_getA (m := 13) (s := 6) (k := 422) (hH.lv (by decide)) (TX4_open.at 25 rfl) fl4_38 hH rfl rfl (by decide) (by decide) ?_
  refine z_ald_0 (TX4_open.at 26 rfl) ?_
  refine zc_getIE (m := 13) (s := 0) (k := 416) (hH.lv (by decide)) ef416 (TX4_open.at 27 rfl) fl4_9 hH rfl rfl (by decide) (by decide) (fun r47 => ?_)
  refine z_iconst (TX4_open.at 28 rfl) ?_
  refine zcf_iast (k := 422) (N := 12) (hH.lv (by decide)) (by decide) rfl (TX4_open.at 29 rfl) hH hA (by decide) (by omega) (show _ < ((12 : Nat) : Int) by omega) (by omega) (fun h g51 e1 e2 hH hA => ?_)
  have eg419 := (e1 419 (by decide)).trans eg419
  have eg420 := (e1 420 (by decide)).trans eg420
  have eg421 := (e1 421 (by decide)).trans eg421
  rw [eg422] at e2; have eg422 := e2
  have eg423 := (e1 423 (by decide)).trans eg423
  have hgE := hgE.put e1 (by decide)
  refine z_ald_0 (TX4_open.at 30 rfl) ?_
  refine zc_getA (m := 13) (s := 7) (k := 423) (hH.lv (by decide)) (TX4_open.at 31 rfl) fl4_41 hH rfl rfl (by decide) (by decide) ?_
  refine z_ald_0 (TX4_open.at 32 rfl) ?_
  refine zc_getIE (m := 13) (s := 0) (k := 416) (hH.lv (by decide)) ef416 (TX4_open.at 33 rfl) fl4_9 hH rfl rfl (by decide) (by decide) (fun r57 => ?_)
  refine z_iconst (TX4_open.at 34 rfl) ?_
  refine zcf_iast (k := 423) (N := 12) (hH.lv (by decide)) (by decide) rfl (TX4_open.at 35 rfl) hH hA (by decide) (by omega) (show _ < ((12 : Nat) : Int) by omega) (by omega) (fun h g61 e1 e2 hH hA => ?_)
  have eg419 := (e1 419 (by decide)).trans eg419
  have eg420 := (e1 420 (by decide)).trans eg420
  have eg421 := (e1 421 (by decide)).trans eg421
  have eg422 := (e1 422 (by decide)).trans eg422
  rw [eg423] at e2; have eg423 := e2
  have hgE := hgE.put e1 (by decide)
  refine zc_vret (TX4_open.at 36 rfl) rfl hH hA ?_
  exact ⟨⟨eg419, eg420, eg421, eg422, eg423⟩, hfE, hgE, rfl⟩

set_option maxHeartbeats 4000000 in
set_option maxRecDepth 100000 in
theorem c_put {l : Launch} {E : cE} {f : mF} {g j : mA} {C : Int → Int} {N : Int} {o a : Int}  (eg424 : g 424 = C) (ef417 : f 417 = N) (ho : zIn o) (ha : zIn a) (o0 : 0 ≤ o) (o1 : o ≤ 15) (a0 : 0 ≤ a) (a1 : a ≤ 1023) (N0 : 0 ≤ N) : CM l E MX4_put 0 [.ref (E.1 447), vI o, vI a] f g j (PV (fun f' g' j' => (f' 417 = (if N < 400 then N + 1 else N) ∧ g' 424 = (if N < 400 then iu C N (o * 1024 + a) else C)) ∧ eqx [417] f f' ∧ eqx [424] g g' ∧ j' = j)) := by
  refine CM.intro [some (.ref (E.1 447)), some (vI o), some (vI a)] (by decide) (Nat.le_of_ble_eq_true rfl) rfl (fun d hd h0 h hH hA => ?_)
  have hfE : eqx [417] f f := eqx.rf
  have hgE : eqx [424] g g := eqx.rf
  refine z_ald_0 (TX4_put.at 0 rfl) ?_
  refine zc_getIE (m := 13) (s := 1) (k := 417) (hH.lv (by decide)) ef417 (TX4_put.at 1 rfl) fl4_15 hH rfl rfl (by decide) (by decide) (fun r1 => ?_)
  refine z_ald_0 (TX4_put.at 2 rfl) ?_
  refine zc_getA (m := 13) (s := 8) (k := 424) (hH.lv (by decide)) (TX4_put.at 3 rfl) fl4_44 hH rfl rfl (by decide) (by decide) ?_
  refine zcf_alen (k := 424) (N := 400) (hH.lv (by decide)) (by decide) rfl (TX4_put.at 4 rfl) hH (by decide) ?_
  refine z_icmp_ge (tgt := 41) (TX4_put.at 5 rfl) rfl (by omega) (by omega) (fun c1 => ?_) (fun c1 => ?_)
  · skip
    refine zc_vret (TX4_put.at 24 rfl) rfl hH hA ?_
    exact ⟨by first | (have hw : N < 400 := (by omega); rw [if_pos hw, if_pos hw]; exact ⟨ef417, eg424⟩) | (have hw : ¬ N < 400 := (by omega); rw [if_neg hw, if_neg hw]; exact ⟨ef417, eg424⟩), hfE, hgE, rfl⟩
  · skip
    refine z_ald_0 (TX4_put.at 6 rfl) ?_
    refine zc_getA (m := 13) (s := 8) (k := 424) (hH.lv (by decide)) (TX4_put.at 7 rfl) fl4_44 hH rfl rfl (by decide) (by decide) ?_
    refine z_ald_0 (TX4_put.at 8 rfl) ?_
    refine zc_getIE (m := 13) (s := 1) (k := 417) (hH.lv (by decide)) ef417 (TX4_put.at 9 rfl) fl4_15 hH rfl rfl (by decide) (by decide) (fun r17 => ?_)
    refine z_ild_1 (TX4_put.at 10 rfl) ?_
    refine z_bipush (by decide) (TX4_put.at 11 rfl) ?_
    refine z_ishl (TX4_put.at 12 rfl) ?_
    refine z_ild_2 (TX4_put.at 13 rfl) ?_
    refine z_sipush (by decide) (TX4_put.at 14 rfl) ?_
    refine z_iand (TX4_put.at 15 rfl) ?_
    refine z_ior (TX4_put.at 16 rfl) ?_
    rw [pk_put o0 o1 a0 a1]
    refine zcf_iast (k := 424) (N := 400) (hH.lv (by decide)) (by decide) rfl (TX4_put.at 17 rfl) hH hA (by decide) (by omega) (show _ < ((400 : Nat) : Int) by omega) (by omega) (fun h g30 e1 e2 hH hA => ?_)
    rw [eg424] at e2; have eg424 := e2
    have hgE := hgE.put e1 (by decide)
    refine z_ald_0 (TX4_put.at 18 rfl) ?_
    refine z_dup rfl (TX4_put.at 19 rfl) ?_
    refine zc_getIE (m := 13) (s := 1) (k := 417) (hH.lv (by decide)) ef417 (TX4_put.at 20 rfl) fl4_15 hH rfl rfl (by decide) (by decide) (fun r33 => ?_)
    refine z_iconst (TX4_put.at 21 rfl) ?_
    refine z_iadd (TX4_put.at 22 rfl) ?_
    refine zc_putI (m := 13) (s := 1) (k := 417) (hH.lv (by decide)) (TX4_put.at 23 rfl) fp4_15 hH hA rfl rfl (by decide) (by decide) (by first | omega | exact b2i_01 _) (fun h f38 e1 e2 hH hA => ?_)
    have ef417 := e2
    have hfE := hfE.put e1 (by decide)
    refine zc_vret (TX4_put.at 24 rfl) rfl hH hA ?_
    exact ⟨by first | (have hw : N < 400 := (by omega); rw [if_pos hw, if_pos hw]; exact ⟨ef417, eg424⟩) | (have hw : ¬ N < 400 := (by omega); rw [if_neg hw, if_neg hw]; exact ⟨ef417, eg424⟩), hfE, hgE, rfl⟩

set_option maxHeartbeats 4000000 in
set_option maxRecDepth 100000 in
theorem c_aim {l : Launch} {E : cE} {f : mF} {g j : mA} {C : Int → Int} {N : Int} {t : Int} {o : Int} (eg424 : g 424 = C) (ef417 : f 417 = N) (ht : zIn t) (N0 : 0 ≤ N) (N1 : N ≤ 400) (ho : o = 12 ∨ o = 13) (hC : 0 ≤ t → t < N → C t = o * 1024) : CM l E MX4_aimHere 0 [.ref (E.1 447), vI t] f g j (PV (fun f' g' j' => (g' 424 = (if 0 ≤ t ∧ t < N then iu C t (o * 1024 + N) else C)) ∧ eqx [] f f' ∧ eqx [424] g g' ∧ j' = j)) := by
  refine CM.intro [some (.ref (E.1 447)), some (vI t)] (by decide) (Nat.le_of_ble_eq_true rfl) rfl (fun d hd h0 h hH hA => ?_)
  have hfE : eqx [] f f := eqx.rf
  have hgE : eqx [424] g g := eqx.rf
  refine z_ild_1 (TX4_aimHere.at 0 rfl) ?_
  refine z_if_lt (tgt := 37) (TX4_aimHere.at 1 rfl) rfl (by omega) (fun c1 => ?_) (fun c1 => ?_)
  · skip
    refine zc_vret (TX4_aimHere.at 21 rfl) rfl hH hA ?_
    exact ⟨by first | (have hw : 0 ≤ t ∧ t < N := (by omega); rw [if_pos hw]; exact eg424) | (have hw : ¬ (0 ≤ t ∧ t < N) := (by omega); rw [if_neg hw]; exact eg424), hfE, hgE, rfl⟩
  · skip
    refine z_ild_1 (TX4_aimHere.at 2 rfl) ?_
    refine z_ald_0 (TX4_aimHere.at 3 rfl) ?_
    refine zc_getIE (m := 13) (s := 1) (k := 417) (hH.lv (by decide)) ef417 (TX4_aimHere.at 4 rfl) fl4_15 hH rfl rfl (by decide) (by decide) (fun r6 => ?_)
    refine z_icmp_ge (tgt := 37) (TX4_aimHere.at 5 rfl) rfl (by omega) (by omega) (fun c2 => ?_) (fun c2 => ?_)
    · skip
      refine zc_vret (TX4_aimHere.at 21 rfl) rfl hH hA ?_
      exact ⟨by first | (have hw : 0 ≤ t ∧ t < N := (by omega); rw [if_pos hw]; exact eg424) | (have hw : ¬ (0 ≤ t ∧ t < N) := (by omega); rw [if_neg hw]; exact eg424), hfE, hgE, rfl⟩
    · skip
      refine z_ald_0 (TX4_aimHere.at 6 rfl) ?_
      refine zc_getA (m := 13) (s := 8) (k := 424) (hH.lv (by decide)) (TX4_aimHere.at 7 rfl) fl4_44 hH rfl rfl (by decide) (by decide) ?_
      refine z_ild_1 (TX4_aimHere.at 8 rfl) ?_
      refine z_ald_0 (TX4_aimHere.at 9 rfl) ?_
      refine zc_getA (m := 13) (s := 8) (k := 424) (hH.lv (by decide)) (TX4_aimHere.at 10 rfl) fl4_44 hH rfl rfl (by decide) (by decide) ?_
      refine z_ild_1 (TX4_aimHere.at 11 rfl) ?_
      refine zcf_iald (k := 424) (N := 400) (hH.lv (by decide)) (by decide) rfl eg424 (TX4_aimHere.at 12 rfl) hH (by decide) (by omega) (show _ < ((400 : Nat) : Int) by omega) (fun r22 => ?_)
      refine z_sipush (by decide) (TX4_aimHere.at 13 rfl) ?_
      refine z_iand (TX4_aimHere.at 14 rfl) ?_
      refine z_ald_0 (TX4_aimHere.at 15 rfl) ?_
      refine zc_getIE (m := 13) (s := 1) (k := 417) (hH.lv (by decide)) ef417 (TX4_aimHere.at 16 rfl) fl4_15 hH rfl rfl (by decide) (by decide) (fun r28 => ?_)
      refine z_sipush (by decide) (TX4_aimHere.at 17 rfl) ?_
      refine z_iand (TX4_aimHere.at 18 rfl) ?_
      refine z_ior (TX4_aimHere.at 19 rfl) ?_
      rw [hC (by omega) (by omega), pk_aim ho N0 (by omega)]
      refine zcf_iast (k := 424) (N := 400) (hH.lv (by decide)) (by decide) rfl (TX4_aimHere.at 20 rfl) hH hA (by decide) (by omega) (show _ < ((400 : Nat) : Int) by omega) (by omega) (fun h g36 e1 e2 hH hA => ?_)
      rw [eg424] at e2; have eg424 := e2
      have hgE := hgE.put e1 (by decide)
      refine zc_vret (TX4_aimHere.at 21 rfl) rfl hH hA ?_
      exact ⟨by first | (have hw : 0 ≤ t ∧ t < N := (by omega); rw [if_pos hw]; exact eg424) | (have hw : ¬ (0 ≤ t ∧ t < N) := (by omega); rw [if_neg hw]; exact eg424), hfE, hgE, rfl⟩

def brk (z : Option Int) : Int := match z with
  | some x => x
  | none => -2000000000
theorem brk_bnd {z : Int} : brk (bnd z) = if z > 1000000000 ∨ z < -1000000000 then -2000000000 else z := by
  unfold bnd
  split <;> rfl
theorem mul_inL {x y : Int} (hx : zIn x) (hy : zIn y) : zInL (x * y) := by
  have h1 : x.natAbs ≤ 2147483648 := by have := hx; omega
  have h2 : y.natAbs ≤ 2147483648 := by have := hy; omega
  have h3 : (x * y).natAbs ≤ 2147483648 * 2147483648 := by rw [Int.natAbs_mul]; exact Nat.mul_le_mul h1 h2
  have h4 : -4611686018427387904 ≤ x * y ∧ x * y ≤ 4611686018427387904 := by omega
  exact ⟨by omega, by omega⟩
theorem tdv_in {x y : Int} (hx : zIn x) : -2147483648 ≤ x.tdiv y ∧ x.tdiv y ≤ 2147483648 := by
  have h : (x.tdiv y).natAbs = x.natAbs / y.natAbs := Int.natAbs_tdiv x y
  have h2 : x.natAbs / y.natAbs ≤ x.natAbs := Nat.div_le_self _ _
  have := hx
  omega
theorem tmd_in {x y : Int} (hx : zIn x) : -2147483648 ≤ x.tmod y ∧ x.tmod y ≤ 2147483648 := by
  have h : (x.tmod y).natAbs = x.natAbs % y.natAbs := Int.natAbs_tmod x y
  have h2 : x.natAbs % y.natAbs ≤ x.natAbs := Nat.mod_le _ _
  have := hx
  omega
set_option maxHeartbeats 4000000 in
set_option maxRecDepth 100000 in
theorem c_jfin {l : Launch} {d : Nat} {h : zH} {o x y z : Int} {v5 : Option Value} (hz : zInL z) (e : brk (opV o x y) = if z > 1000000000 ∨ z < -1000000000 then -2000000000 else z) : Z l MX5_joined d 0 0 (fun v h' => h' = h ∧ v = some (vI (brk (opV o x y)))) 159 [some (vI o), some (vL x), none, some (vL y), none, some (vL z), none] [] h 0 0 := by
  refine z_lld_5 (TX5_joined_1.at 28 rfl) ?_
  refine z_ldc2 (v := 1000000000) (TX5_joined_1.at 29 rfl) k5_35 (by decide) ?_
  refine z_lif_gt (tgt := 177) (TX5_joined_1.at 30 rfl) (TX5_joined_1.at 31 rfl) rfl (by exact hz) (by decide) (fun c1 => ?_) (fun c1 => ?_)
  · skip
    refine z_ldc (v := -2000000000) (TX5_joined_1.at 36 rfl) k5_30 (by decide) ?_
    refine z_goto (tgt := 185) (TX5_joined_1.at 37 rfl) rfl ?_
    exact zs_iret (TX5_joined_2.at 0 rfl) rfl (by first | (have hw : z > 1000000000 ∨ z < -1000000000 := (by omega); rw [e, if_pos hw]; done) | (have hw : ¬ (z > 1000000000 ∨ z < -1000000000) := (by omega); rw [e, if_neg hw, zl2i_in ⟨by omega, by omega⟩]))
  · skip
    refine z_lld_5 (TX5_joined_1.at 32 rfl) ?_
    refine z_ldc2 (v := -1000000000) (TX5_joined_1.at 33 rfl) k5_37 (by decide) ?_
    refine z_lif_ge (tgt := 182) (TX5_joined_1.at 34 rfl) (TX5_joined_1.at 35 rfl) rfl (by exact hz) (by decide) (fun c2 => ?_) (fun c2 => ?_)
    · skip
      refine z_lld_5 (TX5_joined_1.at 38 rfl) ?_
      refine z_l2i (TX5_joined_1.at 39 rfl) ?_
      exact zs_iret (TX5_joined_2.at 0 rfl) rfl (by first | (have hw : z > 1000000000 ∨ z < -1000000000 := (by omega); rw [e, if_pos hw]; done) | (have hw : ¬ (z > 1000000000 ∨ z < -1000000000) := (by omega); rw [e, if_neg hw, zl2i_in ⟨by omega, by omega⟩]))
    · skip
      refine z_ldc (v := -2000000000) (TX5_joined_1.at 36 rfl) k5_30 (by decide) ?_
      refine z_goto (tgt := 185) (TX5_joined_1.at 37 rfl) rfl ?_
      exact zs_iret (TX5_joined_2.at 0 rfl) rfl (by first | (have hw : z > 1000000000 ∨ z < -1000000000 := (by omega); rw [e, if_pos hw]; done) | (have hw : ¬ (z > 1000000000 ∨ z < -1000000000) := (by omega); rw [e, if_neg hw, zl2i_in ⟨by omega, by omega⟩]))
theorem opV_3 {x y : Int} : opV 3 x y = bnd (x + y) := rfl
theorem opV_4 {x y : Int} : opV 4 x y = bnd (x - y) := rfl
theorem opV_5 {x y : Int} : opV 5 x y = bnd (x * y) := rfl
theorem opV_6 {x y : Int} : opV 6 x y = if y = 0 then none else bnd (x.tdiv y) := rfl
theorem opV_7 {x y : Int} : opV 7 x y = if y = 0 then none else bnd (x.tmod y) := rfl
theorem opV_8 {x y : Int} : opV 8 x y = some (b2i (x < y)) := rfl
theorem opV_9 {x y : Int} : opV 9 x y = some (b2i (y < x)) := rfl
theorem opV_10 {x y : Int} : opV 10 x y = some (b2i (x = y)) := rfl
theorem bnd_in (z : Int) : zIn (brk (bnd z)) := by
  rw [brk_bnd]
  split
  · decide
  · exact ⟨by omega, by omega⟩
theorem b2s_in (p : Prop) [Decidable p] : zIn (brk (some (b2i p))) := by
  have h := b2i_01 p
  show zIn (b2i p)
  exact ⟨by omega, by omega⟩
theorem brkV_in (o x y : Int) : zIn (brk (opV o x y)) := by
  unfold opV
  split
  · exact bnd_in _
  split
  · exact bnd_in _
  split
  · exact bnd_in _
  split
  · split
    · decide
    · exact bnd_in _
  split
  · split
    · decide
    · exact bnd_in _
  split
  · exact b2s_in _
  split
  · exact b2s_in _
  · exact b2s_in _
set_option maxHeartbeats 4000000 in
set_option maxRecDepth 100000 in
theorem c_joined3 {l : Launch} {x y : Int} (hx : zIn x) (hy : zIn y) : SI l MX5_joined 0 [vI 3, vL x, vL y] (brk (opV 3 x y)) := by
  have hxL : zInL x := ⟨by omega, by omega⟩
  have hyL : zInL y := ⟨by omega, by omega⟩
  refine SI.intro [some (vI 3), some (vL x), none, some (vL y), none, none, none] (brkV_in _ x y) (by decide) (Nat.le_of_ble_eq_true rfl) rfl (fun d hd h => ?_)
  refine z_lld_3 (TX5_joined_0.at 0 rfl) ?_
  refine z_lconst (v := 0) (by decide) (TX5_joined_0.at 1 rfl) ?_
  refine z_lif_ne (tgt := 21) (TX5_joined_0.at 2 rfl) (TX5_joined_0.at 3 rfl) rfl (by first | exact hxL | exact hyL | decide) (by first | exact hxL | exact hyL | decide) (fun c1 => ?_) (fun c1 => ?_)
  · skip
    refine z_ild_0 (TX5_joined_0.at 12 rfl) ?_
    refine z_swIn (off := 46) (tgt := 68) (TX5_joined_0.at 13 rfl) (by decide) (by decide) (by decide) rfl rfl ?_
    refine z_lld_1 (TX5_joined_0.at 14 rfl) ?_
    refine z_lld_3 (TX5_joined_0.at 15 rfl) ?_
    refine z_ladd (TX5_joined_0.at 16 rfl) ?_
    refine z_lst_5 (TX5_joined_0.at 17 rfl) (Nat.le_of_ble_eq_true rfl) rfl ?_
    refine z_goto (tgt := 159) (TX5_joined_0.at 18 rfl) rfl ?_
    exact c_jfin (v5 := none) ⟨by omega, by omega⟩ (by rw [opV_3, brk_bnd])
  · skip
    refine z_ild_0 (TX5_joined_0.at 4 rfl) ?_
    refine z_bipush (by decide) (TX5_joined_0.at 5 rfl) ?_
    refine z_icmp_eq (tgt := 18) (TX5_joined_0.at 6 rfl) rfl (by omega) (by omega) (fun c2 => absurd c2 (by omega)) (fun c2 => ?_)
    refine z_ild_0 (TX5_joined_0.at 7 rfl) ?_
    refine z_bipush (by decide) (TX5_joined_0.at 8 rfl) ?_
    refine z_icmp_ne (tgt := 21) (TX5_joined_0.at 9 rfl) rfl (by omega) (by omega) (fun c3 => ?_) (fun c3 => absurd c3 (by omega))
    refine z_ild_0 (TX5_joined_0.at 12 rfl) ?_
    refine z_swIn (off := 46) (tgt := 68) (TX5_joined_0.at 13 rfl) (by decide) (by decide) (by decide) rfl rfl ?_
    refine z_lld_1 (TX5_joined_0.at 14 rfl) ?_
    refine z_lld_3 (TX5_joined_0.at 15 rfl) ?_
    refine z_ladd (TX5_joined_0.at 16 rfl) ?_
    refine z_lst_5 (TX5_joined_0.at 17 rfl) (Nat.le_of_ble_eq_true rfl) rfl ?_
    refine z_goto (tgt := 159) (TX5_joined_0.at 18 rfl) rfl ?_
    exact c_jfin (v5 := none) ⟨by omega, by omega⟩ (by rw [opV_3, brk_bnd])

set_option maxHeartbeats 4000000 in
set_option maxRecDepth 100000 in
theorem c_joined4 {l : Launch} {x y : Int} (hx : zIn x) (hy : zIn y) : SI l MX5_joined 0 [vI 4, vL x, vL y] (brk (opV 4 x y)) := by
  have hxL : zInL x := ⟨by omega, by omega⟩
  have hyL : zInL y := ⟨by omega, by omega⟩
  refine SI.intro [some (vI 4), some (vL x), none, some (vL y), none, none, none] (brkV_in _ x y) (by decide) (Nat.le_of_ble_eq_true rfl) rfl (fun d hd h => ?_)
  refine z_lld_3 (TX5_joined_0.at 0 rfl) ?_
  refine z_lconst (v := 0) (by decide) (TX5_joined_0.at 1 rfl) ?_
  refine z_lif_ne (tgt := 21) (TX5_joined_0.at 2 rfl) (TX5_joined_0.at 3 rfl) rfl (by first | exact hxL | exact hyL | decide) (by first | exact hxL | exact hyL | decide) (fun c1 => ?_) (fun c1 => ?_)
  · skip
    refine z_ild_0 (TX5_joined_0.at 12 rfl) ?_
    refine z_swIn (off := 54) (tgt := 76) (TX5_joined_0.at 13 rfl) (by decide) (by decide) (by decide) rfl rfl ?_
    refine z_lld_1 (TX5_joined_0.at 19 rfl) ?_
    refine z_lld_3 (TX5_joined_0.at 20 rfl) ?_
    refine z_lsub (TX5_joined_0.at 21 rfl) ?_
    refine z_lst_5 (TX5_joined_0.at 22 rfl) (Nat.le_of_ble_eq_true rfl) rfl ?_
    refine z_goto (tgt := 159) (TX5_joined_0.at 23 rfl) rfl ?_
    exact c_jfin (v5 := none) ⟨by omega, by omega⟩ (by rw [opV_4, brk_bnd])
  · skip
    refine z_ild_0 (TX5_joined_0.at 4 rfl) ?_
    refine z_bipush (by decide) (TX5_joined_0.at 5 rfl) ?_
    refine z_icmp_eq (tgt := 18) (TX5_joined_0.at 6 rfl) rfl (by omega) (by omega) (fun c2 => absurd c2 (by omega)) (fun c2 => ?_)
    refine z_ild_0 (TX5_joined_0.at 7 rfl) ?_
    refine z_bipush (by decide) (TX5_joined_0.at 8 rfl) ?_
    refine z_icmp_ne (tgt := 21) (TX5_joined_0.at 9 rfl) rfl (by omega) (by omega) (fun c3 => ?_) (fun c3 => absurd c3 (by omega))
    refine z_ild_0 (TX5_joined_0.at 12 rfl) ?_
    refine z_swIn (off := 54) (tgt := 76) (TX5_joined_0.at 13 rfl) (by decide) (by decide) (by decide) rfl rfl ?_
    refine z_lld_1 (TX5_joined_0.at 19 rfl) ?_
    refine z_lld_3 (TX5_joined_0.at 20 rfl) ?_
    refine z_lsub (TX5_joined_0.at 21 rfl) ?_
    refine z_lst_5 (TX5_joined_0.at 22 rfl) (Nat.le_of_ble_eq_true rfl) rfl ?_
    refine z_goto (tgt := 159) (TX5_joined_0.at 23 rfl) rfl ?_
    exact c_jfin (v5 := none) ⟨by omega, by omega⟩ (by rw [opV_4, brk_bnd])

set_option maxHeartbeats 4000000 in
set_option maxRecDepth 100000 in
theorem c_joined5 {l : Launch} {x y : Int} (hx : zIn x) (hy : zIn y) : SI l MX5_joined 0 [vI 5, vL x, vL y] (brk (opV 5 x y)) := by
  have hxL : zInL x := ⟨by omega, by omega⟩
  have hyL : zInL y := ⟨by omega, by omega⟩
  refine SI.intro [some (vI 5), some (vL x), none, some (vL y), none, none, none] (brkV_in _ x y) (by decide) (Nat.le_of_ble_eq_true rfl) rfl (fun d hd h => ?_)
  refine z_lld_3 (TX5_joined_0.at 0 rfl) ?_
  refine z_lconst (v := 0) (by decide) (TX5_joined_0.at 1 rfl) ?_
  refine z_lif_ne (tgt := 21) (TX5_joined_0.at 2 rfl) (TX5_joined_0.at 3 rfl) rfl (by first | exact hxL | exact hyL | decide) (by first | exact hxL | exact hyL | decide) (fun c1 => ?_) (fun c1 => ?_)
  · skip
    refine z_ild_0 (TX5_joined_0.at 12 rfl) ?_
    refine z_swIn (off := 62) (tgt := 84) (TX5_joined_0.at 13 rfl) (by decide) (by decide) (by decide) rfl rfl ?_
    refine z_lld_1 (TX5_joined_0.at 24 rfl) ?_
    refine z_lld_3 (TX5_joined_0.at 25 rfl) ?_
    refine z_lmul (TX5_joined_0.at 26 rfl) ?_
    refine z_lst_5 (TX5_joined_0.at 27 rfl) (Nat.le_of_ble_eq_true rfl) rfl ?_
    refine z_goto (tgt := 159) (TX5_joined_0.at 28 rfl) rfl ?_
    exact c_jfin (v5 := none) (mul_inL hx hy) (by rw [opV_5, brk_bnd])
  · skip
    refine z_ild_0 (TX5_joined_0.at 4 rfl) ?_
    refine z_bipush (by decide) (TX5_joined_0.at 5 rfl) ?_
    refine z_icmp_eq (tgt := 18) (TX5_joined_0.at 6 rfl) rfl (by omega) (by omega) (fun c2 => absurd c2 (by omega)) (fun c2 => ?_)
    refine z_ild_0 (TX5_joined_0.at 7 rfl) ?_
    refine z_bipush (by decide) (TX5_joined_0.at 8 rfl) ?_
    refine z_icmp_ne (tgt := 21) (TX5_joined_0.at 9 rfl) rfl (by omega) (by omega) (fun c3 => ?_) (fun c3 => absurd c3 (by omega))
    refine z_ild_0 (TX5_joined_0.at 12 rfl) ?_
    refine z_swIn (off := 62) (tgt := 84) (TX5_joined_0.at 13 rfl) (by decide) (by decide) (by decide) rfl rfl ?_
    refine z_lld_1 (TX5_joined_0.at 24 rfl) ?_
    refine z_lld_3 (TX5_joined_0.at 25 rfl) ?_
    refine z_lmul (TX5_joined_0.at 26 rfl) ?_
    refine z_lst_5 (TX5_joined_0.at 27 rfl) (Nat.le_of_ble_eq_true rfl) rfl ?_
    refine z_goto (tgt := 159) (TX5_joined_0.at 28 rfl) rfl ?_
    exact c_jfin (v5 := none) (mul_inL hx hy) (by rw [opV_5, brk_bnd])

set_option maxHeartbeats 4000000 in
set_option maxRecDepth 100000 in
theorem c_joined6 {l : Launch} {x y : Int} (hx : zIn x) (hy : zIn y) : SI l MX5_joined 0 [vI 6, vL x, vL y] (brk (opV 6 x y)) := by
  have hxL : zInL x := ⟨by omega, by omega⟩
  have hyL : zInL y := ⟨by omega, by omega⟩
  refine SI.intro [some (vI 6), some (vL x), none, some (vL y), none, none, none] (brkV_in _ x y) (by decide) (Nat.le_of_ble_eq_true rfl) rfl (fun d hd h => ?_)
  refine z_lld_3 (TX5_joined_0.at 0 rfl) ?_
  refine z_lconst (v := 0) (by decide) (TX5_joined_0.at 1 rfl) ?_
  refine z_lif_ne (tgt := 21) (TX5_joined_0.at 2 rfl) (TX5_joined_0.at 3 rfl) rfl (by first | exact hxL | exact hyL | decide) (by first | exact hxL | exact hyL | decide) (fun c1 => ?_) (fun c1 => ?_)
  · skip
    refine z_ild_0 (TX5_joined_0.at 12 rfl) ?_
    refine z_swIn (off := 70) (tgt := 92) (TX5_joined_0.at 13 rfl) (by decide) (by decide) (by decide) rfl rfl ?_
    refine z_lld_1 (TX5_joined_0.at 29 rfl) ?_
    refine z_lld_3 (TX5_joined_0.at 30 rfl) ?_
    refine z_ldiv (by omega) (by omega) (TX5_joined_0.at 31 rfl) ?_
    refine z_lst_5 (TX5_joined_0.at 32 rfl) (Nat.le_of_ble_eq_true rfl) rfl ?_
    refine z_goto (tgt := 159) (TX5_joined_0.at 33 rfl) rfl ?_
    rw [zldiv_eq hx hy]
    have ht := tdv_in (y := y) hx
    exact c_jfin (v5 := none) ⟨by omega, by omega⟩ (by rw [opV_6, if_neg (by omega), brk_bnd])
  · skip
    refine z_ild_0 (TX5_joined_0.at 4 rfl) ?_
    refine z_bipush (by decide) (TX5_joined_0.at 5 rfl) ?_
    refine z_icmp_eq (tgt := 18) (TX5_joined_0.at 6 rfl) rfl (by omega) (by omega) (fun c2 => ?_) (fun c2 => absurd c2 (by omega))
    refine z_ldc (v := -2000000000) (TX5_joined_0.at 10 rfl) k5_30 (by decide) ?_
    exact zs_iret (TX5_joined_0.at 11 rfl) rfl (by rw [opV_6, if_pos (by omega)]; rfl)

set_option maxHeartbeats 4000000 in
set_option maxRecDepth 100000 in
theorem c_joined7 {l : Launch} {x y : Int} (hx : zIn x) (hy : zIn y) : SI l MX5_joined 0 [vI 7, vL x, vL y] (brk (opV 7 x y)) := by
  have hxL : zInL x := ⟨by omega, by omega⟩
  have hyL : zInL y := ⟨by omega, by omega⟩
  refine SI.intro [some (vI 7), some (vL x), none, some (vL y), none, none, none] (brkV_in _ x y) (by decide) (Nat.le_of_ble_eq_true rfl) rfl (fun d hd h => ?_)
  refine z_lld_3 (TX5_joined_0.at 0 rfl) ?_
  refine z_lconst (v := 0) (by decide) (TX5_joined_0.at 1 rfl) ?_
  refine z_lif_ne (tgt := 21) (TX5_joined_0.at 2 rfl) (TX5_joined_0.at 3 rfl) rfl (by first | exact hxL | exact hyL | decide) (by first | exact hxL | exact hyL | decide) (fun c1 => ?_) (fun c1 => ?_)
  · skip
    refine z_ild_0 (TX5_joined_0.at 12 rfl) ?_
    refine z_swIn (off := 78) (tgt := 100) (TX5_joined_0.at 13 rfl) (by decide) (by decide) (by decide) rfl rfl ?_
    refine z_lld_1 (TX5_joined_0.at 34 rfl) ?_
    refine z_lld_3 (TX5_joined_0.at 35 rfl) ?_
    refine z_lrem (by omega) (by omega) (TX5_joined_0.at 36 rfl) ?_
    refine z_lst_5 (TX5_joined_0.at 37 rfl) (Nat.le_of_ble_eq_true rfl) rfl ?_
    refine z_goto (tgt := 159) (TX5_joined_0.at 38 rfl) rfl ?_
    rw [zlrem_eq hx hy]
    have ht := tmd_in (y := y) hx
    exact c_jfin (v5 := none) ⟨by omega, by omega⟩ (by rw [opV_7, if_neg (by omega), brk_bnd])
  · skip
    refine z_ild_0 (TX5_joined_0.at 4 rfl) ?_
    refine z_bipush (by decide) (TX5_joined_0.at 5 rfl) ?_
    refine z_icmp_eq (tgt := 18) (TX5_joined_0.at 6 rfl) rfl (by omega) (by omega) (fun c2 => absurd c2 (by omega)) (fun c2 => ?_)
    refine z_ild_0 (TX5_joined_0.at 7 rfl) ?_
    refine z_bipush (by decide) (TX5_joined_0.at 8 rfl) ?_
    refine z_icmp_ne (tgt := 21) (TX5_joined_0.at 9 rfl) rfl (by omega) (by omega) (fun c3 => absurd c3 (by omega)) (fun c3 => ?_)
    refine z_ldc (v := -2000000000) (TX5_joined_0.at 10 rfl) k5_30 (by decide) ?_
    exact zs_iret (TX5_joined_0.at 11 rfl) rfl (by rw [opV_7, if_pos (by omega)]; rfl)

set_option maxHeartbeats 4000000 in
set_option maxRecDepth 100000 in
theorem c_joined8 {l : Launch} {x y : Int} (hx : zIn x) (hy : zIn y) : SI l MX5_joined 0 [vI 8, vL x, vL y] (brk (opV 8 x y)) := by
  have hxL : zInL x := ⟨by omega, by omega⟩
  have hyL : zInL y := ⟨by omega, by omega⟩
  refine SI.intro [some (vI 8), some (vL x), none, some (vL y), none, none, none] (brkV_in _ x y) (by decide) (Nat.le_of_ble_eq_true rfl) rfl (fun d hd h => ?_)
  refine z_lld_3 (TX5_joined_0.at 0 rfl) ?_
  refine z_lconst (v := 0) (by decide) (TX5_joined_0.at 1 rfl) ?_
  refine z_lif_ne (tgt := 21) (TX5_joined_0.at 2 rfl) (TX5_joined_0.at 3 rfl) rfl (by first | exact hxL | exact hyL | decide) (by first | exact hxL | exact hyL | decide) (fun c1 => ?_) (fun c1 => ?_)
  · skip
    refine z_ild_0 (TX5_joined_0.at 12 rfl) ?_
    refine z_swIn (off := 86) (tgt := 108) (TX5_joined_0.at 13 rfl) (by decide) (by decide) (by decide) rfl rfl ?_
    refine z_lld_1 (TX5_joined_0.at 39 rfl) ?_
    refine z_lld_3 (TX5_joined_1.at 0 rfl) ?_
    refine z_lif_ge (tgt := 118) (TX5_joined_1.at 1 rfl) (TX5_joined_1.at 2 rfl) rfl (by first | exact hxL | exact hyL | decide) (by first | exact hxL | exact hyL | decide) (fun c2 => ?_) (fun c2 => ?_)
    · skip
      refine z_lconst (v := 0) (by decide) (TX5_joined_1.at 5 rfl) ?_
      refine z_lst_5 (TX5_joined_1.at 6 rfl) (Nat.le_of_ble_eq_true rfl) rfl ?_
      refine z_goto (tgt := 159) (TX5_joined_1.at 7 rfl) rfl ?_
      exact c_jfin (v5 := none) ⟨by omega, by omega⟩ (by rw [opV_8]; first | (rw [b2i_t (by omega)]; rfl) | (rw [b2i_f (by omega)]; rfl))
    · skip
      refine z_lconst (v := 1) (by decide) (TX5_joined_1.at 3 rfl) ?_
      refine z_goto (tgt := 119) (TX5_joined_1.at 4 rfl) rfl ?_
      refine z_lst_5 (TX5_joined_1.at 6 rfl) (Nat.le_of_ble_eq_true rfl) rfl ?_
      refine z_goto (tgt := 159) (TX5_joined_1.at 7 rfl) rfl ?_
      exact c_jfin (v5 := none) ⟨by omega, by omega⟩ (by rw [opV_8]; first | (rw [b2i_t (by omega)]; rfl) | (rw [b2i_f (by omega)]; rfl))
  · skip
    refine z_ild_0 (TX5_joined_0.at 4 rfl) ?_
    refine z_bipush (by decide) (TX5_joined_0.at 5 rfl) ?_
    refine z_icmp_eq (tgt := 18) (TX5_joined_0.at 6 rfl) rfl (by omega) (by omega) (fun c2 => absurd c2 (by omega)) (fun c2 => ?_)
    refine z_ild_0 (TX5_joined_0.at 7 rfl) ?_
    refine z_bipush (by decide) (TX5_joined_0.at 8 rfl) ?_
    refine z_icmp_ne (tgt := 21) (TX5_joined_0.at 9 rfl) rfl (by omega) (by omega) (fun c3 => ?_) (fun c3 => absurd c3 (by omega))
    refine z_ild_0 (TX5_joined_0.at 12 rfl) ?_
    refine z_swIn (off := 86) (tgt := 108) (TX5_joined_0.at 13 rfl) (by decide) (by decide) (by decide) rfl rfl ?_
    refine z_lld_1 (TX5_joined_0.at 39 rfl) ?_
    refine z_lld_3 (TX5_joined_1.at 0 rfl) ?_
    refine z_lif_ge (tgt := 118) (TX5_joined_1.at 1 rfl) (TX5_joined_1.at 2 rfl) rfl (by first | exact hxL | exact hyL | decide) (by first | exact hxL | exact hyL | decide) (fun c4 => ?_) (fun c4 => ?_)
    · skip
      refine z_lconst (v := 0) (by decide) (TX5_joined_1.at 5 rfl) ?_
      refine z_lst_5 (TX5_joined_1.at 6 rfl) (Nat.le_of_ble_eq_true rfl) rfl ?_
      refine z_goto (tgt := 159) (TX5_joined_1.at 7 rfl) rfl ?_
      exact c_jfin (v5 := none) ⟨by omega, by omega⟩ (by rw [opV_8]; first | (rw [b2i_t (by omega)]; rfl) | (rw [b2i_f (by omega)]; rfl))
    · skip
      refine z_lconst (v := 1) (by decide) (TX5_joined_1.at 3 rfl) ?_
      refine z_goto (tgt := 119) (TX5_joined_1.at 4 rfl) rfl ?_
      refine z_lst_5 (TX5_joined_1.at 6 rfl) (Nat.le_of_ble_eq_true rfl) rfl ?_
      refine z_goto (tgt := 159) (TX5_joined_1.at 7 rfl) rfl ?_
      exact c_jfin (v5 := none) ⟨by omega, by omega⟩ (by rw [opV_8]; first | (rw [b2i_t (by omega)]; rfl) | (rw [b2i_f (by omega)]; rfl))

set_option maxHeartbeats 4000000 in
set_option maxRecDepth 100000 in
theorem c_joined9 {l : Launch} {x y : Int} (hx : zIn x) (hy : zIn y) : SI l MX5_joined 0 [vI 9, vL x, vL y] (brk (opV 9 x y)) := by
  have hxL : zInL x := ⟨by omega, by omega⟩
  have hyL : zInL y := ⟨by omega, by omega⟩
  refine SI.intro [some (vI 9), some (vL x), none, some (vL y), none, none, none] (brkV_in _ x y) (by decide) (Nat.le_of_ble_eq_true rfl) rfl (fun d hd h => ?_)
  refine z_lld_3 (TX5_joined_0.at 0 rfl) ?_
  refine z_lconst (v := 0) (by decide) (TX5_joined_0.at 1 rfl) ?_
  refine z_lif_ne (tgt := 21) (TX5_joined_0.at 2 rfl) (TX5_joined_0.at 3 rfl) rfl (by first | exact hxL | exact hyL | decide) (by first | exact hxL | exact hyL | decide) (fun c1 => ?_) (fun c1 => ?_)
  · skip
    refine z_ild_0 (TX5_joined_0.at 12 rfl) ?_
    refine z_swIn (off := 102) (tgt := 124) (TX5_joined_0.at 13 rfl) (by decide) (by decide) (by decide) rfl rfl ?_
    refine z_lld_1 (TX5_joined_1.at 8 rfl) ?_
    refine z_lld_3 (TX5_joined_1.at 9 rfl) ?_
    refine z_lif_le (tgt := 134) (TX5_joined_1.at 10 rfl) (TX5_joined_1.at 11 rfl) rfl (by first | exact hxL | exact hyL | decide) (by first | exact hxL | exact hyL | decide) (fun c2 => ?_) (fun c2 => ?_)
    · skip
      refine z_lconst (v := 0) (by decide) (TX5_joined_1.at 14 rfl) ?_
      refine z_lst_5 (TX5_joined_1.at 15 rfl) (Nat.le_of_ble_eq_true rfl) rfl ?_
      refine z_goto (tgt := 159) (TX5_joined_1.at 16 rfl) rfl ?_
      exact c_jfin (v5 := none) ⟨by omega, by omega⟩ (by rw [opV_9]; first | (rw [b2i_t (by omega)]; rfl) | (rw [b2i_f (by omega)]; rfl))
    · skip
      refine z_lconst (v := 1) (by decide) (TX5_joined_1.at 12 rfl) ?_
      refine z_goto (tgt := 135) (TX5_joined_1.at 13 rfl) rfl ?_
      refine z_lst_5 (TX5_joined_1.at 15 rfl) (Nat.le_of_ble_eq_true rfl) rfl ?_
      refine z_goto (tgt := 159) (TX5_joined_1.at 16 rfl) rfl ?_
      exact c_jfin (v5 := none) ⟨by omega, by omega⟩ (by rw [opV_9]; first | (rw [b2i_t (by omega)]; rfl) | (rw [b2i_f (by omega)]; rfl))
  · skip
    refine z_ild_0 (TX5_joined_0.at 4 rfl) ?_
    refine z_bipush (by decide) (TX5_joined_0.at 5 rfl) ?_
    refine z_icmp_eq (tgt := 18) (TX5_joined_0.at 6 rfl) rfl (by omega) (by omega) (fun c2 => absurd c2 (by omega)) (fun c2 => ?_)
    refine z_ild_0 (TX5_joined_0.at 7 rfl) ?_
    refine z_bipush (by decide) (TX5_joined_0.at 8 rfl) ?_
    refine z_icmp_ne (tgt := 21) (TX5_joined_0.at 9 rfl) rfl (by omega) (by omega) (fun c3 => ?_) (fun c3 => absurd c3 (by omega))
    refine z_ild_0 (TX5_joined_0.at 12 rfl) ?_
    refine z_swIn (off := 102) (tgt := 124) (TX5_joined_0.at 13 rfl) (by decide) (by decide) (by decide) rfl rfl ?_
    refine z_lld_1 (TX5_joined_1.at 8 rfl) ?_
    refine z_lld_3 (TX5_joined_1.at 9 rfl) ?_
    refine z_lif_le (tgt := 134) (TX5_joined_1.at 10 rfl) (TX5_joined_1.at 11 rfl) rfl (by first | exact hxL | exact hyL | decide) (by first | exact hxL | exact hyL | decide) (fun c4 => ?_) (fun c4 => ?_)
    · skip
      refine z_lconst (v := 0) (by decide) (TX5_joined_1.at 14 rfl) ?_
      refine z_lst_5 (TX5_joined_1.at 15 rfl) (Nat.le_of_ble_eq_true rfl) rfl ?_
      refine z_goto (tgt := 159) (TX5_joined_1.at 16 rfl) rfl ?_
      exact c_jfin (v5 := none) ⟨by omega, by omega⟩ (by rw [opV_9]; first | (rw [b2i_t (by omega)]; rfl) | (rw [b2i_f (by omega)]; rfl))
    · skip
      refine z_lconst (v := 1) (by decide) (TX5_joined_1.at 12 rfl) ?_
      refine z_goto (tgt := 135) (TX5_joined_1.at 13 rfl) rfl ?_
      refine z_lst_5 (TX5_joined_1.at 15 rfl) (Nat.le_of_ble_eq_true rfl) rfl ?_
      refine z_goto (tgt := 159) (TX5_joined_1.at 16 rfl) rfl ?_
      exact c_jfin (v5 := none) ⟨by omega, by omega⟩ (by rw [opV_9]; first | (rw [b2i_t (by omega)]; rfl) | (rw [b2i_f (by omega)]; rfl))

set_option maxHeartbeats 4000000 in
set_option maxRecDepth 100000 in
theorem c_joined10 {l : Launch} {x y : Int} (hx : zIn x) (hy : zIn y) : SI l MX5_joined 0 [vI 10, vL x, vL y] (brk (opV 10 x y)) := by
  have hxL : zInL x := ⟨by omega, by omega⟩
  have hyL : zInL y := ⟨by omega, by omega⟩
  refine SI.intro [some (vI 10), some (vL x), none, some (vL y), none, none, none] (brkV_in _ x y) (by decide) (Nat.le_of_ble_eq_true rfl) rfl (fun d hd h => ?_)
  refine z_lld_3 (TX5_joined_0.at 0 rfl) ?_
  refine z_lconst (v := 0) (by decide) (TX5_joined_0.at 1 rfl) ?_
  refine z_lif_ne (tgt := 21) (TX5_joined_0.at 2 rfl) (TX5_joined_0.at 3 rfl) rfl (by first | exact hxL | exact hyL | decide) (by first | exact hxL | exact hyL | decide) (fun c1 => ?_) (fun c1 => ?_)
  · skip
    refine z_ild_0 (TX5_joined_0.at 12 rfl) ?_
    refine z_swIn (off := 118) (tgt := 140) (TX5_joined_0.at 13 rfl) (by decide) (by decide) (by decide) rfl rfl ?_
    refine z_lld_1 (TX5_joined_1.at 17 rfl) ?_
    refine z_lld_3 (TX5_joined_1.at 18 rfl) ?_
    refine z_lif_ne (tgt := 150) (TX5_joined_1.at 19 rfl) (TX5_joined_1.at 20 rfl) rfl (by first | exact hxL | exact hyL | decide) (by first | exact hxL | exact hyL | decide) (fun c2 => ?_) (fun c2 => ?_)
    · skip
      refine z_lconst (v := 0) (by decide) (TX5_joined_1.at 23 rfl) ?_
      refine z_lst_5 (TX5_joined_1.at 24 rfl) (Nat.le_of_ble_eq_true rfl) rfl ?_
      refine z_goto (tgt := 159) (TX5_joined_1.at 25 rfl) rfl ?_
      exact c_jfin (v5 := none) ⟨by omega, by omega⟩ (by rw [opV_10]; first | (rw [b2i_t (by omega)]; rfl) | (rw [b2i_f (by omega)]; rfl))
    · skip
      refine z_lconst (v := 1) (by decide) (TX5_joined_1.at 21 rfl) ?_
      refine z_goto (tgt := 151) (TX5_joined_1.at 22 rfl) rfl ?_
      refine z_lst_5 (TX5_joined_1.at 24 rfl) (Nat.le_of_ble_eq_true rfl) rfl ?_
      refine z_goto (tgt := 159) (TX5_joined_1.at 25 rfl) rfl ?_
      exact c_jfin (v5 := none) ⟨by omega, by omega⟩ (by rw [opV_10]; first | (rw [b2i_t (by omega)]; rfl) | (rw [b2i_f (by omega)]; rfl))
  · skip
    refine z_ild_0 (TX5_joined_0.at 4 rfl) ?_
    refine z_bipush (by decide) (TX5_joined_0.at 5 rfl) ?_
    refine z_icmp_eq (tgt := 18) (TX5_joined_0.at 6 rfl) rfl (by omega) (by omega) (fun c2 => absurd c2 (by omega)) (fun c2 => ?_)
    refine z_ild_0 (TX5_joined_0.at 7 rfl) ?_
    refine z_bipush (by decide) (TX5_joined_0.at 8 rfl) ?_
    refine z_icmp_ne (tgt := 21) (TX5_joined_0.at 9 rfl) rfl (by omega) (by omega) (fun c3 => ?_) (fun c3 => absurd c3 (by omega))
    refine z_ild_0 (TX5_joined_0.at 12 rfl) ?_
    refine z_swIn (off := 118) (tgt := 140) (TX5_joined_0.at 13 rfl) (by decide) (by decide) (by decide) rfl rfl ?_
    refine z_lld_1 (TX5_joined_1.at 17 rfl) ?_
    refine z_lld_3 (TX5_joined_1.at 18 rfl) ?_
    refine z_lif_ne (tgt := 150) (TX5_joined_1.at 19 rfl) (TX5_joined_1.at 20 rfl) rfl (by first | exact hxL | exact hyL | decide) (by first | exact hxL | exact hyL | decide) (fun c4 => ?_) (fun c4 => ?_)
    · skip
      refine z_lconst (v := 0) (by decide) (TX5_joined_1.at 23 rfl) ?_
      refine z_lst_5 (TX5_joined_1.at 24 rfl) (Nat.le_of_ble_eq_true rfl) rfl ?_
      refine z_goto (tgt := 159) (TX5_joined_1.at 25 rfl) rfl ?_
      exact c_jfin (v5 := none) ⟨by omega, by omega⟩ (by rw [opV_10]; first | (rw [b2i_t (by omega)]; rfl) | (rw [b2i_f (by omega)]; rfl))
    · skip
      refine z_lconst (v := 1) (by decide) (TX5_joined_1.at 21 rfl) ?_
      refine z_goto (tgt := 151) (TX5_joined_1.at 22 rfl) rfl ?_
      refine z_lst_5 (TX5_joined_1.at 24 rfl) (Nat.le_of_ble_eq_true rfl) rfl ?_
      refine z_goto (tgt := 159) (TX5_joined_1.at 25 rfl) rfl ?_
      exact c_jfin (v5 := none) ⟨by omega, by omega⟩ (by rw [opV_10]; first | (rw [b2i_t (by omega)]; rfl) | (rw [b2i_f (by omega)]; rfl))

theorem c_joined {l : Launch} {o x y : Int} (h0 : 3 ≤ o) (h1 : o ≤ 10) (hx : zIn x) (hy : zIn y) : SI l MX5_joined 0 [vI o, vL x, vL y] (brk (opV o x y)) := by
  rcases (show o = 3 ∨ o = 4 ∨ o = 5 ∨ o = 6 ∨ o = 7 ∨ o = 8 ∨ o = 9 ∨ o = 10 by omega) with rfl | rfl | rfl | rfl | rfl | rfl | rfl | rfl
  · exact c_joined3 hx hy
  · exact c_joined4 hx hy
  · exact c_joined5 hx hy
  · exact c_joined6 hx hy
  · exact c_joined7 hx hy
  · exact c_joined8 hx hy
  · exact c_joined9 hx hy
  · exact c_joined10 hx hy
