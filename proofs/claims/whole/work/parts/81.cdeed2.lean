/-! ===== the class itself: soak, swap, feed ===== -/
def fedA (X : Int → Int) (z a b c e k : Int) : Int → Int := cpF (cpF (cpF (cpF (cpF X (fun q => byT a (24 - 8 * q)) z 4) (fun q => byT b (24 - 8 * q)) (z + 4) 4) (fun q => byT c (24 - 8 * q)) (z + 4 + 4) 4) (fun q => byT e (24 - 8 * q)) (z + 4 + 4 + 4) 4) (fun q => byT k (24 - 8 * q)) (z + 4 + 4 + 4 + 4) 4
set_option maxHeartbeats 4000000 in
set_option maxRecDepth 100000 in
theorem c_soakF {l : Launch} {E : cE} {f : mF} {g j : mA} {D : Int → Int} {O1 : Int → Int} {O2 : Int → Int} {n9 : Int} {dp : Int} {kp : Int} {x : Int}  (eg193 : g 193 = D) (eg194 : g 194 = O1) (eg195 : g 195 = O2) (ef32 : f 32 = n9) (ef37 : f 37 = dp) (ef192 : f 192 = kp) (hx : zIn x) (kp0 : 0 ≤ kp) (kp1 : kp ≤ 16) (n1 : n9 ≤ 10) (hdp : z31 dp) : CM l E MX7_soakFuse 2 [.ref (E.1 31), vI x] f g j (PI (fun r f' g' j' => ((¬ (0 ≤ x ∧ x < n9) ∧ r = -2 ∧ f' 37 = dp ∧ f' 192 = kp ∧ g' 193 = D ∧ g' 194 = O1 ∧ g' 195 = O2) ∨ ((0 ≤ x ∧ x < n9) ∧ r = b2i (bt (zxor dp (zshl 1 x)) x) ∧ f' 37 = zxor dp (zshl 1 x) ∧ f' 192 = (if kp = 16 then 15 else kp) + 1 ∧ g' 193 = iu (if kp = 16 then cpy D D 0 1 15 else D) (if kp = 16 then 15 else kp) 1 ∧ g' 194 = iu (if kp = 16 then cpy O1 O1 0 1 15 else O1) (if kp = 16 then 15 else kp) x ∧ g' 195 = iu (if kp = 16 then cpy O2 O2 0 1 15 else O2) (if kp = 16 then 15 else kp) (-1))) ∧ eqx [37, 192] f f' ∧ eqx [193, 194, 195] g g' ∧ j' = j)) := by
  refine CM.intro [some (.ref (E.1 31)), some (vI x)] (by decide) (Nat.le_of_ble_eq_true rfl) rfl (fun d hd h0 h hH hA => ?_)
  have hfE : eqx [37, 192] f f := eqx.rf
  have hgE : eqx [193, 194, 195] g g := eqx.rf
  refine z_ald_0 (TX7_soakFuse.at 0 rfl) ?_
  refine zc_getO (m := 0) (s := 0) (k := 63) (hH.lv (by decide)) (TX7_soakFuse.at 1 rfl) fl7_12 hH rfl rfl (by decide) (by decide) ?_
  refine z_ild_1 (TX7_soakFuse.at 2 rfl) ?_
  refine zc_callI1 (m := 1) (c_hasFuse1 ef32 (by omega)) (hH.lv (by decide)) (TX7_soakFuse.at 3 rfl) c7_109 rfl rfl hH hA (by omega) (Nat.le_of_ble_eq_true rfl) (fun x5 f5 g5 j5 h r5 q5 hH hA => ?_)
  obtain ⟨q5, xf, xg, xj⟩ := q5
  rw [xj] at hH
  have ef32 := (xf 32 (by decide)).trans ef32
  have ef37 := (xf 37 (by decide)).trans ef37
  have ef192 := (xf 192 (by decide)).trans ef192
  have hfE := hfE.trans xf (by decide)
  have eg193 := (xg 193 (by decide)).trans eg193
  have eg194 := (xg 194 (by decide)).trans eg194
  have eg195 := (xg 195 (by decide)).trans eg195
  have hgE := hgE.trans xg (by decide)
  have qL := q5
  obtain rfl := qL
  refine z_if_neB (tgt := 14) (TX7_soakFuse.at 4 rfl) rfl (fun c1 => ?_) (fun c1 => ?_)
  · skip
    have hz1 := shl_31 (i := x) (by omega) (by omega)
    have hz2 := zxor_31 hdp hz1
    refine z_ald_0 (TX7_soakFuse.at 7 rfl) ?_
    refine zc_getO (m := 0) (s := 0) (k := 63) (hH.lv (by decide)) (TX7_soakFuse.at 8 rfl) fl7_12 hH rfl rfl (by decide) (by decide) ?_
    refine z_dup rfl (TX7_soakFuse.at 9 rfl) ?_
    refine zc_getIE (m := 1) (s := 5) (k := 37) (hH.lv (by decide)) ef37 (TX7_soakFuse.at 10 rfl) fl7_125 hH rfl rfl (by decide) (by decide) (fun r19 => ?_)
    refine z_iconst (TX7_soakFuse.at 11 rfl) ?_
    refine z_ild_1 (TX7_soakFuse.at 12 rfl) ?_
    refine z_ishl (TX7_soakFuse.at 13 rfl) ?_
    refine z_ixor (TX7_soakFuse.at 14 rfl) ?_
    refine zc_putI (m := 1) (s := 5) (k := 37) (hH.lv (by decide)) (TX7_soakFuse.at 15 rfl) fp7_125 hH hA rfl rfl (by decide) (by decide) (by first | omega | exact b2i_01 _) (fun h f26 e1 e2 hH hA => ?_)
    have ef32 := (e1 32 (by decide)).trans ef32
    have ef37 := e2
    have ef192 := (e1 192 (by decide)).trans ef192
    have hfE := hfE.put e1 (by decide)
    refine z_ald_0 (TX7_soakFuse.at 16 rfl) ?_
    refine zc_getO (m := 0) (s := 4) (k := 223) (hH.lv (by decide)) (TX7_soakFuse.at 17 rfl) fl7_29 hH rfl rfl (by decide) (by decide) ?_
    refine z_iconst (TX7_soakFuse.at 18 rfl) ?_
    refine z_ild_1 (TX7_soakFuse.at 19 rfl) ?_
    refine z_iconst (TX7_soakFuse.at 20 rfl) ?_
    refine zc_callV3 (m := 6) (c_keep eg193 eg194 eg195 ef192 (by omega) (by omega) (by omega) kp0 kp1) (hH.lv (by decide)) (TX7_soakFuse.at 21 rfl) c7_293 rfl rfl hH hA (by omega) (Nat.le_of_ble_eq_true rfl) (fun f36 g36 j36 h q36 hH hA => ?_)
    obtain ⟨q36, xf, xg, xj⟩ := q36
    rw [xj] at hH
    have ef32 := (xf 32 (by decide)).trans ef32
    have ef37 := (xf 37 (by decide)).trans ef37
    have hfE := hfE.trans xf (by decide)
    have hgE := hgE.trans xg (by decide)
    have qL := q36
    have ef192 := qL.1
    have eg193 := qL.2.1
    have eg194 := qL.2.2.1
    have eg195 := qL.2.2.2
    refine z_ald_0 (TX7_soakFuse.at 22 rfl) ?_
    refine zc_getO (m := 0) (s := 0) (k := 63) (hH.lv (by decide)) (TX7_soakFuse.at 23 rfl) fl7_12 hH rfl rfl (by decide) (by decide) ?_
    refine zc_getIE (m := 1) (s := 5) (k := 37) (hH.lv (by decide)) ef37 (TX7_soakFuse.at 24 rfl) fl7_125 hH rfl rfl (by decide) (by decide) (fun r43 => ?_)
    refine z_ild_1 (TX7_soakFuse.at 25 rfl) ?_
    refine zs_call2 (c_bit hz2 ⟨by omega, by omega⟩) (TX7_soakFuse.at 26 rfl) c7_128 rfl (by omega) (Nat.le_of_ble_eq_true rfl) (fun r47 => ?_)
    refine zc_iret (TX7_soakFuse.at 27 rfl) rfl hH hA (by omega) ?_
    exact ⟨Or.inr ⟨by omega, rfl, ef37, ef192, eg193, eg194, eg195⟩, hfE, hgE, rfl⟩
  · skip
    refine z_bipush (by decide) (TX7_soakFuse.at 5 rfl) ?_
    refine zc_iret (TX7_soakFuse.at 6 rfl) rfl hH hA (by omega) ?_
    exact ⟨Or.inl ⟨by omega, rfl, ef37, ef192, eg193, eg194, eg195⟩, hfE, hgE, rfl⟩

set_option maxHeartbeats 4000000 in
set_option maxRecDepth 100000 in
theorem c_swapF {l : Launch} {E : cE} {f : mF} {g j : mA} {Ln : Int → Int} {D : Int → Int} {O1 : Int → Int} {O2 : Int → Int} {n9 : Int} {kp : Int} {a b : Int}  (eg35 : g 35 = Ln) (eg193 : g 193 = D) (eg194 : g 194 = O1) (eg195 : g 195 = O2) (ef32 : f 32 = n9) (ef192 : f 192 = kp) (ha : zIn a) (hb : zIn b) (kp0 : 0 ≤ kp) (kp1 : kp ≤ 16) (n1 : n9 ≤ 10) : CM l E MX7_swapFuses 2 [.ref (E.1 31), vI a, vI b] f g j (PI (fun r f' g' j' => ((a = b ∧ r = -1 ∧ g' 35 = Ln ∧ f' 192 = kp ∧ g' 193 = D ∧ g' 194 = O1 ∧ g' 195 = O2) ∨ (a ≠ b ∧ ¬ ((0 ≤ a ∧ a < n9) ∧ 0 ≤ b ∧ b < n9) ∧ r = -2 ∧ g' 35 = Ln ∧ f' 192 = kp ∧ g' 193 = D ∧ g' 194 = O1 ∧ g' 195 = O2) ∨ (a ≠ b ∧ ((0 ≤ a ∧ a < n9) ∧ 0 ≤ b ∧ b < n9) ∧ r = (iu (iu Ln a (Ln b)) b (Ln a)) a ∧ g' 35 = iu (iu Ln a (Ln b)) b (Ln a) ∧ f' 192 = (if kp = 16 then 15 else kp) + 1 ∧ g' 193 = iu (if kp = 16 then cpy D D 0 1 15 else D) (if kp = 16 then 15 else kp) 2 ∧ g' 194 = iu (if kp = 16 then cpy O1 O1 0 1 15 else O1) (if kp = 16 then 15 else kp) a ∧ g' 195 = iu (if kp = 16 then cpy O2 O2 0 1 15 else O2) (if kp = 16 then 15 else kp) b)) ∧ eqx [192] f f' ∧ eqx [35, 193, 194, 195] g g' ∧ j' = j)) := by
  refine CM.intro [some (.ref (E.1 31)), some (vI a), some (vI b)] (by decide) (Nat.le_of_ble_eq_true rfl) rfl (fun d hd h0 h hH hA => ?_)
  have hfE : eqx [192] f f := eqx.rf
  have hgE : eqx [35, 193, 194, 195] g g := eqx.rf
  refine z_ild_1 (TX7_swapFuses.at 0 rfl) ?_
  refine z_ild_2 (TX7_swapFuses.at 1 rfl) ?_
  refine z_icmp_ne (tgt := 7) (TX7_swapFuses.at 2 rfl) rfl (by omega) (by omega) (fun c1 => ?_) (fun c1 => ?_)
  · skip
    refine z_ald_0 (TX7_swapFuses.at 5 rfl) ?_
    refine zc_getO (m := 0) (s := 0) (k := 63) (hH.lv (by decide)) (TX7_swapFuses.at 6 rfl) fl7_12 hH rfl rfl (by decide) (by decide) ?_
    refine z_ild_1 (TX7_swapFuses.at 7 rfl) ?_
    refine zc_callI1 (m := 1) (c_hasFuse1 ef32 (by omega)) (hH.lv (by decide)) (TX7_swapFuses.at 8 rfl) c7_109 rfl rfl hH hA (by omega) (Nat.le_of_ble_eq_true rfl) (fun x12 f12 g12 j12 h r12 q12 hH hA => ?_)
    obtain ⟨q12, xf, xg, xj⟩ := q12
    rw [xj] at hH
    have ef32 := (xf 32 (by decide)).trans ef32
    have ef192 := (xf 192 (by decide)).trans ef192
    have hfE := hfE.trans xf (by decide)
    have eg35 := (xg 35 (by decide)).trans eg35
    have eg193 := (xg 193 (by decide)).trans eg193
    have eg194 := (xg 194 (by decide)).trans eg194
    have eg195 := (xg 195 (by decide)).trans eg195
    have hgE := hgE.trans xg (by decide)
    have qL := q12
    obtain rfl := qL
    refine z_if_eqB (tgt := 29) (TX7_swapFuses.at 9 rfl) rfl (fun c2 => ?_) (fun c2 => ?_)
    · skip
      refine z_bipush (by decide) (TX7_swapFuses.at 15 rfl) ?_
      refine zc_iret (TX7_swapFuses.at 16 rfl) rfl hH hA (by omega) ?_
      exact ⟨Or.inr (Or.inl ⟨by omega, by omega, rfl, eg35, ef192, eg193, eg194, eg195⟩), hfE, hgE, rfl⟩
    · skip
      refine z_ald_0 (TX7_swapFuses.at 10 rfl) ?_
      refine zc_getO (m := 0) (s := 0) (k := 63) (hH.lv (by decide)) (TX7_swapFuses.at 11 rfl) fl7_12 hH rfl rfl (by decide) (by decide) ?_
      refine z_ild_2 (TX7_swapFuses.at 12 rfl) ?_
      refine zc_callI1 (m := 1) (c_hasFuse1 ef32 (by omega)) (hH.lv (by decide)) (TX7_swapFuses.at 13 rfl) c7_109 rfl rfl hH hA (by omega) (Nat.le_of_ble_eq_true rfl) (fun x23 f23 g23 j23 h r23 q23 hH hA => ?_)
      obtain ⟨q23, xf, xg, xj⟩ := q23
      rw [xj] at hH
      have ef32 := (xf 32 (by decide)).trans ef32
      have ef192 := (xf 192 (by decide)).trans ef192
      have hfE := hfE.trans xf (by decide)
      have eg35 := (xg 35 (by decide)).trans eg35
      have eg193 := (xg 193 (by decide)).trans eg193
      have eg194 := (xg 194 (by decide)).trans eg194
      have eg195 := (xg 195 (by decide)).trans eg195
      have hgE := hgE.trans xg (by decide)
      have qL := q23
      obtain rfl := qL
      refine z_if_neB (tgt := 32) (TX7_swapFuses.at 14 rfl) rfl (fun c3 => ?_) (fun c3 => ?_)
      · skip
        refine z_ald_0 (TX7_swapFuses.at 17 rfl) ?_
        refine zc_getO (m := 0) (s := 0) (k := 63) (hH.lv (by decide)) (TX7_swapFuses.at 18 rfl) fl7_12 hH rfl rfl (by decide) (by decide) ?_
        refine z_ild_1 (TX7_swapFuses.at 19 rfl) ?_
        refine z_ild_2 (TX7_swapFuses.at 20 rfl) ?_
        refine zc_callV2 (m := 1) (c_swapL eg35 (by omega) (by omega) (by omega) (by omega) (by omega) (by omega)) (hH.lv (by decide)) (TX7_swapFuses.at 21 rfl) c7_297 rfl rfl hH hA (by omega) (Nat.le_of_ble_eq_true rfl) (fun f38 g38 j38 h q38 hH hA => ?_)
        obtain ⟨q38, xf, xg, xj⟩ := q38
        rw [xj] at hH
        have ef32 := (xf 32 (by decide)).trans ef32
        have ef192 := (xf 192 (by decide)).trans ef192
        have hfE := hfE.trans xf (by decide)
        have eg193 := (xg 193 (by decide)).trans eg193
        have eg194 := (xg 194 (by decide)).trans eg194
        have eg195 := (xg 195 (by decide)).trans eg195
        have hgE := hgE.trans xg (by decide)
        have qL := q38
        have eg35 := qL
        refine z_ald_0 (TX7_swapFuses.at 22 rfl) ?_
        refine zc_getO (m := 0) (s := 4) (k := 223) (hH.lv (by decide)) (TX7_swapFuses.at 23 rfl) fl7_29 hH rfl rfl (by decide) (by decide) ?_
        refine z_iconst (TX7_swapFuses.at 24 rfl) ?_
        refine z_ild_1 (TX7_swapFuses.at 25 rfl) ?_
        refine z_ild_2 (TX7_swapFuses.at 26 rfl) ?_
        refine zc_callV3 (m := 6) (c_keep eg193 eg194 eg195 ef192 (by omega) (by omega) (by omega) kp0 kp1) (hH.lv (by decide)) (TX7_swapFuses.at 27 rfl) c7_293 rfl rfl hH hA (by omega) (Nat.le_of_ble_eq_true rfl) (fun f48 g48 j48 h q48 hH hA => ?_)
        obtain ⟨q48, xf, xg, xj⟩ := q48
        rw [xj] at hH
        have ef32 := (xf 32 (by decide)).trans ef32
        have hfE := hfE.trans xf (by decide)
        have eg35 := (xg 35 (by decide)).trans eg35
        have hgE := hgE.trans xg (by decide)
        have qL := q48
        have ef192 := qL.1
        have eg193 := qL.2.1
        have eg194 := qL.2.2.1
        have eg195 := qL.2.2.2
        refine z_ald_0 (TX7_swapFuses.at 28 rfl) ?_
        refine zc_getO (m := 0) (s := 0) (k := 63) (hH.lv (by decide)) (TX7_swapFuses.at 29 rfl) fl7_12 hH rfl rfl (by decide) (by decide) ?_
        refine zc_getA (m := 1) (s := 3) (k := 35) (hH.lv (by decide)) (TX7_swapFuses.at 30 rfl) fl7_119 hH rfl rfl (by decide) (by decide) ?_
        refine z_ild_1 (TX7_swapFuses.at 31 rfl) ?_
        refine zcf_iald (k := 35) (N := 10) (hH.lv (by decide)) (by decide) rfl eg35 (TX7_swapFuses.at 32 rfl) hH (by decide) (by omega) (show _ < ((10 : Nat) : Int) by omega) (fun r59 => ?_)
        refine zc_iret (TX7_swapFuses.at 33 rfl) rfl hH hA (by omega) ?_
        exact ⟨Or.inr (Or.inr ⟨by omega, by omega, rfl, eg35, ef192, eg193, eg194, eg195⟩), hfE, hgE, rfl⟩
      · skip
        refine z_bipush (by decide) (TX7_swapFuses.at 15 rfl) ?_
        refine zc_iret (TX7_swapFuses.at 16 rfl) rfl hH hA (by omega) ?_
        exact ⟨Or.inr (Or.inl ⟨by omega, by omega, rfl, eg35, ef192, eg193, eg194, eg195⟩), hfE, hgE, rfl⟩
  · skip
    refine z_iconst (TX7_swapFuses.at 3 rfl) ?_
    refine zc_iret (TX7_swapFuses.at 4 rfl) rfl hH hA (by omega) ?_
    exact ⟨Or.inl ⟨by omega, rfl, eg35, ef192, eg193, eg194, eg195⟩, hfE, hgE, rfl⟩

set_option maxHeartbeats 4000000 in
set_option maxRecDepth 100000 in
theorem c_feed {l : Launch} {E : cE} {f : mF} {g j : mA} {X : Int → Int} {z : Int} {a b c e k : Int}  (eg257 : g 257 = X) (ef256 : f 256 = z) (ha : zIn a) (hb : zIn b) (hc : zIn c) (he : zIn e) (hk : zIn k) (z0 : 0 ≤ z) : CM l E MX7_feed 1 [.ref (E.1 31), vI a, vI b, vI c, vI e, vI k] f g j (PI (fun r f' g' j' => ((380 < z ∧ r = -1 ∧ f' 256 = z ∧ g' 257 = X) ∨ (z ≤ 380 ∧ r = z + 20 ∧ f' 256 = z + 20 ∧ g' 257 = fedA X z a b c e k)) ∧ eqx [256] f f' ∧ eqx [257] g g' ∧ j' = j)) := by
  refine CM.intro [some (.ref (E.1 31)), some (vI a), some (vI b), some (vI c), some (vI e), some (vI k)] (by decide) (Nat.le_of_ble_eq_true rfl) rfl (fun d hd h0 h hH hA => ?_)
  have hfE : eqx [256] f f := eqx.rf
  have hgE : eqx [257] g g := eqx.rf
  refine z_ald_0 (TX7_feed.at 0 rfl) ?_
  refine zc_getO (m := 0) (s := 6) (k := 287) (hH.lv (by decide)) (TX7_feed.at 1 rfl) fl7_39 hH rfl rfl (by decide) (by decide) ?_
  refine zc_getIE (m := 8) (s := 0) (k := 256) (hH.lv (by decide)) ef256 (TX7_feed.at 2 rfl) fl7_181 hH rfl rfl (by decide) (by decide) (fun r4 => ?_)
  refine z_sipush (by decide) (TX7_feed.at 3 rfl) ?_
  refine z_icmp_le (tgt := 15) (TX7_feed.at 4 rfl) rfl (by omega) (by omega) (fun c1 => ?_) (fun c1 => ?_)
  · skip
    refine z_ald_0 (TX7_feed.at 7 rfl) ?_
    refine zc_getO (m := 0) (s := 6) (k := 287) (hH.lv (by decide)) (TX7_feed.at 8 rfl) fl7_39 hH rfl rfl (by decide) (by decide) ?_
    refine z_ild_1 (TX7_feed.at 9 rfl) ?_
    refine zc_callV1 (m := 8) (c_add eg257 ef256 (by omega) (by omega) (by omega)) (hH.lv (by decide)) (TX7_feed.at 10 rfl) c7_183 rfl rfl hH hA (by omega) (Nat.le_of_ble_eq_true rfl) (fun f20 g20 j20 h q20 hH hA => ?_)
    obtain ⟨q20, xf, xg, xj⟩ := q20
    rw [xj] at hH
    have hfE := hfE.trans xf (by decide)
    have hgE := hgE.trans xg (by decide)
    have qL := q20
    have ef256 := qL.1
    have eg257 := qL.2
    refine z_ald_0 (TX7_feed.at 11 rfl) ?_
    refine zc_getO (m := 0) (s := 6) (k := 287) (hH.lv (by decide)) (TX7_feed.at 12 rfl) fl7_39 hH rfl rfl (by decide) (by decide) ?_
    refine z_ild_2 (TX7_feed.at 13 rfl) ?_
    refine zc_callV1 (m := 8) (c_add eg257 ef256 (by omega) (by omega) (by omega)) (hH.lv (by decide)) (TX7_feed.at 14 rfl) c7_183 rfl rfl hH hA (by omega) (Nat.le_of_ble_eq_true rfl) (fun f28 g28 j28 h q28 hH hA => ?_)
    obtain ⟨q28, xf, xg, xj⟩ := q28
    rw [xj] at hH
    have hfE := hfE.trans xf (by decide)
    have hgE := hgE.trans xg (by decide)
    have qL := q28
    have ef256 := qL.1
    have eg257 := qL.2
    refine z_ald_0 (TX7_feed.at 15 rfl) ?_
    refine zc_getO (m := 0) (s := 6) (k := 287) (hH.lv (by decide)) (TX7_feed.at 16 rfl) fl7_39 hH rfl rfl (by decide) (by decide) ?_
    refine z_ild_3 (TX7_feed.at 17 rfl) ?_
    refine zc_callV1 (m := 8) (c_add eg257 ef256 (by omega) (by omega) (by omega)) (hH.lv (by decide)) (TX7_feed.at 18 rfl) c7_183 rfl rfl hH hA (by omega) (Nat.le_of_ble_eq_true rfl) (fun f36 g36 j36 h q36 hH hA => ?_)
    obtain ⟨q36, xf, xg, xj⟩ := q36
    rw [xj] at hH
    have hfE := hfE.trans xf (by decide)
    have hgE := hgE.trans xg (by decide)
    have qL := q36
    have ef256 := qL.1
    have eg257 := qL.2
    refine z_ald_0 (TX7_feed.at 19 rfl) ?_
    refine zc_getO (m := 0) (s := 6) (k := 287) (hH.lv (by decide)) (TX7_feed.at 20 rfl) fl7_39 hH rfl rfl (by decide) (by decide) ?_
    refine z_ild_4 (TX7_feed.at 21 rfl) ?_
    refine zc_callV1 (m := 8) (c_add eg257 ef256 (by omega) (by omega) (by omega)) (hH.lv (by decide)) (TX7_feed.at 22 rfl) c7_183 rfl rfl hH hA (by omega) (Nat.le_of_ble_eq_true rfl) (fun f45 g45 j45 h q45 hH hA => ?_)
    obtain ⟨q45, xf, xg, xj⟩ := q45
    rw [xj] at hH
    have hfE := hfE.trans xf (by decide)
    have hgE := hgE.trans xg (by decide)
    have qL := q45
    have ef256 := qL.1
    have eg257 := qL.2
    refine z_ald_0 (TX7_feed.at 23 rfl) ?_
    refine zc_getO (m := 0) (s := 6) (k := 287) (hH.lv (by decide)) (TX7_feed.at 24 rfl) fl7_39 hH rfl rfl (by decide) (by decide) ?_
    refine z_ild_5 (TX7_feed.at 25 rfl) ?_
    refine zc_callV1 (m := 8) (c_add eg257 ef256 (by omega) (by omega) (by omega)) (hH.lv (by decide)) (TX7_feed.at 26 rfl) c7_183 rfl rfl hH hA (by omega) (Nat.le_of_ble_eq_true rfl) (fun f54 g54 j54 h q54 hH hA => ?_)
    obtain ⟨q54, xf, xg, xj⟩ := q54
    rw [xj] at hH
    have hfE := hfE.trans xf (by decide)
    have hgE := hgE.trans xg (by decide)
    have qL := q54
    have ef256 := qL.1
    have eg257 := qL.2
    refine z_ald_0 (TX7_feed.at 27 rfl) ?_
    refine zc_getO (m := 0) (s := 6) (k := 287) (hH.lv (by decide)) (TX7_feed.at 28 rfl) fl7_39 hH rfl rfl (by decide) (by decide) ?_
    refine zc_getIE (m := 8) (s := 0) (k := 256) (hH.lv (by decide)) ef256 (TX7_feed.at 29 rfl) fl7_181 hH rfl rfl (by decide) (by decide) (fun r61 => ?_)
    refine zc_iret (TX7_feed.at 30 rfl) rfl hH hA (by omega) ?_
    exact ⟨Or.inr ⟨by omega, by omega, by omega, eg257⟩, hfE, hgE, rfl⟩
  · skip
    refine z_iconst (TX7_feed.at 5 rfl) ?_
    refine zc_iret (TX7_feed.at 6 rfl) rfl hH hA (by omega) ?_
    exact ⟨Or.inl ⟨by omega, rfl, ef256, eg257⟩, hfE, hgE, rfl⟩

