/-! ===== the class: orders ===== -/
def FLK (K X : Int → Int) (u : Int) (f' : mF) (g' : mA) : Prop := FrV K (f' 32) (f' 39) (f' 41) (f' 45) (f' 47) (g' 33) (g' 34) (g' 35) (g' 36) (f' 37) (g' 38) (g' 40) (g' 42) (g' 43) (g' 44) ∧ LogK (g' 193) (g' 194) (g' 195) u X K ∧ f' 192 = u
def RdO (T : Except Nat (List Cla)) (U : Int → Int) (z y nc N ag : Int) (Vb Tms On Ot Te C : Int → Int) : Prop := match T with
  | .error e => y = pT U z e ∧ 0 ≤ y
  | .ok cl => y = -1 ∧ nc = (cl.length : Int) ∧ (0 ≤ N ∧ N ≤ 400) ∧ in01 ag ∧ RdR false Vb Tms On Ot Te C N ag cl
theorem RdO.er {U : Int → Int} {z y nc N ag : Int} {Vb Tms On Ot Te C : Int → Int} (h : RdO (txtS false U z) U z y nc N ag Vb Tms On Ot Te C) (hy : y ≠ -1) : ∃ e, txtS false U z = .error e ∧ y = pT U z e := by
  cases hx : txtS false U z with
  | error e => rw [hx] at h; exact ⟨e, rfl, h.1⟩
  | ok l => rw [hx] at h; exact absurd h.1 hy
theorem RdO.ok {U : Int → Int} {z y nc N ag : Int} {Vb Tms On Ot Te C : Int → Int} (h : RdO (txtS false U z) U z y nc N ag Vb Tms On Ot Te C) (hy : y = -1) : ∃ l, txtS false U z = .ok l ∧ nc = (l.length : Int) ∧ (0 ≤ N ∧ N ≤ 400) ∧ in01 ag ∧ RdR false Vb Tms On Ot Te C N ag l := by
  cases hx : txtS false U z with
  | error e => rw [hx] at h; exact absurd h.2 (by omega)
  | ok l => rw [hx] at h; exact ⟨l, rfl, h.2.1, h.2.2.1, h.2.2.2.1, h.2.2.2.2⟩
theorem text_tm {c v : Int → Int} {n : Nat} : ∀ (m t p : Nat) (l : List Cla), pText false c v n m t p = .ok l → ∀ k ∈ l, 1 ≤ k.2.2.2.1 ∧ k.2.2.2.1 ≤ 20 := by
  intro m
  induction m with
  | zero => intro t p l h; cases h
  | succ m ih =>
    intro t p l h
    simp only [pText] at h
    cases hr : pCla false c v t p with
    | error e => rw [hr] at h; cases h
    | ok r =>
      obtain ⟨t2, p2, k2⟩ := r
      rw [hr] at h
      simp only at h
      have hk2 := ordT_tm hr
      split at h
      · cases hq : pText false c v n m (t2 + 1) p2 with
        | error e => rw [hq] at h; cases h
        | ok l2 =>
          rw [hq] at h
          cases h
          intro k hk
          rcases List.mem_cons.mp hk with rfl | hk
          · exact hk2
          · exact ih _ _ _ hq k hk
      · split at h
        · cases h
        · cases h
          intro k hk
          rcases List.mem_cons.mp hk with rfl | hk
          · exact hk2
          · cases hk
theorem cpy_own {Lw Y : Int → Int} (h : ∀ i : Int, 0 ≤ i → i < 6 → Y i = Lw i) : cpy Lw Y 0 0 6 = Lw := by
  funext i
  unfold cpy
  split
  · rename_i hi
    rw [show i - 0 + 0 = i by omega]; exact h i hi.1 (by omega)
  · rfl
theorem drop_at {l : List Cla} {c : Nat} (h : c < l.length) : ∃ k, l.drop c = k :: l.drop (c + 1) ∧ l[c]? = some k := ⟨l[c], List.drop_eq_getElem_cons h, List.getElem?_eq_getElem h⟩

set_option maxHeartbeats 4000000 in
set_option maxRecDepth 100000 in
theorem lp_cord {l : Launch} {E : cE} {d : Nat} {h0 : zH} {f0 : mF} {g0 : mA} {j : mA} (hd : 9 ≤ d) {K0 X0 : Int → Int} {cl l0 : List Cla} {N ag nc x7 x8 u0 st z y0 y5 y7 y9 y13 y15 : Int} {U Vb Tms On Ot Te C Fr To Kd Lt Sk Ss Lw Rf D0 P0 Q0 Y1 Y2 Y3 Y4 Y6 Y8 Y10 Y11 Y12 Y14 E1 E2 E3 : Int → Int} (hx : txtS false U z = .ok l0) (hnc : nc = (l0.length : Int)) (nc12 : nc ≤ 12) (hR : RdR false Vb Tms On Ot Te C N ag l0) (hgg : ∀ k ∈ l0, ClG false k) (htm : ∀ k ∈ l0, 1 ≤ k.2.2.2.1 ∧ k.2.2.2.1 ≤ 20) (hag : in01 ag) (N4 : N ≤ 400) (hb : ∀ i, Rf i ≤ 100000) (hL0 : LwN E f0 g0 (if 0 ≤ K0 80 ∧ K0 80 < K0 79 then Lw (K0 80) else -1) cl) (h0K : KOK K0) (hFs : FrV K0 y0 y7 y9 y13 y15 Y1 Y2 Y3 Y4 y5 Y6 Y8 Y10 Y11 Y12) (hG0 : LogK D0 P0 Q0 u0 X0 K0) (hE0 : ∀ i : Int, 0 ≤ i → i < 16 → E1 i = D0 i ∧ E2 i = P0 i ∧ E3 i = Q0 i) (hOK : ∀ q : Int, 0 ≤ q → q < 6 → okR E 4 (Y14 q)) (hY14 : Y14 = cpy (g0 78) Lw 0 0 6) : ∀ (n : Nat) (c : Nat) (i : Int) (l1 : List Cla) (K : Int → Int) (X : Int → Int) (u : Int) (dn : Int) (l9 : Int) (Ln : Int → Int) (Mt : Int → Int) (Tm : Int → Int) (D : Int → Int) (O1 : Int → Int) (O2 : Int → Int) (Φ : Int → Int) (dp : Int) (f : mF) (g : mA) (h : zH) (ci : i = (c : Int)) (i1 : i ≤ nc) (i2 : nc < i + n) (el : l1 = l0.drop c) (hO : OSok K0 (20 * i) (K, X, u, dn, l9)) (hF : FrV K (K0 76) x7 x8 (K0 79) (K0 80) Fr To Ln Kd dp Mt Lt Sk Ss Tm) (hG : LogK D O1 O2 u X K) (hC : FcT Φ ag dn l9 (gone K cl)) (eL : ordL cl l0 0 (K0, X0, u0, 0, -1) = ordL cl l1 c (K, X, u, dn, l9)) (eg419 : g 419 = Vb) (eg420 : g 420 = Tms) (eg421 : g 421 = On) (eg422 : g 422 = Ot) (eg423 : g 423 = Te) (eg424 : g 424 = C) (eg33 : g 33 = Fr) (eg34 : g 34 = To) (eg36 : g 36 = Kd) (eg46 : g 46 = Lw) (eg40 : g 40 = Lt) (eg42 : g 42 = Sk) (eg43 : g 43 = Ss) (eg35 : g 35 = Ln) (eg38 : g 38 = Mt) (eg44 : g 44 = Tm) (eg193 : g 193 = D) (eg194 : g 194 = O1) (eg195 : g 195 = O2) (eg10 : g 10 = Φ) (eg11 : g 11 = Rf) (eg65 : g 65 = Y1) (eg66 : g 66 = Y2) (eg67 : g 67 = Y3) (eg68 : g 68 = Y4) (eg70 : g 70 = Y6) (eg72 : g 72 = Y8) (eg74 : g 74 = Y10) (eg75 : g 75 = Y11) (eg76 : g 76 = Y12) (eg78 : g 78 = Y14) (eg225 : g 225 = E1) (eg226 : g 226 = E2) (eg227 : g 227 = E3) (ef32 : f 32 = (K0 76)) (ef39 : f 39 = x7) (ef41 : f 41 = x8) (ef45 : f 45 = (K0 79)) (ef47 : f 47 = (K0 80)) (ef37 : f 37 = dp) (ef192 : f 192 = u) (ef416 : f 416 = nc) (ef417 : f 417 = N) (ef418 : f 418 = ag) (ef14 : f 14 = (-1)) (ef15 : f 15 = (-1)) (ef16 : f 16 = st) (ef256 : f 256 = 0) (ef64 : f 64 = y0) (ef69 : f 69 = y5) (ef71 : f 71 = y7) (ef73 : f 73 = y9) (ef77 : f 77 = y13) (ef79 : f 79 = y15) (ef224 : f 224 = u0) (hfE : eqx [14, 15, 16, 256, 289, 293, 294, 295, 296, 416, 417, 418, 64, 69, 71, 73, 77, 79, 224, 32, 37, 39, 41, 45, 47, 192, 354] f0 f) (hgE : eqx [11, 10, 290, 291, 292, 419, 420, 421, 422, 423, 424, 65, 66, 67, 68, 70, 72, 74, 75, 76, 78, 225, 226, 227, 33, 34, 35, 36, 38, 40, 42, 43, 44, 46, 193, 194, 195, 320, 352, 353, 355, 356, 384] g0 g) (hH : HC E f g j h) (hA : cAg E h0 h), Z l MX7_orders d 0 0 (CP E h0 (PI (fun r f' g' j' => (f' 256 = 0 ∧ g' 46 = Lw ∧ ((∃ e, txtS false U z = .error e ∧ r = -6 ∧ f' 16 = -6 ∧ g' 11 = bumC Rf (-6) ∧ f' 14 = pT U z e ∧ f' 15 = -1 ∧ g' 78 = g0 78 ∧ FLK K0 X0 u0 f' g') ∨ (∃ l, txtS false U z = .ok l ∧ f' 14 = -1 ∧ g' 78 = cpy (g0 78) Lw 0 0 6 ∧ ((∃ w, ordL cl l 0 (K0, X0, u0, 0, -1) = .ok w ∧ r = w.2.2.2.1 ∧ f' 16 = 0 ∧ g' 11 = Rf ∧ f' 15 = -1 ∧ OSok K0 1000 w ∧ FLK w.1 w.2.1 w.2.2.1 f' g') ∨ (∃ i : Nat, ordL cl l 0 (K0, X0, u0, 0, -1) = .error i ∧ r = -3 ∧ f' 16 = -3 ∧ g' 11 = bumC Rf (-3) ∧ f' 15 = (i : Int) ∧ FLK K0 X0 u0 f' g'))))) ∧ eqx [14, 15, 16, 256, 289, 293, 294, 295, 296, 416, 417, 418, 64, 69, 71, 73, 77, 79, 224, 32, 37, 39, 41, 45, 47, 192, 354] f0 f' ∧ eqx [11, 10, 290, 291, 292, 419, 420, 421, 422, 423, 424, 65, 66, 67, 68, 70, 72, 74, 75, 76, 78, 225, 226, 227, 33, 34, 35, 36, 38, 40, 42, 43, 44, 46, 193, 194, 195, 320, 352, 353, 355, 356, 384] g0 g' ∧ j' = j))) 121 [some (.ref (E.1 31)), some (.ref (E.1 447)), some (vI i)] [] h 0 0 := by
  intro n
  induction n with
  | zero => intro c i l1 K X u dn l9 Ln Mt Tm D O1 O2 Φ dp f g h ci i1 i2 el hO hF hG hC eL eg419 eg420 eg421 eg422 eg423 eg424 eg33 eg34 eg36 eg46 eg40 eg42 eg43 eg35 eg38 eg44 eg193 eg194 eg195 eg10 eg11 eg65 eg66 eg67 eg68 eg70 eg72 eg74 eg75 eg76 eg78 eg225 eg226 eg227 ef32 ef39 ef41 ef45 ef47 ef37 ef192 ef416 ef417 ef418 ef14 ef15 ef16 ef256 ef64 ef69 ef71 ef73 ef77 ef79 ef224 hfE hgE hH hA; exfalso; omega
  | succ n ih =>
    intro c i l1 K X u dn l9 Ln Mt Tm D O1 O2 Φ dp f g h ci i1 i2 el hO hF hG hC eL eg419 eg420 eg421 eg422 eg423 eg424 eg33 eg34 eg36 eg46 eg40 eg42 eg43 eg35 eg38 eg44 eg193 eg194 eg195 eg10 eg11 eg65 eg66 eg67 eg68 eg70 eg72 eg74 eg75 eg76 eg78 eg225 eg226 eg227 ef32 ef39 ef41 ef45 ef47 ef37 ef192 ef416 ef417 ef418 ef14 ef15 ef16 ef256 ef64 ef69 ef71 ef73 ef77 ef79 ef224 hfE hgE hH hA
    obtain ⟨hu, hdn⟩ : (0 ≤ u ∧ u ≤ 16) ∧ (0 ≤ dn ∧ dn ≤ 20 * i) := ⟨hO.2.2.1, hO.2.2.2.1⟩
    have hC9 := hC.1
    refine z_ild_2 (TX7_orders_1.at 23 rfl) ?_
    refine z_ald_1 (TX7_orders_1.at 24 rfl) ?_
    refine zc_getIE (m := 13) (s := 0) (k := 416) (hH.lv (by decide)) ef416 (TX7_orders_1.at 25 rfl) fl7_228 hH rfl rfl (by decide) (by decide) (fun r123 => ?_)
    refine z_icmp_ge (tgt := 178) (TX7_orders_1.at 26 rfl) rfl (by omega) (by omega) (fun c1 => ?_) (fun c1 => ?_)
    · skip
      refine z_ald_0 (TX7_orders_2.at 11 rfl) ?_
      refine z_ald_0 (TX7_orders_2.at 12 rfl) ?_
      refine zc_getA (m := 0) (s := 10) (k := 10) (hH.lv (by decide)) (TX7_orders_2.at 13 rfl) fl7_64 hH rfl rfl (by decide) (by decide) ?_
      refine z_bipush (by decide) (TX7_orders_2.at 14 rfl) ?_
      refine zcf_iald (k := 10) (N := 31) (hH.lv (by decide)) (by decide) rfl eg10 (TX7_orders_2.at 15 rfl) hH (by decide) (by omega) (show _ < ((31 : Nat) : Int) by omega) (fun r185 => ?_)
      refine zc_callI1 (m := 0) (c_answered ef16 (by omega)) (hH.lv (by decide)) (TX7_orders_2.at 16 rfl) c7_106 rfl rfl hH hA (by omega) (Nat.le_of_ble_eq_true rfl) (fun x186 f186 g186 j186 h r186 q186 hH hA => ?_)
      obtain ⟨q186, xf, xg, xj⟩ := q186
      rw [xj] at hH
      have ef32 := (xf 32 (by decide)).trans ef32
      have ef39 := (xf 39 (by decide)).trans ef39
      have ef41 := (xf 41 (by decide)).trans ef41
      have ef45 := (xf 45 (by decide)).trans ef45
      have ef47 := (xf 47 (by decide)).trans ef47
      have ef37 := (xf 37 (by decide)).trans ef37
      have ef192 := (xf 192 (by decide)).trans ef192
      have ef416 := (xf 416 (by decide)).trans ef416
      have ef417 := (xf 417 (by decide)).trans ef417
      have ef418 := (xf 418 (by decide)).trans ef418
      have ef14 := (xf 14 (by decide)).trans ef14
      have ef15 := (xf 15 (by decide)).trans ef15
      have ef256 := (xf 256 (by decide)).trans ef256
      have ef64 := (xf 64 (by decide)).trans ef64
      have ef69 := (xf 69 (by decide)).trans ef69
      have ef71 := (xf 71 (by decide)).trans ef71
      have ef73 := (xf 73 (by decide)).trans ef73
      have ef77 := (xf 77 (by decide)).trans ef77
      have ef79 := (xf 79 (by decide)).trans ef79
      have ef224 := (xf 224 (by decide)).trans ef224
      have hfE := hfE.trans xf (by decide)
      have eg419 := (xg 419 (by decide)).trans eg419
      have eg420 := (xg 420 (by decide)).trans eg420
      have eg421 := (xg 421 (by decide)).trans eg421
      have eg422 := (xg 422 (by decide)).trans eg422
      have eg423 := (xg 423 (by decide)).trans eg423
      have eg424 := (xg 424 (by decide)).trans eg424
      have eg33 := (xg 33 (by decide)).trans eg33
      have eg34 := (xg 34 (by decide)).trans eg34
      have eg36 := (xg 36 (by decide)).trans eg36
      have eg46 := (xg 46 (by decide)).trans eg46
      have eg40 := (xg 40 (by decide)).trans eg40
      have eg42 := (xg 42 (by decide)).trans eg42
      have eg43 := (xg 43 (by decide)).trans eg43
      have eg35 := (xg 35 (by decide)).trans eg35
      have eg38 := (xg 38 (by decide)).trans eg38
      have eg44 := (xg 44 (by decide)).trans eg44
      have eg193 := (xg 193 (by decide)).trans eg193
      have eg194 := (xg 194 (by decide)).trans eg194
      have eg195 := (xg 195 (by decide)).trans eg195
      have eg10 := (xg 10 (by decide)).trans eg10
      have eg11 := (xg 11 (by decide)).trans eg11
      have eg65 := (xg 65 (by decide)).trans eg65
      have eg66 := (xg 66 (by decide)).trans eg66
      have eg67 := (xg 67 (by decide)).trans eg67
      have eg68 := (xg 68 (by decide)).trans eg68
      have eg70 := (xg 70 (by decide)).trans eg70
      have eg72 := (xg 72 (by decide)).trans eg72
      have eg74 := (xg 74 (by decide)).trans eg74
      have eg75 := (xg 75 (by decide)).trans eg75
      have eg76 := (xg 76 (by decide)).trans eg76
      have eg78 := (xg 78 (by decide)).trans eg78
      have eg225 := (xg 225 (by decide)).trans eg225
      have eg226 := (xg 226 (by decide)).trans eg226
      have eg227 := (xg 227 (by decide)).trans eg227
      have hgE := hgE.trans xg (by decide)
      have qL := q186
      have ef16 := qL.2
      have qe := qL.1.symm
      subst qe
      refine zc_iret (TX7_orders_2.at 17 rfl) rfl hH hA (by omega) ?_
      exact ⟨⟨ef256, eg46, Or.inr ⟨l0, hx, ef14, by rw [eg78, hY14], Or.inl ⟨(K, X, u, dn, l9), by rw [eL, el, List.drop_eq_nil_of_le (by omega)]; rfl, hC.1, ef16, eg11, ef15, OSok_w hO (by omega), by rw [ef32, ef37, ef39, ef41, ef45, ef47, eg33, eg34, eg35, eg36, eg38, eg40, eg42, eg43, eg44]; exact hF, by rw [eg193, eg194, eg195]; exact hG, ef192⟩⟩⟩, hfE, hgE, rfl⟩
    · skip
      obtain ⟨k, hdr, hgk⟩ := drop_at (l := l0) (c := c) (by omega)
      have hRk := hR c k hgk
      have hmem := List.mem_of_getElem? hgk
      refine z_ald_0 (TX7_orders_1.at 27 rfl) ?_
      refine z_ald_1 (TX7_orders_1.at 28 rfl) ?_
      refine z_ild_2 (TX7_orders_1.at 29 rfl) ?_
      refine zc_callI2 (m := 0) (c_ran (K0 := K0) (K := K) (X := X) (cl := cl) (k := k) (w0 := (K, X, u, dn, l9)) (B0 := 20 * i) (dn := dn) (l9 := l9) eg419 eg420 eg421 eg422 eg423 eg424 eg33 eg34 eg36 eg46 eg35 eg38 eg44 eg193 eg194 eg195 eg10 ef32 ef37 ef192 ef417 ef418 ef45 ef47 (by rw [ci]; exact hRk.1) (hgg k hmem) hRk.2.1 hRk.2.2 hag N4 (by omega) (by omega) (htm k hmem) (by omega) (by omega) (LwN_fr hL0 hfE hgE (by decide) (by decide)) rfl hO hF hG hC) (hH.lv (by decide)) (TX7_orders_1.at 30 rfl) c7_231 rfl rfl hH hA (by omega) (Nat.le_of_ble_eq_true rfl) (fun x132 f132 g132 j132 h r132 q132 hH hA => ?_)
      obtain ⟨q132, xf, xg, xj⟩ := q132
      rw [xj] at hH
      have ef32 := (xf 32 (by decide)).trans ef32
      have ef39 := (xf 39 (by decide)).trans ef39
      have ef41 := (xf 41 (by decide)).trans ef41
      have ef45 := (xf 45 (by decide)).trans ef45
      have ef47 := (xf 47 (by decide)).trans ef47
      have ef416 := (xf 416 (by decide)).trans ef416
      have ef417 := (xf 417 (by decide)).trans ef417
      have ef418 := (xf 418 (by decide)).trans ef418
      have ef14 := (xf 14 (by decide)).trans ef14
      have ef15 := (xf 15 (by decide)).trans ef15
      have ef16 := (xf 16 (by decide)).trans ef16
      have ef256 := (xf 256 (by decide)).trans ef256
      have ef64 := (xf 64 (by decide)).trans ef64
      have ef69 := (xf 69 (by decide)).trans ef69
      have ef71 := (xf 71 (by decide)).trans ef71
      have ef73 := (xf 73 (by decide)).trans ef73
      have ef77 := (xf 77 (by decide)).trans ef77
      have ef79 := (xf 79 (by decide)).trans ef79
      have ef224 := (xf 224 (by decide)).trans ef224
      have hfE := hfE.trans xf (by decide)
      have eg419 := (xg 419 (by decide)).trans eg419
      have eg420 := (xg 420 (by decide)).trans eg420
      have eg421 := (xg 421 (by decide)).trans eg421
      have eg422 := (xg 422 (by decide)).trans eg422
      have eg423 := (xg 423 (by decide)).trans eg423
      have eg424 := (xg 424 (by decide)).trans eg424
      have eg33 := (xg 33 (by decide)).trans eg33
      have eg34 := (xg 34 (by decide)).trans eg34
      have eg36 := (xg 36 (by decide)).trans eg36
      have eg46 := (xg 46 (by decide)).trans eg46
      have eg40 := (xg 40 (by decide)).trans eg40
      have eg42 := (xg 42 (by decide)).trans eg42
      have eg43 := (xg 43 (by decide)).trans eg43
      have eg11 := (xg 11 (by decide)).trans eg11
      have eg65 := (xg 65 (by decide)).trans eg65
      have eg66 := (xg 66 (by decide)).trans eg66
      have eg67 := (xg 67 (by decide)).trans eg67
      have eg68 := (xg 68 (by decide)).trans eg68
      have eg70 := (xg 70 (by decide)).trans eg70
      have eg72 := (xg 72 (by decide)).trans eg72
      have eg74 := (xg 74 (by decide)).trans eg74
      have eg75 := (xg 75 (by decide)).trans eg75
      have eg76 := (xg 76 (by decide)).trans eg76
      have eg78 := (xg 78 (by decide)).trans eg78
      have eg225 := (xg 225 (by decide)).trans eg225
      have eg226 := (xg 226 (by decide)).trans eg226
      have eg227 := (xg 227 (by decide)).trans eg227
      have hgE := hgE.trans xg (by decide)
      have qL := q132
      have hrn := qL
      obtain ⟨L2, eg35⟩ : ∃ z, g132 35 = z := ⟨_, rfl⟩
      obtain ⟨M2, eg38⟩ : ∃ z, g132 38 = z := ⟨_, rfl⟩
      obtain ⟨T2, eg44⟩ : ∃ z, g132 44 = z := ⟨_, rfl⟩
      obtain ⟨D2, eg193⟩ : ∃ z, g132 193 = z := ⟨_, rfl⟩
      obtain ⟨P2, eg194⟩ : ∃ z, g132 194 = z := ⟨_, rfl⟩
      obtain ⟨Q2, eg195⟩ : ∃ z, g132 195 = z := ⟨_, rfl⟩
      obtain ⟨F2, eg10⟩ : ∃ z, g132 10 = z := ⟨_, rfl⟩
      obtain ⟨d2, ef37⟩ : ∃ z, f132 37 = z := ⟨_, rfl⟩
      obtain ⟨v2, ef192⟩ : ∃ z, f132 192 = z := ⟨_, rfl⟩
      have hrn2 : (x132 = 1 ∧ ∃ w', ordT cl k k.2.2.2.1.toNat (K, X, u, dn, l9) = some w' ∧ OSok K0 (20 * i + 20) w' ∧ FrV w'.1 (K0 76) x7 x8 (K0 79) (K0 80) Fr To L2 Kd d2 M2 Lt Sk Ss T2 ∧ LogK D2 P2 Q2 w'.2.2.1 w'.2.1 w'.1 ∧ v2 = w'.2.2.1 ∧ FcT F2 ag w'.2.2.2.1 w'.2.2.2.2 (gone w'.1 cl)) ∨ (x132 = 0 ∧ ordT cl k k.2.2.2.1.toNat (K, X, u, dn, l9) = none) := by
        rw [← eg35, ← eg38, ← eg44, ← eg193, ← eg194, ← eg195, ← eg10, ← ef37, ← ef192]
        exact hrn
      clear hrn qL q132
      refine z_if_ne (tgt := 172) (TX7_orders_1.at 31 rfl) rfl (by omega) (fun c2 => ?_) (fun c2 => ?_)
      · skip
        obtain ⟨⟨K2, X2, u2, dn2, l2⟩, w1, w2, w3, w4, w5, w6⟩ : ∃ w', ordT cl k k.2.2.2.1.toNat (K, X, u, dn, l9) = some w' ∧ OSok K0 (20 * i + 20) w' ∧ FrV w'.1 (K0 76) x7 x8 (K0 79) (K0 80) Fr To L2 Kd d2 M2 Lt Sk Ss T2 ∧ LogK D2 P2 Q2 w'.2.2.1 w'.2.1 w'.1 ∧ v2 = w'.2.2.1 ∧ FcT F2 ag w'.2.2.2.1 w'.2.2.2.2 (gone w'.1 cl) := by
          rcases hrn2 with h | h
          · exact h.2
          · exact absurd h.1 (by omega)
        simp only at w3 w4 w5 w6
        subst w5
        clear hrn2
        refine z_iinc_2 (TX7_orders_2.at 9 rfl) (Nat.le_of_ble_eq_true rfl) rfl ?_
        refine z_goto (tgt := 121) (TX7_orders_2.at 10 rfl) rfl ?_
        exact ih (c + 1) _ (l0.drop (c + 1)) K2 X2 v2 dn2 l2 _ _ _ _ _ _ _ _ _ _ _ (by omega) (by omega) (by omega) rfl (OSok_w w2 (by omega)) w3 w4 w6 (by rw [eL, el, hdr]; exact ordL_c w1) eg419 eg420 eg421 eg422 eg423 eg424 eg33 eg34 eg36 eg46 eg40 eg42 eg43 eg35 eg38 eg44 eg193 eg194 eg195 eg10 eg11 eg65 eg66 eg67 eg68 eg70 eg72 eg74 eg75 eg76 eg78 eg225 eg226 eg227 ef32 ef39 ef41 ef45 ef47 ef37 ef192 ef416 ef417 ef418 ef14 ef15 ef16 ef256 ef64 ef69 ef71 ef73 ef77 ef79 ef224 hfE hgE hH hA
      · skip
        have w1 : ordT cl k k.2.2.2.1.toNat (K, X, u, dn, l9) = none := by
          rcases hrn2 with h | h
          · exact absurd h.1 (by omega)
          · exact h.2
        have eL2 : ordL cl l0 0 (K0, X0, u0, 0, -1) = .error c := by rw [eL, el, hdr]; exact ordL_e w1
        clear hrn2
        refine z_ald_0 (TX7_orders_1.at 32 rfl) ?_
        refine z_ild_2 (TX7_orders_1.at 33 rfl) ?_
        refine zc_putI (m := 0) (s := 15) (k := 15) (hH.lv (by decide)) (TX7_orders_1.at 34 rfl) fp7_82 hH hA rfl rfl (by decide) (by decide) (by first | omega | exact b2i_01 _) (fun h f140 e1 e2 hH hA => ?_)
        have ef32 := (e1 32 (by decide)).trans ef32
        have ef39 := (e1 39 (by decide)).trans ef39
        have ef41 := (e1 41 (by decide)).trans ef41
        have ef45 := (e1 45 (by decide)).trans ef45
        have ef47 := (e1 47 (by decide)).trans ef47
        have ef37 := (e1 37 (by decide)).trans ef37
        have ef192 := (e1 192 (by decide)).trans ef192
        have ef416 := (e1 416 (by decide)).trans ef416
        have ef417 := (e1 417 (by decide)).trans ef417
        have ef418 := (e1 418 (by decide)).trans ef418
        have ef14 := (e1 14 (by decide)).trans ef14
        have ef15 := e2
        have ef16 := (e1 16 (by decide)).trans ef16
        have ef256 := (e1 256 (by decide)).trans ef256
        have ef64 := (e1 64 (by decide)).trans ef64
        have ef69 := (e1 69 (by decide)).trans ef69
        have ef71 := (e1 71 (by decide)).trans ef71
        have ef73 := (e1 73 (by decide)).trans ef73
        have ef77 := (e1 77 (by decide)).trans ef77
        have ef79 := (e1 79 (by decide)).trans ef79
        have ef224 := (e1 224 (by decide)).trans ef224
        have hfE := hfE.put e1 (by decide)
        refine z_ald_0 (TX7_orders_1.at 35 rfl) ?_
        refine zc_getO (m := 0) (s := 0) (k := 63) (hH.lv (by decide)) (TX7_orders_1.at 36 rfl) fl7_12 hH rfl rfl (by decide) (by decide) ?_
        refine z_ald_0 (TX7_orders_1.at 37 rfl) ?_
        refine zc_getO (m := 0) (s := 1) (k := 95) (hH.lv (by decide)) (TX7_orders_1.at 38 rfl) fl7_16 hH rfl rfl (by decide) (by decide) ?_
        refine zc_callV1 (m := 1) (c_bec1_2 eg33 eg65 eg34 eg66 eg35 eg67 eg36 eg68 eg38 eg70 eg40 eg72 eg42 eg74 eg43 eg75 eg44 eg76 eg46 eg78 ef64 ef69 ef71 ef73 ef77 ef79 hOK) (hH.lv (by decide)) (TX7_orders_1.at 39 rfl) c7_214 rfl rfl hH hA (by omega) (Nat.le_of_ble_eq_true rfl) (fun f151 g151 j151 h q151 hH hA => ?_)
        obtain ⟨q151, xf, xg, xj⟩ := q151
        rw [xj] at hH
        have ef192 := (xf 192 (by decide)).trans ef192
        have ef416 := (xf 416 (by decide)).trans ef416
        have ef417 := (xf 417 (by decide)).trans ef417
        have ef418 := (xf 418 (by decide)).trans ef418
        have ef14 := (xf 14 (by decide)).trans ef14
        have ef15 := (xf 15 (by decide)).trans ef15
        have ef16 := (xf 16 (by decide)).trans ef16
        have ef256 := (xf 256 (by decide)).trans ef256
        have ef64 := (xf 64 (by decide)).trans ef64
        have ef69 := (xf 69 (by decide)).trans ef69
        have ef71 := (xf 71 (by decide)).trans ef71
        have ef73 := (xf 73 (by decide)).trans ef73
        have ef77 := (xf 77 (by decide)).trans ef77
        have ef79 := (xf 79 (by decide)).trans ef79
        have ef224 := (xf 224 (by decide)).trans ef224
        have hfE := hfE.trans xf (by decide)
        have eg419 := (xg 419 (by decide)).trans eg419
        have eg420 := (xg 420 (by decide)).trans eg420
        have eg421 := (xg 421 (by decide)).trans eg421
        have eg422 := (xg 422 (by decide)).trans eg422
        have eg423 := (xg 423 (by decide)).trans eg423
        have eg424 := (xg 424 (by decide)).trans eg424
        have eg193 := (xg 193 (by decide)).trans eg193
        have eg194 := (xg 194 (by decide)).trans eg194
        have eg195 := (xg 195 (by decide)).trans eg195
        have eg10 := (xg 10 (by decide)).trans eg10
        have eg11 := (xg 11 (by decide)).trans eg11
        have eg65 := (xg 65 (by decide)).trans eg65
        have eg66 := (xg 66 (by decide)).trans eg66
        have eg67 := (xg 67 (by decide)).trans eg67
        have eg68 := (xg 68 (by decide)).trans eg68
        have eg70 := (xg 70 (by decide)).trans eg70
        have eg72 := (xg 72 (by decide)).trans eg72
        have eg74 := (xg 74 (by decide)).trans eg74
        have eg75 := (xg 75 (by decide)).trans eg75
        have eg76 := (xg 76 (by decide)).trans eg76
        have eg78 := (xg 78 (by decide)).trans eg78
        have eg225 := (xg 225 (by decide)).trans eg225
        have eg226 := (xg 226 (by decide)).trans eg226
        have eg227 := (xg 227 (by decide)).trans eg227
        have hgE := hgE.trans xg (by decide)
        have qL := q151
        obtain ⟨ef32, ef37, ef39, ef41, ef45, ef47, eg33, eg34, eg35, eg36, eg38, eg40, eg42, eg43, eg44, eg46⟩ := qL
        refine z_ald_0 (TX7_orders_2.at 0 rfl) ?_
        refine zc_getO (m := 0) (s := 4) (k := 223) (hH.lv (by decide)) (TX7_orders_2.at 1 rfl) fl7_29 hH rfl rfl (by decide) (by decide) ?_
        refine z_ald_0 (TX7_orders_2.at 2 rfl) ?_
        refine zc_getO (m := 0) (s := 5) (k := 255) (hH.lv (by decide)) (TX7_orders_2.at 3 rfl) fl7_33 hH rfl rfl (by decide) (by decide) ?_
        refine zc_callV1 (m := 6) (c_logb6 eg193 eg194 eg195 eg225 eg226 eg227 ef224) (hH.lv (by decide)) (TX7_orders_2.at 4 rfl) c7_217 rfl rfl hH hA (by omega) (Nat.le_of_ble_eq_true rfl) (fun f162 g162 j162 h q162 hH hA => ?_)
        obtain ⟨q162, xf, xg, xj⟩ := q162
        rw [xj] at hH
        have ef32 := (xf 32 (by decide)).trans ef32
        have ef39 := (xf 39 (by decide)).trans ef39
        have ef41 := (xf 41 (by decide)).trans ef41
        have ef45 := (xf 45 (by decide)).trans ef45
        have ef47 := (xf 47 (by decide)).trans ef47
        have ef37 := (xf 37 (by decide)).trans ef37
        have ef416 := (xf 416 (by decide)).trans ef416
        have ef417 := (xf 417 (by decide)).trans ef417
        have ef418 := (xf 418 (by decide)).trans ef418
        have ef14 := (xf 14 (by decide)).trans ef14
        have ef15 := (xf 15 (by decide)).trans ef15
        have ef16 := (xf 16 (by decide)).trans ef16
        have ef256 := (xf 256 (by decide)).trans ef256
        have ef64 := (xf 64 (by decide)).trans ef64
        have ef69 := (xf 69 (by decide)).trans ef69
        have ef71 := (xf 71 (by decide)).trans ef71
        have ef73 := (xf 73 (by decide)).trans ef73
        have ef77 := (xf 77 (by decide)).trans ef77
        have ef79 := (xf 79 (by decide)).trans ef79
        have ef224 := (xf 224 (by decide)).trans ef224
        have hfE := hfE.trans xf (by decide)
        have eg419 := (xg 419 (by decide)).trans eg419
        have eg420 := (xg 420 (by decide)).trans eg420
        have eg421 := (xg 421 (by decide)).trans eg421
        have eg422 := (xg 422 (by decide)).trans eg422
        have eg423 := (xg 423 (by decide)).trans eg423
        have eg424 := (xg 424 (by decide)).trans eg424
        have eg33 := (xg 33 (by decide)).trans eg33
        have eg34 := (xg 34 (by decide)).trans eg34
        have eg36 := (xg 36 (by decide)).trans eg36
        have eg46 := (xg 46 (by decide)).trans eg46
        have eg40 := (xg 40 (by decide)).trans eg40
        have eg42 := (xg 42 (by decide)).trans eg42
        have eg43 := (xg 43 (by decide)).trans eg43
        have eg35 := (xg 35 (by decide)).trans eg35
        have eg38 := (xg 38 (by decide)).trans eg38
        have eg44 := (xg 44 (by decide)).trans eg44
        have eg10 := (xg 10 (by decide)).trans eg10
        have eg11 := (xg 11 (by decide)).trans eg11
        have eg65 := (xg 65 (by decide)).trans eg65
        have eg66 := (xg 66 (by decide)).trans eg66
        have eg67 := (xg 67 (by decide)).trans eg67
        have eg68 := (xg 68 (by decide)).trans eg68
        have eg70 := (xg 70 (by decide)).trans eg70
        have eg72 := (xg 72 (by decide)).trans eg72
        have eg74 := (xg 74 (by decide)).trans eg74
        have eg75 := (xg 75 (by decide)).trans eg75
        have eg76 := (xg 76 (by decide)).trans eg76
        have eg78 := (xg 78 (by decide)).trans eg78
        have eg225 := (xg 225 (by decide)).trans eg225
        have eg226 := (xg 226 (by decide)).trans eg226
        have eg227 := (xg 227 (by decide)).trans eg227
        have hgE := hgE.trans xg (by decide)
        have qL := q162
        obtain ⟨ef192, eg193, eg194, eg195⟩ := qL
        refine z_ald_0 (TX7_orders_2.at 5 rfl) ?_
        refine z_bipush (by decide) (TX7_orders_2.at 6 rfl) ?_
        refine zc_callI1 (m := 0) (c_refused eg11 ef16 (by omega) (by omega) (by omega) hb) (hH.lv (by decide)) (TX7_orders_2.at 7 rfl) c7_92 rfl rfl hH hA (by omega) (Nat.le_of_ble_eq_true rfl) (fun x168 f168 g168 j168 h r168 q168 hH hA => ?_)
        obtain ⟨q168, xf, xg, xj⟩ := q168
        rw [xj] at hH
        have ef32 := (xf 32 (by decide)).trans ef32
        have ef39 := (xf 39 (by decide)).trans ef39
        have ef41 := (xf 41 (by decide)).trans ef41
        have ef45 := (xf 45 (by decide)).trans ef45
        have ef47 := (xf 47 (by decide)).trans ef47
        have ef37 := (xf 37 (by decide)).trans ef37
        have ef192 := (xf 192 (by decide)).trans ef192
        have ef416 := (xf 416 (by decide)).trans ef416
        have ef417 := (xf 417 (by decide)).trans ef417
        have ef418 := (xf 418 (by decide)).trans ef418
        have ef14 := (xf 14 (by decide)).trans ef14
        have ef15 := (xf 15 (by decide)).trans ef15
        have ef256 := (xf 256 (by decide)).trans ef256
        have ef64 := (xf 64 (by decide)).trans ef64
        have ef69 := (xf 69 (by decide)).trans ef69
        have ef71 := (xf 71 (by decide)).trans ef71
        have ef73 := (xf 73 (by decide)).trans ef73
        have ef77 := (xf 77 (by decide)).trans ef77
        have ef79 := (xf 79 (by decide)).trans ef79
        have ef224 := (xf 224 (by decide)).trans ef224
        have hfE := hfE.trans xf (by decide)
        have eg419 := (xg 419 (by decide)).trans eg419
        have eg420 := (xg 420 (by decide)).trans eg420
        have eg421 := (xg 421 (by decide)).trans eg421
        have eg422 := (xg 422 (by decide)).trans eg422
        have eg423 := (xg 423 (by decide)).trans eg423
        have eg424 := (xg 424 (by decide)).trans eg424
        have eg33 := (xg 33 (by decide)).trans eg33
        have eg34 := (xg 34 (by decide)).trans eg34
        have eg36 := (xg 36 (by decide)).trans eg36
        have eg46 := (xg 46 (by decide)).trans eg46
        have eg40 := (xg 40 (by decide)).trans eg40
        have eg42 := (xg 42 (by decide)).trans eg42
        have eg43 := (xg 43 (by decide)).trans eg43
        have eg35 := (xg 35 (by decide)).trans eg35
        have eg38 := (xg 38 (by decide)).trans eg38
        have eg44 := (xg 44 (by decide)).trans eg44
        have eg193 := (xg 193 (by decide)).trans eg193
        have eg194 := (xg 194 (by decide)).trans eg194
        have eg195 := (xg 195 (by decide)).trans eg195
        have eg10 := (xg 10 (by decide)).trans eg10
        have eg65 := (xg 65 (by decide)).trans eg65
        have eg66 := (xg 66 (by decide)).trans eg66
        have eg67 := (xg 67 (by decide)).trans eg67
        have eg68 := (xg 68 (by decide)).trans eg68
        have eg70 := (xg 70 (by decide)).trans eg70
        have eg72 := (xg 72 (by decide)).trans eg72
        have eg74 := (xg 74 (by decide)).trans eg74
        have eg75 := (xg 75 (by decide)).trans eg75
        have eg76 := (xg 76 (by decide)).trans eg76
        have eg78 := (xg 78 (by decide)).trans eg78
        have eg225 := (xg 225 (by decide)).trans eg225
        have eg226 := (xg 226 (by decide)).trans eg226
        have eg227 := (xg 227 (by decide)).trans eg227
        have hgE := hgE.trans xg (by decide)
        have qL := q168
        have ef16 := qL.2.1
        have eg11 := qL.2.2
        have qe := qL.1.symm
        subst qe
        refine zc_iret (TX7_orders_2.at 8 rfl) rfl hH hA (by omega) ?_
        exact ⟨⟨ef256, by rw [eg46]; exact cpy_own (fun q q0 q1 => by rw [hY14]; exact cpy_at q0 q1), Or.inr ⟨l0, hx, ef14, by rw [eg78, hY14], Or.inr ⟨c, eL2, rfl, ef16, eg11, by rw [ef15]; exact ci, by rw [ef32, ef37, ef39, ef41, ef45, ef47, eg33, eg34, eg35, eg36, eg38, eg40, eg42, eg43, eg44]; exact hFs.cp, hG0.cg h0K (fun q q0 q1 => by rw [eg193, eg194, eg195, cpy_at q0 q1, cpy_at q0 q1, cpy_at q0 q1]; exact hE0 q q0 q1) (fun _ _ _ => rfl) (fun _ _ _ => rfl) rfl, ef192⟩⟩⟩, hfE, hgE, rfl⟩

set_option maxHeartbeats 4000000 in
set_option maxRecDepth 100000 in
theorem c_orders {l : Launch} {E : cE} {f : mF} {g j : mA} {U : Int → Int} {Fr : Int → Int} {To : Int → Int} {Kd : Int → Int} {Lw : Int → Int} {Lt : Int → Int} {Sk : Int → Int} {Ss : Int → Int} {Ln : Int → Int} {Mt : Int → Int} {Tm : Int → Int} {D0 : Int → Int} {P0 : Int → Int} {Q0 : Int → Int} {Rf : Int → Int} {S14 : Int → Int} {z : Int} {x7 : Int} {x8 : Int} {dp : Int} {u0 : Int} {st : Int} {K0 X0 : Int → Int} {cl : List Cla} (eg257 : g 257 = U) (eg33 : g 33 = Fr) (eg34 : g 34 = To) (eg36 : g 36 = Kd) (eg46 : g 46 = Lw) (eg40 : g 40 = Lt) (eg42 : g 42 = Sk) (eg43 : g 43 = Ss) (eg35 : g 35 = Ln) (eg38 : g 38 = Mt) (eg44 : g 44 = Tm) (eg193 : g 193 = D0) (eg194 : g 194 = P0) (eg195 : g 195 = Q0) (eg11 : g 11 = Rf) (eg78 : g 78 = S14) (ef256 : f 256 = z) (ef32 : f 32 = (K0 76)) (ef39 : f 39 = x7) (ef41 : f 41 = x8) (ef45 : f 45 = (K0 79)) (ef47 : f 47 = (K0 80)) (ef37 : f 37 = dp) (ef192 : f 192 = u0) (ef16 : f 16 = st) (z0 : 0 ≤ z) (z4 : z ≤ 400) (hU : ∀ i : Int, 0 ≤ i → i < 400 → 0 ≤ U i ∧ U i ≤ 255) (hb : ∀ i, Rf i ≤ 100000) (hL : LwN E f g (if 0 ≤ K0 80 ∧ K0 80 < K0 79 then Lw (K0 80) else -1) cl) (hF : FrV K0 (K0 76) x7 x8 (K0 79) (K0 80) Fr To Ln Kd dp Mt Lt Sk Ss Tm) (hG : LogK D0 P0 Q0 u0 X0 K0) (hOK : ∀ q : Int, 0 ≤ q → q < 6 → okR E 4 (Lw q)) : CM l E MX7_orders 60 [.ref (E.1 31)] f g j (PI (fun r f' g' j' => (f' 256 = 0 ∧ g' 46 = Lw ∧ ((∃ e, txtS false U z = .error e ∧ r = -6 ∧ f' 16 = -6 ∧ g' 11 = bumC Rf (-6) ∧ f' 14 = pT U z e ∧ f' 15 = -1 ∧ g' 78 = S14 ∧ FLK K0 X0 u0 f' g') ∨ (∃ l, txtS false U z = .ok l ∧ f' 14 = -1 ∧ g' 78 = cpy (S14) Lw 0 0 6 ∧ ((∃ w, ordL cl l 0 (K0, X0, u0, 0, -1) = .ok w ∧ r = w.2.2.2.1 ∧ f' 16 = 0 ∧ g' 11 = Rf ∧ f' 15 = -1 ∧ OSok K0 1000 w ∧ FLK w.1 w.2.1 w.2.2.1 f' g') ∨ (∃ i : Nat, ordL cl l 0 (K0, X0, u0, 0, -1) = .error i ∧ r = -3 ∧ f' 16 = -3 ∧ g' 11 = bumC Rf (-3) ∧ f' 15 = (i : Int) ∧ FLK K0 X0 u0 f' g'))))) ∧ eqx [14, 15, 16, 256, 289, 293, 294, 295, 296, 416, 417, 418, 64, 69, 71, 73, 77, 79, 224, 32, 37, 39, 41, 45, 47, 192, 354] f f' ∧ eqx [11, 10, 290, 291, 292, 419, 420, 421, 422, 423, 424, 65, 66, 67, 68, 70, 72, 74, 75, 76, 78, 225, 226, 227, 33, 34, 35, 36, 38, 40, 42, 43, 44, 46, 193, 194, 195, 320, 352, 353, 355, 356, 384] g g' ∧ j' = j)) := by
  refine CM.intro [some (.ref (E.1 31)), none, none] (by decide) (Nat.le_of_ble_eq_true rfl) rfl (fun d hd h0 h hH hA => ?_)
  have hfE : eqx [14, 15, 16, 256, 289, 293, 294, 295, 296, 416, 417, 418, 64, 69, 71, 73, 77, 79, 224, 32, 37, 39, 41, 45, 47, 192, 354] f f := eqx.rf
  have hgE : eqx [11, 10, 290, 291, 292, 419, 420, 421, 422, 423, 424, 65, 66, 67, 68, 70, 72, 74, 75, 76, 78, 225, 226, 227, 33, 34, 35, 36, 38, 40, 42, 43, 44, 46, 193, 194, 195, 320, 352, 353, 355, 356, 384] g g := eqx.rf
  have eS78 := eg78
  refine z_ald_0 (TX7_orders_0.at 0 rfl) ?_
  refine zc_getO (m := 0) (s := 7) (k := 319) (hH.lv (by decide)) (TX7_orders_0.at 1 rfl) fl7_46 hH rfl rfl (by decide) (by decide) ?_
  refine z_ald_0 (TX7_orders_0.at 2 rfl) ?_
  refine zc_getO (m := 0) (s := 6) (k := 287) (hH.lv (by decide)) (TX7_orders_0.at 3 rfl) fl7_39 hH rfl rfl (by decide) (by decide) ?_
  refine z_iconst (TX7_orders_0.at 4 rfl) ?_
  refine zc_callV2 (m := 9) (c_read_false eg257 ef256 rfl rfl rfl rfl rfl rfl rfl z0 z4 hU) (hH.lv (by decide)) (TX7_orders_0.at 5 rfl) c7_196 rfl rfl hH hA (by omega) (Nat.le_of_ble_eq_true rfl) (fun f9 g9 j9 h q9 hH hA => ?_)
  obtain ⟨q9, xf, xg, xj⟩ := q9
  rw [xj] at hH
  have ef256 := (xf 256 (by decide)).trans ef256
  have ef32 := (xf 32 (by decide)).trans ef32
  have ef39 := (xf 39 (by decide)).trans ef39
  have ef41 := (xf 41 (by decide)).trans ef41
  have ef45 := (xf 45 (by decide)).trans ef45
  have ef47 := (xf 47 (by decide)).trans ef47
  have ef37 := (xf 37 (by decide)).trans ef37
  have ef192 := (xf 192 (by decide)).trans ef192
  have ef16 := (xf 16 (by decide)).trans ef16
  have hfE := hfE.trans xf (by decide)
  have eg257 := (xg 257 (by decide)).trans eg257
  have eg33 := (xg 33 (by decide)).trans eg33
  have eg34 := (xg 34 (by decide)).trans eg34
  have eg36 := (xg 36 (by decide)).trans eg36
  have eg46 := (xg 46 (by decide)).trans eg46
  have eg40 := (xg 40 (by decide)).trans eg40
  have eg42 := (xg 42 (by decide)).trans eg42
  have eg43 := (xg 43 (by decide)).trans eg43
  have eg35 := (xg 35 (by decide)).trans eg35
  have eg38 := (xg 38 (by decide)).trans eg38
  have eg44 := (xg 44 (by decide)).trans eg44
  have eg193 := (xg 193 (by decide)).trans eg193
  have eg194 := (xg 194 (by decide)).trans eg194
  have eg195 := (xg 195 (by decide)).trans eg195
  have eg11 := (xg 11 (by decide)).trans eg11
  have eg78 := (xg 78 (by decide)).trans eg78
  have hgE := hgE.trans xg (by decide)
  have qL := q9
  have hrd : RdO (txtS false U z) U z (f9 289) (f9 416) (f9 417) (f9 418) (g9 419) (g9 420) (g9 421) (g9 422) (g9 423) (g9 424) := qL
  obtain ⟨y, ef289⟩ : ∃ z, f9 289 = z := ⟨_, rfl⟩
  obtain ⟨nc, ef416⟩ : ∃ z, f9 416 = z := ⟨_, rfl⟩
  obtain ⟨N, ef417⟩ : ∃ z, f9 417 = z := ⟨_, rfl⟩
  obtain ⟨ag, ef418⟩ : ∃ z, f9 418 = z := ⟨_, rfl⟩
  obtain ⟨Vb, eg419⟩ : ∃ z, g9 419 = z := ⟨_, rfl⟩
  obtain ⟨Tms, eg420⟩ : ∃ z, g9 420 = z := ⟨_, rfl⟩
  obtain ⟨On, eg421⟩ : ∃ z, g9 421 = z := ⟨_, rfl⟩
  obtain ⟨Ot, eg422⟩ : ∃ z, g9 422 = z := ⟨_, rfl⟩
  obtain ⟨Te, eg423⟩ : ∃ z, g9 423 = z := ⟨_, rfl⟩
  obtain ⟨C, eg424⟩ : ∃ z, g9 424 = z := ⟨_, rfl⟩
  rw [ef289, ef416, ef417, ef418, eg419, eg420, eg421, eg422, eg423, eg424] at hrd
  clear qL q9
  obtain ⟨x14, ef14⟩ : ∃ z, f9 14 = z := ⟨_, rfl⟩
  obtain ⟨x15, ef15⟩ : ∃ z, f9 15 = z := ⟨_, rfl⟩
  obtain ⟨Φ, eg10⟩ : ∃ z, g9 10 = z := ⟨_, rfl⟩
  refine z_ald_0 (TX7_orders_0.at 6 rfl) ?_
  refine z_ald_0 (TX7_orders_0.at 7 rfl) ?_
  refine zc_getO (m := 0) (s := 7) (k := 319) (hH.lv (by decide)) (TX7_orders_0.at 8 rfl) fl7_46 hH rfl rfl (by decide) (by decide) ?_
  refine zc_getIE (m := 9) (s := 1) (k := 289) (hH.lv (by decide)) ef289 (TX7_orders_0.at 9 rfl) fl7_200 hH rfl rfl (by decide) (by decide) (fun r17 => ?_)
  refine zc_putI (m := 0) (s := 14) (k := 14) (hH.lv (by decide)) (TX7_orders_0.at 10 rfl) fp7_79 hH hA rfl rfl (by decide) (by decide) (by first | omega | exact b2i_01 _) (fun h f20 e1 e2 hH hA => ?_)
  have ef256 := (e1 256 (by decide)).trans ef256
  have ef32 := (e1 32 (by decide)).trans ef32
  have ef39 := (e1 39 (by decide)).trans ef39
  have ef41 := (e1 41 (by decide)).trans ef41
  have ef45 := (e1 45 (by decide)).trans ef45
  have ef47 := (e1 47 (by decide)).trans ef47
  have ef37 := (e1 37 (by decide)).trans ef37
  have ef192 := (e1 192 (by decide)).trans ef192
  have ef16 := (e1 16 (by decide)).trans ef16
  have ef289 := (e1 289 (by decide)).trans ef289
  have ef416 := (e1 416 (by decide)).trans ef416
  have ef417 := (e1 417 (by decide)).trans ef417
  have ef418 := (e1 418 (by decide)).trans ef418
  have ef14 := e2
  have ef15 := (e1 15 (by decide)).trans ef15
  have hfE := hfE.put e1 (by decide)
  refine z_ald_0 (TX7_orders_0.at 11 rfl) ?_
  refine zc_getO (m := 0) (s := 6) (k := 287) (hH.lv (by decide)) (TX7_orders_0.at 12 rfl) fl7_39 hH rfl rfl (by decide) (by decide) ?_
  refine z_iconst (TX7_orders_0.at 13 rfl) ?_
  refine zc_putI (m := 8) (s := 0) (k := 256) (hH.lv (by decide)) (TX7_orders_0.at 14 rfl) fp7_181 hH hA rfl rfl (by decide) (by decide) (by first | omega | exact b2i_01 _) (fun h f28 e1 e2 hH hA => ?_)
  have ef256 := e2
  have ef32 := (e1 32 (by decide)).trans ef32
  have ef39 := (e1 39 (by decide)).trans ef39
  have ef41 := (e1 41 (by decide)).trans ef41
  have ef45 := (e1 45 (by decide)).trans ef45
  have ef47 := (e1 47 (by decide)).trans ef47
  have ef37 := (e1 37 (by decide)).trans ef37
  have ef192 := (e1 192 (by decide)).trans ef192
  have ef16 := (e1 16 (by decide)).trans ef16
  have ef289 := (e1 289 (by decide)).trans ef289
  have ef416 := (e1 416 (by decide)).trans ef416
  have ef417 := (e1 417 (by decide)).trans ef417
  have ef418 := (e1 418 (by decide)).trans ef418
  have ef14 := (e1 14 (by decide)).trans ef14
  have ef15 := (e1 15 (by decide)).trans ef15
  have hfE := hfE.put e1 (by decide)
  refine z_ald_0 (TX7_orders_0.at 15 rfl) ?_
  refine z_iconst (TX7_orders_0.at 16 rfl) ?_
  refine zc_putI (m := 0) (s := 15) (k := 15) (hH.lv (by decide)) (TX7_orders_0.at 17 rfl) fp7_82 hH hA rfl rfl (by decide) (by decide) (by first | omega | exact b2i_01 _) (fun h f33 e1 e2 hH hA => ?_)
  have ef256 := (e1 256 (by decide)).trans ef256
  have ef32 := (e1 32 (by decide)).trans ef32
  have ef39 := (e1 39 (by decide)).trans ef39
  have ef41 := (e1 41 (by decide)).trans ef41
  have ef45 := (e1 45 (by decide)).trans ef45
  have ef47 := (e1 47 (by decide)).trans ef47
  have ef37 := (e1 37 (by decide)).trans ef37
  have ef192 := (e1 192 (by decide)).trans ef192
  have ef16 := (e1 16 (by decide)).trans ef16
  have ef289 := (e1 289 (by decide)).trans ef289
  have ef416 := (e1 416 (by decide)).trans ef416
  have ef417 := (e1 417 (by decide)).trans ef417
  have ef418 := (e1 418 (by decide)).trans ef418
  have ef14 := (e1 14 (by decide)).trans ef14
  have ef15 := e2
  have hfE := hfE.put e1 (by decide)
  refine z_ald_0 (TX7_orders_0.at 18 rfl) ?_
  refine zc_getIE (m := 0) (s := 14) (k := 14) (hH.lv (by decide)) ef14 (TX7_orders_0.at 19 rfl) fl7_79 hH rfl rfl (by decide) (by decide) (fun r37 => ?_)
  refine z_iconst (TX7_orders_0.at 20 rfl) ?_
  refine z_icmp_eq (tgt := 51) (TX7_orders_0.at 21 rfl) rfl (by omega) (by omega) (fun c1 => ?_) (fun c1 => ?_)
  · skip
    obtain ⟨l0, hx, hnc, hN4, hag, hR⟩ := hrd.ok (by omega)
    have hy : y = -1 := by omega
    subst hy
    have nc12 : nc ≤ 12 := by have : l0.length ≤ 12 := ptext_len _ _ _ _ hx; omega
    refine z_ald_0 (TX7_orders_0.at 26 rfl) ?_
    refine zc_getO (m := 0) (s := 1) (k := 95) (hH.lv (by decide)) (TX7_orders_0.at 27 rfl) fl7_16 hH rfl rfl (by decide) (by decide) ?_
    refine z_ald_0 (TX7_orders_0.at 28 rfl) ?_
    refine zc_getO (m := 0) (s := 0) (k := 63) (hH.lv (by decide)) (TX7_orders_0.at 29 rfl) fl7_12 hH rfl rfl (by decide) (by decide) ?_
    refine zc_callV1 (m := 2) (c_bec2_1 rfl eg33 rfl eg34 rfl eg35 rfl eg36 rfl eg38 rfl eg40 rfl eg42 rfl eg43 rfl eg44 eg78 eg46 ef32 ef37 ef39 ef41 ef45 ef47 hOK) (hH.lv (by decide)) (TX7_orders_0.at 30 rfl) c7_214 rfl rfl hH hA (by omega) (Nat.le_of_ble_eq_true rfl) (fun f59 g59 j59 h q59 hH hA => ?_)
    obtain ⟨q59, xf, xg, xj⟩ := q59
    rw [xj] at hH
    have ef256 := (xf 256 (by decide)).trans ef256
    have ef32 := (xf 32 (by decide)).trans ef32
    have ef39 := (xf 39 (by decide)).trans ef39
    have ef41 := (xf 41 (by decide)).trans ef41
    have ef45 := (xf 45 (by decide)).trans ef45
    have ef47 := (xf 47 (by decide)).trans ef47
    have ef37 := (xf 37 (by decide)).trans ef37
    have ef192 := (xf 192 (by decide)).trans ef192
    have ef16 := (xf 16 (by decide)).trans ef16
    have ef289 := (xf 289 (by decide)).trans ef289
    have ef416 := (xf 416 (by decide)).trans ef416
    have ef417 := (xf 417 (by decide)).trans ef417
    have ef418 := (xf 418 (by decide)).trans ef418
    have ef14 := (xf 14 (by decide)).trans ef14
    have ef15 := (xf 15 (by decide)).trans ef15
    have hfE := hfE.trans xf (by decide)
    have eg257 := (xg 257 (by decide)).trans eg257
    have eg33 := (xg 33 (by decide)).trans eg33
    have eg34 := (xg 34 (by decide)).trans eg34
    have eg36 := (xg 36 (by decide)).trans eg36
    have eg46 := (xg 46 (by decide)).trans eg46
    have eg40 := (xg 40 (by decide)).trans eg40
    have eg42 := (xg 42 (by decide)).trans eg42
    have eg43 := (xg 43 (by decide)).trans eg43
    have eg35 := (xg 35 (by decide)).trans eg35
    have eg38 := (xg 38 (by decide)).trans eg38
    have eg44 := (xg 44 (by decide)).trans eg44
    have eg193 := (xg 193 (by decide)).trans eg193
    have eg194 := (xg 194 (by decide)).trans eg194
    have eg195 := (xg 195 (by decide)).trans eg195
    have eg11 := (xg 11 (by decide)).trans eg11
    have eg419 := (xg 419 (by decide)).trans eg419
    have eg420 := (xg 420 (by decide)).trans eg420
    have eg421 := (xg 421 (by decide)).trans eg421
    have eg422 := (xg 422 (by decide)).trans eg422
    have eg423 := (xg 423 (by decide)).trans eg423
    have eg424 := (xg 424 (by decide)).trans eg424
    have eg10 := (xg 10 (by decide)).trans eg10
    have hgE := hgE.trans xg (by decide)
    have qL := q59
    obtain ⟨ef64, ef69, ef71, ef73, ef77, ef79, eg65, eg66, eg67, eg68, eg70, eg72, eg74, eg75, eg76, eg78⟩ := qL
    refine z_ald_0 (TX7_orders_0.at 31 rfl) ?_
    refine zc_getO (m := 0) (s := 5) (k := 255) (hH.lv (by decide)) (TX7_orders_0.at 32 rfl) fl7_33 hH rfl rfl (by decide) (by decide) ?_
    refine z_ald_0 (TX7_orders_0.at 33 rfl) ?_
    refine zc_getO (m := 0) (s := 4) (k := 223) (hH.lv (by decide)) (TX7_orders_0.at 34 rfl) fl7_29 hH rfl rfl (by decide) (by decide) ?_
    refine zc_callV1 (m := 7) (c_logb7 rfl rfl rfl eg193 eg194 eg195 ef192) (hH.lv (by decide)) (TX7_orders_0.at 35 rfl) c7_217 rfl rfl hH hA (by omega) (Nat.le_of_ble_eq_true rfl) (fun f70 g70 j70 h q70 hH hA => ?_)
    obtain ⟨q70, xf, xg, xj⟩ := q70
    rw [xj] at hH
    have ef256 := (xf 256 (by decide)).trans ef256
    have ef32 := (xf 32 (by decide)).trans ef32
    have ef39 := (xf 39 (by decide)).trans ef39
    have ef41 := (xf 41 (by decide)).trans ef41
    have ef45 := (xf 45 (by decide)).trans ef45
    have ef47 := (xf 47 (by decide)).trans ef47
    have ef37 := (xf 37 (by decide)).trans ef37
    have ef192 := (xf 192 (by decide)).trans ef192
    have ef16 := (xf 16 (by decide)).trans ef16
    have ef289 := (xf 289 (by decide)).trans ef289
    have ef416 := (xf 416 (by decide)).trans ef416
    have ef417 := (xf 417 (by decide)).trans ef417
    have ef418 := (xf 418 (by decide)).trans ef418
    have ef14 := (xf 14 (by decide)).trans ef14
    have ef15 := (xf 15 (by decide)).trans ef15
    have ef64 := (xf 64 (by decide)).trans ef64
    have ef69 := (xf 69 (by decide)).trans ef69
    have ef71 := (xf 71 (by decide)).trans ef71
    have ef73 := (xf 73 (by decide)).trans ef73
    have ef77 := (xf 77 (by decide)).trans ef77
    have ef79 := (xf 79 (by decide)).trans ef79
    have hfE := hfE.trans xf (by decide)
    have eg257 := (xg 257 (by decide)).trans eg257
    have eg33 := (xg 33 (by decide)).trans eg33
    have eg34 := (xg 34 (by decide)).trans eg34
    have eg36 := (xg 36 (by decide)).trans eg36
    have eg46 := (xg 46 (by decide)).trans eg46
    have eg40 := (xg 40 (by decide)).trans eg40
    have eg42 := (xg 42 (by decide)).trans eg42
    have eg43 := (xg 43 (by decide)).trans eg43
    have eg35 := (xg 35 (by decide)).trans eg35
    have eg38 := (xg 38 (by decide)).trans eg38
    have eg44 := (xg 44 (by decide)).trans eg44
    have eg193 := (xg 193 (by decide)).trans eg193
    have eg194 := (xg 194 (by decide)).trans eg194
    have eg195 := (xg 195 (by decide)).trans eg195
    have eg11 := (xg 11 (by decide)).trans eg11
    have eg78 := (xg 78 (by decide)).trans eg78
    have eg419 := (xg 419 (by decide)).trans eg419
    have eg420 := (xg 420 (by decide)).trans eg420
    have eg421 := (xg 421 (by decide)).trans eg421
    have eg422 := (xg 422 (by decide)).trans eg422
    have eg423 := (xg 423 (by decide)).trans eg423
    have eg424 := (xg 424 (by decide)).trans eg424
    have eg10 := (xg 10 (by decide)).trans eg10
    have eg65 := (xg 65 (by decide)).trans eg65
    have eg66 := (xg 66 (by decide)).trans eg66
    have eg67 := (xg 67 (by decide)).trans eg67
    have eg68 := (xg 68 (by decide)).trans eg68
    have eg70 := (xg 70 (by decide)).trans eg70
    have eg72 := (xg 72 (by decide)).trans eg72
    have eg74 := (xg 74 (by decide)).trans eg74
    have eg75 := (xg 75 (by decide)).trans eg75
    have eg76 := (xg 76 (by decide)).trans eg76
    have hgE := hgE.trans xg (by decide)
    have qL := q70
    obtain ⟨ef224, eg225, eg226, eg227⟩ := qL
    refine z_ald_0 (TX7_orders_0.at 36 rfl) ?_
    refine zc_getO (m := 0) (s := 7) (k := 319) (hH.lv (by decide)) (TX7_orders_0.at 37 rfl) fl7_46 hH rfl rfl (by decide) (by decide) ?_
    refine zc_getO (m := 9) (s := 0) (k := 447) (hH.lv (by decide)) (TX7_orders_0.at 38 rfl) fl7_205 hH rfl rfl (by decide) (by decide) ?_
    refine z_ast_1 (TX7_orders_0.at 39 rfl) (Nat.le_of_ble_eq_true rfl) rfl ?_
    refine z_ald_0 (TX7_orders_1.at 0 rfl) ?_
    refine zc_getA (m := 0) (s := 10) (k := 10) (hH.lv (by decide)) (TX7_orders_1.at 1 rfl) fl7_64 hH rfl rfl (by decide) (by decide) ?_
    refine z_bipush (by decide) (TX7_orders_1.at 2 rfl) ?_
    refine z_iconst (TX7_orders_1.at 3 rfl) ?_
    refine zcf_iast (k := 10) (N := 31) (hH.lv (by decide)) (by decide) rfl (TX7_orders_1.at 4 rfl) hH hA (by decide) (by omega) (show _ < ((31 : Nat) : Int) by omega) (by omega) (fun h g88 e1 e2 hH hA => ?_)
    have eg257 := (e1 257 (by decide)).trans eg257
    have eg33 := (e1 33 (by decide)).trans eg33
    have eg34 := (e1 34 (by decide)).trans eg34
    have eg36 := (e1 36 (by decide)).trans eg36
    have eg46 := (e1 46 (by decide)).trans eg46
    have eg40 := (e1 40 (by decide)).trans eg40
    have eg42 := (e1 42 (by decide)).trans eg42
    have eg43 := (e1 43 (by decide)).trans eg43
    have eg35 := (e1 35 (by decide)).trans eg35
    have eg38 := (e1 38 (by decide)).trans eg38
    have eg44 := (e1 44 (by decide)).trans eg44
    have eg193 := (e1 193 (by decide)).trans eg193
    have eg194 := (e1 194 (by decide)).trans eg194
    have eg195 := (e1 195 (by decide)).trans eg195
    have eg11 := (e1 11 (by decide)).trans eg11
    have eg78 := (e1 78 (by decide)).trans eg78
    have eg419 := (e1 419 (by decide)).trans eg419
    have eg420 := (e1 420 (by decide)).trans eg420
    have eg421 := (e1 421 (by decide)).trans eg421
    have eg422 := (e1 422 (by decide)).trans eg422
    have eg423 := (e1 423 (by decide)).trans eg423
    have eg424 := (e1 424 (by decide)).trans eg424
    rw [eg10] at e2; have eg10 := e2
    have eg65 := (e1 65 (by decide)).trans eg65
    have eg66 := (e1 66 (by decide)).trans eg66
    have eg67 := (e1 67 (by decide)).trans eg67
    have eg68 := (e1 68 (by decide)).trans eg68
    have eg70 := (e1 70 (by decide)).trans eg70
    have eg72 := (e1 72 (by decide)).trans eg72
    have eg74 := (e1 74 (by decide)).trans eg74
    have eg75 := (e1 75 (by decide)).trans eg75
    have eg76 := (e1 76 (by decide)).trans eg76
    have eg225 := (e1 225 (by decide)).trans eg225
    have eg226 := (e1 226 (by decide)).trans eg226
    have eg227 := (e1 227 (by decide)).trans eg227
    have hgE := hgE.put e1 (by decide)
    refine z_ald_0 (TX7_orders_1.at 5 rfl) ?_
    refine zc_getA (m := 0) (s := 10) (k := 10) (hH.lv (by decide)) (TX7_orders_1.at 6 rfl) fl7_64 hH rfl rfl (by decide) (by decide) ?_
    refine z_bipush (by decide) (TX7_orders_1.at 7 rfl) ?_
    refine z_iconst (TX7_orders_1.at 8 rfl) ?_
    refine zcf_iast (k := 10) (N := 31) (hH.lv (by decide)) (by decide) rfl (TX7_orders_1.at 9 rfl) hH hA (by decide) (by omega) (show _ < ((31 : Nat) : Int) by omega) (by omega) (fun h g96 e1 e2 hH hA => ?_)
    have eg257 := (e1 257 (by decide)).trans eg257
    have eg33 := (e1 33 (by decide)).trans eg33
    have eg34 := (e1 34 (by decide)).trans eg34
    have eg36 := (e1 36 (by decide)).trans eg36
    have eg46 := (e1 46 (by decide)).trans eg46
    have eg40 := (e1 40 (by decide)).trans eg40
    have eg42 := (e1 42 (by decide)).trans eg42
    have eg43 := (e1 43 (by decide)).trans eg43
    have eg35 := (e1 35 (by decide)).trans eg35
    have eg38 := (e1 38 (by decide)).trans eg38
    have eg44 := (e1 44 (by decide)).trans eg44
    have eg193 := (e1 193 (by decide)).trans eg193
    have eg194 := (e1 194 (by decide)).trans eg194
    have eg195 := (e1 195 (by decide)).trans eg195
    have eg11 := (e1 11 (by decide)).trans eg11
    have eg78 := (e1 78 (by decide)).trans eg78
    have eg419 := (e1 419 (by decide)).trans eg419
    have eg420 := (e1 420 (by decide)).trans eg420
    have eg421 := (e1 421 (by decide)).trans eg421
    have eg422 := (e1 422 (by decide)).trans eg422
    have eg423 := (e1 423 (by decide)).trans eg423
    have eg424 := (e1 424 (by decide)).trans eg424
    rw [eg10] at e2; have eg10 := e2
    have eg65 := (e1 65 (by decide)).trans eg65
    have eg66 := (e1 66 (by decide)).trans eg66
    have eg67 := (e1 67 (by decide)).trans eg67
    have eg68 := (e1 68 (by decide)).trans eg68
    have eg70 := (e1 70 (by decide)).trans eg70
    have eg72 := (e1 72 (by decide)).trans eg72
    have eg74 := (e1 74 (by decide)).trans eg74
    have eg75 := (e1 75 (by decide)).trans eg75
    have eg76 := (e1 76 (by decide)).trans eg76
    have eg225 := (e1 225 (by decide)).trans eg225
    have eg226 := (e1 226 (by decide)).trans eg226
    have eg227 := (e1 227 (by decide)).trans eg227
    have hgE := hgE.put e1 (by decide)
    refine z_ald_1 (TX7_orders_1.at 10 rfl) ?_
    refine zc_getIE (m := 13) (s := 2) (k := 418) (hH.lv (by decide)) ef418 (TX7_orders_1.at 11 rfl) fl7_220 hH rfl rfl (by decide) (by decide) (fun r98 => ?_)
    refine z_if_eq (tgt := 119) (TX7_orders_1.at 12 rfl) rfl (by omega) (fun c2 => ?_) (fun c2 => ?_)
    · skip
      refine z_iconst (TX7_orders_1.at 21 rfl) ?_
      refine z_ist_2 (TX7_orders_1.at 22 rfl) (Nat.le_of_ble_eq_true rfl) rfl ?_
      subst eS78
      exact lp_cord (d := d) (cl := cl) (X0 := X0) (D0 := D0) (P0 := P0) (Q0 := Q0) (by omega) hx hnc nc12 hR (txtS_g z0 hx) (text_tm _ _ _ _ hx) hag hN4.2 hb hL hF.1 (hFs := hF.cp) hG (fun q q0 q1 => ⟨cpy_at q0 q1, cpy_at q0 q1, cpy_at q0 q1⟩) (fun q q0 q1 => by rw [cpy_at q0 q1]; exact hOK q q0 q1) rfl 14 0 0 l0 K0 X0 u0 0 (-1) _ _ _ _ _ _ _ _ _ _ _ (by omega) (by omega) (by omega) rfl ⟨hF.1, fun _ _ => rfl, hG.1, ⟨show (0 : Int) ≤ 0 by decide, show (0 : Int) ≤ 20 * 0 by decide⟩, show (-1 : Int) ≤ -1 by decide, show (-1 : Int) ≤ 10 by decide⟩ hF hG (⟨by rw [iu_ne (by decide), iu_self], fun z => absurd (z.symm.trans (show ag = 0 by omega)) (by decide)⟩) rfl eg419 eg420 eg421 eg422 eg423 eg424 eg33 eg34 eg36 eg46 eg40 eg42 eg43 eg35 eg38 eg44 eg193 eg194 eg195 eg10 eg11 eg65 eg66 eg67 eg68 eg70 eg72 eg74 eg75 eg76 eg78 eg225 eg226 eg227 ef32 ef39 ef41 ef45 ef47 ef37 ef192 ef416 ef417 ef418 ef14 ef15 ef16 ef256 ef64 ef69 ef71 ef73 ef77 ef79 ef224 hfE hgE hH hA
    · skip
      refine z_ald_0 (TX7_orders_1.at 13 rfl) ?_
      refine zc_getA (m := 0) (s := 10) (k := 10) (hH.lv (by decide)) (TX7_orders_1.at 14 rfl) fl7_64 hH rfl rfl (by decide) (by decide) ?_
      refine z_bipush (by decide) (TX7_orders_1.at 15 rfl) ?_
      refine z_ald_0 (TX7_orders_1.at 16 rfl) ?_
      refine z_ald_0 (TX7_orders_1.at 17 rfl) ?_
      refine zc_getO (m := 0) (s := 0) (k := 63) (hH.lv (by decide)) (TX7_orders_1.at 18 rfl) fl7_12 hH rfl rfl (by decide) (by decide) ?_
      refine zc_callI1 (m := 0) (c_goneIn1 (K := K0) (cl := cl) eg33 eg34 eg35 eg36 eg44 eg46 eg38 ef32 ef37 rfl ef45 ef47 (LwN_fr hL hfE hgE (by decide) (by decide)) hF.1 hF.2.2.1 ⟨hH.2.2.2.2.2.2.1.2, (hH.2.2.2.2.2.2.1.1 354).2⟩ hF.2.2.2.2.2.2.2.1 hF.2.2.2.2.2.2.2.2.2 hF.2.2.2.2.1) (hH.lv (by decide)) (TX7_orders_1.at 19 rfl) c7_224 rfl rfl hH hA (by omega) (Nat.le_of_ble_eq_true rfl) (fun x115 f115 g115 j115 h r115 q115 hH hA => ?_)
      obtain ⟨q115, xf, xg, xj⟩ := q115
      rw [xj] at hH
      have ef256 := (xf 256 (by decide)).trans ef256
      have ef32 := (xf 32 (by decide)).trans ef32
      have ef39 := (xf 39 (by decide)).trans ef39
      have ef41 := (xf 41 (by decide)).trans ef41
      have ef45 := (xf 45 (by decide)).trans ef45
      have ef47 := (xf 47 (by decide)).trans ef47
      have ef37 := (xf 37 (by decide)).trans ef37
      have ef192 := (xf 192 (by decide)).trans ef192
      have ef16 := (xf 16 (by decide)).trans ef16
      have ef289 := (xf 289 (by decide)).trans ef289
      have ef416 := (xf 416 (by decide)).trans ef416
      have ef417 := (xf 417 (by decide)).trans ef417
      have ef418 := (xf 418 (by decide)).trans ef418
      have ef14 := (xf 14 (by decide)).trans ef14
      have ef15 := (xf 15 (by decide)).trans ef15
      have ef64 := (xf 64 (by decide)).trans ef64
      have ef69 := (xf 69 (by decide)).trans ef69
      have ef71 := (xf 71 (by decide)).trans ef71
      have ef73 := (xf 73 (by decide)).trans ef73
      have ef77 := (xf 77 (by decide)).trans ef77
      have ef79 := (xf 79 (by decide)).trans ef79
      have ef224 := (xf 224 (by decide)).trans ef224
      have hfE := hfE.trans xf (by decide)
      have eg257 := (xg 257 (by decide)).trans eg257
      have eg33 := (xg 33 (by decide)).trans eg33
      have eg34 := (xg 34 (by decide)).trans eg34
      have eg36 := (xg 36 (by decide)).trans eg36
      have eg46 := (xg 46 (by decide)).trans eg46
      have eg40 := (xg 40 (by decide)).trans eg40
      have eg42 := (xg 42 (by decide)).trans eg42
      have eg43 := (xg 43 (by decide)).trans eg43
      have eg35 := (xg 35 (by decide)).trans eg35
      have eg38 := (xg 38 (by decide)).trans eg38
      have eg44 := (xg 44 (by decide)).trans eg44
      have eg193 := (xg 193 (by decide)).trans eg193
      have eg194 := (xg 194 (by decide)).trans eg194
      have eg195 := (xg 195 (by decide)).trans eg195
      have eg11 := (xg 11 (by decide)).trans eg11
      have eg78 := (xg 78 (by decide)).trans eg78
      have eg419 := (xg 419 (by decide)).trans eg419
      have eg420 := (xg 420 (by decide)).trans eg420
      have eg421 := (xg 421 (by decide)).trans eg421
      have eg422 := (xg 422 (by decide)).trans eg422
      have eg423 := (xg 423 (by decide)).trans eg423
      have eg424 := (xg 424 (by decide)).trans eg424
      have eg10 := (xg 10 (by decide)).trans eg10
      have eg65 := (xg 65 (by decide)).trans eg65
      have eg66 := (xg 66 (by decide)).trans eg66
      have eg67 := (xg 67 (by decide)).trans eg67
      have eg68 := (xg 68 (by decide)).trans eg68
      have eg70 := (xg 70 (by decide)).trans eg70
      have eg72 := (xg 72 (by decide)).trans eg72
      have eg74 := (xg 74 (by decide)).trans eg74
      have eg75 := (xg 75 (by decide)).trans eg75
      have eg76 := (xg 76 (by decide)).trans eg76
      have eg225 := (xg 225 (by decide)).trans eg225
      have eg226 := (xg 226 (by decide)).trans eg226
      have eg227 := (xg 227 (by decide)).trans eg227
      have hgE := hgE.trans xg (by decide)
      have qL := q115
      have hgo := qL
      subst hgo
      refine zcf_iast (k := 10) (N := 31) (hH.lv (by decide)) (by decide) rfl (TX7_orders_1.at 20 rfl) hH hA (by decide) (by omega) (show _ < ((31 : Nat) : Int) by omega) (by omega) (fun h g118 e1 e2 hH hA => ?_)
      have eg257 := (e1 257 (by decide)).trans eg257
      have eg33 := (e1 33 (by decide)).trans eg33
      have eg34 := (e1 34 (by decide)).trans eg34
      have eg36 := (e1 36 (by decide)).trans eg36
      have eg46 := (e1 46 (by decide)).trans eg46
      have eg40 := (e1 40 (by decide)).trans eg40
      have eg42 := (e1 42 (by decide)).trans eg42
      have eg43 := (e1 43 (by decide)).trans eg43
      have eg35 := (e1 35 (by decide)).trans eg35
      have eg38 := (e1 38 (by decide)).trans eg38
      have eg44 := (e1 44 (by decide)).trans eg44
      have eg193 := (e1 193 (by decide)).trans eg193
      have eg194 := (e1 194 (by decide)).trans eg194
      have eg195 := (e1 195 (by decide)).trans eg195
      have eg11 := (e1 11 (by decide)).trans eg11
      have eg78 := (e1 78 (by decide)).trans eg78
      have eg419 := (e1 419 (by decide)).trans eg419
      have eg420 := (e1 420 (by decide)).trans eg420
      have eg421 := (e1 421 (by decide)).trans eg421
      have eg422 := (e1 422 (by decide)).trans eg422
      have eg423 := (e1 423 (by decide)).trans eg423
      have eg424 := (e1 424 (by decide)).trans eg424
      rw [eg10] at e2; have eg10 := e2
      have eg65 := (e1 65 (by decide)).trans eg65
      have eg66 := (e1 66 (by decide)).trans eg66
      have eg67 := (e1 67 (by decide)).trans eg67
      have eg68 := (e1 68 (by decide)).trans eg68
      have eg70 := (e1 70 (by decide)).trans eg70
      have eg72 := (e1 72 (by decide)).trans eg72
      have eg74 := (e1 74 (by decide)).trans eg74
      have eg75 := (e1 75 (by decide)).trans eg75
      have eg76 := (e1 76 (by decide)).trans eg76
      have eg225 := (e1 225 (by decide)).trans eg225
      have eg226 := (e1 226 (by decide)).trans eg226
      have eg227 := (e1 227 (by decide)).trans eg227
      have hgE := hgE.put e1 (by decide)
      refine z_iconst (TX7_orders_1.at 21 rfl) ?_
      refine z_ist_2 (TX7_orders_1.at 22 rfl) (Nat.le_of_ble_eq_true rfl) rfl ?_
      subst eS78
      exact lp_cord (d := d) (cl := cl) (X0 := X0) (D0 := D0) (P0 := P0) (Q0 := Q0) (by omega) hx hnc nc12 hR (txtS_g z0 hx) (text_tm _ _ _ _ hx) hag hN4.2 hb hL hF.1 (hFs := hF.cp) hG (fun q q0 q1 => ⟨cpy_at q0 q1, cpy_at q0 q1, cpy_at q0 q1⟩) (fun q q0 q1 => by rw [cpy_at q0 q1]; exact hOK q q0 q1) rfl 14 0 0 l0 K0 X0 u0 0 (-1) _ _ _ _ _ _ _ _ _ _ _ (by omega) (by omega) (by omega) rfl ⟨hF.1, fun _ _ => rfl, hG.1, ⟨show (0 : Int) ≤ 0 by decide, show (0 : Int) ≤ 20 * 0 by decide⟩, show (-1 : Int) ≤ -1 by decide, show (-1 : Int) ≤ 10 by decide⟩ hF hG (⟨by rw [iu_ne (by decide), iu_ne (by decide), iu_self], fun _ => ⟨by rw [iu_ne (by decide), iu_self], by rw [iu_self]⟩⟩) rfl eg419 eg420 eg421 eg422 eg423 eg424 eg33 eg34 eg36 eg46 eg40 eg42 eg43 eg35 eg38 eg44 eg193 eg194 eg195 eg10 eg11 eg65 eg66 eg67 eg68 eg70 eg72 eg74 eg75 eg76 eg78 eg225 eg226 eg227 ef32 ef39 ef41 ef45 ef47 ef37 ef192 ef416 ef417 ef418 ef14 ef15 ef16 ef256 ef64 ef69 ef71 ef73 ef77 ef79 ef224 hfE hgE hH hA
  · skip
    obtain ⟨e, hx, hye⟩ := hrd.er (by omega)
    refine z_ald_0 (TX7_orders_0.at 22 rfl) ?_
    refine z_bipush (by decide) (TX7_orders_0.at 23 rfl) ?_
    refine zc_callI1 (m := 0) (c_refused eg11 ef16 (by omega) (by omega) (by omega) hb) (hH.lv (by decide)) (TX7_orders_0.at 24 rfl) c7_92 rfl rfl hH hA (by omega) (Nat.le_of_ble_eq_true rfl) (fun x47 f47 g47 j47 h r47 q47 hH hA => ?_)
    obtain ⟨q47, xf, xg, xj⟩ := q47
    rw [xj] at hH
    have ef256 := (xf 256 (by decide)).trans ef256
    have ef32 := (xf 32 (by decide)).trans ef32
    have ef39 := (xf 39 (by decide)).trans ef39
    have ef41 := (xf 41 (by decide)).trans ef41
    have ef45 := (xf 45 (by decide)).trans ef45
    have ef47 := (xf 47 (by decide)).trans ef47
    have ef37 := (xf 37 (by decide)).trans ef37
    have ef192 := (xf 192 (by decide)).trans ef192
    have ef289 := (xf 289 (by decide)).trans ef289
    have ef416 := (xf 416 (by decide)).trans ef416
    have ef417 := (xf 417 (by decide)).trans ef417
    have ef418 := (xf 418 (by decide)).trans ef418
    have ef14 := (xf 14 (by decide)).trans ef14
    have ef15 := (xf 15 (by decide)).trans ef15
    have hfE := hfE.trans xf (by decide)
    have eg257 := (xg 257 (by decide)).trans eg257
    have eg33 := (xg 33 (by decide)).trans eg33
    have eg34 := (xg 34 (by decide)).trans eg34
    have eg36 := (xg 36 (by decide)).trans eg36
    have eg46 := (xg 46 (by decide)).trans eg46
    have eg40 := (xg 40 (by decide)).trans eg40
    have eg42 := (xg 42 (by decide)).trans eg42
    have eg43 := (xg 43 (by decide)).trans eg43
    have eg35 := (xg 35 (by decide)).trans eg35
    have eg38 := (xg 38 (by decide)).trans eg38
    have eg44 := (xg 44 (by decide)).trans eg44
    have eg193 := (xg 193 (by decide)).trans eg193
    have eg194 := (xg 194 (by decide)).trans eg194
    have eg195 := (xg 195 (by decide)).trans eg195
    have eg78 := (xg 78 (by decide)).trans eg78
    have eg419 := (xg 419 (by decide)).trans eg419
    have eg420 := (xg 420 (by decide)).trans eg420
    have eg421 := (xg 421 (by decide)).trans eg421
    have eg422 := (xg 422 (by decide)).trans eg422
    have eg423 := (xg 423 (by decide)).trans eg423
    have eg424 := (xg 424 (by decide)).trans eg424
    have eg10 := (xg 10 (by decide)).trans eg10
    have hgE := hgE.trans xg (by decide)
    have qL := q47
    have ef16 := qL.2.1
    have eg11 := qL.2.2
    have qe := qL.1.symm
    subst qe
    refine zc_iret (TX7_orders_0.at 25 rfl) rfl hH hA (by omega) ?_
    exact ⟨⟨ef256, eg46, Or.inl ⟨e, hx, rfl, ef16, eg11, by rw [ef14]; exact hye, ef15, eg78, by rw [ef32, ef37, ef39, ef41, ef45, ef47, eg33, eg34, eg35, eg36, eg38, eg40, eg42, eg43, eg44]; exact hF, by rw [eg193, eg194, eg195]; exact hG, ef192⟩⟩, hfE, hgE, rfl⟩

