set_option maxHeartbeats 4000000 in
set_option maxRecDepth 100000 in
theorem s_isKnot {l : Launch} {k : Int} (hk : zIn k) : SI l MX8_isKnot 1 [vI k] (b2i (0 ≤ k ∧ k ≤ 7)) := by
  refine SI.intro [some (vI k)] (by first | omega | (split <;> omega) | (unfold b2i; split <;> omega)) (by decide) (Nat.le_of_ble_eq_true rfl) rfl (fun d hd h => ?_)
  refine z_ild_0 (TX8_isKnot.at 0 rfl) ?_
  refine z_iconst (TX8_isKnot.at 1 rfl) ?_
  refine z_bipush (by decide) (TX8_isKnot.at 2 rfl) ?_
  refine zs_call3 (s_lies (by omega) (by omega) (by omega)) (TX8_isKnot.at 3 rfl) c8_18 rfl (by omega) (Nat.le_of_ble_eq_true rfl) (fun r4 => ?_)
  exact zs_zret (TX8_isKnot.at 4 rfl) rfl (by first | omega | exact b2i_01 _) (rfl)

set_option maxHeartbeats 4000000 in
set_option maxRecDepth 100000 in
theorem s_canFuse {l : Launch} {a b c e : Int} (ha : zIn a) (hb : zIn b) (hc : zIn c) (he : zIn e) : SI l MX8_canFuse 2 [vI a, vI b, vI c, vI e] (b2i ((0 ≤ a ∧ a ≤ 7) ∧ (0 ≤ b ∧ b ≤ 7) ∧ a ≠ b ∧ (1 ≤ c ∧ c ≤ 60) ∧ (0 ≤ e ∧ e ≤ 3))) := by
  refine SI.intro [some (vI a), some (vI b), some (vI c), some (vI e)] (by first | omega | (split <;> omega) | (unfold b2i; split <;> omega)) (by decide) (Nat.le_of_ble_eq_true rfl) rfl (fun d hd h => ?_)
  refine z_ild_0 (TX8_canFuse.at 0 rfl) ?_
  refine zs_call1 (s_isKnot (by omega)) (TX8_canFuse.at 1 rfl) c8_113 rfl (by omega) (Nat.le_of_ble_eq_true rfl) (fun r1 => ?_)
  refine z_if_eqB (tgt := 42) (TX8_canFuse.at 2 rfl) rfl (fun c1 => ?_) (fun c1 => ?_)
  · skip
    refine z_iconst (TX8_canFuse.at 21 rfl) ?_
    exact zs_zret (TX8_canFuse.at 22 rfl) rfl (by first | omega | exact b2i_01 _) (by first | (rw [b2i_t (by omega)]; done) | (rw [b2i_f (by omega)]; done))
  · skip
    refine z_ild_1 (TX8_canFuse.at 3 rfl) ?_
    refine zs_call1 (s_isKnot (by omega)) (TX8_canFuse.at 4 rfl) c8_113 rfl (by omega) (Nat.le_of_ble_eq_true rfl) (fun r8 => ?_)
    refine z_if_eqB (tgt := 42) (TX8_canFuse.at 5 rfl) rfl (fun c2 => ?_) (fun c2 => ?_)
    · skip
      refine z_iconst (TX8_canFuse.at 21 rfl) ?_
      exact zs_zret (TX8_canFuse.at 22 rfl) rfl (by first | omega | exact b2i_01 _) (by first | (rw [b2i_t (by omega)]; done) | (rw [b2i_f (by omega)]; done))
    · skip
      refine z_ild_0 (TX8_canFuse.at 6 rfl) ?_
      refine z_ild_1 (TX8_canFuse.at 7 rfl) ?_
      refine z_icmp_eq (tgt := 42) (TX8_canFuse.at 8 rfl) rfl (by omega) (by omega) (fun c3 => ?_) (fun c3 => ?_)
      · skip
        refine z_iconst (TX8_canFuse.at 21 rfl) ?_
        exact zs_zret (TX8_canFuse.at 22 rfl) rfl (by first | omega | exact b2i_01 _) (by first | (rw [b2i_t (by omega)]; done) | (rw [b2i_f (by omega)]; done))
      · skip
        refine z_ild_2 (TX8_canFuse.at 9 rfl) ?_
        refine z_iconst (TX8_canFuse.at 10 rfl) ?_
        refine z_bipush (by decide) (TX8_canFuse.at 11 rfl) ?_
        refine zs_call3 (s_lies (by omega) (by omega) (by omega)) (TX8_canFuse.at 12 rfl) c8_18 rfl (by omega) (Nat.le_of_ble_eq_true rfl) (fun r23 => ?_)
        refine z_if_eqB (tgt := 42) (TX8_canFuse.at 13 rfl) rfl (fun c4 => ?_) (fun c4 => ?_)
        · skip
          refine z_iconst (TX8_canFuse.at 21 rfl) ?_
          exact zs_zret (TX8_canFuse.at 22 rfl) rfl (by first | omega | exact b2i_01 _) (by first | (rw [b2i_t (by omega)]; done) | (rw [b2i_f (by omega)]; done))
        · skip
          refine z_ild_3 (TX8_canFuse.at 14 rfl) ?_
          refine z_iconst (TX8_canFuse.at 15 rfl) ?_
          refine z_iconst (TX8_canFuse.at 16 rfl) ?_
          refine zs_call3 (s_lies (by omega) (by omega) (by omega)) (TX8_canFuse.at 17 rfl) c8_18 rfl (by omega) (Nat.le_of_ble_eq_true rfl) (fun r32 => ?_)
          refine z_if_eqB (tgt := 42) (TX8_canFuse.at 18 rfl) rfl (fun c5 => ?_) (fun c5 => ?_)
          · skip
            refine z_iconst (TX8_canFuse.at 21 rfl) ?_
            exact zs_zret (TX8_canFuse.at 22 rfl) rfl (by first | omega | exact b2i_01 _) (by first | (rw [b2i_t (by omega)]; done) | (rw [b2i_f (by omega)]; done))
          · skip
            refine z_iconst (TX8_canFuse.at 19 rfl) ?_
            refine z_goto (tgt := 43) (TX8_canFuse.at 20 rfl) rfl ?_
            exact zs_zret (TX8_canFuse.at 22 rfl) rfl (by first | omega | exact b2i_01 _) (by first | (rw [b2i_t (by omega)]; done) | (rw [b2i_f (by omega)]; done))

set_option maxHeartbeats 4000000 in
set_option maxRecDepth 100000 in
theorem s_isSmall {l : Launch} {b : Int} (hb : zIn b) : SI l MX8_isSmall 0 [vI b] (b2i (97 ≤ b ∧ b ≤ 122)) := by
  refine SI.intro [some (vI b)] (by first | omega | (split <;> omega) | (unfold b2i; split <;> omega)) (by decide) (Nat.le_of_ble_eq_true rfl) rfl (fun d hd h => ?_)
  refine z_ild_0 (TX8_isSmall.at 0 rfl) ?_
  refine z_bipush (by decide) (TX8_isSmall.at 1 rfl) ?_
  refine z_icmp_lt (tgt := 16) (TX8_isSmall.at 2 rfl) rfl (by omega) (by omega) (fun c1 => ?_) (fun c1 => ?_)
  · skip
    refine z_iconst (TX8_isSmall.at 8 rfl) ?_
    exact zs_zret (TX8_isSmall.at 9 rfl) rfl (by first | omega | exact b2i_01 _) (by first | (rw [b2i_t (by omega)]; done) | (rw [b2i_f (by omega)]; done))
  · skip
    refine z_ild_0 (TX8_isSmall.at 3 rfl) ?_
    refine z_bipush (by decide) (TX8_isSmall.at 4 rfl) ?_
    refine z_icmp_gt (tgt := 16) (TX8_isSmall.at 5 rfl) rfl (by omega) (by omega) (fun c2 => ?_) (fun c2 => ?_)
    · skip
      refine z_iconst (TX8_isSmall.at 8 rfl) ?_
      exact zs_zret (TX8_isSmall.at 9 rfl) rfl (by first | omega | exact b2i_01 _) (by first | (rw [b2i_t (by omega)]; done) | (rw [b2i_f (by omega)]; done))
    · skip
      refine z_iconst (TX8_isSmall.at 6 rfl) ?_
      refine z_goto (tgt := 17) (TX8_isSmall.at 7 rfl) rfl ?_
      exact zs_zret (TX8_isSmall.at 9 rfl) rfl (by first | omega | exact b2i_01 _) (by first | (rw [b2i_t (by omega)]; done) | (rw [b2i_f (by omega)]; done))

set_option maxHeartbeats 4000000 in
set_option maxRecDepth 100000 in
theorem s_isDigit {l : Launch} {b : Int} (hb : zIn b) : SI l MX8_isDigit 0 [vI b] (b2i (48 ≤ b ∧ b ≤ 57)) := by
  refine SI.intro [some (vI b)] (by first | omega | (split <;> omega) | (unfold b2i; split <;> omega)) (by decide) (Nat.le_of_ble_eq_true rfl) rfl (fun d hd h => ?_)
  refine z_ild_0 (TX8_isDigit.at 0 rfl) ?_
  refine z_bipush (by decide) (TX8_isDigit.at 1 rfl) ?_
  refine z_icmp_lt (tgt := 16) (TX8_isDigit.at 2 rfl) rfl (by omega) (by omega) (fun c1 => ?_) (fun c1 => ?_)
  · skip
    refine z_iconst (TX8_isDigit.at 8 rfl) ?_
    exact zs_zret (TX8_isDigit.at 9 rfl) rfl (by first | omega | exact b2i_01 _) (by first | (rw [b2i_t (by omega)]; done) | (rw [b2i_f (by omega)]; done))
  · skip
    refine z_ild_0 (TX8_isDigit.at 3 rfl) ?_
    refine z_bipush (by decide) (TX8_isDigit.at 4 rfl) ?_
    refine z_icmp_gt (tgt := 16) (TX8_isDigit.at 5 rfl) rfl (by omega) (by omega) (fun c2 => ?_) (fun c2 => ?_)
    · skip
      refine z_iconst (TX8_isDigit.at 8 rfl) ?_
      exact zs_zret (TX8_isDigit.at 9 rfl) rfl (by first | omega | exact b2i_01 _) (by first | (rw [b2i_t (by omega)]; done) | (rw [b2i_f (by omega)]; done))
    · skip
      refine z_iconst (TX8_isDigit.at 6 rfl) ?_
      refine z_goto (tgt := 17) (TX8_isDigit.at 7 rfl) rfl ?_
      exact zs_zret (TX8_isDigit.at 9 rfl) rfl (by first | omega | exact b2i_01 _) (by first | (rw [b2i_t (by omega)]; done) | (rw [b2i_f (by omega)]; done))

set_option maxHeartbeats 4000000 in
set_option maxRecDepth 100000 in
theorem s_sign {l : Launch} {c : Int} (hc : 0 ≤ c ∧ c ≤ 65535) : SI l MX8_sign 0 [vI c] (100 + c) := by
  refine SI.intro [some (vI c)] (by first | omega | (split <;> omega) | (unfold b2i; split <;> omega)) (by decide) (Nat.le_of_ble_eq_true rfl) rfl (fun d hd h => ?_)
  refine z_bipush (by decide) (TX8_sign.at 0 rfl) ?_
  refine z_ild_0 (TX8_sign.at 1 rfl) ?_
  refine z_iadd (TX8_sign.at 2 rfl) ?_
  exact zs_iret (TX8_sign.at 3 rfl) rfl (rfl)

set_option maxHeartbeats 4000000 in
set_option maxRecDepth 100000 in
theorem s_orNone {l : Launch} {v : Int} (hv : zIn v) : SI l MX8_orNone 0 [vI v] (if v = 1000000 then -1 else v) := by
  refine SI.intro [some (vI v)] (by first | omega | (split <;> omega) | (unfold b2i; split <;> omega)) (by decide) (Nat.le_of_ble_eq_true rfl) rfl (fun d hd h => ?_)
  refine z_ild_0 (TX8_orNone.at 0 rfl) ?_
  refine z_ldc (v := 1000000) (TX8_orNone.at 1 rfl) k8_169 (by decide) ?_
  refine z_icmp_ne (tgt := 10) (TX8_orNone.at 2 rfl) rfl (by omega) (by omega) (fun c1 => ?_) (fun c1 => ?_)
  · skip
    refine z_ild_0 (TX8_orNone.at 5 rfl) ?_
    exact zs_iret (TX8_orNone.at 6 rfl) rfl (by split <;> omega)
  · skip
    refine z_iconst (TX8_orNone.at 3 rfl) ?_
    refine z_goto (tgt := 11) (TX8_orNone.at 4 rfl) rfl ?_
    exact zs_iret (TX8_orNone.at 6 rfl) rfl (by split <;> omega)

set_option maxHeartbeats 4000000 in
set_option maxRecDepth 100000 in
theorem s_areKnots {l : Launch} {k : Int} (hk : zIn k) : SI l MX8_areKnots 1 [vI k] (b2i (0 ≤ k ∧ k ≤ 255)) := by
  refine SI.intro [some (vI k)] (by first | omega | (split <;> omega) | (unfold b2i; split <;> omega)) (by decide) (Nat.le_of_ble_eq_true rfl) rfl (fun d hd h => ?_)
  refine z_ild_0 (TX8_areKnots.at 0 rfl) ?_
  refine z_iconst (TX8_areKnots.at 1 rfl) ?_
  refine z_sipush (by decide) (TX8_areKnots.at 2 rfl) ?_
  refine zs_call3 (s_lies (by omega) (by omega) (by omega)) (TX8_areKnots.at 3 rfl) c8_18 rfl (by omega) (Nat.le_of_ble_eq_true rfl) (fun r5 => ?_)
  exact zs_zret (TX8_areKnots.at 4 rfl) rfl (by first | omega | exact b2i_01 _) (rfl)

set_option maxHeartbeats 4000000 in
set_option maxRecDepth 100000 in
theorem s_termAt {l : Launch} {w : Int} (hw : zIn w) : SI l MX8_termAt 0 [vI w] (if w = 0 then 28 else if w = 1 then 74 else 75) := by
  refine SI.intro [some (vI w)] (by first | omega | (split <;> omega) | (unfold b2i; split <;> omega)) (by decide) (Nat.le_of_ble_eq_true rfl) rfl (fun d hd h => ?_)
  refine z_ild_0 (TX8_termAt.at 0 rfl) ?_
  refine z_if_ne (tgt := 9) (TX8_termAt.at 1 rfl) rfl (by omega) (fun c1 => ?_) (fun c1 => ?_)
  · skip
    refine z_ild_0 (TX8_termAt.at 4 rfl) ?_
    refine z_iconst (TX8_termAt.at 5 rfl) ?_
    refine z_icmp_ne (tgt := 19) (TX8_termAt.at 6 rfl) rfl (by omega) (by omega) (fun c2 => ?_) (fun c2 => ?_)
    · skip
      refine z_bipush (by decide) (TX8_termAt.at 9 rfl) ?_
      exact zs_iret (TX8_termAt.at 10 rfl) rfl (by split <;> (try split) <;> omega)
    · skip
      refine z_bipush (by decide) (TX8_termAt.at 7 rfl) ?_
      refine z_goto (tgt := 21) (TX8_termAt.at 8 rfl) rfl ?_
      exact zs_iret (TX8_termAt.at 10 rfl) rfl (by split <;> (try split) <;> omega)
  · skip
    refine z_bipush (by decide) (TX8_termAt.at 2 rfl) ?_
    refine z_goto (tgt := 21) (TX8_termAt.at 3 rfl) rfl ?_
    exact zs_iret (TX8_termAt.at 10 rfl) rfl (by split <;> (try split) <;> omega)

set_option maxHeartbeats 4000000 in
set_option maxRecDepth 100000 in
theorem m_fuseMany {l : Launch} {o : Nat} {ar : Nat → Nat} {f : mF} {g j : mA}   : MMP l o ar MX8_fuseMany 0 [.ref o] f g j (g 2 76) := by
  refine MM.intro [some (.ref o)] (by decide) (Nat.le_of_ble_eq_true rfl) rfl (fun d hd h0 h hH hA => ?_)
  refine z_ald_0 (TX8_fuseMany.at 0 rfl) ?_
  refine zm_getA (TX8_fuseMany.at 1 rfl) fl8_28 hH (by decide) (by decide) ?_
  refine z_bipush (by decide) (TX8_fuseMany.at 2 rfl) ?_
  refine zm_iald (TX8_fuseMany.at 3 rfl) hH rfl (by omega) (show _ < ((5688 : Nat) : Int) by omega) (fun r6 => ?_)
  refine zm_iret (TX8_fuseMany.at 4 rfl) rfl hH hA (by omega) ?_
  exact ⟨rfl, rfl, rfl, rfl⟩

set_option maxHeartbeats 4000000 in
set_option maxRecDepth 100000 in
theorem m_isFuse {l : Launch} {o : Nat} {ar : Nat → Nat} {f : mF} {g j : mA} {x : Int}  (hx : zIn x) (hm : 0 ≤ g 2 76) : MMP l o ar MX8_isFuse 1 [.ref o, vI x] f g j (b2i (0 ≤ x ∧ x ≤ g 2 76 - 1)) := by
  refine MM.intro [some (.ref o), some (vI x)] (by decide) (Nat.le_of_ble_eq_true rfl) rfl (fun d hd h0 h hH hA => ?_)
  refine z_ild_1 (TX8_isFuse.at 0 rfl) ?_
  refine z_iconst (TX8_isFuse.at 1 rfl) ?_
  refine z_ald_0 (TX8_isFuse.at 2 rfl) ?_
  refine zm_callP0 (m_fuseMany ) (TX8_isFuse.at 3 rfl) c8_109 rfl rfl hH hA (by omega) (Nat.le_of_ble_eq_true rfl) (fun h r3 hH hA => ?_)
  refine z_iconst (TX8_isFuse.at 4 rfl) ?_
  refine z_isub (TX8_isFuse.at 5 rfl) ?_
  refine zs_call3 (s_lies (by omega) (by omega) (by omega)) (TX8_isFuse.at 6 rfl) c8_18 rfl (by omega) (Nat.le_of_ble_eq_true rfl) (fun r8 => ?_)
  refine zm_zret (TX8_isFuse.at 7 rfl) rfl hH hA (by first | omega | exact b2i_01 _) ?_
  exact ⟨rfl, rfl, rfl, rfl⟩

set_option maxHeartbeats 4000000 in
set_option maxRecDepth 100000 in
theorem m_good {l : Launch} {o : Nat} {ar : Nat → Nat} {f : mF} {g j : mA} {v : Int}  (hv : zIn v)  : MMF l o ar MX8_good 0 [.ref o, vI v] f g j v (va_up f 0 0) g j := by
  refine MM.intro [some (.ref o), some (vI v)] (by decide) (Nat.le_of_ble_eq_true rfl) rfl (fun d hd h0 h hH hA => ?_)
  refine z_ald_0 (TX8_good.at 0 rfl) ?_
  refine z_iconst (TX8_good.at 1 rfl) ?_
  refine zm_putI (TX8_good.at 2 rfl) fp8_3 hH hA rfl (by decide) (by omega) (fun h hH hA => ?_)
  refine z_ild_1 (TX8_good.at 3 rfl) ?_
  refine zm_iret (TX8_good.at 4 rfl) rfl hH hA (by omega) ?_
  exact ⟨rfl, rfl, rfl, rfl⟩

set_option maxHeartbeats 4000000 in
set_option maxRecDepth 100000 in
theorem m_settled {l : Launch} {o : Nat} {ar : Nat → Nat} {f : mF} {g j : mA} {v : Int}  (hv : zIn v)  : MMF l o ar MX8_settled 1 [.ref o, vI v] f g j v (va_up (va_up f 36 0) 0 0) g j := by
  refine MM.intro [some (.ref o), some (vI v)] (by decide) (Nat.le_of_ble_eq_true rfl) rfl (fun d hd h0 h hH hA => ?_)
  refine z_ald_0 (TX8_settled.at 0 rfl) ?_
  refine z_iconst (TX8_settled.at 1 rfl) ?_
  refine zm_putI (TX8_settled.at 2 rfl) fp8_11 hH hA rfl (by decide) (by omega) (fun h hH hA => ?_)
  refine z_ald_0 (TX8_settled.at 3 rfl) ?_
  refine z_ild_1 (TX8_settled.at 4 rfl) ?_
  refine zm_callF1 (m_good (by omega)) (TX8_settled.at 5 rfl) c8_14 rfl rfl hH hA (by omega) (Nat.le_of_ble_eq_true rfl) (fun h r7 hH hA => ?_)
  refine zm_iret (TX8_settled.at 6 rfl) rfl hH hA (by omega) ?_
  exact ⟨rfl, rfl, rfl, rfl⟩

set_option maxHeartbeats 4000000 in
set_option maxRecDepth 100000 in
theorem m_refuses {l : Launch} {o : Nat} {ar : Nat → Nat} {f : mF} {g j : mA} {k : Int}  (hk : zIn k) (h1 : -6 ≤ k) (h2 : k ≤ 0) (hb : ∀ i, g 1 i ≤ 100000) : MMF l o ar MX8_refuses 0 [.ref o, vI k] f g j k (va_up f 0 k) (va_up g 1 (iu (g 1) (-k) (g 1 (-k) + 1))) j := by
  refine MM.intro [some (.ref o), some (vI k)] (by decide) (Nat.le_of_ble_eq_true rfl) rfl (fun d hd h0 h hH hA => ?_)
  have hb0 := hb (-k)
  refine z_ald_0 (TX8_refuses.at 0 rfl) ?_
  refine z_ild_1 (TX8_refuses.at 1 rfl) ?_
  refine zm_putI (TX8_refuses.at 2 rfl) fp8_3 hH hA rfl (by decide) (by omega) (fun h hH hA => ?_)
  refine z_ald_0 (TX8_refuses.at 3 rfl) ?_
  refine zm_getA (TX8_refuses.at 4 rfl) fl8_7 hH (by decide) (by decide) ?_
  refine z_ild_1 (TX8_refuses.at 5 rfl) ?_
  refine z_ineg (TX8_refuses.at 6 rfl) ?_
  refine z_dup2 rfl rfl (TX8_refuses.at 7 rfl) ?_
  refine zm_iald (TX8_refuses.at 8 rfl) hH rfl (by omega) (show _ < ((7 : Nat) : Int) by omega) (fun r12 => ?_)
  refine z_iconst (TX8_refuses.at 9 rfl) ?_
  refine z_iadd (TX8_refuses.at 10 rfl) ?_
  refine zm_iast (TX8_refuses.at 11 rfl) hH hA rfl (by omega) (show _ < ((7 : Nat) : Int) by omega) (by omega) (fun h hH hA => ?_)
  refine z_ild_1 (TX8_refuses.at 12 rfl) ?_
  refine zm_iret (TX8_refuses.at 13 rfl) rfl hH hA (by omega) ?_
  exact ⟨rfl, rfl, rfl, rfl⟩

