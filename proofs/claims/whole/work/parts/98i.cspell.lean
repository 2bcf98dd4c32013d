/-! ===== the class: how words are spelled ===== -/
theorem jfv : Cond.fieldLink "java/lang/String" 9 "java/lang/String" "value" "[B" ∈ zTbl := zt8 16 (by decide +kernel) rfl
theorem jfc : Cond.fieldLink "java/lang/String" 15 "java/lang/String" "coder" "B" ∈ zTbl := zt8 17 (by decide +kernel) rfl
theorem jfs : Cond.fieldLink "java/lang/String" 38 "java/lang/String" "COMPACT_STRINGS" "Z" ∈ zTbl := zt3 80 (by decide +kernel) rfl
theorem jfo : Cond.fieldLink "java/lang/String" 1053 "jdk/internal/util/Preconditions" "SIOOBE_FORMATTER" "Ljava/util/function/BiFunction;" ∈ zTbl := zt3 96 (by decide +kernel) rfl
theorem ysJ0_coder_7d493 : zYs MJ0_coder_7d493 0 := ⟨zt3 79 (by rfl) rfl, zt1 13 (by decide +kernel) rfl, ⟨by decide +kernel, by decide +kernel⟩, by decide +kernel, by decide⟩
theorem jc_J0_coder_7d493 : zCV "java/lang/String" 335 MJ0_coder_7d493 0 := ⟨ysJ0_coder_7d493, zt3 76 (by decide +kernel) rfl, zt3 77 (by decide +kernel) rfl, zt3 78 (by decide +kernel) rfl⟩
theorem ysJ0_isLatin1_aae02 : zYs MJ0_isLatin1_aae02 0 := ⟨zt3 89 (by rfl) rfl, zt1 13 (by decide +kernel) rfl, ⟨by decide +kernel, by decide +kernel⟩, by decide +kernel, by decide⟩
theorem jc_J0_isLatin1_aae02 : zCV "java/lang/String" 492 MJ0_isLatin1_aae02 0 := ⟨ysJ0_isLatin1_aae02, zt3 86 (by decide +kernel) rfl, zt3 87 (by decide +kernel) rfl, zt3 88 (by decide +kernel) rfl⟩
theorem ysJ1_charAt_3b067 : zYs MJ1_charAt_3b067 2 := ⟨zt3 92 (by rfl) rfl, zt1 14 (by decide +kernel) rfl, ⟨by decide +kernel, by decide +kernel⟩, by decide +kernel, by decide⟩
theorem jc_J1_charAt_3b067 : zCS "java/lang/String" 495 MJ1_charAt_3b067 2 := ⟨ysJ1_charAt_3b067, zt3 90 (by decide +kernel) rfl, zt3 91 (by decide +kernel) rfl⟩
theorem ysJ0_checkIndex_df160 : zYs MJ0_checkIndex_df160 2 := ⟨zt3 95 (by rfl) rfl, zt1 13 (by decide +kernel) rfl, ⟨by decide +kernel, by decide +kernel⟩, by decide +kernel, by decide⟩
theorem jc_J0_checkIndex_df160 : zCS "java/lang/StringLatin1" 9 MJ0_checkIndex_df160 2 := ⟨ysJ0_checkIndex_df160, zt3 93 (by decide +kernel) rfl, zt3 94 (by decide +kernel) rfl⟩
theorem ysJ3_checkIndex_8e157 : zYs MJ3_checkIndex_8e157 3 := ⟨zt3 100 (by rfl) rfl, zt1 15 (by decide +kernel) rfl, ⟨by decide +kernel, by decide +kernel⟩, by decide +kernel, by decide⟩
theorem jc_J3_checkIndex_8e157 : zCS "java/lang/String" 1059 MJ3_checkIndex_8e157 3 := ⟨ysJ3_checkIndex_8e157, zt3 98 (by decide +kernel) rfl, zt3 99 (by decide +kernel) rfl⟩
def zch (i : Nat) (q : Int) : Int := ((zsByt.getD i []).getD q.toNat 0).toInt
theorem zch_all : ∀ i, i < 28 → ∀ q, q < zsLen.getD i 0 → (97 ≤ ((zsByt.getD i []).getD q 0).toInt ∧ ((zsByt.getD i []).getD q 0).toInt ≤ 122) := by decide +kernel
theorem zch_tab : (List.range 26).all (fun n => decide (zand ((n : Int) + 97) 255 = (n : Int) + 97) && decide ((((Int32.ofInt ((n : Int) + 97)).toUInt32 % 65536).toInt32) = Int32.ofInt ((n : Int) + 97)) && decide (narrow .char (vI ((n : Int) + 97)) = vI ((n : Int) + 97))) = true := by decide +kernel
theorem zch_in {i : Nat} {q : Int} (hi : i < 28) (q0 : 0 ≤ q) (q1 : q < (zsLen.getD i 0 : Nat)) : 97 ≤ zch i q ∧ zch i q ≤ 122 := zch_all i hi q.toNat (by omega)
theorem zch_ok {i : Nat} {q : Int} (hi : i < 28) (q0 : 0 ≤ q) (q1 : q < (zsLen.getD i 0 : Nat)) : zand (zch i q) 255 = zch i q ∧ (((Int32.ofInt (zch i q)).toUInt32 % 65536).toInt32) = Int32.ofInt (zch i q) ∧ narrow .char (vI (zch i q)) = vI (zch i q) := by
  have h := zch_in hi q0 q1
  have t := List.all_eq_true.mp zch_tab (zch i q - 97).toNat (List.mem_range.mpr (by omega))
  rw [show (((zch i q - 97).toNat : Nat) : Int) + 97 = zch i q by omega] at t
  rw [Bool.and_eq_true, Bool.and_eq_true] at t
  exact ⟨of_decide_eq_true t.1.1, of_decide_eq_true t.1.2, of_decide_eq_true t.2⟩
theorem zsl6 {i : Nat} (hi : i < 28) : zsLen.getD i 0 ≤ 6 := by
  have h6 : ∀ i, i < 28 → zsLen.getD i 0 ≤ 6 := by decide
  exact h6 i hi
theorem zsr0 : ∀ n : Nat, n ≤ 6 → zshr (n : Int) 0 = (n : Int) := by
  have h : ∀ n : Fin 7, zshr ((n.val : Nat) : Int) 0 = ((n.val : Nat) : Int) := by decide +kernel
  intro n hn
  exact h ⟨n, by omega⟩
section JS
variable {G : zG} {l : Launch} {i : Nat} {q : Int}
theorem s_coder (hi : i < 28) : SG G l MJ0_coder_7d493 0 [(.ref (G.2.2.2.1 i))] 0 := by
  refine SG.intro [some (.ref (G.2.2.2.1 i))] (by decide) (by decide) (Nat.le_of_ble_eq_true rfl) rfl (fun d hd h => ?_)
  refine zg_compact jfs (TJ0_coder_7d493.at 0 rfl) ?_
  refine zg_if_eq (tgt := 13) (TJ0_coder_7d493.at 1 rfl) rfl (by decide) (fun c => absurd c (by decide)) (fun c => ?_)
  refine zg_ald_0 (TJ0_coder_7d493.at 2 rfl) ?_
  refine zg_coder hi jfc (TJ0_coder_7d493.at 3 rfl) ?_
  refine zg_goto (tgt := 14) (TJ0_coder_7d493.at 4 rfl) rfl ?_
  exact zg_cret (TJ0_coder_7d493.at 6 rfl) rfl (by decide) ⟨rfl, rfl⟩
theorem s_latin (hi : i < 28) : SG G l MJ0_isLatin1_aae02 0 [(.ref (G.2.2.2.1 i))] 1 := by
  refine SG.intro [some (.ref (G.2.2.2.1 i))] (by decide) (by decide) (Nat.le_of_ble_eq_true rfl) rfl (fun d hd h => ?_)
  refine zg_compact jfs (TJ0_isLatin1_aae02.at 0 rfl) ?_
  refine zg_if_eq (tgt := 17) (TJ0_isLatin1_aae02.at 1 rfl) rfl (by decide) (fun c => absurd c (by decide)) (fun c => ?_)
  refine zg_ald_0 (TJ0_isLatin1_aae02.at 2 rfl) ?_
  refine zg_coder hi jfc (TJ0_isLatin1_aae02.at 3 rfl) ?_
  refine zg_if_ne (tgt := 17) (TJ0_isLatin1_aae02.at 4 rfl) rfl (by decide) (fun c => absurd rfl c) (fun c => ?_)
  refine zg_iconst (TJ0_isLatin1_aae02.at 5 rfl) ?_
  refine zg_goto (tgt := 18) (TJ0_isLatin1_aae02.at 6 rfl) rfl ?_
  exact zg_cret (TJ0_isLatin1_aae02.at 8 rfl) rfl (by decide) ⟨rfl, rfl⟩
theorem s_len (hi : i < 28) : SG G l MJ0_length_8abf5 1 [(.ref (G.2.2.2.1 i))] (zsLen.getD i 0 : Nat) := by
  have h6 := zsl6 hi
  refine SG.intro [some (.ref (G.2.2.2.1 i))] (by omega) (by decide) (Nat.le_of_ble_eq_true rfl) rfl (fun d hd h => ?_)
  refine zg_ald_0 (TJ0_length_8abf5.at 0 rfl) ?_
  refine zg_value hi jfv (TJ0_length_8abf5.at 1 rfl) ?_
  refine zg_blen hi (TJ0_length_8abf5.at 2 rfl) ?_
  refine zg_ald_0 (TJ0_length_8abf5.at 3 rfl) ?_
  refine zg_callS (As := []) hi rfl (s_coder hi) (TJ0_length_8abf5.at 4 rfl) jc_J0_coder_7d493 rfl (by omega) (Nat.le_of_ble_eq_true rfl) (fun _ => ?_)
  refine zg_ishr (TJ0_length_8abf5.at 5 rfl) ?_
  rw [zsr0 _ h6]
  exact zg_iret (TJ0_length_8abf5.at 6 rfl) rfl ⟨rfl, rfl⟩
theorem s_pre {v : Value} {n : Int} (hv : v = .null ∨ ∃ t, v = .ref t) (q0 : 0 ≤ q) (q1 : q < n) (hn : zIn n) : SG G l MJ3_checkIndex_8e157 0 [vI q, vI n, v] q := by
  have key : ∀ (d : Nat) (h : zH) (v : Value), ZG G l MJ3_checkIndex_8e157 d 0 0 (fun v h' => h' = h ∧ v = some (vI q)) 0 [some (vI q), some (vI n), some v] [] h 0 0 := by
    intro d h v
    refine zg_ild_0 (TJ3_checkIndex_8e157.at 0 rfl) ?_
    refine zg_if_lt (tgt := 9) (TJ3_checkIndex_8e157.at 1 rfl) rfl (by omega) (fun c => absurd c (by omega)) (fun c => ?_)
    refine zg_ild_0 (TJ3_checkIndex_8e157.at 2 rfl) ?_
    refine zg_ild_1 (TJ3_checkIndex_8e157.at 3 rfl) ?_
    refine zg_icmp_lt (tgt := 16) (TJ3_checkIndex_8e157.at 4 rfl) rfl (by omega) (by omega) (fun c => ?_) (fun c => absurd c (by omega))
    refine zg_ild_0 (TJ3_checkIndex_8e157.at 10 rfl) ?_
    exact zg_iret (TJ3_checkIndex_8e157.at 11 rfl) rfl ⟨rfl, rfl⟩
  rcases hv with rfl | ⟨t, rfl⟩
  · exact SG.intro [some (vI q), some (vI n), some .null] (by omega) (by decide) (Nat.le_of_ble_eq_true rfl) rfl (fun d hd h => key d h _)
  · exact SG.intro [some (vI q), some (vI n), some (.ref t)] (by omega) (by decide) (Nat.le_of_ble_eq_true rfl) rfl (fun d hd h => key d h _)
theorem s_chk {n : Int} (q0 : 0 ≤ q) (q1 : q < n) (hn : zIn n) : ∀ d, 1 ≤ d → ∀ h, MZG G l MJ0_checkIndex_df160 d 0 0 [vI q, vI n] h (fun v h' => h' = h ∧ v = none) := by
  intro d hd h
  refine MZG.intro [some (vI q), some (vI n)] (by decide) (Nat.le_of_ble_eq_true rfl) rfl ?_
  refine zg_ild_0 (TJ0_checkIndex_df160.at 0 rfl) ?_
  refine zg_ild_1 (TJ0_checkIndex_df160.at 1 rfl) ?_
  refine zg_sioobe jfo (TJ0_checkIndex_df160.at 2 rfl) (fun v hv => ?_)
  refine zg_call (As := [vI q, vI n, v]) (S := []) (s_pre hv q0 q1 hn) (TJ0_checkIndex_df160.at 3 rfl) jc_J3_checkIndex_8e157 rfl (by omega) (Nat.le_of_ble_eq_true rfl) (fun _ => ?_)
  refine zg_pop rfl (TJ0_checkIndex_df160.at 4 rfl) ?_
  exact zg_vret (TJ0_checkIndex_df160.at 5 rfl) rfl ⟨rfl, rfl⟩
theorem s_l1 (hi : i < 28) (q0 : 0 ≤ q) (q1 : q < (zsLen.getD i 0 : Nat)) : SG G l MJ1_charAt_3b067 2 [(.ref (G.2.2.2.2 i)), vI q] (zch i q) := by
  have h6 := zsl6 hi
  have hz := zch_in hi q0 q1
  have ok := zch_ok hi q0 q1
  refine SG.intro [some (.ref (G.2.2.2.2 i)), some (vI q)] (by omega) (by decide) (Nat.le_of_ble_eq_true rfl) rfl (fun d hd h => ?_)
  refine zg_ild_1 (TJ1_charAt_3b067.at 0 rfl) ?_
  refine zg_ald_0 (TJ1_charAt_3b067.at 1 rfl) ?_
  refine zg_blen hi (TJ1_charAt_3b067.at 2 rfl) ?_
  obtain ⟨hd3, hp3⟩ := (TJ1_charAt_3b067.at 3 rfl)
  refine zg_invS (As := [vI q, vI (zsLen.getD i 0 : Nat)]) (S := []) (M' := MJ0_checkIndex_df160) hd3 jc_J0_checkIndex_df160 rfl (d' := d - 1) (by omega) (Nat.zero_le _) (Nat.zero_le _) (Nat.le_of_ble_eq_true rfl) (s_chk q0 q1 (by omega) (d - 1) (by omega) h) (fun v h' hp => ?_)
  obtain ⟨rfl, rfl⟩ := hp
  refine zg_ald_0 (TJ1_charAt_3b067.at 4 rfl) ?_
  refine zg_ild_1 (TJ1_charAt_3b067.at 5 rfl) ?_
  refine zg_bald hi q0 q1 (TJ1_charAt_3b067.at 6 rfl) ?_
  rw [show Value.int ((zsByt.getD i []).getD q.toNat 0) = vI (zch i q) by unfold vI zch; rw [Int32.ofInt_toInt]]
  refine zg_sipush (by decide) (TJ1_charAt_3b067.at 7 rfl) ?_
  refine zg_iand (TJ1_charAt_3b067.at 8 rfl) ?_
  rw [ok.1]
  refine zg_i2c ok.2.1 (TJ1_charAt_3b067.at 9 rfl) ?_
  exact zg_cret (TJ1_charAt_3b067.at 10 rfl) rfl ok.2.2 ⟨rfl, rfl⟩
theorem s_char (hi : i < 28) (q0 : 0 ≤ q) (q1 : q < (zsLen.getD i 0 : Nat)) : SG G l MJ0_charAt_5068e 3 [(.ref (G.2.2.2.1 i)), vI q] (zch i q) := by
  have h6 := zsl6 hi
  have hz := zch_in hi q0 q1
  have ok := zch_ok hi q0 q1
  refine SG.intro [some (.ref (G.2.2.2.1 i)), some (vI q)] (by omega) (by decide) (Nat.le_of_ble_eq_true rfl) rfl (fun d hd h => ?_)
  refine zg_ald_0 (TJ0_charAt_5068e.at 0 rfl) ?_
  refine zg_callS (As := []) hi rfl (s_latin hi) (TJ0_charAt_5068e.at 1 rfl) jc_J0_isLatin1_aae02 rfl (by omega) (Nat.le_of_ble_eq_true rfl) (fun _ => ?_)
  refine zg_if_eq (tgt := 16) (TJ0_charAt_5068e.at 2 rfl) rfl (by decide) (fun c => absurd c (by decide)) (fun c => ?_)
  refine zg_ald_0 (TJ0_charAt_5068e.at 3 rfl) ?_
  refine zg_value hi jfv (TJ0_charAt_5068e.at 4 rfl) ?_
  refine zg_ild_1 (TJ0_charAt_5068e.at 5 rfl) ?_
  refine zg_call (As := [(.ref (G.2.2.2.2 i)), vI q]) (S := []) (s_l1 hi q0 q1) (TJ0_charAt_5068e.at 6 rfl) jc_J1_charAt_3b067 rfl (by omega) (Nat.le_of_ble_eq_true rfl) (fun _ => ?_)
  exact zg_cret (TJ0_charAt_5068e.at 7 rfl) rfl ok.2.2 ⟨rfl, rfl⟩
end JS
set_option maxHeartbeats 4000000 in
set_option maxRecDepth 100000 in
theorem s_spelled {G : zG} {l : Launch} {w : Nat} (hw : w < 27) : ∀ d h, MZG G l MX3_spelled d 0 0 [vI (w : Int)] h (fun v h' => h' = h ∧ v = some (.ref (G.2.2.2.1 w))) := by
  intro d h
  refine MZG.intro [some (vI (w : Int))] (by decide) (Nat.le_of_ble_eq_true rfl) rfl ?_
  refine zg_ild_0 (TX3_spelled.at 0 rfl) ?_
  rcases (show w = 0 ∨ w = 1 ∨ w = 2 ∨ w = 3 ∨ w = 4 ∨ w = 5 ∨ w = 6 ∨ w = 7 ∨ w = 8 ∨ w = 9 ∨ w = 10 ∨ w = 11 ∨ w = 12 ∨ w = 13 ∨ w = 14 ∨ w = 15 ∨ w = 16 ∨ w = 17 ∨ w = 18 ∨ w = 19 ∨ w = 20 ∨ w = 21 ∨ w = 22 ∨ w = 23 ∨ w = 24 ∨ w = 25 ∨ w = 26 by omega) with rfl | rfl | rfl | rfl | rfl | rfl | rfl | rfl | rfl | rfl | rfl | rfl | rfl | rfl | rfl | rfl | rfl | rfl | rfl | rfl | rfl | rfl | rfl | rfl | rfl | rfl | rfl
  · refine zg_swIn (off := 123) (tgt := 124) (TX3_spelled.at 1 rfl) (by decide) (by decide) (by decide) rfl rfl ?_
    refine zg_ldcS (i := 0) (by decide) rfl (TX3_spelled.at 2 rfl) ?_
    exact zg_aret (TX3_spelled.at 3 rfl) rfl ⟨rfl, rfl⟩
  · refine zg_swIn (off := 126) (tgt := 127) (TX3_spelled.at 1 rfl) (by decide) (by decide) (by decide) rfl rfl ?_
    refine zg_ldcS (i := 1) (by decide) rfl (TX3_spelled.at 4 rfl) ?_
    exact zg_aret (TX3_spelled.at 5 rfl) rfl ⟨rfl, rfl⟩
  · refine zg_swIn (off := 129) (tgt := 130) (TX3_spelled.at 1 rfl) (by decide) (by decide) (by decide) rfl rfl ?_
    refine zg_ldcS (i := 2) (by decide) rfl (TX3_spelled.at 6 rfl) ?_
    exact zg_aret (TX3_spelled.at 7 rfl) rfl ⟨rfl, rfl⟩
  · refine zg_swIn (off := 132) (tgt := 133) (TX3_spelled.at 1 rfl) (by decide) (by decide) (by decide) rfl rfl ?_
    refine zg_ldcS (i := 3) (by decide) rfl (TX3_spelled.at 8 rfl) ?_
    exact zg_aret (TX3_spelled.at 9 rfl) rfl ⟨rfl, rfl⟩
  · refine zg_swIn (off := 135) (tgt := 136) (TX3_spelled.at 1 rfl) (by decide) (by decide) (by decide) rfl rfl ?_
    refine zg_ldcS (i := 4) (by decide) rfl (TX3_spelled.at 10 rfl) ?_
    exact zg_aret (TX3_spelled.at 11 rfl) rfl ⟨rfl, rfl⟩
  · refine zg_swIn (off := 138) (tgt := 139) (TX3_spelled.at 1 rfl) (by decide) (by decide) (by decide) rfl rfl ?_
    refine zg_ldcS (i := 5) (by decide) rfl (TX3_spelled.at 12 rfl) ?_
    exact zg_aret (TX3_spelled.at 13 rfl) rfl ⟨rfl, rfl⟩
  · refine zg_swIn (off := 141) (tgt := 142) (TX3_spelled.at 1 rfl) (by decide) (by decide) (by decide) rfl rfl ?_
    refine zg_ldcS (i := 6) (by decide) rfl (TX3_spelled.at 14 rfl) ?_
    exact zg_aret (TX3_spelled.at 15 rfl) rfl ⟨rfl, rfl⟩
  · refine zg_swIn (off := 144) (tgt := 145) (TX3_spelled.at 1 rfl) (by decide) (by decide) (by decide) rfl rfl ?_
    refine zg_ldcS (i := 7) (by decide) rfl (TX3_spelled.at 16 rfl) ?_
    exact zg_aret (TX3_spelled.at 17 rfl) rfl ⟨rfl, rfl⟩
  · refine zg_swIn (off := 147) (tgt := 148) (TX3_spelled.at 1 rfl) (by decide) (by decide) (by decide) rfl rfl ?_
    refine zg_ldcS (i := 8) (by decide) rfl (TX3_spelled.at 18 rfl) ?_
    exact zg_aret (TX3_spelled.at 19 rfl) rfl ⟨rfl, rfl⟩
  · refine zg_swIn (off := 150) (tgt := 151) (TX3_spelled.at 1 rfl) (by decide) (by decide) (by decide) rfl rfl ?_
    refine zg_ldcS (i := 9) (by decide) rfl (TX3_spelled.at 20 rfl) ?_
    exact zg_aret (TX3_spelled.at 21 rfl) rfl ⟨rfl, rfl⟩
  · refine zg_swIn (off := 153) (tgt := 154) (TX3_spelled.at 1 rfl) (by decide) (by decide) (by decide) rfl rfl ?_
    refine zg_ldcS (i := 10) (by decide) rfl (TX3_spelled.at 22 rfl) ?_
    exact zg_aret (TX3_spelled.at 23 rfl) rfl ⟨rfl, rfl⟩
  · refine zg_swIn (off := 156) (tgt := 157) (TX3_spelled.at 1 rfl) (by decide) (by decide) (by decide) rfl rfl ?_
    refine zg_ldcS (i := 11) (by decide) rfl (TX3_spelled.at 24 rfl) ?_
    exact zg_aret (TX3_spelled.at 25 rfl) rfl ⟨rfl, rfl⟩
  · refine zg_swIn (off := 159) (tgt := 160) (TX3_spelled.at 1 rfl) (by decide) (by decide) (by decide) rfl rfl ?_
    refine zg_ldcS (i := 12) (by decide) rfl (TX3_spelled.at 26 rfl) ?_
    exact zg_aret (TX3_spelled.at 27 rfl) rfl ⟨rfl, rfl⟩
  · refine zg_swIn (off := 162) (tgt := 163) (TX3_spelled.at 1 rfl) (by decide) (by decide) (by decide) rfl rfl ?_
    refine zg_ldcS (i := 13) (by decide) rfl (TX3_spelled.at 28 rfl) ?_
    exact zg_aret (TX3_spelled.at 29 rfl) rfl ⟨rfl, rfl⟩
  · refine zg_swIn (off := 165) (tgt := 166) (TX3_spelled.at 1 rfl) (by decide) (by decide) (by decide) rfl rfl ?_
    refine zg_ldcS (i := 14) (by decide) rfl (TX3_spelled.at 30 rfl) ?_
    exact zg_aret (TX3_spelled.at 31 rfl) rfl ⟨rfl, rfl⟩
  · refine zg_swIn (off := 168) (tgt := 169) (TX3_spelled.at 1 rfl) (by decide) (by decide) (by decide) rfl rfl ?_
    refine zg_ldcS (i := 15) (by decide) rfl (TX3_spelled.at 32 rfl) ?_
    exact zg_aret (TX3_spelled.at 33 rfl) rfl ⟨rfl, rfl⟩
  · refine zg_swIn (off := 171) (tgt := 172) (TX3_spelled.at 1 rfl) (by decide) (by decide) (by decide) rfl rfl ?_
    refine zg_ldcS (i := 16) (by decide) rfl (TX3_spelled.at 34 rfl) ?_
    exact zg_aret (TX3_spelled.at 35 rfl) rfl ⟨rfl, rfl⟩
  · refine zg_swIn (off := 174) (tgt := 175) (TX3_spelled.at 1 rfl) (by decide) (by decide) (by decide) rfl rfl ?_
    refine zg_ldcS (i := 17) (by decide) rfl (TX3_spelled.at 36 rfl) ?_
    exact zg_aret (TX3_spelled.at 37 rfl) rfl ⟨rfl, rfl⟩
  · refine zg_swIn (off := 177) (tgt := 178) (TX3_spelled.at 1 rfl) (by decide) (by decide) (by decide) rfl rfl ?_
    refine zg_ldcS (i := 18) (by decide) rfl (TX3_spelled.at 38 rfl) ?_
    exact zg_aret (TX3_spelled.at 39 rfl) rfl ⟨rfl, rfl⟩
  · refine zg_swIn (off := 180) (tgt := 181) (TX3_spelled.at 1 rfl) (by decide) (by decide) (by decide) rfl rfl ?_
    refine zg_ldcS (i := 19) (by decide) rfl (TX3_spelled.at 40 rfl) ?_
    exact zg_aret (TX3_spelled.at 41 rfl) rfl ⟨rfl, rfl⟩
  · refine zg_swIn (off := 183) (tgt := 184) (TX3_spelled.at 1 rfl) (by decide) (by decide) (by decide) rfl rfl ?_
    refine zg_ldcS (i := 20) (by decide) rfl (TX3_spelled.at 42 rfl) ?_
    exact zg_aret (TX3_spelled.at 43 rfl) rfl ⟨rfl, rfl⟩
  · refine zg_swIn (off := 186) (tgt := 187) (TX3_spelled.at 1 rfl) (by decide) (by decide) (by decide) rfl rfl ?_
    refine zg_ldcS (i := 21) (by decide) rfl (TX3_spelled.at 44 rfl) ?_
    exact zg_aret (TX3_spelled.at 45 rfl) rfl ⟨rfl, rfl⟩
  · refine zg_swIn (off := 189) (tgt := 190) (TX3_spelled.at 1 rfl) (by decide) (by decide) (by decide) rfl rfl ?_
    refine zg_ldcS (i := 22) (by decide) rfl (TX3_spelled.at 46 rfl) ?_
    exact zg_aret (TX3_spelled.at 47 rfl) rfl ⟨rfl, rfl⟩
  · refine zg_swIn (off := 192) (tgt := 193) (TX3_spelled.at 1 rfl) (by decide) (by decide) (by decide) rfl rfl ?_
    refine zg_ldcS (i := 23) (by decide) rfl (TX3_spelled.at 48 rfl) ?_
    exact zg_aret (TX3_spelled.at 49 rfl) rfl ⟨rfl, rfl⟩
  · refine zg_swIn (off := 195) (tgt := 196) (TX3_spelled.at 1 rfl) (by decide) (by decide) (by decide) rfl rfl ?_
    refine zg_ldcS (i := 24) (by decide) rfl (TX3_spelled.at 50 rfl) ?_
    exact zg_aret (TX3_spelled.at 51 rfl) rfl ⟨rfl, rfl⟩
  · refine zg_swIn (off := 198) (tgt := 199) (TX3_spelled.at 1 rfl) (by decide) (by decide) (by decide) rfl rfl ?_
    refine zg_ldcS (i := 25) (by decide) rfl (TX3_spelled.at 52 rfl) ?_
    exact zg_aret (TX3_spelled.at 53 rfl) rfl ⟨rfl, rfl⟩
  · refine zg_swIn (off := 201) (tgt := 202) (TX3_spelled.at 1 rfl) (by decide) (by decide) (by decide) rfl rfl ?_
    refine zg_ldcS (i := 26) (by decide) rfl (TX3_spelled.at 54 rfl) ?_
    exact zg_aret (TX3_spelled.at 55 rfl) rfl ⟨rfl, rfl⟩

