/-! ===== the law: both objects young, its beginning ===== -/
theorem gM2_at {i : Int} (h1 : i ≠ 74) (h2 : i ≠ 80) (h3 : ¬ (20 ≤ i ∧ i < 28)) : gM 2 i = 0 := by
  show gW 8 i = 0
  unfold gW
  rw [if_neg h1, if_neg h2, if_neg (by omega)]
theorem gM2_m {i : Int} (h : 20 ≤ i ∧ i < 28) : gM 2 i = -1 := by
  show gW 8 i = -1
  unfold gW
  rw [if_neg (by omega), if_neg (by omega), if_pos (by omega)]
theorem bt_0 (i : Int) : ¬ bt 0 i := by
  unfold bt
  intro h
  simp at h
theorem gI_m {k i : Int} {q : Nat} (hq : cCls (q / 32) = 1 ∧ q % 32 = 6) (h0 : 0 ≤ i) (h1 : i < 8) : gI q i = -1 := by
  unfold gI
  rw [if_pos hq, if_pos ⟨h0, h1⟩]
theorem gI_r {q : Nat} {i : Int} (h1 : ¬ (cCls (q / 32) = 1 ∧ q % 32 = 6)) (h2 : ¬ (cCls (q / 32) = 1 ∧ q % 32 = 12)) (h3 : 2 ≤ cTag q) : gI q i = -1 := by
  unfold gI
  rw [if_neg h1, if_neg h2, if_pos h3]
theorem gI_0 {q : Nat} {i : Int} (h1 : ¬ (cCls (q / 32) = 1 ∧ q % 32 = 6)) (h2 : ¬ (cCls (q / 32) = 1 ∧ q % 32 = 12)) (h3 : ¬ 2 ≤ cTag q) : gI q i = 0 := by
  unfold gI
  rw [if_neg h1, if_neg h2, if_neg h3]
theorem tg_ref (k : Nat) (h2 : cTag k < 6) (h3 : cTag k ≠ 0) (h4 : cTag k ≠ 1) : 2 ≤ cTag k := by omega
theorem KOK_young : KOK (gM 2) := by
  have z : ∀ i : Int, i ≠ 74 → i ≠ 80 → ¬ (20 ≤ i ∧ i < 28) → gM 2 i = 0 := fun i => gM2_at
  refine ⟨by rw [z 76 (by decide) (by decide) (by decide)]; decide, fun i i0 i1 => ?_, fun k k0 k1 => by rw [gM2_m (by omega)]; decide, by rw [z 28 (by decide) (by decide) (by decide)]; decide, by rw [z 77 (by decide) (by decide) (by decide)]; decide, fun i i0 i1 => ?_, by rw [z 78 (by decide) (by decide) (by decide)]; decide, fun i i0 i1 => ?_, ⟨by show (0 : Int) ≤ 1; decide, by show (1 : Int) ≤ 10; decide⟩, by rw [z 75 (by decide) (by decide) (by decide)]; decide, by rw [z 79 (by decide) (by decide) (by decide)]; decide, ?_⟩
  · rw [z 76 (by decide) (by decide) (by decide)] at i1; omega
  · rw [z 77 (by decide) (by decide) (by decide)] at i1; omega
  · rw [z 78 (by decide) (by decide) (by decide)] at i1; omega
  · rw [z 79 (by decide) (by decide) (by decide)]
    exact ⟨by show (-1 : Int) ≤ -1; decide, by show (-1 : Int) ≤ 0 - 1; decide⟩
theorem Sim.young {h0 : zH} {a : Nat} {E : cE} {h : zH} (Y : YF h0 a E h) : Sim E fI gI fM gM 0 := by
  have z : ∀ i : Int, i ≠ 74 → i ≠ 80 → ¬ (20 ≤ i ∧ i < 28) → gM 2 i = 0 := fun i => gM2_at
  have z76 := z 76 (by decide) (by decide) (by decide)
  have z77 := z 77 (by decide) (by decide) (by decide)
  have z78 := z 78 (by decide) (by decide) (by decide)
  have z79 := z 79 (by decide) (by decide) (by decide)
  have z75 := z 75 (by decide) (by decide) (by decide)
  have z28 := z 28 (by decide) (by decide) (by decide)
  have hlv := Y.2.2.1
  refine ⟨⟨⟨KOK_young, ⟨z76.symm, z77.symm, z78.symm, z79.symm, rfl⟩, ⟨⟨by decide, by decide⟩, fun i i0 i1 => ?_⟩, fun i i0 i1 => bt_0 i, fun k k0 k1 => ?_, fun i i0 i1 => ?_, fun i i0 i1 => ?_, ?_⟩, LogK.nil, rfl⟩, ⟨fun q q0 q1 => Or.inl (gI_r (by decide) (by decide) (by decide)), fun t t0 t1 => ?_⟩, fun k k0 k1 => Or.inl ⟨gI_r (by decide) (by decide) (by decide), ?_, rfl⟩, ⟨⟨by decide, by decide⟩, Or.inl ⟨rfl, rfl, fun k k0 k1 => gI_m (k := 0) (by decide) k0 (by omega)⟩⟩, ⟨rfl, ⟨by decide, by decide⟩, fun i i0 i1 => ?_⟩, fun i hi => ?_, ⟨rfl, rfl, rfl, rfl⟩, ⟨⟨rfl, rfl, rfl, rfl, rfl⟩, fun i => ?_, fun i => ?_⟩, fun m hm => ?_, fun k i h1 h2 h3 h4 => Or.inl ?_⟩
  · rw [z76] at i1; omega
  · rw [gM2_m (by omega)]; exact gI_m (k := 0) (by decide) k0 (by omega)
  · rw [z77] at i1; omega
  · rw [z78] at i1; omega
  · refine ⟨?_, rfl, ?_⟩
    · rw [z28]; rfl
    · rw [z75]; rfl
  · rw [z79] at t1; omega
  · cases hq : E.2.1 (4 + k.toNat) with
    | false => rfl
    | true => have := (hlv _).mp hq; omega
  · have e : gI 257 i = 0 := gI_0 (by decide) (by decide) (by decide)
    have e2 : gM 11 i = 0 := rfl
    rw [e, e2]
    exact ⟨⟨by decide, by decide⟩, Or.inl ⟨rfl, by decide⟩⟩
  · have e : gM 7 (i : Int) = mWords.getD i 0 := by
      unfold gM
      rw [if_neg (by decide), if_pos rfl, if_pos (by omega), Int.toNat_natCast]
    exact e
  · rw [gI_0 (by decide) (by decide) (by decide)]; decide
  · show (0 : Int) ≤ ((0 : Nat) : Int)
    decide
  · have := (hlv m).mp hm; omega
  · have h5 := tg_ref k h2 h3 h4
    rw [gI_r ?_ ?_ h5]
    · decide
    · intro q
      unfold cTag at h3
      rw [q.1, q.2] at h3
      exact h3 rfl
    · intro q
      unfold cTag at h3
      rw [q.1, q.2] at h3
      exact h3 rfl

set_option maxHeartbeats 1000000 in
theorem lw_begin {l : Launch} {b Ln : Nat} {xs : Nat → Int32} {G : zG} (hL : Ln ≤ 384) : ZL l b Ln xs G 0 [some (.ref b), none, none, none] [] (fun _ => none) 10000 100000 := by
  refine zl_newO (TL_law_0.at 0 rfl) nwL_7 (by decide) (by decide) (fun a h1 ha0 ha1 hax => ?_)
  refine zl_dup rfl (TL_law_0.at 1 rfl) ?_
  refine zl_invI (TL_law_0.at 2 rfl) cL_9 (Nat.le_refl 1000) (by decide) (by decide) (Nat.le_of_ble_eq_true rfl) (i_X7 (by decide) ha1) (fun v h2 hv => ?_)
  obtain ⟨ev, E, Y⟩ := hv
  subst ev
  show ZL l b Ln xs G 7 _ [.ref a] h2 _ _
  refine zl_ast_1 (TL_law_0.at 3 rfl) (by decide) rfl ?_
  refine zl_newO (TL_law_0.at 4 rfl) nwL_10 (by decide) (by decide) (fun o h3 ho0 ho1 hox => ?_)
  refine zl_dup rfl (TL_law_0.at 5 rfl) ?_
  refine zl_invI (TL_law_0.at 6 rfl) cL_12 (Nat.le_refl 1000) (by decide) (by decide) (Nat.le_of_ble_eq_true rfl) (i_X8 (by decide) ho1) (fun v h4 hv => ?_)
  obtain ⟨ev, ar, hM, hn, hF⟩ := hv
  subst ev
  show ZL l b Ln xs G 15 _ [.ref o] h4 _ _
  refine zl_ast_2 (TL_law_0.at 7 rfl) (by decide) rfl ?_
  refine zl_iconst (TL_law_0.at 8 rfl) ?_
  refine zl_ist_3 (TL_law_0.at 9 rfl) (by decide) rfl ?_
  exact (lw_loop hL 64 0 0 E fI gI (fun _ _ => 0) fM gM (fun _ _ => 0) h4 rfl (by omega) (by decide) (BH.young Y ho0 hox hM hn hF) (Sim.young Y) Y.2.1).less (by decide) (by decide)

