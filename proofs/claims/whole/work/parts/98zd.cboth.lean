/-! ===== both objects in one heap ===== -/
section MK
variable {l : Launch} {M M' : zM} {d mc ms kc ks : Nat} {Pz : Option Value → zH → Prop} {pc pc' : Nat} {L : List (Option Value)} {S : List Value} {h h0 : zH} {o : Nat} {ar : Nat → Nat} {f : mF} {g j : mA}
theorem zmk_callI {idx n n' : Nat} {As : List Value} {Q : Int → mF → mA → mA → Prop} (hM : MM l o ar M' n' (.ref o :: As) f g j (PI Q)) (hd : zAt M 3 pc pc' (.invokevirtual idx)) (hc : zCV M.1.cls idx M' n) (hn : As.length = n) (hcl : M'.1.cls = RX8) (hH : HM o ar f g j h) (hA : zAg o ar h0 h) (hdd : n' + 1 ≤ d) (hW : (S.map fun v => v.category).sum ≤ 8)
    (K : ∀ (r : Int) (f : mF) (g j : mA) (h : zH), zIn r → Q r f g j → HM o ar f g j h → zAg o ar h0 h → Z l M d mc ms Pz pc' L (vI r :: S) h kc ks) : Z l M d mc ms Pz pc L (As.reverse ++ .ref o :: S) h kc ks := by
  obtain ⟨hd, rfl⟩ := hd
  refine z_invV (ci := 8) (T := TX8) (N := 50) hd hc hn hH.1 (by rw [hcl]; rfl) (d' := d - 1) (by omega) (Nat.zero_le _) (Nat.zero_le _) hW (hM (d - 1) (by omega) h hH) (fun v h' hp => ?_)
  obtain ⟨f', g', j', hH', hA', r, rfl, hr, hq⟩ := hp
  exact K r f' g' j' h' hr hq hH' (hA.trans hA')
theorem zmk_callL {idx n n' : Nat} {As : List Value} {Q : Int → mF → mA → mA → Prop} (hM : MM l o ar M' n' (.ref o :: As) f g j (PL Q)) (hd : zAt M 3 pc pc' (.invokevirtual idx)) (hc : zCV M.1.cls idx M' n) (hn : As.length = n) (hcl : M'.1.cls = RX8) (hH : HM o ar f g j h) (hA : zAg o ar h0 h) (hdd : n' + 1 ≤ d) (hW : (S.map fun v => v.category).sum ≤ 8)
    (K : ∀ (r : Int) (f : mF) (g j : mA) (h : zH), zInL r → Q r f g j → HM o ar f g j h → zAg o ar h0 h → Z l M d mc ms Pz pc' L (vL r :: S) h kc ks) : Z l M d mc ms Pz pc L (As.reverse ++ .ref o :: S) h kc ks := by
  obtain ⟨hd, rfl⟩ := hd
  refine z_invV (ci := 8) (T := TX8) (N := 50) hd hc hn hH.1 (by rw [hcl]; rfl) (d' := d - 1) (by omega) (Nat.zero_le _) (Nat.zero_le _) hW (hM (d - 1) (by omega) h hH) (fun v h' hp => ?_)
  obtain ⟨f', g', j', hH', hA', r, rfl, hr, hq⟩ := hp
  exact K r f' g' j' h' hr hq hH' (hA.trans hA')
theorem zmk_callV {idx n n' : Nat} {As : List Value} {Q : mF → mA → mA → Prop} (hM : MM l o ar M' n' (.ref o :: As) f g j (PV Q)) (hd : zAt M 3 pc pc' (.invokevirtual idx)) (hc : zCV M.1.cls idx M' n) (hn : As.length = n) (hcl : M'.1.cls = RX8) (hH : HM o ar f g j h) (hA : zAg o ar h0 h) (hdd : n' + 1 ≤ d) (hW : (S.map fun v => v.category).sum ≤ 8)
    (K : ∀ (f : mF) (g j : mA) (h : zH), Q f g j → HM o ar f g j h → zAg o ar h0 h → Z l M d mc ms Pz pc' L S h kc ks) : Z l M d mc ms Pz pc L (As.reverse ++ .ref o :: S) h kc ks := by
  obtain ⟨hd, rfl⟩ := hd
  refine z_invV (ci := 8) (T := TX8) (N := 50) hd hc hn hH.1 (by rw [hcl]; rfl) (d' := d - 1) (by omega) (Nat.zero_le _) (Nat.zero_le _) hW (hM (d - 1) (by omega) h hH) (fun v h' hp => ?_)
  obtain ⟨f', g', j', hH', hA', rfl, hq⟩ := hp
  exact K f' g' j' h' hq hH' (hA.trans hA')
end MK
theorem HM.mv {o : Nat} {ar : Nat → Nat} {f : mF} {g j : mA} {h h' : zH} (H : HM o ar f g j h) (e1 : h' o = h o) (e2 : ∀ k, mTag k < 4 → h' (ar k) = h (ar k)) : HM o ar f g j h' :=
  ⟨e1.trans H.1, fun k hk => (e2 k hk).trans (H.2.1 k hk), H.2.2⟩
theorem HC.mv {E : cE} {f : mF} {g j : mA} {h h' : zH} (H : HC E f g j h) (e : ∀ k, cUse E k → h' (E.1 k) = h (E.1 k)) : HC E f g j h' := (H.hp.mv e).hc H.2.2.2.1 H.2.2.2.2.2.2.1.2
/-- no cell belongs to both -/
def Apt (E : cE) (o : Nat) (ar : Nat → Nat) : Prop := ∀ k, cUse E k → E.1 k ≠ o ∧ ∀ q, mTag q < 4 → E.1 k ≠ ar q
/-- the class's object (environment E) and the reference's (o, ar) -/
def BH (E : cE) (f : mF) (g j : mA) (o : Nat) (ar : Nat → Nat) (f2 : mF) (g2 j2 : mA) (h : zH) : Prop := HC E f g j h ∧ HM o ar f2 g2 j2 h ∧ Apt E o ar
theorem BH.cl {E : cE} {f f' : mF} {g j g' j' : mA} {o : Nat} {ar : Nat → Nat} {f2 : mF} {g2 j2 : mA} {h h' : zH} (B : BH E f g j o ar f2 g2 j2 h) (hH : HC E f' g' j' h') (hA : cAg E h h') : BH E f' g' j' o ar f2 g2 j2 h' :=
  ⟨hH, B.2.1.mv (hA o (fun k hk z => (B.2.2 k hk).1 z.symm)) (fun q hq => hA (ar q) (fun k hk z => (B.2.2 k hk).2 q hq z.symm)), B.2.2⟩
theorem BH.rf {E : cE} {f : mF} {g j : mA} {o : Nat} {ar : Nat → Nat} {f2 f2' : mF} {g2 j2 g2' j2' : mA} {h h' : zH} (B : BH E f g j o ar f2 g2 j2 h) (hH : HM o ar f2' g2' j2' h') (hA : zAg o ar h h') : BH E f g j o ar f2' g2' j2' h' :=
  ⟨B.1.mv (fun k hk => hA (E.1 k) (B.2.2 k hk).1 (fun q hq => (B.2.2 k hk).2 q hq)), hH, B.2.2⟩
/-- behind a call that made a node -/
theorem BH.nw {E E' : cE} {f f' : mF} {g j g' j' : mA} {o m b : Nat} {ar : Nat → Nat} {f2 : mF} {g2 j2 : mA} {h h' : zH} (B : BH E f g j o ar f2 g2 j2 h) (hH : HC E' f' g' j' h') (hY : YN E E' m b h) (hF : ∀ x, (∀ k, cUse E k → x ≠ E.1 k) → h x ≠ none → h' x = h x) : BH E' f' g' j' o ar f2 g2 j2 h' := by
  have ho : h o ≠ none := by rw [B.2.1.1]; intro z; cases z
  have hq : ∀ q, mTag q < 4 → h (ar q) ≠ none := fun q hq => by rw [B.2.1.2.1 q hq]; intro z; cases z
  refine ⟨hH, B.2.1.mv (hF o (fun k hk z => (B.2.2 k hk).1 z.symm) ho) (fun q hq' => hF (ar q) (fun k hk z => (B.2.2 k hk).2 q hq' z.symm) (hq q hq')), fun k hk => ?_⟩
  rcases hY.2.2.2.2.2 k hk with ⟨z1, z2⟩ | z
  · rw [z2]; exact B.2.2 k z1
  · exact ⟨fun e => ho (by rw [← e]; exact z), fun q hq' e => hq q hq' (by rw [← e]; exact z)⟩
/-- both are young: the class's made first, then the reference's -/
theorem BH.young {E : cE} {h0 h1 h2 h3 : zH} {a o : Nat} {ar : Nat → Nat} (Y : YF h0 a E h1) (ho : h1 o = none) (e2 : ∀ x, x ≠ o → h2 x = h1 x) (hM : HM o ar fM gM (fun _ _ => 0) h3) (hn : ∀ k, mTag k < 4 → h2 (ar k) = none) (hF : ∀ x, x ≠ o → (∀ k, mTag k < 4 → x ≠ ar k) → h3 x = h2 x) : BH E fI gI (fun _ _ => 0) o ar fM gM (fun _ _ => 0) h3 := by
  have hs : ∀ k, cUse E k → E.1 k ≠ o ∧ ∀ q, mTag q < 4 → E.1 k ≠ ar q := fun k hk => by
    obtain ⟨e, he⟩ := Y.1.hp.some hk
    have n1 : E.1 k ≠ o := (ne_so he ho).symm
    exact ⟨n1, fun q hq z => by have h5 := hn q hq; rw [← z, e2 _ n1, he] at h5; cases h5⟩
  exact ⟨Y.1.mv (fun k hk => (hF _ (hs k hk).1 (hs k hk).2).trans (e2 _ (hs k hk).1)), hM, hs⟩
