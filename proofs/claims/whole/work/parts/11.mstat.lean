/-! ===== booleans of the machine, arity by arity; the reference's static methods ===== -/
def b2i (p : Prop) [Decidable p] : Int := if p then 1 else 0
theorem b2i_t {p : Prop} [Decidable p] (h : p) : b2i p = 1 := if_pos h
theorem b2i_f {p : Prop} [Decidable p] (h : ¬ p) : b2i p = 0 := if_neg h
theorem b2i_01 (p : Prop) [Decidable p] : b2i p = 0 ∨ b2i p = 1 := by unfold b2i; split <;> simp
theorem b2i_in (p : Prop) [Decidable p] : zIn (b2i p) := by rcases b2i_01 p with h | h <;> rw [h] <;> decide
theorem b2i_0 {p : Prop} [Decidable p] : b2i p = 0 ↔ ¬ p := by unfold b2i; split <;> simp_all
theorem b2i_1 {p : Prop} [Decidable p] : b2i p = 1 ↔ p := by unfold b2i; split <;> simp_all
theorem b2i_ne {p : Prop} [Decidable p] : b2i p ≠ 0 ↔ p := by unfold b2i; split <;> simp_all
section BR
variable {l : Launch} {M M' : zM} {d mc ms kc ks : Nat} {Pz : Option Value → zH → Prop} {pc pc' : Nat} {L : List (Option Value)} {S : List Value} {h h0 : zH} {o : Nat} {ar : Nat → Nat} {f : mF} {g j : mA}
theorem z_if_eqB {p : Prop} [Decidable p] {off : Int} {tgt : Nat} (hd : zAt M 3 pc pc' (.ifCond .eq off)) (ht : (pc : Int) + off = (tgt : Int)) (kt : ¬ p → Z l M d mc ms Pz tgt L S h kc ks) (kf : p → Z l M d mc ms Pz pc' L S h kc ks) : Z l M d mc ms Pz pc L (vI (b2i p) :: S) h kc ks := z_if_eq hd ht (b2i_in p) (fun q => kt (b2i_0.mp q)) (fun q => kf (b2i_ne.mp q))
theorem z_if_neB {p : Prop} [Decidable p] {off : Int} {tgt : Nat} (hd : zAt M 3 pc pc' (.ifCond .ne off)) (ht : (pc : Int) + off = (tgt : Int)) (kt : p → Z l M d mc ms Pz tgt L S h kc ks) (kf : ¬ p → Z l M d mc ms Pz pc' L S h kc ks) : Z l M d mc ms Pz pc L (vI (b2i p) :: S) h kc ks := z_if_ne hd ht (b2i_in p) (fun q => kt (b2i_ne.mp q)) (fun q => kf (b2i_0.mp q))
/-- the reference's method that changes nothing -/
def MMF (l : Launch) (o : Nat) (ar : Nat → Nat) (M : zM) (n : Nat) (vs : List Value) (f : mF) (g j : mA) (r : Int) (F : mF) (G J : mA) : Prop := MM l o ar M n vs f g j (PI (fun x f' g' j' => x = r ∧ f' = F ∧ g' = G ∧ j' = J))
/-- a void method with an explicit end -/
def MMW (l : Launch) (o : Nat) (ar : Nat → Nat) (M : zM) (n : Nat) (vs : List Value) (f : mF) (g j : mA) (F : mF) (G J : mA) : Prop := MM l o ar M n vs f g j (PV (fun f' g' j' => f' = F ∧ g' = G ∧ j' = J))
def MMP (l : Launch) (o : Nat) (ar : Nat → Nat) (M : zM) (n : Nat) (vs : List Value) (f : mF) (g j : mA) (r : Int) : Prop := MM l o ar M n vs f g j (PI (fun x f' g' j' => x = r ∧ f' = f ∧ g' = g ∧ j' = j))
theorem zm_callI0 {idx n n' : Nat} {Q : Int → mF → mA → mA → Prop} (hM : MM l o ar M' n' [.ref o] f g j (PI Q)) (hd : zAt M 3 pc pc' (.invokevirtual idx)) (hc : zCV M.1.cls idx M' n) (hn : 0 = n) (hcl : M'.1.cls = RX8) (hH : HM o ar f g j h) (hA : zAg o ar h0 h) (hdd : n' + 1 ≤ d) (hW : (S.map fun v => v.category).sum ≤ 8) (K : ∀ (r : Int) (f : mF) (g j : mA) (h : zH), zIn r → Q r f g j → HM o ar f g j h → zAg o ar h0 h → Z l M d 0 0 Pz pc' L (vI r :: S) h 0 0) : Z l M d 0 0 Pz pc L (.ref o :: S) h 0 0 := zm_callI (As := []) hM hd hc hn hcl hH hA hdd hW K
theorem zm_callL0 {idx n n' : Nat} {Q : Int → mF → mA → mA → Prop} (hM : MM l o ar M' n' [.ref o] f g j (PL Q)) (hd : zAt M 3 pc pc' (.invokevirtual idx)) (hc : zCV M.1.cls idx M' n) (hn : 0 = n) (hcl : M'.1.cls = RX8) (hH : HM o ar f g j h) (hA : zAg o ar h0 h) (hdd : n' + 1 ≤ d) (hW : (S.map fun v => v.category).sum ≤ 8) (K : ∀ (r : Int) (f : mF) (g j : mA) (h : zH), zInL r → Q r f g j → HM o ar f g j h → zAg o ar h0 h → Z l M d 0 0 Pz pc' L (vL r :: S) h 0 0) : Z l M d 0 0 Pz pc L (.ref o :: S) h 0 0 := zm_callL (As := []) hM hd hc hn hcl hH hA hdd hW K
theorem zm_callV0 {idx n n' : Nat} {Q : mF → mA → mA → Prop} (hM : MM l o ar M' n' [.ref o] f g j (PV Q)) (hd : zAt M 3 pc pc' (.invokevirtual idx)) (hc : zCV M.1.cls idx M' n) (hn : 0 = n) (hcl : M'.1.cls = RX8) (hH : HM o ar f g j h) (hA : zAg o ar h0 h) (hdd : n' + 1 ≤ d) (hW : (S.map fun v => v.category).sum ≤ 8) (K : ∀ (f : mF) (g j : mA) (h : zH), Q f g j → HM o ar f g j h → zAg o ar h0 h → Z l M d 0 0 Pz pc' L (S) h 0 0) : Z l M d 0 0 Pz pc L (.ref o :: S) h 0 0 := zm_callV (As := []) hM hd hc hn hcl hH hA hdd hW K
theorem zm_callF0 {idx n n' : Nat} {r : Int} {F : mF} {G J : mA} (hM : MMF l o ar M' n' [.ref o] f g j r F G J) (hd : zAt M 3 pc pc' (.invokevirtual idx)) (hc : zCV M.1.cls idx M' n) (hn : 0 = n) (hcl : M'.1.cls = RX8) (hH : HM o ar f g j h) (hA : zAg o ar h0 h) (hdd : n' + 1 ≤ d) (hW : (S.map fun v => v.category).sum ≤ 8) (K : ∀ (h : zH), zIn r → HM o ar F G J h → zAg o ar h0 h → Z l M d 0 0 Pz pc' L (vI r :: S) h 0 0) : Z l M d 0 0 Pz pc L (.ref o :: S) h 0 0 := by
  refine zm_callI0 hM hd hc hn hcl hH hA hdd hW (fun r' f' g' j' h' hr q hH' hA' => ?_)
  obtain ⟨e1, e2, e3, e4⟩ := q
  rw [e2, e3, e4] at hH'
  rw [e1] at hr ⊢
  exact K h' hr hH' hA'
theorem zm_callP0 {idx n n' : Nat} {r : Int} (hM : MMP l o ar M' n' [.ref o] f g j r) (hd : zAt M 3 pc pc' (.invokevirtual idx)) (hc : zCV M.1.cls idx M' n) (hn : 0 = n) (hcl : M'.1.cls = RX8) (hH : HM o ar f g j h) (hA : zAg o ar h0 h) (hdd : n' + 1 ≤ d) (hW : (S.map fun v => v.category).sum ≤ 8) (K : ∀ (h : zH), zIn r → HM o ar f g j h → zAg o ar h0 h → Z l M d 0 0 Pz pc' L (vI r :: S) h 0 0) : Z l M d 0 0 Pz pc L (.ref o :: S) h 0 0 := by
  refine zm_callI0 hM hd hc hn hcl hH hA hdd hW (fun r' f' g' j' h' hr q hH' hA' => ?_)
  obtain ⟨e1, e2, e3, e4⟩ := q
  rw [e2, e3, e4] at hH'
  rw [e1] at hr ⊢
  exact K h' hr hH' hA'
theorem zm_callW0 {idx n n' : Nat} {F : mF} {G J : mA} (hM : MMW l o ar M' n' [.ref o] f g j F G J) (hd : zAt M 3 pc pc' (.invokevirtual idx)) (hc : zCV M.1.cls idx M' n) (hn : 0 = n) (hcl : M'.1.cls = RX8) (hH : HM o ar f g j h) (hA : zAg o ar h0 h) (hdd : n' + 1 ≤ d) (hW : (S.map fun v => v.category).sum ≤ 8) (K : ∀ (h : zH), HM o ar F G J h → zAg o ar h0 h → Z l M d 0 0 Pz pc' L S h 0 0) : Z l M d 0 0 Pz pc L (.ref o :: S) h 0 0 := by
  refine zm_callV0 hM hd hc hn hcl hH hA hdd hW (fun f' g' j' h' q hH' hA' => ?_)
  obtain ⟨e2, e3, e4⟩ := q
  rw [e2, e3, e4] at hH'
  exact K h' hH' hA'
theorem zm_callI1 {idx n n' : Nat} {a0 : Value} {Q : Int → mF → mA → mA → Prop} (hM : MM l o ar M' n' [.ref o, a0] f g j (PI Q)) (hd : zAt M 3 pc pc' (.invokevirtual idx)) (hc : zCV M.1.cls idx M' n) (hn : 1 = n) (hcl : M'.1.cls = RX8) (hH : HM o ar f g j h) (hA : zAg o ar h0 h) (hdd : n' + 1 ≤ d) (hW : (S.map fun v => v.category).sum ≤ 8) (K : ∀ (r : Int) (f : mF) (g j : mA) (h : zH), zIn r → Q r f g j → HM o ar f g j h → zAg o ar h0 h → Z l M d 0 0 Pz pc' L (vI r :: S) h 0 0) : Z l M d 0 0 Pz pc L (a0 :: .ref o :: S) h 0 0 := zm_callI (As := [a0]) hM hd hc hn hcl hH hA hdd hW K
theorem zm_callL1 {idx n n' : Nat} {a0 : Value} {Q : Int → mF → mA → mA → Prop} (hM : MM l o ar M' n' [.ref o, a0] f g j (PL Q)) (hd : zAt M 3 pc pc' (.invokevirtual idx)) (hc : zCV M.1.cls idx M' n) (hn : 1 = n) (hcl : M'.1.cls = RX8) (hH : HM o ar f g j h) (hA : zAg o ar h0 h) (hdd : n' + 1 ≤ d) (hW : (S.map fun v => v.category).sum ≤ 8) (K : ∀ (r : Int) (f : mF) (g j : mA) (h : zH), zInL r → Q r f g j → HM o ar f g j h → zAg o ar h0 h → Z l M d 0 0 Pz pc' L (vL r :: S) h 0 0) : Z l M d 0 0 Pz pc L (a0 :: .ref o :: S) h 0 0 := zm_callL (As := [a0]) hM hd hc hn hcl hH hA hdd hW K
theorem zm_callV1 {idx n n' : Nat} {a0 : Value} {Q : mF → mA → mA → Prop} (hM : MM l o ar M' n' [.ref o, a0] f g j (PV Q)) (hd : zAt M 3 pc pc' (.invokevirtual idx)) (hc : zCV M.1.cls idx M' n) (hn : 1 = n) (hcl : M'.1.cls = RX8) (hH : HM o ar f g j h) (hA : zAg o ar h0 h) (hdd : n' + 1 ≤ d) (hW : (S.map fun v => v.category).sum ≤ 8) (K : ∀ (f : mF) (g j : mA) (h : zH), Q f g j → HM o ar f g j h → zAg o ar h0 h → Z l M d 0 0 Pz pc' L (S) h 0 0) : Z l M d 0 0 Pz pc L (a0 :: .ref o :: S) h 0 0 := zm_callV (As := [a0]) hM hd hc hn hcl hH hA hdd hW K
theorem zm_callF1 {idx n n' : Nat} {a0 : Value} {r : Int} {F : mF} {G J : mA} (hM : MMF l o ar M' n' [.ref o, a0] f g j r F G J) (hd : zAt M 3 pc pc' (.invokevirtual idx)) (hc : zCV M.1.cls idx M' n) (hn : 1 = n) (hcl : M'.1.cls = RX8) (hH : HM o ar f g j h) (hA : zAg o ar h0 h) (hdd : n' + 1 ≤ d) (hW : (S.map fun v => v.category).sum ≤ 8) (K : ∀ (h : zH), zIn r → HM o ar F G J h → zAg o ar h0 h → Z l M d 0 0 Pz pc' L (vI r :: S) h 0 0) : Z l M d 0 0 Pz pc L (a0 :: .ref o :: S) h 0 0 := by
  refine zm_callI1 hM hd hc hn hcl hH hA hdd hW (fun r' f' g' j' h' hr q hH' hA' => ?_)
  obtain ⟨e1, e2, e3, e4⟩ := q
  rw [e2, e3, e4] at hH'
  rw [e1] at hr ⊢
  exact K h' hr hH' hA'
theorem zm_callP1 {idx n n' : Nat} {a0 : Value} {r : Int} (hM : MMP l o ar M' n' [.ref o, a0] f g j r) (hd : zAt M 3 pc pc' (.invokevirtual idx)) (hc : zCV M.1.cls idx M' n) (hn : 1 = n) (hcl : M'.1.cls = RX8) (hH : HM o ar f g j h) (hA : zAg o ar h0 h) (hdd : n' + 1 ≤ d) (hW : (S.map fun v => v.category).sum ≤ 8) (K : ∀ (h : zH), zIn r → HM o ar f g j h → zAg o ar h0 h → Z l M d 0 0 Pz pc' L (vI r :: S) h 0 0) : Z l M d 0 0 Pz pc L (a0 :: .ref o :: S) h 0 0 := by
  refine zm_callI1 hM hd hc hn hcl hH hA hdd hW (fun r' f' g' j' h' hr q hH' hA' => ?_)
  obtain ⟨e1, e2, e3, e4⟩ := q
  rw [e2, e3, e4] at hH'
  rw [e1] at hr ⊢
  exact K h' hr hH' hA'
theorem zm_callW1 {idx n n' : Nat} {a0 : Value} {F : mF} {G J : mA} (hM : MMW l o ar M' n' [.ref o, a0] f g j F G J) (hd : zAt M 3 pc pc' (.invokevirtual idx)) (hc : zCV M.1.cls idx M' n) (hn : 1 = n) (hcl : M'.1.cls = RX8) (hH : HM o ar f g j h) (hA : zAg o ar h0 h) (hdd : n' + 1 ≤ d) (hW : (S.map fun v => v.category).sum ≤ 8) (K : ∀ (h : zH), HM o ar F G J h → zAg o ar h0 h → Z l M d 0 0 Pz pc' L S h 0 0) : Z l M d 0 0 Pz pc L (a0 :: .ref o :: S) h 0 0 := by
  refine zm_callV1 hM hd hc hn hcl hH hA hdd hW (fun f' g' j' h' q hH' hA' => ?_)
  obtain ⟨e2, e3, e4⟩ := q
  rw [e2, e3, e4] at hH'
  exact K h' hH' hA'
theorem zs_call1 {idx n n' : Nat} {a0 : Value} {r : Int} (hM : SI l M' n' [a0] r) (hd : zAt M 3 pc pc' (.invokestatic idx)) (hc : zCS M.1.cls idx M' n) (hn : 1 = n) (hdd : n' + 1 ≤ d) (hW : (S.map fun v => v.category).sum ≤ 8) (K : zIn r → Z l M d mc ms Pz pc' L (vI r :: S) h kc ks) : Z l M d mc ms Pz pc L (a0 :: S) h kc ks := zs_call (As := [a0]) hM hd hc hn hdd hW K
theorem zs_callN1 {idx n n' : Nat} {a0 : Value} {r : Int} (hM : SI l M' n' [a0] r) (hd : zAt M 3 pc pc' (.invokestatic idx)) (hc : zCSN M.1.cls idx M' n) (hn : 1 = n) (hdd : n' + 1 ≤ d) (hW : (S.map fun v => v.category).sum ≤ 8) (K : zIn r → Z l M d mc ms Pz pc' L (vI r :: S) h kc ks) : Z l M d mc ms Pz pc L (a0 :: S) h kc ks := zs_callN (As := [a0]) hM hd hc hn hdd hW K
theorem zm_callI2 {idx n n' : Nat} {a0 a1 : Value} {Q : Int → mF → mA → mA → Prop} (hM : MM l o ar M' n' [.ref o, a0, a1] f g j (PI Q)) (hd : zAt M 3 pc pc' (.invokevirtual idx)) (hc : zCV M.1.cls idx M' n) (hn : 2 = n) (hcl : M'.1.cls = RX8) (hH : HM o ar f g j h) (hA : zAg o ar h0 h) (hdd : n' + 1 ≤ d) (hW : (S.map fun v => v.category).sum ≤ 8) (K : ∀ (r : Int) (f : mF) (g j : mA) (h : zH), zIn r → Q r f g j → HM o ar f g j h → zAg o ar h0 h → Z l M d 0 0 Pz pc' L (vI r :: S) h 0 0) : Z l M d 0 0 Pz pc L (a1 :: a0 :: .ref o :: S) h 0 0 := zm_callI (As := [a0, a1]) hM hd hc hn hcl hH hA hdd hW K
theorem zm_callL2 {idx n n' : Nat} {a0 a1 : Value} {Q : Int → mF → mA → mA → Prop} (hM : MM l o ar M' n' [.ref o, a0, a1] f g j (PL Q)) (hd : zAt M 3 pc pc' (.invokevirtual idx)) (hc : zCV M.1.cls idx M' n) (hn : 2 = n) (hcl : M'.1.cls = RX8) (hH : HM o ar f g j h) (hA : zAg o ar h0 h) (hdd : n' + 1 ≤ d) (hW : (S.map fun v => v.category).sum ≤ 8) (K : ∀ (r : Int) (f : mF) (g j : mA) (h : zH), zInL r → Q r f g j → HM o ar f g j h → zAg o ar h0 h → Z l M d 0 0 Pz pc' L (vL r :: S) h 0 0) : Z l M d 0 0 Pz pc L (a1 :: a0 :: .ref o :: S) h 0 0 := zm_callL (As := [a0, a1]) hM hd hc hn hcl hH hA hdd hW K
theorem zm_callV2 {idx n n' : Nat} {a0 a1 : Value} {Q : mF → mA → mA → Prop} (hM : MM l o ar M' n' [.ref o, a0, a1] f g j (PV Q)) (hd : zAt M 3 pc pc' (.invokevirtual idx)) (hc : zCV M.1.cls idx M' n) (hn : 2 = n) (hcl : M'.1.cls = RX8) (hH : HM o ar f g j h) (hA : zAg o ar h0 h) (hdd : n' + 1 ≤ d) (hW : (S.map fun v => v.category).sum ≤ 8) (K : ∀ (f : mF) (g j : mA) (h : zH), Q f g j → HM o ar f g j h → zAg o ar h0 h → Z l M d 0 0 Pz pc' L (S) h 0 0) : Z l M d 0 0 Pz pc L (a1 :: a0 :: .ref o :: S) h 0 0 := zm_callV (As := [a0, a1]) hM hd hc hn hcl hH hA hdd hW K
theorem zm_callF2 {idx n n' : Nat} {a0 a1 : Value} {r : Int} {F : mF} {G J : mA} (hM : MMF l o ar M' n' [.ref o, a0, a1] f g j r F G J) (hd : zAt M 3 pc pc' (.invokevirtual idx)) (hc : zCV M.1.cls idx M' n) (hn : 2 = n) (hcl : M'.1.cls = RX8) (hH : HM o ar f g j h) (hA : zAg o ar h0 h) (hdd : n' + 1 ≤ d) (hW : (S.map fun v => v.category).sum ≤ 8) (K : ∀ (h : zH), zIn r → HM o ar F G J h → zAg o ar h0 h → Z l M d 0 0 Pz pc' L (vI r :: S) h 0 0) : Z l M d 0 0 Pz pc L (a1 :: a0 :: .ref o :: S) h 0 0 := by
  refine zm_callI2 hM hd hc hn hcl hH hA hdd hW (fun r' f' g' j' h' hr q hH' hA' => ?_)
  obtain ⟨e1, e2, e3, e4⟩ := q
  rw [e2, e3, e4] at hH'
  rw [e1] at hr ⊢
  exact K h' hr hH' hA'
theorem zm_callP2 {idx n n' : Nat} {a0 a1 : Value} {r : Int} (hM : MMP l o ar M' n' [.ref o, a0, a1] f g j r) (hd : zAt M 3 pc pc' (.invokevirtual idx)) (hc : zCV M.1.cls idx M' n) (hn : 2 = n) (hcl : M'.1.cls = RX8) (hH : HM o ar f g j h) (hA : zAg o ar h0 h) (hdd : n' + 1 ≤ d) (hW : (S.map fun v => v.category).sum ≤ 8) (K : ∀ (h : zH), zIn r → HM o ar f g j h → zAg o ar h0 h → Z l M d 0 0 Pz pc' L (vI r :: S) h 0 0) : Z l M d 0 0 Pz pc L (a1 :: a0 :: .ref o :: S) h 0 0 := by
  refine zm_callI2 hM hd hc hn hcl hH hA hdd hW (fun r' f' g' j' h' hr q hH' hA' => ?_)
  obtain ⟨e1, e2, e3, e4⟩ := q
  rw [e2, e3, e4] at hH'
  rw [e1] at hr ⊢
  exact K h' hr hH' hA'
theorem zm_callW2 {idx n n' : Nat} {a0 a1 : Value} {F : mF} {G J : mA} (hM : MMW l o ar M' n' [.ref o, a0, a1] f g j F G J) (hd : zAt M 3 pc pc' (.invokevirtual idx)) (hc : zCV M.1.cls idx M' n) (hn : 2 = n) (hcl : M'.1.cls = RX8) (hH : HM o ar f g j h) (hA : zAg o ar h0 h) (hdd : n' + 1 ≤ d) (hW : (S.map fun v => v.category).sum ≤ 8) (K : ∀ (h : zH), HM o ar F G J h → zAg o ar h0 h → Z l M d 0 0 Pz pc' L S h 0 0) : Z l M d 0 0 Pz pc L (a1 :: a0 :: .ref o :: S) h 0 0 := by
  refine zm_callV2 hM hd hc hn hcl hH hA hdd hW (fun f' g' j' h' q hH' hA' => ?_)
  obtain ⟨e2, e3, e4⟩ := q
  rw [e2, e3, e4] at hH'
  exact K h' hH' hA'
theorem zs_call2 {idx n n' : Nat} {a0 a1 : Value} {r : Int} (hM : SI l M' n' [a0, a1] r) (hd : zAt M 3 pc pc' (.invokestatic idx)) (hc : zCS M.1.cls idx M' n) (hn : 2 = n) (hdd : n' + 1 ≤ d) (hW : (S.map fun v => v.category).sum ≤ 8) (K : zIn r → Z l M d mc ms Pz pc' L (vI r :: S) h kc ks) : Z l M d mc ms Pz pc L (a1 :: a0 :: S) h kc ks := zs_call (As := [a0, a1]) hM hd hc hn hdd hW K
theorem zs_callN2 {idx n n' : Nat} {a0 a1 : Value} {r : Int} (hM : SI l M' n' [a0, a1] r) (hd : zAt M 3 pc pc' (.invokestatic idx)) (hc : zCSN M.1.cls idx M' n) (hn : 2 = n) (hdd : n' + 1 ≤ d) (hW : (S.map fun v => v.category).sum ≤ 8) (K : zIn r → Z l M d mc ms Pz pc' L (vI r :: S) h kc ks) : Z l M d mc ms Pz pc L (a1 :: a0 :: S) h kc ks := zs_callN (As := [a0, a1]) hM hd hc hn hdd hW K
theorem zm_callI3 {idx n n' : Nat} {a0 a1 a2 : Value} {Q : Int → mF → mA → mA → Prop} (hM : MM l o ar M' n' [.ref o, a0, a1, a2] f g j (PI Q)) (hd : zAt M 3 pc pc' (.invokevirtual idx)) (hc : zCV M.1.cls idx M' n) (hn : 3 = n) (hcl : M'.1.cls = RX8) (hH : HM o ar f g j h) (hA : zAg o ar h0 h) (hdd : n' + 1 ≤ d) (hW : (S.map fun v => v.category).sum ≤ 8) (K : ∀ (r : Int) (f : mF) (g j : mA) (h : zH), zIn r → Q r f g j → HM o ar f g j h → zAg o ar h0 h → Z l M d 0 0 Pz pc' L (vI r :: S) h 0 0) : Z l M d 0 0 Pz pc L (a2 :: a1 :: a0 :: .ref o :: S) h 0 0 := zm_callI (As := [a0, a1, a2]) hM hd hc hn hcl hH hA hdd hW K
theorem zm_callL3 {idx n n' : Nat} {a0 a1 a2 : Value} {Q : Int → mF → mA → mA → Prop} (hM : MM l o ar M' n' [.ref o, a0, a1, a2] f g j (PL Q)) (hd : zAt M 3 pc pc' (.invokevirtual idx)) (hc : zCV M.1.cls idx M' n) (hn : 3 = n) (hcl : M'.1.cls = RX8) (hH : HM o ar f g j h) (hA : zAg o ar h0 h) (hdd : n' + 1 ≤ d) (hW : (S.map fun v => v.category).sum ≤ 8) (K : ∀ (r : Int) (f : mF) (g j : mA) (h : zH), zInL r → Q r f g j → HM o ar f g j h → zAg o ar h0 h → Z l M d 0 0 Pz pc' L (vL r :: S) h 0 0) : Z l M d 0 0 Pz pc L (a2 :: a1 :: a0 :: .ref o :: S) h 0 0 := zm_callL (As := [a0, a1, a2]) hM hd hc hn hcl hH hA hdd hW K
theorem zm_callV3 {idx n n' : Nat} {a0 a1 a2 : Value} {Q : mF → mA → mA → Prop} (hM : MM l o ar M' n' [.ref o, a0, a1, a2] f g j (PV Q)) (hd : zAt M 3 pc pc' (.invokevirtual idx)) (hc : zCV M.1.cls idx M' n) (hn : 3 = n) (hcl : M'.1.cls = RX8) (hH : HM o ar f g j h) (hA : zAg o ar h0 h) (hdd : n' + 1 ≤ d) (hW : (S.map fun v => v.category).sum ≤ 8) (K : ∀ (f : mF) (g j : mA) (h : zH), Q f g j → HM o ar f g j h → zAg o ar h0 h → Z l M d 0 0 Pz pc' L (S) h 0 0) : Z l M d 0 0 Pz pc L (a2 :: a1 :: a0 :: .ref o :: S) h 0 0 := zm_callV (As := [a0, a1, a2]) hM hd hc hn hcl hH hA hdd hW K
theorem zm_callF3 {idx n n' : Nat} {a0 a1 a2 : Value} {r : Int} {F : mF} {G J : mA} (hM : MMF l o ar M' n' [.ref o, a0, a1, a2] f g j r F G J) (hd : zAt M 3 pc pc' (.invokevirtual idx)) (hc : zCV M.1.cls idx M' n) (hn : 3 = n) (hcl : M'.1.cls = RX8) (hH : HM o ar f g j h) (hA : zAg o ar h0 h) (hdd : n' + 1 ≤ d) (hW : (S.map fun v => v.category).sum ≤ 8) (K : ∀ (h : zH), zIn r → HM o ar F G J h → zAg o ar h0 h → Z l M d 0 0 Pz pc' L (vI r :: S) h 0 0) : Z l M d 0 0 Pz pc L (a2 :: a1 :: a0 :: .ref o :: S) h 0 0 := by
  refine zm_callI3 hM hd hc hn hcl hH hA hdd hW (fun r' f' g' j' h' hr q hH' hA' => ?_)
  obtain ⟨e1, e2, e3, e4⟩ := q
  rw [e2, e3, e4] at hH'
  rw [e1] at hr ⊢
  exact K h' hr hH' hA'
theorem zm_callP3 {idx n n' : Nat} {a0 a1 a2 : Value} {r : Int} (hM : MMP l o ar M' n' [.ref o, a0, a1, a2] f g j r) (hd : zAt M 3 pc pc' (.invokevirtual idx)) (hc : zCV M.1.cls idx M' n) (hn : 3 = n) (hcl : M'.1.cls = RX8) (hH : HM o ar f g j h) (hA : zAg o ar h0 h) (hdd : n' + 1 ≤ d) (hW : (S.map fun v => v.category).sum ≤ 8) (K : ∀ (h : zH), zIn r → HM o ar f g j h → zAg o ar h0 h → Z l M d 0 0 Pz pc' L (vI r :: S) h 0 0) : Z l M d 0 0 Pz pc L (a2 :: a1 :: a0 :: .ref o :: S) h 0 0 := by
  refine zm_callI3 hM hd hc hn hcl hH hA hdd hW (fun r' f' g' j' h' hr q hH' hA' => ?_)
  obtain ⟨e1, e2, e3, e4⟩ := q
  rw [e2, e3, e4] at hH'
  rw [e1] at hr ⊢
  exact K h' hr hH' hA'
theorem zm_callW3 {idx n n' : Nat} {a0 a1 a2 : Value} {F : mF} {G J : mA} (hM : MMW l o ar M' n' [.ref o, a0, a1, a2] f g j F G J) (hd : zAt M 3 pc pc' (.invokevirtual idx)) (hc : zCV M.1.cls idx M' n) (hn : 3 = n) (hcl : M'.1.cls = RX8) (hH : HM o ar f g j h) (hA : zAg o ar h0 h) (hdd : n' + 1 ≤ d) (hW : (S.map fun v => v.category).sum ≤ 8) (K : ∀ (h : zH), HM o ar F G J h → zAg o ar h0 h → Z l M d 0 0 Pz pc' L S h 0 0) : Z l M d 0 0 Pz pc L (a2 :: a1 :: a0 :: .ref o :: S) h 0 0 := by
  refine zm_callV3 hM hd hc hn hcl hH hA hdd hW (fun f' g' j' h' q hH' hA' => ?_)
  obtain ⟨e2, e3, e4⟩ := q
  rw [e2, e3, e4] at hH'
  exact K h' hH' hA'
theorem zs_call3 {idx n n' : Nat} {a0 a1 a2 : Value} {r : Int} (hM : SI l M' n' [a0, a1, a2] r) (hd : zAt M 3 pc pc' (.invokestatic idx)) (hc : zCS M.1.cls idx M' n) (hn : 3 = n) (hdd : n' + 1 ≤ d) (hW : (S.map fun v => v.category).sum ≤ 8) (K : zIn r → Z l M d mc ms Pz pc' L (vI r :: S) h kc ks) : Z l M d mc ms Pz pc L (a2 :: a1 :: a0 :: S) h kc ks := zs_call (As := [a0, a1, a2]) hM hd hc hn hdd hW K
theorem zs_callN3 {idx n n' : Nat} {a0 a1 a2 : Value} {r : Int} (hM : SI l M' n' [a0, a1, a2] r) (hd : zAt M 3 pc pc' (.invokestatic idx)) (hc : zCSN M.1.cls idx M' n) (hn : 3 = n) (hdd : n' + 1 ≤ d) (hW : (S.map fun v => v.category).sum ≤ 8) (K : zIn r → Z l M d mc ms Pz pc' L (vI r :: S) h kc ks) : Z l M d mc ms Pz pc L (a2 :: a1 :: a0 :: S) h kc ks := zs_callN (As := [a0, a1, a2]) hM hd hc hn hdd hW K
theorem zm_callI4 {idx n n' : Nat} {a0 a1 a2 a3 : Value} {Q : Int → mF → mA → mA → Prop} (hM : MM l o ar M' n' [.ref o, a0, a1, a2, a3] f g j (PI Q)) (hd : zAt M 3 pc pc' (.invokevirtual idx)) (hc : zCV M.1.cls idx M' n) (hn : 4 = n) (hcl : M'.1.cls = RX8) (hH : HM o ar f g j h) (hA : zAg o ar h0 h) (hdd : n' + 1 ≤ d) (hW : (S.map fun v => v.category).sum ≤ 8) (K : ∀ (r : Int) (f : mF) (g j : mA) (h : zH), zIn r → Q r f g j → HM o ar f g j h → zAg o ar h0 h → Z l M d 0 0 Pz pc' L (vI r :: S) h 0 0) : Z l M d 0 0 Pz pc L (a3 :: a2 :: a1 :: a0 :: .ref o :: S) h 0 0 := zm_callI (As := [a0, a1, a2, a3]) hM hd hc hn hcl hH hA hdd hW K
theorem zm_callL4 {idx n n' : Nat} {a0 a1 a2 a3 : Value} {Q : Int → mF → mA → mA → Prop} (hM : MM l o ar M' n' [.ref o, a0, a1, a2, a3] f g j (PL Q)) (hd : zAt M 3 pc pc' (.invokevirtual idx)) (hc : zCV M.1.cls idx M' n) (hn : 4 = n) (hcl : M'.1.cls = RX8) (hH : HM o ar f g j h) (hA : zAg o ar h0 h) (hdd : n' + 1 ≤ d) (hW : (S.map fun v => v.category).sum ≤ 8) (K : ∀ (r : Int) (f : mF) (g j : mA) (h : zH), zInL r → Q r f g j → HM o ar f g j h → zAg o ar h0 h → Z l M d 0 0 Pz pc' L (vL r :: S) h 0 0) : Z l M d 0 0 Pz pc L (a3 :: a2 :: a1 :: a0 :: .ref o :: S) h 0 0 := zm_callL (As := [a0, a1, a2, a3]) hM hd hc hn hcl hH hA hdd hW K
theorem zm_callV4 {idx n n' : Nat} {a0 a1 a2 a3 : Value} {Q : mF → mA → mA → Prop} (hM : MM l o ar M' n' [.ref o, a0, a1, a2, a3] f g j (PV Q)) (hd : zAt M 3 pc pc' (.invokevirtual idx)) (hc : zCV M.1.cls idx M' n) (hn : 4 = n) (hcl : M'.1.cls = RX8) (hH : HM o ar f g j h) (hA : zAg o ar h0 h) (hdd : n' + 1 ≤ d) (hW : (S.map fun v => v.category).sum ≤ 8) (K : ∀ (f : mF) (g j : mA) (h : zH), Q f g j → HM o ar f g j h → zAg o ar h0 h → Z l M d 0 0 Pz pc' L (S) h 0 0) : Z l M d 0 0 Pz pc L (a3 :: a2 :: a1 :: a0 :: .ref o :: S) h 0 0 := zm_callV (As := [a0, a1, a2, a3]) hM hd hc hn hcl hH hA hdd hW K
theorem zm_callF4 {idx n n' : Nat} {a0 a1 a2 a3 : Value} {r : Int} {F : mF} {G J : mA} (hM : MMF l o ar M' n' [.ref o, a0, a1, a2, a3] f g j r F G J) (hd : zAt M 3 pc pc' (.invokevirtual idx)) (hc : zCV M.1.cls idx M' n) (hn : 4 = n) (hcl : M'.1.cls = RX8) (hH : HM o ar f g j h) (hA : zAg o ar h0 h) (hdd : n' + 1 ≤ d) (hW : (S.map fun v => v.category).sum ≤ 8) (K : ∀ (h : zH), zIn r → HM o ar F G J h → zAg o ar h0 h → Z l M d 0 0 Pz pc' L (vI r :: S) h 0 0) : Z l M d 0 0 Pz pc L (a3 :: a2 :: a1 :: a0 :: .ref o :: S) h 0 0 := by
  refine zm_callI4 hM hd hc hn hcl hH hA hdd hW (fun r' f' g' j' h' hr q hH' hA' => ?_)
  obtain ⟨e1, e2, e3, e4⟩ := q
  rw [e2, e3, e4] at hH'
  rw [e1] at hr ⊢
  exact K h' hr hH' hA'
theorem zm_callP4 {idx n n' : Nat} {a0 a1 a2 a3 : Value} {r : Int} (hM : MMP l o ar M' n' [.ref o, a0, a1, a2, a3] f g j r) (hd : zAt M 3 pc pc' (.invokevirtual idx)) (hc : zCV M.1.cls idx M' n) (hn : 4 = n) (hcl : M'.1.cls = RX8) (hH : HM o ar f g j h) (hA : zAg o ar h0 h) (hdd : n' + 1 ≤ d) (hW : (S.map fun v => v.category).sum ≤ 8) (K : ∀ (h : zH), zIn r → HM o ar f g j h → zAg o ar h0 h → Z l M d 0 0 Pz pc' L (vI r :: S) h 0 0) : Z l M d 0 0 Pz pc L (a3 :: a2 :: a1 :: a0 :: .ref o :: S) h 0 0 := by
  refine zm_callI4 hM hd hc hn hcl hH hA hdd hW (fun r' f' g' j' h' hr q hH' hA' => ?_)
  obtain ⟨e1, e2, e3, e4⟩ := q
  rw [e2, e3, e4] at hH'
  rw [e1] at hr ⊢
  exact K h' hr hH' hA'
theorem zm_callW4 {idx n n' : Nat} {a0 a1 a2 a3 : Value} {F : mF} {G J : mA} (hM : MMW l o ar M' n' [.ref o, a0, a1, a2, a3] f g j F G J) (hd : zAt M 3 pc pc' (.invokevirtual idx)) (hc : zCV M.1.cls idx M' n) (hn : 4 = n) (hcl : M'.1.cls = RX8) (hH : HM o ar f g j h) (hA : zAg o ar h0 h) (hdd : n' + 1 ≤ d) (hW : (S.map fun v => v.category).sum ≤ 8) (K : ∀ (h : zH), HM o ar F G J h → zAg o ar h0 h → Z l M d 0 0 Pz pc' L S h 0 0) : Z l M d 0 0 Pz pc L (a3 :: a2 :: a1 :: a0 :: .ref o :: S) h 0 0 := by
  refine zm_callV4 hM hd hc hn hcl hH hA hdd hW (fun f' g' j' h' q hH' hA' => ?_)
  obtain ⟨e2, e3, e4⟩ := q
  rw [e2, e3, e4] at hH'
  exact K h' hH' hA'
theorem zs_call4 {idx n n' : Nat} {a0 a1 a2 a3 : Value} {r : Int} (hM : SI l M' n' [a0, a1, a2, a3] r) (hd : zAt M 3 pc pc' (.invokestatic idx)) (hc : zCS M.1.cls idx M' n) (hn : 4 = n) (hdd : n' + 1 ≤ d) (hW : (S.map fun v => v.category).sum ≤ 8) (K : zIn r → Z l M d mc ms Pz pc' L (vI r :: S) h kc ks) : Z l M d mc ms Pz pc L (a3 :: a2 :: a1 :: a0 :: S) h kc ks := zs_call (As := [a0, a1, a2, a3]) hM hd hc hn hdd hW K
theorem zs_callN4 {idx n n' : Nat} {a0 a1 a2 a3 : Value} {r : Int} (hM : SI l M' n' [a0, a1, a2, a3] r) (hd : zAt M 3 pc pc' (.invokestatic idx)) (hc : zCSN M.1.cls idx M' n) (hn : 4 = n) (hdd : n' + 1 ≤ d) (hW : (S.map fun v => v.category).sum ≤ 8) (K : zIn r → Z l M d mc ms Pz pc' L (vI r :: S) h kc ks) : Z l M d mc ms Pz pc L (a3 :: a2 :: a1 :: a0 :: S) h kc ks := zs_callN (As := [a0, a1, a2, a3]) hM hd hc hn hdd hW K
theorem zm_callI5 {idx n n' : Nat} {a0 a1 a2 a3 a4 : Value} {Q : Int → mF → mA → mA → Prop} (hM : MM l o ar M' n' [.ref o, a0, a1, a2, a3, a4] f g j (PI Q)) (hd : zAt M 3 pc pc' (.invokevirtual idx)) (hc : zCV M.1.cls idx M' n) (hn : 5 = n) (hcl : M'.1.cls = RX8) (hH : HM o ar f g j h) (hA : zAg o ar h0 h) (hdd : n' + 1 ≤ d) (hW : (S.map fun v => v.category).sum ≤ 8) (K : ∀ (r : Int) (f : mF) (g j : mA) (h : zH), zIn r → Q r f g j → HM o ar f g j h → zAg o ar h0 h → Z l M d 0 0 Pz pc' L (vI r :: S) h 0 0) : Z l M d 0 0 Pz pc L (a4 :: a3 :: a2 :: a1 :: a0 :: .ref o :: S) h 0 0 := zm_callI (As := [a0, a1, a2, a3, a4]) hM hd hc hn hcl hH hA hdd hW K
theorem zm_callL5 {idx n n' : Nat} {a0 a1 a2 a3 a4 : Value} {Q : Int → mF → mA → mA → Prop} (hM : MM l o ar M' n' [.ref o, a0, a1, a2, a3, a4] f g j (PL Q)) (hd : zAt M 3 pc pc' (.invokevirtual idx)) (hc : zCV M.1.cls idx M' n) (hn : 5 = n) (hcl : M'.1.cls = RX8) (hH : HM o ar f g j h) (hA : zAg o ar h0 h) (hdd : n' + 1 ≤ d) (hW : (S.map fun v => v.category).sum ≤ 8) (K : ∀ (r : Int) (f : mF) (g j : mA) (h : zH), zInL r → Q r f g j → HM o ar f g j h → zAg o ar h0 h → Z l M d 0 0 Pz pc' L (vL r :: S) h 0 0) : Z l M d 0 0 Pz pc L (a4 :: a3 :: a2 :: a1 :: a0 :: .ref o :: S) h 0 0 := zm_callL (As := [a0, a1, a2, a3, a4]) hM hd hc hn hcl hH hA hdd hW K
theorem zm_callV5 {idx n n' : Nat} {a0 a1 a2 a3 a4 : Value} {Q : mF → mA → mA → Prop} (hM : MM l o ar M' n' [.ref o, a0, a1, a2, a3, a4] f g j (PV Q)) (hd : zAt M 3 pc pc' (.invokevirtual idx)) (hc : zCV M.1.cls idx M' n) (hn : 5 = n) (hcl : M'.1.cls = RX8) (hH : HM o ar f g j h) (hA : zAg o ar h0 h) (hdd : n' + 1 ≤ d) (hW : (S.map fun v => v.category).sum ≤ 8) (K : ∀ (f : mF) (g j : mA) (h : zH), Q f g j → HM o ar f g j h → zAg o ar h0 h → Z l M d 0 0 Pz pc' L (S) h 0 0) : Z l M d 0 0 Pz pc L (a4 :: a3 :: a2 :: a1 :: a0 :: .ref o :: S) h 0 0 := zm_callV (As := [a0, a1, a2, a3, a4]) hM hd hc hn hcl hH hA hdd hW K
theorem zm_callF5 {idx n n' : Nat} {a0 a1 a2 a3 a4 : Value} {r : Int} {F : mF} {G J : mA} (hM : MMF l o ar M' n' [.ref o, a0, a1, a2, a3, a4] f g j r F G J) (hd : zAt M 3 pc pc' (.invokevirtual idx)) (hc : zCV M.1.cls idx M' n) (hn : 5 = n) (hcl : M'.1.cls = RX8) (hH : HM o ar f g j h) (hA : zAg o ar h0 h) (hdd : n' + 1 ≤ d) (hW : (S.map fun v => v.category).sum ≤ 8) (K : ∀ (h : zH), zIn r → HM o ar F G J h → zAg o ar h0 h → Z l M d 0 0 Pz pc' L (vI r :: S) h 0 0) : Z l M d 0 0 Pz pc L (a4 :: a3 :: a2 :: a1 :: a0 :: .ref o :: S) h 0 0 := by
  refine zm_callI5 hM hd hc hn hcl hH hA hdd hW (fun r' f' g' j' h' hr q hH' hA' => ?_)
  obtain ⟨e1, e2, e3, e4⟩ := q
  rw [e2, e3, e4] at hH'
  rw [e1] at hr ⊢
  exact K h' hr hH' hA'
theorem zm_callP5 {idx n n' : Nat} {a0 a1 a2 a3 a4 : Value} {r : Int} (hM : MMP l o ar M' n' [.ref o, a0, a1, a2, a3, a4] f g j r) (hd : zAt M 3 pc pc' (.invokevirtual idx)) (hc : zCV M.1.cls idx M' n) (hn : 5 = n) (hcl : M'.1.cls = RX8) (hH : HM o ar f g j h) (hA : zAg o ar h0 h) (hdd : n' + 1 ≤ d) (hW : (S.map fun v => v.category).sum ≤ 8) (K : ∀ (h : zH), zIn r → HM o ar f g j h → zAg o ar h0 h → Z l M d 0 0 Pz pc' L (vI r :: S) h 0 0) : Z l M d 0 0 Pz pc L (a4 :: a3 :: a2 :: a1 :: a0 :: .ref o :: S) h 0 0 := by
  refine zm_callI5 hM hd hc hn hcl hH hA hdd hW (fun r' f' g' j' h' hr q hH' hA' => ?_)
  obtain ⟨e1, e2, e3, e4⟩ := q
  rw [e2, e3, e4] at hH'
  rw [e1] at hr ⊢
  exact K h' hr hH' hA'
theorem zm_callW5 {idx n n' : Nat} {a0 a1 a2 a3 a4 : Value} {F : mF} {G J : mA} (hM : MMW l o ar M' n' [.ref o, a0, a1, a2, a3, a4] f g j F G J) (hd : zAt M 3 pc pc' (.invokevirtual idx)) (hc : zCV M.1.cls idx M' n) (hn : 5 = n) (hcl : M'.1.cls = RX8) (hH : HM o ar f g j h) (hA : zAg o ar h0 h) (hdd : n' + 1 ≤ d) (hW : (S.map fun v => v.category).sum ≤ 8) (K : ∀ (h : zH), HM o ar F G J h → zAg o ar h0 h → Z l M d 0 0 Pz pc' L S h 0 0) : Z l M d 0 0 Pz pc L (a4 :: a3 :: a2 :: a1 :: a0 :: .ref o :: S) h 0 0 := by
  refine zm_callV5 hM hd hc hn hcl hH hA hdd hW (fun f' g' j' h' q hH' hA' => ?_)
  obtain ⟨e2, e3, e4⟩ := q
  rw [e2, e3, e4] at hH'
  exact K h' hH' hA'
theorem zs_call5 {idx n n' : Nat} {a0 a1 a2 a3 a4 : Value} {r : Int} (hM : SI l M' n' [a0, a1, a2, a3, a4] r) (hd : zAt M 3 pc pc' (.invokestatic idx)) (hc : zCS M.1.cls idx M' n) (hn : 5 = n) (hdd : n' + 1 ≤ d) (hW : (S.map fun v => v.category).sum ≤ 8) (K : zIn r → Z l M d mc ms Pz pc' L (vI r :: S) h kc ks) : Z l M d mc ms Pz pc L (a4 :: a3 :: a2 :: a1 :: a0 :: S) h kc ks := zs_call (As := [a0, a1, a2, a3, a4]) hM hd hc hn hdd hW K
theorem zs_callN5 {idx n n' : Nat} {a0 a1 a2 a3 a4 : Value} {r : Int} (hM : SI l M' n' [a0, a1, a2, a3, a4] r) (hd : zAt M 3 pc pc' (.invokestatic idx)) (hc : zCSN M.1.cls idx M' n) (hn : 5 = n) (hdd : n' + 1 ≤ d) (hW : (S.map fun v => v.category).sum ≤ 8) (K : zIn r → Z l M d mc ms Pz pc' L (vI r :: S) h kc ks) : Z l M d mc ms Pz pc L (a4 :: a3 :: a2 :: a1 :: a0 :: S) h kc ks := zs_callN (As := [a0, a1, a2, a3, a4]) hM hd hc hn hdd hW K
/-- all but these places stay -/
def eqx {α : Type} (ks : List Nat) (a b : Nat → α) : Prop := ∀ q, q ∉ ks → b q = a q
theorem eqx.rf {α : Type} {ks : List Nat} {a : Nat → α} : eqx ks a a := fun _ _ => rfl
theorem eqx.put {α : Type} {ks : List Nat} {a b b1 : Nat → α} {k : Nat} (h : eqx ks a b) (e : ∀ q, q ≠ k → b1 q = b q) (hk : k ∈ ks) : eqx ks a b1 := fun q hq => (e q (fun z => hq (z ▸ hk))).trans (h q hq)
theorem eqx.trans {α : Type} {ks ks' : List Nat} {a b c : Nat → α} (h : eqx ks a b) (h2 : eqx ks' b c) (hs : ∀ q ∈ ks', q ∈ ks) : eqx ks a c := fun q hq => (h2 q (fun z => hq (hs q z))).trans (h q hq)
theorem eqx.up {α : Type} {ks : List Nat} {a b : Nat → α} {k : Nat} {v : α} (h : eqx ks a b) (hk : k ∈ ks) : eqx ks a (va_up b k v) := h.put (fun q e => va_up_ne _ _ e) hk
theorem eqx.wide {α : Type} {ks ks' : List Nat} {a b : Nat → α} (h : eqx ks' a b) (hs : ∀ q ∈ ks', q ∈ ks) : eqx ks a b := fun q hq => h q (fun z => hq (hs q z))
theorem zm_getIE {idx k : Nat} {x : Int} (e : f k = x) (hd : zAt M 3 pc pc' (.getfield idx)) (hf : zFl M.1.cls idx 8 k) (hH : HM o ar f g j h) (ht : mTag k = 9) (hk : k < 50) (K : zIn x → Z l M d 0 0 Pz pc' L (vI x :: S) h 0 0) : Z l M d 0 0 Pz pc L (.ref o :: S) h 0 0 := zm_getI hd hf hH ht hk (e ▸ K)
theorem zm_ialdE {k : Nat} {i : Int} {G : Int → Int} (e : g k = G) (hd : zAt M 1 pc pc' .iaload) (hH : HM o ar f g j h) (ht : mTag k = 0) (hi0 : 0 ≤ i) (hi1 : i < mlen k) (K : zIn (G i) → Z l M d 0 0 Pz pc' L (vI (G i) :: S) h 0 0) : Z l M d 0 0 Pz pc L (vI i :: .ref (ar k) :: S) h 0 0 := zm_iald hd hH ht hi0 hi1 (by rw [e]; exact K)
theorem zm_baldE {k : Nat} {i : Int} {G : Int → Int} (e : g k = G) (hd : zAt M 1 pc pc' .baload) (hH : HM o ar f g j h) (ht : mTag k = 2) (hi0 : 0 ≤ i) (hi1 : i < mlen k) (K : zIn (G i) → Z l M d 0 0 Pz pc' L (vI (G i) :: S) h 0 0) : Z l M d 0 0 Pz pc L (vI i :: .ref (ar k) :: S) h 0 0 := zm_bald hd hH ht hi0 hi1 (by rw [e]; exact K)
theorem zm_zaldE {k : Nat} {i : Int} {G : Int → Int} (e : g k = G) (hd : zAt M 1 pc pc' .baload) (hH : HM o ar f g j h) (ht : mTag k = 3) (hi0 : 0 ≤ i) (hi1 : i < mlen k) (K : zIn (G i) → Z l M d 0 0 Pz pc' L (vI (G i) :: S) h 0 0) : Z l M d 0 0 Pz pc L (vI i :: .ref (ar k) :: S) h 0 0 := zm_zald hd hH ht hi0 hi1 (by rw [e]; exact K)
theorem zm_laldE {k : Nat} {i : Int} {G : Int → Int} (e : j k = G) (hd : zAt M 1 pc pc' .laload) (hH : HM o ar f g j h) (ht : mTag k = 1) (hi0 : 0 ≤ i) (hi1 : i < mlen k) (K : zInL (G i) → Z l M d 0 0 Pz pc' L (vL (G i) :: S) h 0 0) : Z l M d 0 0 Pz pc L (vI i :: .ref (ar k) :: S) h 0 0 := zm_lald hd hH ht hi0 hi1 (by rw [e]; exact K)
theorem zm_putIE {idx k : Nat} {x : Int} (hd : zAt M 3 pc pc' (.putfield idx)) (hf : zFp M.1.cls idx 8 k false .int) (hH : HM o ar f g j h) (hA : zAg o ar h0 h) (ht : mTag k = 9) (hk : k < 50) (hx : zIn x) (K : ∀ (h : zH) (f1 : mF), (∀ q, q ≠ k → f1 q = f q) → f1 k = x → HM o ar f1 g j h → zAg o ar h0 h → Z l M d 0 0 Pz pc' L S h 0 0) : Z l M d 0 0 Pz pc L (vI x :: .ref o :: S) h 0 0 := zm_putI hd hf hH hA ht hk hx (fun h => K h _ (fun _ e => va_up_ne _ _ e) (va_up_self _ _ _))
theorem zm_putZE {idx k : Nat} {x : Int} (hd : zAt M 3 pc pc' (.putfield idx)) (hf : zFp M.1.cls idx 8 k false .boolean) (hH : HM o ar f g j h) (hA : zAg o ar h0 h) (ht : mTag k = 9) (hk : k < 50) (hx : x = 0 ∨ x = 1) (K : ∀ (h : zH) (f1 : mF), (∀ q, q ≠ k → f1 q = f q) → f1 k = x → HM o ar f1 g j h → zAg o ar h0 h → Z l M d 0 0 Pz pc' L S h 0 0) : Z l M d 0 0 Pz pc L (vI x :: .ref o :: S) h 0 0 := zm_putZ hd hf hH hA ht hk hx (fun h => K h _ (fun _ e => va_up_ne _ _ e) (va_up_self _ _ _))
theorem zm_iastE {k : Nat} {i x : Int} (hd : zAt M 1 pc pc' .iastore) (hH : HM o ar f g j h) (hA : zAg o ar h0 h) (ht : mTag k = 0) (hi0 : 0 ≤ i) (hi1 : i < mlen k) (hx : zIn x) (K : ∀ (h : zH) (g1 : mA), (∀ q, q ≠ k → g1 q = g q) → g1 k = iu (g k) i x → HM o ar f g1 j h → zAg o ar h0 h → Z l M d 0 0 Pz pc' L S h 0 0) : Z l M d 0 0 Pz pc L (vI x :: vI i :: .ref (ar k) :: S) h 0 0 := zm_iast hd hH hA ht hi0 hi1 hx (fun h => K h _ (fun _ e => va_up_ne _ _ e) (va_up_self _ _ _))
theorem zm_bastE {k : Nat} {i x : Int} (hd : zAt M 1 pc pc' .bastore) (hH : HM o ar f g j h) (hA : zAg o ar h0 h) (ht : mTag k = 2) (hi0 : 0 ≤ i) (hi1 : i < mlen k) (K : ∀ (h : zH) (g1 : mA), (∀ q, q ≠ k → g1 q = g q) → g1 k = iu (g k) i (zi2b x) → HM o ar f g1 j h → zAg o ar h0 h → Z l M d 0 0 Pz pc' L S h 0 0) : Z l M d 0 0 Pz pc L (vI x :: vI i :: .ref (ar k) :: S) h 0 0 := zm_bast hd hH hA ht hi0 hi1 (fun h => K h _ (fun _ e => va_up_ne _ _ e) (va_up_self _ _ _))
theorem zm_zastE {k : Nat} {i x : Int} (hd : zAt M 1 pc pc' .bastore) (hH : HM o ar f g j h) (hA : zAg o ar h0 h) (ht : mTag k = 3) (hi0 : 0 ≤ i) (hi1 : i < mlen k) (hx : x = 0 ∨ x = 1) (K : ∀ (h : zH) (g1 : mA), (∀ q, q ≠ k → g1 q = g q) → g1 k = iu (g k) i x → HM o ar f g1 j h → zAg o ar h0 h → Z l M d 0 0 Pz pc' L S h 0 0) : Z l M d 0 0 Pz pc L (vI x :: vI i :: .ref (ar k) :: S) h 0 0 := zm_zast hd hH hA ht hi0 hi1 hx (fun h => K h _ (fun _ e => va_up_ne _ _ e) (va_up_self _ _ _))
theorem zm_lastE {k : Nat} {i x : Int} (hd : zAt M 1 pc pc' .lastore) (hH : HM o ar f g j h) (hA : zAg o ar h0 h) (ht : mTag k = 1) (hi0 : 0 ≤ i) (hi1 : i < mlen k) (hx : zInL x) (K : ∀ (h : zH) (j1 : mA), (∀ q, q ≠ k → j1 q = j q) → j1 k = iu (j k) i x → HM o ar f g j1 h → zAg o ar h0 h → Z l M d 0 0 Pz pc' L S h 0 0) : Z l M d 0 0 Pz pc L (vL x :: vI i :: .ref (ar k) :: S) h 0 0 := zm_last hd hH hA ht hi0 hi1 hx (fun h => K h _ (fun _ e => va_up_ne _ _ e) (va_up_self _ _ _))
end BR
set_option maxHeartbeats 4000000 in
set_option maxRecDepth 100000 in
theorem s_lies {l : Launch} {v lo hi : Int} (hv : zIn v) (hlo : zIn lo) (hhi : zIn hi) : SI l MX8_lies 0 [vI v, vI lo, vI hi] (b2i (lo ≤ v ∧ v ≤ hi)) := by
  refine SI.intro [some (vI v), some (vI lo), some (vI hi)] (by first | omega | (split <;> omega) | (unfold b2i; split <;> omega)) (by decide) (Nat.le_of_ble_eq_true rfl) rfl (fun d hd h => ?_)
  refine z_ild_0 (TX8_lies.at 0 rfl) ?_
  refine z_ild_1 (TX8_lies.at 1 rfl) ?_
  refine z_icmp_lt (tgt := 14) (TX8_lies.at 2 rfl) rfl (by omega) (by omega) (fun c1 => ?_) (fun c1 => ?_)
  · skip
    refine z_iconst (TX8_lies.at 8 rfl) ?_
    exact zs_zret (TX8_lies.at 9 rfl) rfl (by first | omega | exact b2i_01 _) (by first | (rw [b2i_t (by omega)]; done) | (rw [b2i_f (by omega)]; done))
  · skip
    refine z_ild_0 (TX8_lies.at 3 rfl) ?_
    refine z_ild_2 (TX8_lies.at 4 rfl) ?_
    refine z_icmp_gt (tgt := 14) (TX8_lies.at 5 rfl) rfl (by omega) (by omega) (fun c2 => ?_) (fun c2 => ?_)
    · skip
      refine z_iconst (TX8_lies.at 8 rfl) ?_
      exact zs_zret (TX8_lies.at 9 rfl) rfl (by first | omega | exact b2i_01 _) (by first | (rw [b2i_t (by omega)]; done) | (rw [b2i_f (by omega)]; done))
    · skip
      refine z_iconst (TX8_lies.at 6 rfl) ?_
      refine z_goto (tgt := 15) (TX8_lies.at 7 rfl) rfl ?_
      exact zs_zret (TX8_lies.at 9 rfl) rfl (by first | omega | exact b2i_01 _) (by first | (rw [b2i_t (by omega)]; done) | (rw [b2i_f (by omega)]; done))

set_option maxHeartbeats 4000000 in
set_option maxRecDepth 100000 in
theorem s_lesser {l : Launch} {a b : Int} (ha : zIn a) (hb : zIn b) : SI l MX8_lesser 0 [vI a, vI b] (min a b) := by
  refine SI.intro [some (vI a), some (vI b)] (by first | omega | (split <;> omega) | (unfold b2i; split <;> omega)) (by decide) (Nat.le_of_ble_eq_true rfl) rfl (fun d hd h => ?_)
  refine z_ild_0 (TX8_lesser.at 0 rfl) ?_
  refine z_ild_1 (TX8_lesser.at 1 rfl) ?_
  refine z_icmp_ge (tgt := 9) (TX8_lesser.at 2 rfl) rfl (by omega) (by omega) (fun c1 => ?_) (fun c1 => ?_)
  · skip
    refine z_ild_1 (TX8_lesser.at 5 rfl) ?_
    exact zs_iret (TX8_lesser.at 6 rfl) rfl (by omega)
  · skip
    refine z_ild_0 (TX8_lesser.at 3 rfl) ?_
    refine z_goto (tgt := 10) (TX8_lesser.at 4 rfl) rfl ?_
    exact zs_iret (TX8_lesser.at 6 rfl) rfl (by omega)

set_option maxHeartbeats 4000000 in
set_option maxRecDepth 100000 in
theorem s_greater {l : Launch} {a b : Int} (ha : zIn a) (hb : zIn b) : SI l MX8_greater 0 [vI a, vI b] (max a b) := by
  refine SI.intro [some (vI a), some (vI b)] (by first | omega | (split <;> omega) | (unfold b2i; split <;> omega)) (by decide) (Nat.le_of_ble_eq_true rfl) rfl (fun d hd h => ?_)
  refine z_ild_0 (TX8_greater.at 0 rfl) ?_
  refine z_ild_1 (TX8_greater.at 1 rfl) ?_
  refine z_icmp_le (tgt := 9) (TX8_greater.at 2 rfl) rfl (by omega) (by omega) (fun c1 => ?_) (fun c1 => ?_)
  · skip
    refine z_ild_1 (TX8_greater.at 5 rfl) ?_
    exact zs_iret (TX8_greater.at 6 rfl) rfl (by omega)
  · skip
    refine z_ild_0 (TX8_greater.at 3 rfl) ?_
    refine z_goto (tgt := 10) (TX8_greater.at 4 rfl) rfl ?_
    exact zs_iret (TX8_greater.at 6 rfl) rfl (by omega)

