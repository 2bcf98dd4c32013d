/-! ===== rules of Z for cells ===== -/
def zFl (own : String) (idx ci k : Nat) : Prop := ∃ (C : String) (T : u_T) (N : Nat), vwCl[ci]? = some (C, T, N) ∧ (∀ w ∈ u_ws C T N, w ∈ zTbl) ∧ k < N ∧ Cond.fieldLink own idx (T k).1 (T k).2.1 (T k).2.2.1 ∈ zTbl
def zFp (own : String) (idx ci k : Nat) (fin : Bool) (ty : FieldType) : Prop := ∃ (C : String) (T : u_T) (N : Nat) (ty0 : Nat → FieldType), vwCl[ci]? = some (C, T, N) ∧ (∀ w ∈ u_ws C T N, w ∈ zTbl) ∧ k < N ∧ Cond.fieldLink own idx (T k).1 (T k).2.1 (T k).2.2.1 ∈ zTbl ∧ (∀ k, k < N → parseFieldDescriptor (T k).2.2.1 = some (ty0 k)) ∧ (∀ a, a < N → ∀ b, b < N → a ≠ b → (T a).2.1 ≠ (T b).2.1) ∧ (T k).2.2.2 = fin ∧ parseFieldDescriptor (T k).2.2.1 = some ty ∧ (fin = true → (T k).1 = own)
theorem zI_in {i : Int} {n : Nat} (h0 : 0 ≤ i) (h1 : i < n) (hn : n < 2147483648) : vp_in (Int32.ofInt i) n := by
  rw [vp_in_iff, zI_toInt (by omega)]
  omega
theorem zCov.set {G : zG} {h : zH} {ws : va_W} {A : Nat → Prop} {k a : Nat} {e0 e : zE} (hC : zCov G h ws) (hD : va_D A ws) (hk : ws[k]? = some (a, zcv G e0)) : zCov G (zup h a e) (ws.set k (a, zcv G e)) := by
  intro b e1 hb
  unfold zup at hb
  have hkl : k < ws.length := (List.getElem?_eq_some_iff.mp hk).1
  by_cases hba : b = a
  · subst hba
    rw [if_pos rfl] at hb
    cases hb
    exact ⟨k, by rw [List.getElem?_set_self hkl]⟩
  · rw [if_neg hba] at hb
    obtain ⟨j, hj⟩ := hC b e1 hb
    refine ⟨j, ?_⟩
    rw [List.getElem?_set_ne]
    · exact hj
    · intro e
      subst e
      rw [hk] at hj
      exact hba (congrArg Prod.fst (Option.some.inj hj)).symm
theorem zCov.push {G : zG} {h : zH} {ws : va_W} {q : Nat} {e : zE} (hC : zCov G h ws) : zCov G (zup h q e) (ws ++ [(q, zcv G e)]) := by
  intro b e1 hb
  unfold zup at hb
  by_cases hba : b = q
  · subst hba
    rw [if_pos rfl] at hb
    cases hb
    exact ⟨ws.length, by simp⟩
  · rw [if_neg hba] at hb
    obtain ⟨j, hj⟩ := hC b e1 hb
    exact ⟨j, by rw [List.getElem?_append_left (List.getElem?_eq_some_iff.mp hj).1]; exact hj⟩
theorem zCov.fresh {G : zG} {h : zH} {ws : va_W} {A : Nat → Prop} {q : Nat} {e : va_E} (hC : zCov G h ws) (hD : va_D A (ws ++ [(q, e)])) : h q = none := by
  cases hq : h q with
  | none => rfl
  | some e1 =>
    obtain ⟨j, hj⟩ := hC q e1 hq
    have hjl := (List.getElem?_eq_some_iff.mp hj).1
    have := hD.1 j ws.length (q, zcv G e1) (q, e) (by rw [List.getElem?_append_left hjl]; exact hj) (by simp) rfl
    omega
section ZM
variable {l : Launch} {M : zM} {d mc ms : Nat} {P : Option Value → zH → Prop} {pc pc' : Nat} {L : List (Option Value)} {S : List Value} {h : zH} {kc ks : Nat}
theorem z_getf {idx ci k a : Nat} {fs : List Value} {v : Value} (hd : zAt M 3 pc pc' (.getfield idx)) (hf : zFl M.1.cls idx ci k) (ha : h a = some (.inr (ci, fs))) (hv : fs[k]? = some v) (K : Z l M d mc ms P pc' L (v :: S) h kc ks) : Z l M d mc ms P pc L (.ref a :: S) h kc ks := by
  obtain ⟨hd, rfl⟩ := hd
  intro G p e s m args below meth c A H locs cells slots ls hCx hcc hss hl hR
  obtain ⟨hx, hb, hr, hml, hown, hX, hlk, hK, hA, hnm⟩ := id hCx
  obtain ⟨ws, hP, hD, hS, hC⟩ := id hR
  obtain ⟨C, T, N, h1, h2, h3, h4⟩ := hf
  have hts : ∀ w ∈ zTbl, w.before args s = true := zW_warm hX.1 (State.WarmedH.refl s)
  obtain ⟨q, hq⟩ := hC a _ ha
  exact va_get (D := zD G) (ci := ci) (v := v) (C := C) (T := T) (N := N) hx hb hts h2 hown hK hP q hq h1 k h3 (hts _ h4) (fun _ h9 => h9) hv hd (K G p e s m args below meth c A H locs cells slots ls hCx hcc hss hl hR)
theorem z_putf {idx ci k a : Nat} {fs : List Value} {v : Value} {ty : FieldType} (hd : zAt M 3 pc pc' (.putfield idx)) (hf : zFp M.1.cls idx ci k false ty) (ha : h a = some (.inr (ci, fs))) (hl0 : k < fs.length) (hn : narrow ty v = v) (hfit : fits ty v = true) (K : Z l M d mc ms P pc' L S (zup h a (.inr (ci, fs.set k v))) kc ks) : Z l M d mc ms P pc L (v :: .ref a :: S) h kc ks := by
  obtain ⟨hd, rfl⟩ := hd
  intro G p e s m args below meth c A H locs cells slots ls hCx hcc hss hl hR
  obtain ⟨hx, hb, hr, hml, hown, hX, hlk, hK, hA, hnm⟩ := id hCx
  obtain ⟨ws, hP, hD, hS, hC⟩ := id hR
  obtain ⟨C, T, N, ty0, h1, h2, h3, h4, h5, h6, h7, h8, -⟩ := hf
  have hts : ∀ w ∈ zTbl, w.before args s = true := zW_warm hX.1 (State.WarmedH.refl s)
  obtain ⟨q, hq⟩ := hC a _ ha
  refine va_put (D := zD G) (ci := ci) (v := v) (ty := ty) (C := C) (T := T) (N := N) hx hb hts h2 ty0 h5 h6 hown hK hP hD hS q hq h1 k h3 (hts _ h4) (fun _ h9 => h9) h7 h8 hn hfit hl0 hd (fun H1 locs1 hP1 hD1 hS1 => ?_)
  exact K G p e s m args below meth c A H1 locs1 cells slots ls hCx hcc hss hl ⟨_, hP1, hD1, hS1, hC.set (e0 := .inr (ci, fs)) (e := .inr (ci, fs.set k v)) hD hq⟩
theorem z_putF {idx ci k a : Nat} {fs : List Value} {v : Value} {ty : FieldType} (hd : zAt M 3 pc pc' (.putfield idx)) (hf : zFp M.1.cls idx ci k true ty) (hi : M.1.name = "<init>") (ha : h a = some (.inr (ci, fs))) (hl0 : k < fs.length) (hn : narrow ty v = v) (hfit : fits ty v = true) (K : Z l M d mc ms P pc' L S (zup h a (.inr (ci, fs.set k v))) kc ks) : Z l M d mc ms P pc L (v :: .ref a :: S) h kc ks := by
  obtain ⟨hd, rfl⟩ := hd
  intro G p e s m args below meth c A H locs cells slots ls hCx hcc hss hl hR
  obtain ⟨hx, hb, hr, hml, hown, hX, hlk, hK, hA, hnm⟩ := id hCx
  obtain ⟨ws, hP, hD, hS, hC⟩ := id hR
  obtain ⟨C, T, N, ty0, h1, h2, h3, h4, h5, h6, h7, h8, h9⟩ := hf
  have hts : ∀ w ∈ zTbl, w.before args s = true := zW_warm hX.1 (State.WarmedH.refl s)
  obtain ⟨q, hq⟩ := hC a _ ha
  refine va_putF (D := zD G) (ci := ci) (v := v) (ty := ty) (C := C) (T := T) (N := N) hx hb hts h2 ty0 h5 h6 hown hK hP hD hS q hq h1 k h3 (hts _ h4) (fun _ h9 => h9) h7 (hnm.trans hi) (h9 rfl) h8 hn hfit hl0 hd (fun H1 locs1 hP1 hD1 hS1 => ?_)
  exact K G p e s m args below meth c A H1 locs1 cells slots ls hCx hcc hss hl ⟨_, hP1, hD1, hS1, hC.set (e0 := .inr (ci, fs)) (e := .inr (ci, fs.set k v)) hD hq⟩
theorem z_iald {a n : Nat} {i : Int} {f : Nat → Int32} (hd : zAt M 1 pc pc' .iaload) (ha : h a = some (.inl (0, n, .inl f))) (h0 : 0 ≤ i) (h1 : i < n) (hn : n < 2147483648) (K : Z l M d mc ms P pc' L (.int (f i.toNat) :: S) h kc ks) : Z l M d mc ms P pc L (vI i :: .ref a :: S) h kc ks := by
  obtain ⟨hd, rfl⟩ := hd
  intro G p e s m args below meth c A H locs cells slots ls hCx hcc hss hl hR
  obtain ⟨hx, hb, hr, hml, hown, hX, hlk, hK, hA, hnm⟩ := id hCx
  obtain ⟨ws, hP, hD, hS, hC⟩ := id hR
  obtain ⟨q, hq⟩ := hC a _ ha
  refine va_iald hx hb hK hP q 0 hq rfl (zI_in h0 h1 hn) hd ?_
  rw [zI_clamp (by omega)]
  exact K G p e s m args below meth c A H locs cells slots ls hCx hcc hss hl hR
theorem z_bald {a n : Nat} {i : Int} {f : Nat → Int32} (hd : zAt M 1 pc pc' .baload) (ha : h a = some (.inl (2, n, .inl f))) (h0 : 0 ≤ i) (h1 : i < n) (hn : n < 2147483648) (K : Z l M d mc ms P pc' L (.int (f i.toNat) :: S) h kc ks) : Z l M d mc ms P pc L (vI i :: .ref a :: S) h kc ks := by
  obtain ⟨hd, rfl⟩ := hd
  intro G p e s m args below meth c A H locs cells slots ls hCx hcc hss hl hR
  obtain ⟨hx, hb, hr, hml, hown, hX, hlk, hK, hA, hnm⟩ := id hCx
  obtain ⟨ws, hP, hD, hS, hC⟩ := id hR
  obtain ⟨q, hq⟩ := hC a _ ha
  refine va_bald hx hb hK hP q 2 hq rfl (zI_in h0 h1 hn) hd ?_
  rw [zI_clamp (by omega)]
  exact K G p e s m args below meth c A H locs cells slots ls hCx hcc hss hl hR
theorem z_zald {a n : Nat} {i : Int} {f : Nat → Int32} (hd : zAt M 1 pc pc' .baload) (ha : h a = some (.inl (3, n, .inl f))) (h0 : 0 ≤ i) (h1 : i < n) (hn : n < 2147483648) (K : Z l M d mc ms P pc' L (.int (f i.toNat) :: S) h kc ks) : Z l M d mc ms P pc L (vI i :: .ref a :: S) h kc ks := by
  obtain ⟨hd, rfl⟩ := hd
  intro G p e s m args below meth c A H locs cells slots ls hCx hcc hss hl hR
  obtain ⟨hx, hb, hr, hml, hown, hX, hlk, hK, hA, hnm⟩ := id hCx
  obtain ⟨ws, hP, hD, hS, hC⟩ := id hR
  obtain ⟨q, hq⟩ := hC a _ ha
  refine va_zald hx hb hK hP q 3 hq rfl (zI_in h0 h1 hn) hd ?_
  rw [zI_clamp (by omega)]
  exact K G p e s m args below meth c A H locs cells slots ls hCx hcc hss hl hR
theorem z_lald {a n : Nat} {i : Int} {f : Nat → Int64} (hd : zAt M 1 pc pc' .laload) (ha : h a = some (.inl (1, n, .inr (.inl f)))) (h0 : 0 ≤ i) (h1 : i < n) (hn : n < 2147483648) (K : Z l M d mc ms P pc' L (.long (f i.toNat) :: S) h kc ks) : Z l M d mc ms P pc L (vI i :: .ref a :: S) h kc ks := by
  obtain ⟨hd, rfl⟩ := hd
  intro G p e s m args below meth c A H locs cells slots ls hCx hcc hss hl hR
  obtain ⟨hx, hb, hr, hml, hown, hX, hlk, hK, hA, hnm⟩ := id hCx
  obtain ⟨ws, hP, hD, hS, hC⟩ := id hR
  obtain ⟨q, hq⟩ := hC a _ ha
  refine va_lald hx hb hK hP q 1 hq rfl (zI_in h0 h1 hn) hd ?_
  rw [zI_clamp (by omega)]
  exact K G p e s m args below meth c A H locs cells slots ls hCx hcc hss hl hR
theorem z_aald {a n t : Nat} {i : Int} {f : Nat → Option Nat} {C : String} (hd : zAt M 1 pc pc' .aaload) (ha : h a = some (.inl (t, n, .inr (.inr (.inr (.inr f)))))) (ht : t < 6) (hC0 : zTy t = .object C) (h0 : 0 ≤ i) (h1 : i < n) (hn : n < 2147483648) (K : Z l M d mc ms P pc' L (va_rf (f i.toNat) :: S) h kc ks) : Z l M d mc ms P pc L (vI i :: .ref a :: S) h kc ks := by
  obtain ⟨hd, rfl⟩ := hd
  intro G p e s m args below meth c A H locs cells slots ls hCx hcc hss hl hR
  obtain ⟨hx, hb, hr, hml, hown, hX, hlk, hK, hA, hnm⟩ := id hCx
  obtain ⟨ws, hP, hD, hS, hC⟩ := id hR
  obtain ⟨q, hq⟩ := hC a _ ha
  have htt : (zTys G)[t]? = some (zA G t, .object C) := by
    rw [← hC0]
    rcases (show t = 0 ∨ t = 1 ∨ t = 2 ∨ t = 3 ∨ t = 4 ∨ t = 5 by omega) with rfl | rfl | rfl | rfl | rfl | rfl <;> rfl
  refine va_aldq hx hb hK hP q t hq htt (zI_in h0 h1 hn) hd ?_
  rw [zI_clamp (by omega)]
  exact K G p e s m args below meth c A H locs cells slots ls hCx hcc hss hl hR
theorem z_iast {a n : Nat} {i x : Int} {f : Nat → Int32} (hd : zAt M 1 pc pc' .iastore) (ha : h a = some (.inl (0, n, .inl f))) (h0 : 0 ≤ i) (h1 : i < n) (hn : n < 2147483648) (K : Z l M d mc ms P pc' L S (zup h a (.inl (0, n, .inl (upd f i.toNat (Int32.ofInt x))))) kc ks) : Z l M d mc ms P pc L (vI x :: vI i :: .ref a :: S) h kc ks := by
  obtain ⟨hd, rfl⟩ := hd
  intro G p e s m args below meth c A H locs cells slots ls hCx hcc hss hl hR
  obtain ⟨hx, hb, hr, hml, hown, hX, hlk, hK, hA, hnm⟩ := id hCx
  obtain ⟨ws, hP, hD, hS, hC⟩ := id hR
  obtain ⟨q, hq⟩ := hC a _ ha
  refine va_iast hx hb hK hP hD hS q 0 hq rfl (zI_in h0 h1 hn) hd (fun H1 locs1 hP1 hD1 hS1 => ?_)
  rw [zI_clamp (by omega)] at hP1 hD1
  exact K G p e s m args below meth c A H1 locs1 cells slots ls hCx hcc hss hl ⟨_, hP1, hD1, hS1, hC.set (e0 := .inl (0, n, .inl f)) (e := .inl (0, n, .inl (upd f i.toNat (Int32.ofInt x)))) hD hq⟩
theorem z_bast {a n : Nat} {i x : Int} {f : Nat → Int32} (hd : zAt M 1 pc pc' .bastore) (ha : h a = some (.inl (2, n, .inl f))) (h0 : 0 ≤ i) (h1 : i < n) (hn : n < 2147483648) (K : Z l M d mc ms P pc' L S (zup h a (.inl (2, n, .inl (upd f i.toNat (Int32.ofInt (zi2b x)))))) kc ks) : Z l M d mc ms P pc L (vI x :: vI i :: .ref a :: S) h kc ks := by
  obtain ⟨hd, rfl⟩ := hd
  intro G p e s m args below meth c A H locs cells slots ls hCx hcc hss hl hR
  obtain ⟨hx, hb, hr, hml, hown, hX, hlk, hK, hA, hnm⟩ := id hCx
  obtain ⟨ws, hP, hD, hS, hC⟩ := id hR
  obtain ⟨q, hq⟩ := hC a _ ha
  refine va_bast hx hb hK hP hD hS q 2 hq rfl (zI_in h0 h1 hn) hd (fun H1 locs1 hP1 hD1 hS1 => ?_)
  rw [zI_clamp (by omega), vp_nar_byte] at hP1 hD1
  unfold zi2b at K
  rw [Int32.ofInt_toInt] at K
  exact K G p e s m args below meth c A H1 locs1 cells slots ls hCx hcc hss hl ⟨_, hP1, hD1, hS1, hC.set (e0 := .inl (2, n, .inl f)) (e := .inl (2, n, .inl (upd f i.toNat (Int32.ofInt x).toInt8.toInt32))) hD hq⟩
theorem z_zast {a n : Nat} {i x : Int} {f : Nat → Int32} (hd : zAt M 1 pc pc' .bastore) (ha : h a = some (.inl (3, n, .inl f))) (h0 : 0 ≤ i) (h1 : i < n) (hn : n < 2147483648) (hx0 : x = 0 ∨ x = 1) (K : Z l M d mc ms P pc' L S (zup h a (.inl (3, n, .inl (upd f i.toNat (Int32.ofInt x))))) kc ks) : Z l M d mc ms P pc L (vI x :: vI i :: .ref a :: S) h kc ks := by
  obtain ⟨hd, rfl⟩ := hd
  intro G p e s m args below meth c A H locs cells slots ls hCx hcc hss hl hR
  obtain ⟨hx, hb, hr, hml, hown, hX, hlk, hK, hA, hnm⟩ := id hCx
  obtain ⟨ws, hP, hD, hS, hC⟩ := id hR
  obtain ⟨q, hq⟩ := hC a _ ha
  refine va_zast hx hb hK hP hD hS q 3 hq rfl (zI_in h0 h1 hn) hd (fun H1 locs1 hP1 hD1 hS1 => ?_)
  have e1 : vp_nar .boolean (Int32.ofInt x) = Int32.ofInt x := by rcases hx0 with rfl | rfl <;> decide
  rw [zI_clamp (by omega), e1] at hP1 hD1
  exact K G p e s m args below meth c A H1 locs1 cells slots ls hCx hcc hss hl ⟨_, hP1, hD1, hS1, hC.set (e0 := .inl (3, n, .inl f)) (e := .inl (3, n, .inl (upd f i.toNat (Int32.ofInt x)))) hD hq⟩
theorem z_last {a n : Nat} {i x : Int} {f : Nat → Int64} (hd : zAt M 1 pc pc' .lastore) (ha : h a = some (.inl (1, n, .inr (.inl f)))) (h0 : 0 ≤ i) (h1 : i < n) (hn : n < 2147483648) (K : Z l M d mc ms P pc' L S (zup h a (.inl (1, n, .inr (.inl (vp_updL f i.toNat (Int64.ofInt x)))))) kc ks) : Z l M d mc ms P pc L (vL x :: vI i :: .ref a :: S) h kc ks := by
  obtain ⟨hd, rfl⟩ := hd
  intro G p e s m args below meth c A H locs cells slots ls hCx hcc hss hl hR
  obtain ⟨hx, hb, hr, hml, hown, hX, hlk, hK, hA, hnm⟩ := id hCx
  obtain ⟨ws, hP, hD, hS, hC⟩ := id hR
  obtain ⟨q, hq⟩ := hC a _ ha
  refine va_last hx hb hK hP hD hS q 1 hq rfl (zI_in h0 h1 hn) hd (fun H1 locs1 hP1 hD1 hS1 => ?_)
  rw [zI_clamp (by omega)] at hP1 hD1
  exact K G p e s m args below meth c A H1 locs1 cells slots ls hCx hcc hss hl ⟨_, hP1, hD1, hS1, hC.set (e0 := .inl (1, n, .inr (.inl f))) (e := .inl (1, n, .inr (.inl (vp_updL f i.toNat (Int64.ofInt x))))) hD hq⟩
theorem z_alen {a t : Nat} {x : vp_A} (hd : zAt M 1 pc pc' .arraylength) (ha : h a = some (.inl (t, x))) (ht : t < 6) (K : Z l M d mc ms P pc' L (vI (x.1 : Int) :: S) h kc ks) : Z l M d mc ms P pc L (.ref a :: S) h kc ks := by
  obtain ⟨hd, rfl⟩ := hd
  intro G p e s m args below meth c A H locs cells slots ls hCx hcc hss hl hR
  obtain ⟨hx, hb, hr, hml, hown, hX, hlk, hK, hA, hnm⟩ := id hCx
  obtain ⟨ws, hP, hD, hS, hC⟩ := id hR
  obtain ⟨q, hq⟩ := hC a _ ha
  have htt : (zTys G)[t]? = some (zA G t, zTy t) := by
    rcases (show t = 0 ∨ t = 1 ∨ t = 2 ∨ t = 3 ∨ t = 4 ∨ t = 5 by omega) with rfl | rfl | rfl | rfl | rfl | rfl <;> rfl
  exact va_alen hx hb hK hP q t hq htt (v := Int32.ofInt (x.1 : Int)) Int32.ofInt_eq_ofNat.symm hd (K G p e s m args below meth c A H locs cells slots ls hCx hcc hss hl hR)
/-- System.arraycopy of ints -/
def zCpy (own : String) (idx : Nat) : Prop := Cond.methodLink own idx arraycopyName ∈ zTbl ∧ Cond.native arraycopyName ∈ zTbl ∧ Cond.static arraycopyName ∈ zTbl ∧ Cond.initialized "java/lang/System" ∈ zTbl
theorem z_copy {idx a0 a1 n0 n1 : Nat} {sp dp n : Int} {f g : Nat → Int32} (hd : zAt M 3 pc pc' (.invokestatic idx)) (hc : zCpy M.1.cls idx) (ha0 : h a0 = some (.inl (0, n0, .inl f))) (ha1 : h a1 = some (.inl (0, n1, .inl g))) (hs : 0 ≤ sp) (hdp : 0 ≤ dp) (hn : 0 ≤ n) (h0 : sp + n ≤ n0) (h1 : dp + n ≤ n1) (hn0 : n0 < 2147483648) (hn1 : n1 < 2147483648) (hdd : 1 ≤ d) (hS0 : S = [])
    (K : Z l M d mc ms P pc' L S (zup h a1 (.inl (0, n1, .inl (va_cpy f g sp.toNat dp.toNat n.toNat)))) kc ks) : Z l M d mc ms P pc L (vI n :: vI dp :: .ref a1 :: vI sp :: .ref a0 :: S) h kc ks := by
  obtain ⟨hd, rfl⟩ := hd
  subst hS0
  intro G p e s m args below meth c A H locs cells slots ls hCx hcc hss hl hR
  obtain ⟨hx, hb, hr, hml, hown, hX, hlk, hK, hA, hnm⟩ := id hCx
  obtain ⟨ws, hP, hD, hS, hC⟩ := id hR
  have hts : ∀ w ∈ zTbl, w.before args s = true := zW_warm hX.1 (State.WarmedH.refl s)
  obtain ⟨q0, hq0⟩ := hC a0 _ ha0
  obtain ⟨q1, hq1⟩ := hC a1 _ ha1
  obtain ⟨c1, c2, c3, c4⟩ := hc
  refine va_copyi hx hb (hml.trans hl.1.symm) hown (hts _ c1) (hts _ c2) (hts _ c3) (hts _ c4) hK hP hD hS q0 q1 0 0 (ty := .int) hq0 hq1 rfl rfl rfl (by rw [zI_lt0 (by omega)]; omega) (by rw [zI_lt0 (by omega)]; omega) (by rw [zI_lt0 (by omega)]; omega) (by rw [zI_clamp (by omega), zI_clamp (by omega)]; omega) (by rw [zI_clamp (by omega), zI_clamp (by omega)]; omega) (fun i _ => rfl) hdd ?_ hd (fun H1 locs1 hP1 hD1 hS1 => ?_)
  · show 0 + (nativeFrameWords "java/lang/System" "arraycopy" 5 + 11) ≤ 64 * d
    exact Nat.le_trans (by decide) (Nat.mul_le_mul_left 64 hdd)
  · rw [zI_clamp (by omega), zI_clamp (by omega), zI_clamp (by omega)] at hP1 hD1
    exact K G p e s m args below meth c A H1 locs1 cells slots ls hCx hcc hss hl ⟨_, hP1, hD1, hS1, hC.set (e0 := .inl (0, n1, .inl g)) (e := .inl (0, n1, .inl (va_cpy f g sp.toNat dp.toNat n.toNat))) hD hq1⟩
def zMth (own : String) (idx : Nat) (y : MethodName) (c : ByteArray) (n : Nat) : Prop := Cond.methodLink own idx y ∈ zTbl ∧ Cond.static y ∈ zTbl ∧ Cond.initialized "java/lang/Math" ∈ zTbl ∧ Cond.code y c n (some .int) ∈ zTbl
theorem z_max {idx : Nat} {x y : Int} (hd : zAt M 3 pc pc' (.invokestatic idx)) (hc : zMth M.1.cls idx Lib.Math.max.name Lib.Math.max.code 2) (hx0 : zIn x) (hy0 : zIn y) (hdd : 1 ≤ d) (hS8 : (S.map fun v => v.category).sum ≤ 40) (K : Z l M d mc ms P pc' L (vI (max x y) :: S) h kc ks) : Z l M d mc ms P pc L (vI y :: vI x :: S) h kc ks := by
  obtain ⟨hd, rfl⟩ := hd
  intro G p e s m args below meth c A H locs cells slots ls hCx hcc hss hl hR
  obtain ⟨hx, hb, hr, hml, hown, hX, hlk, hK, hA, hnm⟩ := id hCx
  have hts : ∀ w ∈ zTbl, w.before args s = true := zW_warm hX.1 (State.WarmedH.refl s)
  obtain ⟨c1, c2, c3, c4⟩ := hc
  refine va_mmax hx hb (hml.trans hl.1.symm) hown (hts _ c1) (hts _ c2) (hts _ c3) (hts _ c4) hdd (by show _ + 13 ≤ 64 * d; omega) (by show cells ≤ mc; omega) (by show slots ≤ ms; omega) hd ?_
  have e1 : Value.int (if Int32.ofInt x < Int32.ofInt y then Int32.ofInt y else Int32.ofInt x) = vI (max x y) := by
    unfold vI
    by_cases q : x < y
    · rw [if_pos ((zI_lt hx0 hy0).mpr q), Int.max_eq_right (by omega)]
    · rw [if_neg (fun z => q ((zI_lt hx0 hy0).mp z)), Int.max_eq_left (by omega)]
  rw [e1]
  exact K G p e s m args below meth c A H locs cells slots ls hCx hcc hss hl hR
theorem z_min {idx : Nat} {x y : Int} (hd : zAt M 3 pc pc' (.invokestatic idx)) (hc : zMth M.1.cls idx Lib.Math.min.name Lib.Math.min.code 2) (hx0 : zIn x) (hy0 : zIn y) (hdd : 1 ≤ d) (hS8 : (S.map fun v => v.category).sum ≤ 40) (K : Z l M d mc ms P pc' L (vI (min x y) :: S) h kc ks) : Z l M d mc ms P pc L (vI y :: vI x :: S) h kc ks := by
  obtain ⟨hd, rfl⟩ := hd
  intro G p e s m args below meth c A H locs cells slots ls hCx hcc hss hl hR
  obtain ⟨hx, hb, hr, hml, hown, hX, hlk, hK, hA, hnm⟩ := id hCx
  have hts : ∀ w ∈ zTbl, w.before args s = true := zW_warm hX.1 (State.WarmedH.refl s)
  obtain ⟨c1, c2, c3, c4⟩ := hc
  refine va_mmin hx hb (hml.trans hl.1.symm) hown (hts _ c1) (hts _ c2) (hts _ c3) (hts _ c4) hdd (by show _ + 13 ≤ 64 * d; omega) (by show cells ≤ mc; omega) (by show slots ≤ ms; omega) hd ?_
  have e1 : Value.int (if Int32.ofInt y < Int32.ofInt x then Int32.ofInt y else Int32.ofInt x) = vI (min x y) := by
    unfold vI
    by_cases q : y < x
    · rw [if_pos ((zI_lt hy0 hx0).mpr q), Int.min_eq_right (by omega)]
    · rw [if_neg (fun z => q ((zI_lt hy0 hx0).mp z)), Int.min_eq_left (by omega)]
  rw [e1]
  exact K G p e s m args below meth c A H locs cells slots ls hCx hcc hss hl hR
theorem z_abs {idx : Nat} {x : Int} (hd : zAt M 3 pc pc' (.invokestatic idx)) (hc : zMth M.1.cls idx Lib.Math.abs.name Lib.Math.abs.code 1) (hx0 : zIn x) (hdd : 1 ≤ d) (hS8 : (S.map fun v => v.category).sum ≤ 40) (K : Z l M d mc ms P pc' L (vI (if 0 ≤ x then x else 0 - x) :: S) h kc ks) : Z l M d mc ms P pc L (vI x :: S) h kc ks := by
  obtain ⟨hd, rfl⟩ := hd
  intro G p e s m args below meth c A H locs cells slots ls hCx hcc hss hl hR
  obtain ⟨hx, hb, hr, hml, hown, hX, hlk, hK, hA, hnm⟩ := id hCx
  have hts : ∀ w ∈ zTbl, w.before args s = true := zW_warm hX.1 (State.WarmedH.refl s)
  obtain ⟨c1, c2, c3, c4⟩ := hc
  refine va_mabs hx hb (hml.trans hl.1.symm) hown (hts _ c1) (hts _ c2) (hts _ c3) (hts _ c4) hdd (by show _ + 13 ≤ 64 * d; omega) (by show cells ≤ mc; omega) (by show slots ≤ ms; omega) hd ?_
  have e1 : Value.int (if 0 ≤ Int32.ofInt x then Int32.ofInt x else 0 - Int32.ofInt x) = vI (if 0 ≤ x then x else 0 - x) := by
    unfold vI
    by_cases q : 0 ≤ x
    · rw [if_pos ((zI_0le hx0).mpr q), if_pos q]
    · rw [if_neg (fun z => q ((zI_0le hx0).mp z)), if_neg q, Int32.ofInt_sub]; rfl
  rw [e1]
  exact K G p e s m args below meth c A H locs cells slots ls hCx hcc hss hl hR
end ZM
