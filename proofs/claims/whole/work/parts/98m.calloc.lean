/-! ===== rules of Z for new cells ===== -/
def zOI (own : String) (idx : Nat) : Prop := Cond.methodLink own idx Lib.objectInit ∈ zTbl ∧ Cond.instanceMethod Lib.objectInit ∈ zTbl ∧ Cond.code Lib.objectInit ⟨#[0xb1]⟩ 1 none ∈ zTbl
def zNw (own : String) (idx ci : Nat) (fs : List Value) : Prop := ∃ (C : String) (T : u_T) (N : Nat) (ty0 : Nat → FieldType), vwCl[ci]? = some (C, T, N) ∧ (∀ w ∈ u_ws C T N, w ∈ zTbl) ∧ (∀ k, k < N → parseFieldDescriptor (T k).2.2.1 = some (ty0 k)) ∧ Cond.classLink own idx C ∈ zTbl ∧ Cond.instantiable C N ∈ zTbl ∧ Cond.initialized C ∈ zTbl ∧ (∀ j, j < N → defaultValue (ty0 j) = vp_V fs j) ∧ fs.length = N
section ZN
variable {l : Launch} {M : zM} {d mc ms : Nat} {P : Option Value → zH → Prop} {pc pc' : Nat} {L : List (Option Value)} {S : List Value} {h : zH} {kc ks : Nat}
theorem z_objI {idx a : Nat} (hd : zAt M 3 pc pc' (.invokespecial idx)) (hc : zOI M.1.cls idx) (hdd : 1 ≤ d) (hW : (S.map fun v => v.category).sum ≤ 8) (K : Z l M d mc ms P pc' L S h kc ks) : Z l M d mc ms P pc L (.ref a :: S) h kc ks := by
  obtain ⟨hd, rfl⟩ := hd
  intro G p e s m args below meth c A H locs cells slots ls hCx hcc hss hl hR
  obtain ⟨hx, hb, hr, hml, hown, hX, hlk, hK, hA, hnm⟩ := id hCx
  have hts : ∀ w ∈ zTbl, w.before args s = true := zW_warm hX.1 (State.WarmedH.refl s)
  obtain ⟨c1, c2, c3⟩ := hc
  refine W.objInit hx hb hown (hts _ c1) (hts _ c2) (hts _ c3) rfl (hl.1.trans hml.symm) rfl hd hdd ?_ (K G p e s m args below meth c A H locs cells slots ls hCx hcc hss hl hR)
  show 2 * 0 + _ + 12 ≤ 64 * d
  omega
theorem z_newO {idx ci : Nat} {fs : List Value} (hd : zAt M 3 pc pc' (.new idx)) (hc : zNw M.1.cls idx ci fs) (h1 : 1 ≤ kc) (h2 : fs.length ≤ ks) (K : ∀ (q : Nat) (h' : zH), h q = none → h' q = some (.inr (ci, fs)) → (∀ x, x ≠ q → h' x = h x) → Z l M d mc ms P pc' L (.ref q :: S) h' (kc - 1) (ks - fs.length)) : Z l M d mc ms P pc L S h kc ks := by
  obtain ⟨hd, rfl⟩ := hd
  intro G p e s m args below meth c A H locs cells slots ls hCx hcc hss hl hR
  obtain ⟨hx, hb, hr, hml, hown, hX, hlk, hK, hA, hnm⟩ := id hCx
  obtain ⟨ws, hP, hD, hS, hC⟩ := id hR
  obtain ⟨C, T, N, ty0, c1, c2, c3, c4, c5, c6, c7, c8⟩ := hc
  have hts : ∀ w ∈ zTbl, w.before args s = true := zW_warm hX.1 (State.WarmedH.refl s)
  refine va_new (ci := ci) (fs := fs) hx hb hts c2 ty0 c3 hown (hts _ c4) (hts _ c5) (hts _ c6) hK hP hD hS hA c1 c7 (by show cells + 1 ≤ mc; omega) (by show slots + N ≤ ms; omega) hd (fun q H1 hP1 hD1 hS1 => ?_)
  exact K q (zup h q (.inr (ci, fs))) (hC.fresh hD1) (if_pos rfl) (fun x hx => if_neg hx) G p e s m args below meth c A H1 locs _ _ ls hCx (by omega) (by omega) hl ⟨_, hP1, hD1, hS1, hC.push (e := .inr (ci, fs))⟩
theorem z_newI {n : Int} (hd : zAt M 2 pc pc' (.newarray .int)) (hc : Cond.arrayClass .int ∈ zTbl) (n0 : 0 ≤ n) (n1 : n ≤ 1000000) (h1 : 1 ≤ kc) (h2 : n ≤ ks) (K : ∀ (q : Nat) (h' : zH), h q = none → h' q = some (.inl (0, n.toNat, .inl (fun _ => 0))) → (∀ x, x ≠ q → h' x = h x) → Z l M d mc ms P pc' L (.ref q :: S) h' (kc - 1) (ks - n.toNat)) : Z l M d mc ms P pc L (vI n :: S) h kc ks := by
  obtain ⟨hd, rfl⟩ := hd
  intro G p e s m args below meth c A H locs cells slots ls hCx hcc hss hl hR
  obtain ⟨hx, hb, hr, hml, hown, hX, hlk, hK, hA, hnm⟩ := id hCx
  obtain ⟨ws, hP, hD, hS, hC⟩ := id hR
  have hts : ∀ w ∈ zTbl, w.before args s = true := zW_warm hX.1 (State.WarmedH.refl s)
  refine va_newa (atype := .int) (ty := .int) (N' := n.toNat) (a0 := (n.toNat, .inl (fun _ => 0))) hx hb (hts _ hc) rfl hK hP hD hS hA (fun cA => rfl) (by rw [zI_lt0 (by omega)]; omega) (by rw [zI_clamp (by omega)]) (by show n.toNat * 4 ≤ _; omega) (by show cells + 1 ≤ mc; omega) (by show slots + n.toNat ≤ ms; omega) hd (fun q cA H1 hK1 hP1 hD1 hS1 => ?_)
  have e1 : s.vm.findClass _ = some cA := (hK1.2 6 (cA, .int) rfl).2
  have e2 : s.vm.findClass _ = some (zA G 0) := (hK.2 0 (zA G 0, .int) rfl).2
  have e3 : cA = zA G 0 := Option.some.inj (e1.symm.trans e2)
  subst e3
  exact K q (zup h q (.inl (0, n.toNat, .inl (fun _ => 0)))) (hC.fresh hD1) (if_pos rfl) (fun x hx => if_neg hx) G p e s m args below meth c A H1 locs _ _ ls hCx (by omega) (by omega) hl ⟨_, hP1, hD1, hS1, hC.push (e := .inl (0, n.toNat, .inl (fun _ => 0)))⟩
theorem z_newL {n : Int} (hd : zAt M 2 pc pc' (.newarray .long)) (hc : Cond.arrayClass .long ∈ zTbl) (n0 : 0 ≤ n) (n1 : n ≤ 1000000) (h1 : 1 ≤ kc) (h2 : n ≤ ks) (K : ∀ (q : Nat) (h' : zH), h q = none → h' q = some (.inl (1, n.toNat, .inr (.inl (fun _ => 0)))) → (∀ x, x ≠ q → h' x = h x) → Z l M d mc ms P pc' L (.ref q :: S) h' (kc - 1) (ks - n.toNat)) : Z l M d mc ms P pc L (vI n :: S) h kc ks := by
  obtain ⟨hd, rfl⟩ := hd
  intro G p e s m args below meth c A H locs cells slots ls hCx hcc hss hl hR
  obtain ⟨hx, hb, hr, hml, hown, hX, hlk, hK, hA, hnm⟩ := id hCx
  obtain ⟨ws, hP, hD, hS, hC⟩ := id hR
  have hts : ∀ w ∈ zTbl, w.before args s = true := zW_warm hX.1 (State.WarmedH.refl s)
  refine va_newa (atype := .long) (ty := .long) (N' := n.toNat) (a0 := (n.toNat, .inr (.inl (fun _ => 0)))) hx hb (hts _ hc) rfl hK hP hD hS hA (fun cA => rfl) (by rw [zI_lt0 (by omega)]; omega) (by rw [zI_clamp (by omega)]) (by show n.toNat * 8 ≤ _; omega) (by show cells + 1 ≤ mc; omega) (by show slots + n.toNat ≤ ms; omega) hd (fun q cA H1 hK1 hP1 hD1 hS1 => ?_)
  have e1 : s.vm.findClass _ = some cA := (hK1.2 6 (cA, .long) rfl).2
  have e2 : s.vm.findClass _ = some (zA G 1) := (hK.2 1 (zA G 1, .long) rfl).2
  have e3 : cA = zA G 1 := Option.some.inj (e1.symm.trans e2)
  subst e3
  exact K q (zup h q (.inl (1, n.toNat, .inr (.inl (fun _ => 0))))) (hC.fresh hD1) (if_pos rfl) (fun x hx => if_neg hx) G p e s m args below meth c A H1 locs _ _ ls hCx (by omega) (by omega) hl ⟨_, hP1, hD1, hS1, hC.push (e := .inl (1, n.toNat, .inr (.inl (fun _ => 0))))⟩
theorem z_newB {n : Int} (hd : zAt M 2 pc pc' (.newarray .byte)) (hc : Cond.arrayClass .byte ∈ zTbl) (n0 : 0 ≤ n) (n1 : n ≤ 1000000) (h1 : 1 ≤ kc) (h2 : n ≤ ks) (K : ∀ (q : Nat) (h' : zH), h q = none → h' q = some (.inl (2, n.toNat, .inl (fun _ => 0))) → (∀ x, x ≠ q → h' x = h x) → Z l M d mc ms P pc' L (.ref q :: S) h' (kc - 1) (ks - n.toNat)) : Z l M d mc ms P pc L (vI n :: S) h kc ks := by
  obtain ⟨hd, rfl⟩ := hd
  intro G p e s m args below meth c A H locs cells slots ls hCx hcc hss hl hR
  obtain ⟨hx, hb, hr, hml, hown, hX, hlk, hK, hA, hnm⟩ := id hCx
  obtain ⟨ws, hP, hD, hS, hC⟩ := id hR
  have hts : ∀ w ∈ zTbl, w.before args s = true := zW_warm hX.1 (State.WarmedH.refl s)
  refine va_newa (atype := .byte) (ty := .byte) (N' := n.toNat) (a0 := (n.toNat, .inl (fun _ => 0))) hx hb (hts _ hc) rfl hK hP hD hS hA (fun cA => rfl) (by rw [zI_lt0 (by omega)]; omega) (by rw [zI_clamp (by omega)]) (by show n.toNat * 1 ≤ _; omega) (by show cells + 1 ≤ mc; omega) (by show slots + n.toNat ≤ ms; omega) hd (fun q cA H1 hK1 hP1 hD1 hS1 => ?_)
  have e1 : s.vm.findClass _ = some cA := (hK1.2 6 (cA, .byte) rfl).2
  have e2 : s.vm.findClass _ = some (zA G 2) := (hK.2 2 (zA G 2, .byte) rfl).2
  have e3 : cA = zA G 2 := Option.some.inj (e1.symm.trans e2)
  subst e3
  exact K q (zup h q (.inl (2, n.toNat, .inl (fun _ => 0)))) (hC.fresh hD1) (if_pos rfl) (fun x hx => if_neg hx) G p e s m args below meth c A H1 locs _ _ ls hCx (by omega) (by omega) hl ⟨_, hP1, hD1, hS1, hC.push (e := .inl (2, n.toNat, .inl (fun _ => 0)))⟩
theorem z_newT {n : Int} (hd : zAt M 2 pc pc' (.newarray .boolean)) (hc : Cond.arrayClass .boolean ∈ zTbl) (n0 : 0 ≤ n) (n1 : n ≤ 1000000) (h1 : 1 ≤ kc) (h2 : n ≤ ks) (K : ∀ (q : Nat) (h' : zH), h q = none → h' q = some (.inl (3, n.toNat, .inl (fun _ => 0))) → (∀ x, x ≠ q → h' x = h x) → Z l M d mc ms P pc' L (.ref q :: S) h' (kc - 1) (ks - n.toNat)) : Z l M d mc ms P pc L (vI n :: S) h kc ks := by
  obtain ⟨hd, rfl⟩ := hd
  intro G p e s m args below meth c A H locs cells slots ls hCx hcc hss hl hR
  obtain ⟨hx, hb, hr, hml, hown, hX, hlk, hK, hA, hnm⟩ := id hCx
  obtain ⟨ws, hP, hD, hS, hC⟩ := id hR
  have hts : ∀ w ∈ zTbl, w.before args s = true := zW_warm hX.1 (State.WarmedH.refl s)
  refine va_newa (atype := .boolean) (ty := .boolean) (N' := n.toNat) (a0 := (n.toNat, .inl (fun _ => 0))) hx hb (hts _ hc) rfl hK hP hD hS hA (fun cA => rfl) (by rw [zI_lt0 (by omega)]; omega) (by rw [zI_clamp (by omega)]) (by show n.toNat * 1 ≤ _; omega) (by show cells + 1 ≤ mc; omega) (by show slots + n.toNat ≤ ms; omega) hd (fun q cA H1 hK1 hP1 hD1 hS1 => ?_)
  have e1 : s.vm.findClass _ = some cA := (hK1.2 6 (cA, .boolean) rfl).2
  have e2 : s.vm.findClass _ = some (zA G 3) := (hK.2 3 (zA G 3, .boolean) rfl).2
  have e3 : cA = zA G 3 := Option.some.inj (e1.symm.trans e2)
  subst e3
  exact K q (zup h q (.inl (3, n.toNat, .inl (fun _ => 0)))) (hC.fresh hD1) (if_pos rfl) (fun x hx => if_neg hx) G p e s m args below meth c A H1 locs _ _ ls hCx (by omega) (by omega) hl ⟨_, hP1, hD1, hS1, hC.push (e := .inl (3, n.toNat, .inl (fun _ => 0)))⟩
theorem z_newQ {n : Int} {idx t : Nat} {C : String} (hd : zAt M 3 pc pc' (.anewarray idx)) (ht : t < 6) (hC0 : zTy t = .object C) (hc : Cond.classLink M.1.cls idx C ∈ zTbl) (hc2 : Cond.arrayOver (.object C) ∈ zTbl) (n0 : 0 ≤ n) (n1 : n ≤ 1000000) (h1 : 1 ≤ kc) (h2 : n ≤ ks) (K : ∀ (q : Nat) (h' : zH), h q = none → h' q = some (.inl (t, n.toNat, .inr (.inr (.inr (.inr (fun _ => none)))))) → (∀ x, x ≠ q → h' x = h x) → Z l M d mc ms P pc' L (.ref q :: S) h' (kc - 1) (ks - n.toNat)) : Z l M d mc ms P pc L (vI n :: S) h kc ks := by
  obtain ⟨hd, rfl⟩ := hd
  intro G p e s m args below meth c A H locs cells slots ls hCx hcc hss hl hR
  obtain ⟨hx, hb, hr, hml, hown, hX, hlk, hK, hA, hnm⟩ := id hCx
  obtain ⟨ws, hP, hD, hS, hC⟩ := id hR
  have hts : ∀ w ∈ zTbl, w.before args s = true := zW_warm hX.1 (State.WarmedH.refl s)
  have htt : (zTys G)[t]? = some (zA G t, .object C) := by
    rw [← hC0]
    rcases (show t = 0 ∨ t = 1 ∨ t = 2 ∨ t = 3 ∨ t = 4 ∨ t = 5 by omega) with rfl | rfl | rfl | rfl | rfl | rfl <;> rfl
  refine va_newq (N' := n.toNat) hx hb hown (hts _ hc) (va_AO.of (hts _ hc2)) hK hP hD hS hA (by rw [zI_lt0 (by omega)]; omega) (by rw [zI_clamp (by omega)]) (by omega) (by show cells + 1 ≤ mc; omega) (by show slots + n.toNat ≤ ms; omega) hd (fun q cA H1 hK1 hP1 hD1 hS1 => ?_)
  obtain ⟨-, -, -, -, -, e1⟩ := (hK1.2 6 (cA, .object C) rfl).2
  obtain ⟨-, -, -, -, -, e2⟩ := (hK.2 t _ htt).2
  have e3 : cA = zA G t := Option.some.inj (e1.symm.trans e2)
  subst e3
  exact K q (zup h q (.inl (t, n.toNat, .inr (.inr (.inr (.inr (fun _ => none))))))) (hC.fresh hD1) (if_pos rfl) (fun x hx => if_neg hx) G p e s m args below meth c A H1 locs _ _ ls hCx (by omega) (by omega) hl ⟨_, hP1, hD1, hS1, hC.push (e := .inl (t, n.toNat, .inr (.inr (.inr (.inr (fun _ => none))))))⟩
/-- fields of a young object -/
theorem z_pf {idx ci k a : Nat} {fs : List Value} {v : Value} {ty : FieldType} (hd : zAt M 3 pc pc' (.putfield idx)) (hf : zFp M.1.cls idx ci k false ty) (ha : h a = some (.inr (ci, fs))) (hl0 : k < fs.length) (hn : narrow ty v = v) (hfit : fits ty v = true) (K : ∀ h' : zH, h' a = some (.inr (ci, fs.set k v)) → (∀ x, x ≠ a → h' x = h x) → Z l M d mc ms P pc' L S h' kc ks) : Z l M d mc ms P pc L (v :: .ref a :: S) h kc ks :=
  z_putf hd hf ha hl0 hn hfit (K _ (if_pos rfl) (fun x hx => if_neg hx))
theorem z_pF {idx ci k a : Nat} {fs : List Value} {v : Value} {ty : FieldType} (hd : zAt M 3 pc pc' (.putfield idx)) (hf : zFp M.1.cls idx ci k true ty) (hi : M.1.name = "<init>") (ha : h a = some (.inr (ci, fs))) (hl0 : k < fs.length) (hn : narrow ty v = v) (hfit : fits ty v = true) (K : ∀ h' : zH, h' a = some (.inr (ci, fs.set k v)) → (∀ x, x ≠ a → h' x = h x) → Z l M d mc ms P pc' L S h' kc ks) : Z l M d mc ms P pc L (v :: .ref a :: S) h kc ks :=
  z_putF hd hf hi ha hl0 hn hfit (K _ (if_pos rfl) (fun x hx => if_neg hx))
end ZN
theorem oi0 : zOI RX0 3 := ⟨zt2 23 (by decide +kernel) rfl, zt1 24 (by decide +kernel) rfl, zt1 25 (by rfl) rfl⟩
theorem oi1 : zOI RX1 3 := ⟨zt1 31 (by decide +kernel) rfl, zt1 24 (by decide +kernel) rfl, zt1 25 (by rfl) rfl⟩
theorem oi2 : zOI RX2 3 := ⟨zt1 120 (by decide +kernel) rfl, zt1 24 (by decide +kernel) rfl, zt1 25 (by rfl) rfl⟩
theorem oi3 : zOI RX3 3 := ⟨zt1 160 (by decide +kernel) rfl, zt1 24 (by decide +kernel) rfl, zt1 25 (by rfl) rfl⟩
theorem oi4 : zOI RX4 3 := ⟨zt1 166 (by decide +kernel) rfl, zt1 24 (by decide +kernel) rfl, zt1 25 (by rfl) rfl⟩
theorem oi5 : zOI RX5 3 := ⟨zt2 13 (by decide +kernel) rfl, zt1 24 (by decide +kernel) rfl, zt1 25 (by rfl) rfl⟩
theorem oi6 : zOI RX6 3 := ⟨zt1 143 (by decide +kernel) rfl, zt1 24 (by decide +kernel) rfl, zt1 25 (by rfl) rfl⟩
theorem oi7 : zOI RX7 3 := ⟨zt1 23 (by decide +kernel) rfl, zt1 24 (by decide +kernel) rfl, zt1 25 (by rfl) rfl⟩
theorem oi8 : zOI RX8 22 := ⟨zt5 40 (by decide +kernel) rfl, zt1 24 (by decide +kernel) rfl, zt1 25 (by rfl) rfl⟩
theorem ac0 : Cond.arrayClass .int ∈ zTbl := zt1 113 (by decide +kernel) rfl
theorem ac1 : Cond.arrayClass .long ∈ zTbl := zt2 104 (by decide +kernel) rfl
theorem ac2 : Cond.arrayClass .byte ∈ zTbl := zt3 217 (by decide +kernel) rfl
theorem ac3 : Cond.arrayClass .boolean ∈ zTbl := zt5 192 (by decide +kernel) rfl
theorem ao4 : Cond.arrayOver (.object "FuseFrames$Script") ∈ zTbl := zt1 33 (by decide +kernel) rfl
theorem ao5 : Cond.arrayOver (.object "FuseFrames$Frame") ∈ zTbl := zt1 114 (by decide +kernel) rfl
theorem nwL_7 : zNw RL 7 7 [.null, .null, .null, .null, .null, .null, .null, .null, .null, .null, .null, .null, .null, vI 0, vI 0, vI 0, vI 0] := ⟨RX7, TX7, 17, tyX7, rfl, iZ7, tyX7_ok, zt1 18 (by decide +kernel) rfl, zt1 19 (by decide +kernel) rfl, zt1 1 (by decide +kernel) rfl, by decide, rfl⟩
theorem nw7_9 : zNw RX7 9 1 [vI 0, .null, .null, .null, .null, vI 0, .null, vI 0, .null, vI 0, .null, .null, .null, vI 0, .null, vI 0] := ⟨RX1, TX1, 16, tyX1, rfl, iZ1, tyX1_ok, zt1 26 (by decide +kernel) rfl, zt1 27 (by decide +kernel) rfl, zt1 2 (by decide +kernel) rfl, by decide, rfl⟩
theorem nw7_26 : zNw RX7 26 2 [vI 0, .null, .null, .null] := ⟨RX2, TX2, 4, tyX2, rfl, iZ2, tyX2_ok, zt1 115 (by decide +kernel) rfl, zt1 116 (by decide +kernel) rfl, zt1 4 (by decide +kernel) rfl, by decide, rfl⟩
theorem nw7_36 : zNw RX7 36 6 [vI 0, .null] := ⟨RX6, TX6, 2, tyX6, rfl, iZ6, tyX6_ok, zt1 138 (by decide +kernel) rfl, zt1 139 (by decide +kernel) rfl, zt1 5 (by decide +kernel) rfl, by decide, rfl⟩
theorem nw7_43 : zNw RX7 43 3 [.null, vI 0, .null, .null, .null, vI 0, vI 0, vI 0, vI 0] := ⟨RX3, TX3, 9, tyX3, rfl, iZ3, tyX3_ok, zt1 155 (by decide +kernel) rfl, zt1 156 (by decide +kernel) rfl, zt1 6 (by decide +kernel) rfl, by decide, rfl⟩
theorem nw3_9 : zNw RX3 9 4 [vI 0, vI 0, vI 0, .null, .null, .null, .null, .null, .null] := ⟨RX4, TX4, 9, tyX4, rfl, iZ4, tyX4_ok, zt1 161 (by decide +kernel) rfl, zt1 162 (by decide +kernel) rfl, zt1 7 (by decide +kernel) rfl, by decide, rfl⟩
theorem nw7_50 : zNw RX7 50 5 [.null] := ⟨RX5, TX5, 1, tyX5, rfl, iZ5, tyX5_ok, zt2 8 (by decide +kernel) rfl, zt2 9 (by decide +kernel) rfl, zt1 9 (by decide +kernel) rfl, by decide, rfl⟩
theorem nw7_57 : zNw RX7 57 0 [.null, .null, vI 0, .null, .null, .null, .null] := ⟨RX0, TX0, 7, tyX0, rfl, iZ0, tyX0_ok, zt2 18 (by decide +kernel) rfl, zt2 19 (by decide +kernel) rfl, zt1 10 (by decide +kernel) rfl, by decide, rfl⟩
theorem nw0_31 : zNw RX0 31 5 [.null] := ⟨RX5, TX5, 1, tyX5, rfl, iZ5, tyX5_ok, zt2 24 (by decide +kernel) rfl, zt2 9 (by decide +kernel) rfl, zt1 9 (by decide +kernel) rfl, by decide, rfl⟩
theorem nw4_10 : zNw RX4 10 4 [vI 0, vI 0, vI 0, .null, .null, .null, .null, .null, .null] := ⟨RX4, TX4, 9, tyX4, rfl, iZ4, tyX4_ok, zt3 214 (by decide +kernel) rfl, zt1 162 (by decide +kernel) rfl, zt1 7 (by decide +kernel) rfl, by decide, rfl⟩
theorem nwL_10 : zNw RL 10 8 [vI 0, .null, .null, .null, .null, .null, vI 0, .null, vI 0, vI 0, vI 0, .null, .null, vI 0, vI 0, .null, .null, .null, vI 0, vI 0, vI 0, vI 0, vI 0, vI 0, vI 0, vI 0, .null, vI 0, vI 0, vI 0, .null, .null, .null, vI 0, .null, .null, vI 0, .null, .null, .null, vI 0, vI 0, vI 0, vI 0, vI 0, vI 0, .null, .null, vI 0, vI 0] := ⟨RX8, TX8, 50, tyX8, rfl, iZ8, tyX8_ok, zt5 35 (by decide +kernel) rfl, zt5 36 (by decide +kernel) rfl, zt1 11 (by decide +kernel) rfl, by decide, rfl⟩
