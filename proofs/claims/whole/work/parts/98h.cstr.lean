/-! ===== literals: the same judgement at one place of the literals ===== -/
def ZG (G : zG) (l : Launch) (M : zM) (d mc ms : Nat) (P : Option Value → zH → Prop) (pc : Nat) (L : List (Option Value)) (S : List Value) (h : zH) (kc ks : Nat) : Prop :=
  ∀ (p : Program) (e : Env) (s : State) (m : MethodId) (args : Array Value) (below : List Frame) (meth : Method) (c : Code) (A : Nat → Prop) (H : Heap) (locs : List Loc) (cells slots : Nat) (ls : Array Slot),
    zCx M G p s m meth c A → cells + kc ≤ mc → slots + ks ≤ ms → lv_has ls M.2.2.1 (zp 0 L) → zR G A h s.heap H locs →
      W p l e (zRm d mc ms) s m args below meth c H locs cells slots (MQ below (zQ G A P) args s mc ms A) (F0 m pc ls S)
def MZG (G : zG) (l : Launch) (M : zM) (d mc ms : Nat) (vs : List Value) (h : zH) (P : Option Value → zH → Prop) : Prop :=
  ∀ (ws : va_W) (sz : Nat), zCov G h ws → Met l M.1 (zWd M) (zRm d mc ms) (zPc G ws sz vs) (zQ G (va_A ws sz) P) mc ms (va_A ws sz)
theorem MZ.at {l : Launch} {M : zM} {d mc ms : Nat} {vs : List Value} {h : zH} {P : Option Value → zH → Prop} (hm : MZ l M d mc ms vs h P) (G : zG) : MZG G l M d mc ms vs h P := hm G
theorem MZ.of {l : Launch} {M : zM} {d mc ms : Nat} {vs : List Value} {h : zH} {P : Option Value → zH → Prop} (hm : ∀ G, MZG G l M d mc ms vs h P) : MZ l M d mc ms vs h P := hm
theorem MZG.intro {G : zG} {l : Launch} {M : zM} {d mc ms : Nat} {vs : List Value} {h : zH} {P : Option Value → zH → Prop} (L : List (Option Value)) (hy : plainName M.1.cls = true) (hn : (lg_sl vs).length ≤ M.2.2.1) (hL : lv_args 0 vs = zp 0 L)
    (k : ZG G l M d mc ms P 0 L [] h mc ms) : MZG G l M d mc ms vs h P := by
  intro ws sz hC
  refine Met.ofW (cc := M.2.1) (maxL := M.2.2.1) (ret := M.2.2.2) hy rfl ?_
  intro p e s m args below meth c s₁ B hml hv
  obtain ⟨rfl, hsz, hX, hP, hK, hD0⟩ := hv
  subst hsz
  have hD := hD0.self (sz := s.heap.size)
  have hl := lv_entry vs (n := M.2.2.1) hn
  rw [lg_entry_eq]
  rw [hL] at hl
  exact k p e s m vs.toArray below meth c (va_A ws s.heap.size) s.heap [] 0 0 _ ⟨B.exec, B.bytes, B.returns, hml, findClass_of_methodNamed B.named, hX, B.notSynchronized, hK, fun q h => Or.inr h, (name_of_methodNamed B.named B.method).1⟩ (by omega) (by omega) hl ⟨ws, hP, hD, va_S.rf, hC⟩
section ZGP
variable {G : zG} {l : Launch} {M M' : zM} {d mc ms : Nat} {P : Option Value → zH → Prop} {pc pc' : Nat} {L : List (Option Value)} {S : List Value} {h : zH} {kc ks : Nat}
theorem zg_pure {S' : List Value} (step : ∀ {p : Program} {e : Env} {R : Room} {s : State} {m : MethodId} {args : Array Value} {below : List Frame} {meth : Method} {c : Code} {H : Heap} {locs : List Loc} {cells slots : Nat} {Q : State → Prop} {ls : Array Slot}, p.tables.exec = Jvm.exec → c.code = M.2.1 → W p l e R s m args below meth c H locs cells slots Q (F0 m pc' ls S') → W p l e R s m args below meth c H locs cells slots Q (F0 m pc ls S))
    (k : ZG G l M d mc ms P pc' L S' h kc ks) : ZG G l M d mc ms P pc L S h kc ks := by
  intro p e s m args below meth c A H locs cells slots ls hCx hcc hss hl hR
  exact step hCx.1 hCx.2.1 (k p e s m args below meth c A H locs cells slots ls hCx hcc hss hl hR)
theorem zg_br {c1 : Prop} {pt pf : Nat} {St Sf : List Value} (step : ∀ {p : Program} {e : Env} {R : Room} {s : State} {m : MethodId} {args : Array Value} {below : List Frame} {meth : Method} {c : Code} {H : Heap} {locs : List Loc} {cells slots : Nat} {Q : State → Prop} {ls : Array Slot}, p.tables.exec = Jvm.exec → c.code = M.2.1 → (c1 → W p l e R s m args below meth c H locs cells slots Q (F0 m pt ls St)) → (¬ c1 → W p l e R s m args below meth c H locs cells slots Q (F0 m pf ls Sf)) → W p l e R s m args below meth c H locs cells slots Q (F0 m pc ls S))
    (kt : c1 → ZG G l M d mc ms P pt L St h kc ks) (kf : ¬ c1 → ZG G l M d mc ms P pf L Sf h kc ks) : ZG G l M d mc ms P pc L S h kc ks := by
  intro p e s m args below meth c A H locs cells slots ls hCx hcc hss hl hR
  exact step hCx.1 hCx.2.1 (fun q => kt q p e s m args below meth c A H locs cells slots ls hCx hcc hss hl hR) (fun q => kf q p e s m args below meth c A H locs cells slots ls hCx hcc hss hl hR)
theorem zg_iconst {n : Int} (hd : zAt M 1 pc pc' (.iconst n)) (k : ZG G l M d mc ms P pc' L (vI n :: S) h kc ks) : ZG G l M d mc ms P pc L (S) h kc ks := by
  obtain ⟨hd, rfl⟩ := hd
  refine zg_pure (fun hx hb w => ?_) k
  exact lv_iconst hx hb hd rfl w
theorem zg_bipush {n : Int} (hn : (Int8.ofInt n).toInt32 = Int32.ofInt n) (hd : zAt M 2 pc pc' (.bipush n)) (k : ZG G l M d mc ms P pc' L (vI n :: S) h kc ks) : ZG G l M d mc ms P pc L (S) h kc ks := by
  obtain ⟨hd, rfl⟩ := hd
  refine zg_pure (fun hx hb w => ?_) k
  exact lv_bipush hx hb hd hn w
theorem zg_sipush {n : Int} (hn : (Int16.ofInt n).toInt32 = Int32.ofInt n) (hd : zAt M 3 pc pc' (.sipush n)) (k : ZG G l M d mc ms P pc' L (vI n :: S) h kc ks) : ZG G l M d mc ms P pc L (S) h kc ks := by
  obtain ⟨hd, rfl⟩ := hd
  refine zg_pure (fun hx hb w => ?_) k
  exact lv_sipush hx hb hd hn w
theorem zg_iadd {x y : Int} (hd : zAt M 1 pc pc' (.iadd)) (k : ZG G l M d mc ms P pc' L (vI (x + y) :: S) h kc ks) : ZG G l M d mc ms P pc L (vI y :: vI x :: S) h kc ks := by
  obtain ⟨hd, rfl⟩ := hd
  refine zg_pure (fun hx hb w => ?_) k
  rw [show vI (x + y) = .int (Int32.ofInt x + Int32.ofInt y) from by rw [vI, Int32.ofInt_add]] at w
  exact lv_iadd hx hb hd w
theorem zg_isub {x y : Int} (hd : zAt M 1 pc pc' (.isub)) (k : ZG G l M d mc ms P pc' L (vI (x - y) :: S) h kc ks) : ZG G l M d mc ms P pc L (vI y :: vI x :: S) h kc ks := by
  obtain ⟨hd, rfl⟩ := hd
  refine zg_pure (fun hx hb w => ?_) k
  rw [show vI (x - y) = .int (Int32.ofInt x - Int32.ofInt y) from by rw [vI, Int32.ofInt_sub]] at w
  exact lv_isub hx hb hd w
theorem zg_iand {x y : Int} (hd : zAt M 1 pc pc' (.iand)) (k : ZG G l M d mc ms P pc' L (vI (zand x y) :: S) h kc ks) : ZG G l M d mc ms P pc L (vI y :: vI x :: S) h kc ks := by
  obtain ⟨hd, rfl⟩ := hd
  refine zg_pure (fun hx hb w => ?_) k
  unfold vI zand at w
  rw [Int32.ofInt_toInt] at w
  exact lv_iand hx hb hd w
theorem zg_ishr {x y : Int} (hd : zAt M 1 pc pc' (.ishr)) (k : ZG G l M d mc ms P pc' L (vI (zshr x y) :: S) h kc ks) : ZG G l M d mc ms P pc L (vI y :: vI x :: S) h kc ks := by
  obtain ⟨hd, rfl⟩ := hd
  refine zg_pure (fun hx hb w => ?_) k
  unfold vI zshr at w
  rw [Int32.ofInt_toInt] at w
  exact lv_ishr hx hb hd w
theorem zg_pop {v : Value} (hv : v.category = 1) (hd : zAt M 1 pc pc' (.pop)) (k : ZG G l M d mc ms P pc' L (S) h kc ks) : ZG G l M d mc ms P pc L (v :: S) h kc ks := by
  obtain ⟨hd, rfl⟩ := hd
  refine zg_pure (fun hx hb w => ?_) k
  exact lv_pop hx hb hd hv w
theorem zg_goto {off : Int} {tgt : Nat} (hd : zAt M 3 pc pc' (.goto off)) (ht : (pc : Int) + off = (tgt : Int)) (k : ZG G l M d mc ms P tgt L S h kc ks) : ZG G l M d mc ms P pc L S h kc ks := zg_pure (fun hx hb w => lv_goto hx hb hd.1 ht w) k
theorem zg_icmp_eq {x y : Int} {off : Int} {tgt : Nat} (hd : zAt M 3 pc pc' (.if_icmp .eq off)) (ht : (pc : Int) + off = (tgt : Int)) (hx0 : zIn x) (hy0 : zIn y) (kt : x = y → ZG G l M d mc ms P tgt L S h kc ks) (kf : x ≠ y → ZG G l M d mc ms P pc' L S h kc ks) : ZG G l M d mc ms P pc L (vI y :: vI x :: S) h kc ks := by
  obtain ⟨hd, rfl⟩ := hd
  exact zg_br (fun hx hb wt wf => lv_icmp_eq hx hb hd ht wt wf) (fun q => kt ((zI_eq hx0 hy0).mp q)) (fun q => kf (fun e => q ((zI_eq hx0 hy0).mpr e)))
theorem zg_icmp_ge {x y : Int} {off : Int} {tgt : Nat} (hd : zAt M 3 pc pc' (.if_icmp .ge off)) (ht : (pc : Int) + off = (tgt : Int)) (hx0 : zIn x) (hy0 : zIn y) (kt : y ≤ x → ZG G l M d mc ms P tgt L S h kc ks) (kf : x < y → ZG G l M d mc ms P pc' L S h kc ks) : ZG G l M d mc ms P pc L (vI y :: vI x :: S) h kc ks := by
  obtain ⟨hd, rfl⟩ := hd
  exact zg_br (fun hx hb wt wf => lv_icmp_ge hx hb hd ht wt wf) (fun q => kt ((zI_le hy0 hx0).mp q)) (fun q => kf (Int.not_le.mp (fun e => q ((zI_le hy0 hx0).mpr e))))
theorem zg_icmp_lt {x y : Int} {off : Int} {tgt : Nat} (hd : zAt M 3 pc pc' (.if_icmp .lt off)) (ht : (pc : Int) + off = (tgt : Int)) (hx0 : zIn x) (hy0 : zIn y) (kt : x < y → ZG G l M d mc ms P tgt L S h kc ks) (kf : y ≤ x → ZG G l M d mc ms P pc' L S h kc ks) : ZG G l M d mc ms P pc L (vI y :: vI x :: S) h kc ks := by
  obtain ⟨hd, rfl⟩ := hd
  exact zg_br (fun hx hb wt wf => lv_icmp_lt hx hb hd ht wt wf) (fun q => kt ((zI_lt hx0 hy0).mp q)) (fun q => kf (Int.not_lt.mp (fun e => q ((zI_lt hx0 hy0).mpr e))))
theorem zg_if_eq {x : Int} {off : Int} {tgt : Nat} (hd : zAt M 3 pc pc' (.ifCond .eq off)) (ht : (pc : Int) + off = (tgt : Int)) (hx0 : zIn x) (kt : x = 0 → ZG G l M d mc ms P tgt L S h kc ks) (kf : x ≠ 0 → ZG G l M d mc ms P pc' L S h kc ks) : ZG G l M d mc ms P pc L (vI x :: S) h kc ks := by
  obtain ⟨hd, rfl⟩ := hd
  exact zg_br (fun hx hb wt wf => lv_if_eq hx hb hd ht wt wf) (fun q => kt ((zI_eq0 hx0).mp q)) (fun q => kf (fun e => q ((zI_eq0 hx0).mpr e)))
theorem zg_if_ne {x : Int} {off : Int} {tgt : Nat} (hd : zAt M 3 pc pc' (.ifCond .ne off)) (ht : (pc : Int) + off = (tgt : Int)) (hx0 : zIn x) (kt : x ≠ 0 → ZG G l M d mc ms P tgt L S h kc ks) (kf : x = 0 → ZG G l M d mc ms P pc' L S h kc ks) : ZG G l M d mc ms P pc L (vI x :: S) h kc ks := by
  obtain ⟨hd, rfl⟩ := hd
  exact zg_br (fun hx hb wt wf => lv_if_ne hx hb hd ht wf wt) (fun q => kf ((zI_eq0 hx0).mp q)) (fun q => kt (fun e => q ((zI_eq0 hx0).mpr e)))
theorem zg_if_lt {x : Int} {off : Int} {tgt : Nat} (hd : zAt M 3 pc pc' (.ifCond .lt off)) (ht : (pc : Int) + off = (tgt : Int)) (hx0 : zIn x) (kt : x < 0 → ZG G l M d mc ms P tgt L S h kc ks) (kf : 0 ≤ x → ZG G l M d mc ms P pc' L S h kc ks) : ZG G l M d mc ms P pc L (vI x :: S) h kc ks := by
  obtain ⟨hd, rfl⟩ := hd
  exact zg_br (fun hx hb wt wf => lv_if_lt hx hb hd ht wt wf) (fun q => kt ((zI_lt0 hx0).mp q)) (fun q => kf (Int.not_lt.mp (fun e => q ((zI_lt0 hx0).mpr e))))
theorem zg_swIn {x : Int} {dflt lo hi off : Int} {offs : Array Int} {n tgt : Nat} (hd : zAt M n pc pc' (.tableswitch dflt lo hi offs)) (hx0 : zIn x) (h1 : lo ≤ x) (h2 : x ≤ hi) (ho : offs[(x - lo).toNat]? = some off) (ht : (pc : Int) + off = (tgt : Int)) (k : ZG G l M d mc ms P tgt L S h kc ks) : ZG G l M d mc ms P pc L (vI x :: S) h kc ks :=
  zg_pure (fun hx hb w => lv_tableIn hx hb hd.1 (by rw [zI_toInt hx0]; omega) (by rw [zI_toInt hx0]; omega) (by rw [zI_toInt hx0]; exact ho) ht w) k
theorem zg_swOut {x : Int} {dflt lo hi : Int} {offs : Array Int} {n tgt : Nat} (hd : zAt M n pc pc' (.tableswitch dflt lo hi offs)) (hx0 : zIn x) (h1 : x < lo ∨ hi < x) (ht : (pc : Int) + dflt = (tgt : Int)) (k : ZG G l M d mc ms P tgt L S h kc ks) : ZG G l M d mc ms P pc L (vI x :: S) h kc ks :=
  zg_pure (fun hx hb w => lv_tableOut hx hb hd.1 (by rw [zI_toInt hx0]; exact h1) ht w) k
theorem zg_ild_0 {x : Int} (hd : zAt M 1 pc pc' (.iload_n 0)) (k : ZG G l M d mc ms P pc' (some (vI x) :: L) (vI x :: S) h kc ks) : ZG G l M d mc ms P pc (some (vI x) :: L) S h kc ks := by
  obtain ⟨hd, rfl⟩ := hd
  intro p e s m args below meth c A H locs cells slots ls hCx hcc hss hl hR
  exact lv_iload_n hCx.1 hCx.2.1 hd rfl (z_ls (i := 0) hl rfl) (k p e s m args below meth c A H locs cells slots ls hCx hcc hss hl hR)
theorem zg_ild_1 {a0 : Option Value} {x : Int} (hd : zAt M 1 pc pc' (.iload_n 1)) (k : ZG G l M d mc ms P pc' (a0 :: some (vI x) :: L) (vI x :: S) h kc ks) : ZG G l M d mc ms P pc (a0 :: some (vI x) :: L) S h kc ks := by
  obtain ⟨hd, rfl⟩ := hd
  intro p e s m args below meth c A H locs cells slots ls hCx hcc hss hl hR
  exact lv_iload_n hCx.1 hCx.2.1 hd rfl (z_ls (i := 1) hl rfl) (k p e s m args below meth c A H locs cells slots ls hCx hcc hss hl hR)
theorem zg_ild_2 {a0 a1 : Option Value} {x : Int} (hd : zAt M 1 pc pc' (.iload_n 2)) (k : ZG G l M d mc ms P pc' (a0 :: a1 :: some (vI x) :: L) (vI x :: S) h kc ks) : ZG G l M d mc ms P pc (a0 :: a1 :: some (vI x) :: L) S h kc ks := by
  obtain ⟨hd, rfl⟩ := hd
  intro p e s m args below meth c A H locs cells slots ls hCx hcc hss hl hR
  exact lv_iload_n hCx.1 hCx.2.1 hd rfl (z_ls (i := 2) hl rfl) (k p e s m args below meth c A H locs cells slots ls hCx hcc hss hl hR)
theorem zg_ild_3 {a0 a1 a2 : Option Value} {x : Int} (hd : zAt M 1 pc pc' (.iload_n 3)) (k : ZG G l M d mc ms P pc' (a0 :: a1 :: a2 :: some (vI x) :: L) (vI x :: S) h kc ks) : ZG G l M d mc ms P pc (a0 :: a1 :: a2 :: some (vI x) :: L) S h kc ks := by
  obtain ⟨hd, rfl⟩ := hd
  intro p e s m args below meth c A H locs cells slots ls hCx hcc hss hl hR
  exact lv_iload_n hCx.1 hCx.2.1 hd rfl (z_ls (i := 3) hl rfl) (k p e s m args below meth c A H locs cells slots ls hCx hcc hss hl hR)
theorem zg_ild_4 {a0 a1 a2 a3 : Option Value} {x : Int} (hd : zAt M 2 pc pc' (.iload 4)) (k : ZG G l M d mc ms P pc' (a0 :: a1 :: a2 :: a3 :: some (vI x) :: L) (vI x :: S) h kc ks) : ZG G l M d mc ms P pc (a0 :: a1 :: a2 :: a3 :: some (vI x) :: L) S h kc ks := by
  obtain ⟨hd, rfl⟩ := hd
  intro p e s m args below meth c A H locs cells slots ls hCx hcc hss hl hR
  exact lv_iload hCx.1 hCx.2.1 hd (z_ls (i := 4) hl rfl) (k p e s m args below meth c A H locs cells slots ls hCx hcc hss hl hR)
theorem zg_ald_0 {x : Nat} (hd : zAt M 1 pc pc' (.aload_n 0)) (k : ZG G l M d mc ms P pc' (some (.ref x) :: L) (.ref x :: S) h kc ks) : ZG G l M d mc ms P pc (some (.ref x) :: L) S h kc ks := by
  obtain ⟨hd, rfl⟩ := hd
  intro p e s m args below meth c A H locs cells slots ls hCx hcc hss hl hR
  exact lv_aload_n hCx.1 hCx.2.1 hd rfl (z_ls (i := 0) hl rfl) (k p e s m args below meth c A H locs cells slots ls hCx hcc hss hl hR)
theorem zg_ald_1 {a0 : Option Value} {x : Nat} (hd : zAt M 1 pc pc' (.aload_n 1)) (k : ZG G l M d mc ms P pc' (a0 :: some (.ref x) :: L) (.ref x :: S) h kc ks) : ZG G l M d mc ms P pc (a0 :: some (.ref x) :: L) S h kc ks := by
  obtain ⟨hd, rfl⟩ := hd
  intro p e s m args below meth c A H locs cells slots ls hCx hcc hss hl hR
  exact lv_aload_n hCx.1 hCx.2.1 hd rfl (z_ls (i := 1) hl rfl) (k p e s m args below meth c A H locs cells slots ls hCx hcc hss hl hR)
theorem zg_ald_2 {a0 a1 : Option Value} {x : Nat} (hd : zAt M 1 pc pc' (.aload_n 2)) (k : ZG G l M d mc ms P pc' (a0 :: a1 :: some (.ref x) :: L) (.ref x :: S) h kc ks) : ZG G l M d mc ms P pc (a0 :: a1 :: some (.ref x) :: L) S h kc ks := by
  obtain ⟨hd, rfl⟩ := hd
  intro p e s m args below meth c A H locs cells slots ls hCx hcc hss hl hR
  exact lv_aload_n hCx.1 hCx.2.1 hd rfl (z_ls (i := 2) hl rfl) (k p e s m args below meth c A H locs cells slots ls hCx hcc hss hl hR)
theorem zg_ald_3 {a0 a1 a2 : Option Value} {x : Nat} (hd : zAt M 1 pc pc' (.aload_n 3)) (k : ZG G l M d mc ms P pc' (a0 :: a1 :: a2 :: some (.ref x) :: L) (.ref x :: S) h kc ks) : ZG G l M d mc ms P pc (a0 :: a1 :: a2 :: some (.ref x) :: L) S h kc ks := by
  obtain ⟨hd, rfl⟩ := hd
  intro p e s m args below meth c A H locs cells slots ls hCx hcc hss hl hR
  exact lv_aload_n hCx.1 hCx.2.1 hd rfl (z_ls (i := 3) hl rfl) (k p e s m args below meth c A H locs cells slots ls hCx hcc hss hl hR)
theorem zg_ist_3 {a0 a1 a2 : Option Value} {o1 : Option Value} {x : Int} (hd : zAt M 1 pc pc' (.istore_n 3)) (hn : 3 < M.2.2.1) (hc : zn a2 = true) (k : ZG G l M d mc ms P pc' (a0 :: a1 :: a2 :: some (vI x) :: L) S h kc ks) : ZG G l M d mc ms P pc (a0 :: a1 :: a2 :: o1 :: L) (vI x :: S) h kc ks := by
  obtain ⟨hd, rfl⟩ := hd
  intro p e s m args below meth c A H locs cells slots ls hCx hcc hss hl hR
  refine lv_istore_n hCx.1 hCx.2.1 hd rfl hl hn rfl (fun ls' h' => ?_)
  exact k p e s m args below meth c A H locs cells slots ls' hCx hcc hss (z_has1 (L := (a0 :: a1 :: a2 :: o1 :: L)) (i := 3) (zst_ok [a0, a1, a2] o1 L (vI x) (fun w e => zn_ok hc (by simpa using e))) h') hR
theorem zg_ist_4 {a0 a1 a2 a3 : Option Value} {o1 : Option Value} {x : Int} (hd : zAt M 2 pc pc' (.istore 4)) (hn : 4 < M.2.2.1) (hc : zn a3 = true) (k : ZG G l M d mc ms P pc' (a0 :: a1 :: a2 :: a3 :: some (vI x) :: L) S h kc ks) : ZG G l M d mc ms P pc (a0 :: a1 :: a2 :: a3 :: o1 :: L) (vI x :: S) h kc ks := by
  obtain ⟨hd, rfl⟩ := hd
  intro p e s m args below meth c A H locs cells slots ls hCx hcc hss hl hR
  refine lv_istore hCx.1 hCx.2.1 hd hl hn rfl (fun ls' h' => ?_)
  exact k p e s m args below meth c A H locs cells slots ls' hCx hcc hss (z_has1 (L := (a0 :: a1 :: a2 :: a3 :: o1 :: L)) (i := 4) (zst_ok [a0, a1, a2, a3] o1 L (vI x) (fun w e => zn_ok hc (by simpa using e))) h') hR
theorem zg_iinc_3 {a0 a1 a2 : Option Value} {x n : Int} (hd : zAt M 3 pc pc' (.iinc 3 n)) (hn : 3 < M.2.2.1) (hc : zn a2 = true) (k : ZG G l M d mc ms P pc' (a0 :: a1 :: a2 :: some (vI (x + n)) :: L) S h kc ks) : ZG G l M d mc ms P pc (a0 :: a1 :: a2 :: some (vI x) :: L) S h kc ks := by
  obtain ⟨hd, rfl⟩ := hd
  intro p e s m args below meth c A H locs cells slots ls hCx hcc hss hl hR
  obtain ⟨j, hj⟩ := List.mem_iff_getElem?.mp ((zp_mem (a0 :: a1 :: a2 :: some (vI x) :: L) 0).mpr ⟨3, by omega, rfl⟩ : (3, vI x) ∈ zp 0 (a0 :: a1 :: a2 :: some (vI x) :: L))
  refine lv_iinc (v := Int32.ofInt (x + n)) (x := Int32.ofInt x) hCx.1 hCx.2.1 hd hl hj (by rw [Int32.ofInt_add]) hn rfl (fun ls' h' => ?_)
  exact k p e s m args below meth c A H locs cells slots ls' hCx hcc hss (z_has1 (L := (a0 :: a1 :: a2 :: some (vI x) :: L)) (i := 3) (zst_ok [a0, a1, a2] (some (vI x)) L (vI (x + n)) (fun w e => zn_ok hc (by simpa using e))) h') hR
theorem zg_iinc_4 {a0 a1 a2 a3 : Option Value} {x n : Int} (hd : zAt M 3 pc pc' (.iinc 4 n)) (hn : 4 < M.2.2.1) (hc : zn a3 = true) (k : ZG G l M d mc ms P pc' (a0 :: a1 :: a2 :: a3 :: some (vI (x + n)) :: L) S h kc ks) : ZG G l M d mc ms P pc (a0 :: a1 :: a2 :: a3 :: some (vI x) :: L) S h kc ks := by
  obtain ⟨hd, rfl⟩ := hd
  intro p e s m args below meth c A H locs cells slots ls hCx hcc hss hl hR
  obtain ⟨j, hj⟩ := List.mem_iff_getElem?.mp ((zp_mem (a0 :: a1 :: a2 :: a3 :: some (vI x) :: L) 0).mpr ⟨4, by omega, rfl⟩ : (4, vI x) ∈ zp 0 (a0 :: a1 :: a2 :: a3 :: some (vI x) :: L))
  refine lv_iinc (v := Int32.ofInt (x + n)) (x := Int32.ofInt x) hCx.1 hCx.2.1 hd hl hj (by rw [Int32.ofInt_add]) hn rfl (fun ls' h' => ?_)
  exact k p e s m args below meth c A H locs cells slots ls' hCx hcc hss (z_has1 (L := (a0 :: a1 :: a2 :: a3 :: some (vI x) :: L)) (i := 4) (zst_ok [a0, a1, a2, a3] (some (vI x)) L (vI (x + n)) (fun w e => zn_ok hc (by simpa using e))) h') hR
theorem zg_iret {x : Int} (hd : zAt M 1 pc pc' .ireturn) (hM : M.2.2.2 = some .int) (q : P (some (vI x)) h) : ZG G l M d mc ms P pc L [vI x] h kc ks := by
  intro p e s m args below meth c A H locs cells slots ls hCx hcc hss hl hR
  obtain ⟨hx, hb, hr, hml, hown, hX, hlk, hK, hA, hnm⟩ := hCx
  obtain ⟨ws, hP, hD, hS, hC⟩ := hR
  refine W.widen (k := mc) (n := ms) (by omega) (by omega) ?_
  exact W.iret (v := Int32.ofInt x) hx hb (hr.trans hM) (fun t ht hW => ⟨⟨some (vI x), h, ws, rfl, q, by rw [ht]; exact hP, va_K.moved hW.alike hK, hD, hC⟩, hS.F ht⟩) hS.2.2 hd.1 hlk
theorem zg_zret {x : Int} (hd : zAt M 1 pc pc' .ireturn) (hM : M.2.2.2 = some .boolean) (hb0 : x = 0 ∨ x = 1) (q : P (some (vI x)) h) : ZG G l M d mc ms P pc L [vI x] h kc ks := by
  intro p e s m args below meth c A H locs cells slots ls hCx hcc hss hl hR
  obtain ⟨hx, hb, hr, hml, hown, hX, hlk, hK, hA, hnm⟩ := hCx
  obtain ⟨ws, hP, hD, hS, hC⟩ := hR
  refine W.widen (k := mc) (n := ms) (by omega) (by omega) ?_
  exact W.zret (v := Int32.ofInt x) hx hb (hr.trans hM) (by rcases hb0 with rfl | rfl <;> rfl) (fun t ht hW => ⟨⟨some (vI x), h, ws, rfl, q, by rw [ht]; exact hP, va_K.moved hW.alike hK, hD, hC⟩, hS.F ht⟩) hS.2.2 hd.1 hlk
theorem zg_cret {x : Int} {ty : FieldType} (hd : zAt M 1 pc pc' .ireturn) (hM : M.2.2.2 = some ty) (hn : narrow ty (vI x) = vI x) (q : P (some (vI x)) h) : ZG G l M d mc ms P pc L [vI x] h kc ks := by
  intro p e s m args below meth c A H locs cells slots ls hCx hcc hss hl hR
  obtain ⟨hx, hb, hr, hml, hown, hX, hlk, hK, hA, hnm⟩ := hCx
  obtain ⟨ws, hP, hD, hS, hC⟩ := hR
  refine W.widen (k := mc) (n := ms) (by omega) (by omega) ?_
  exact W.zret (v := Int32.ofInt x) hx hb (hr.trans hM) hn (fun t ht hW => ⟨⟨some (vI x), h, ws, rfl, q, by rw [ht]; exact hP, va_K.moved hW.alike hK, hD, hC⟩, hS.F ht⟩) hS.2.2 hd.1 hlk
theorem zg_vret  (hd : zAt M 1 pc pc' .return_) (hM : M.2.2.2 = none) (q : P (none) h) : ZG G l M d mc ms P pc L [] h kc ks := by
  intro p e s m args below meth c A H locs cells slots ls hCx hcc hss hl hR
  obtain ⟨hx, hb, hr, hml, hown, hX, hlk, hK, hA, hnm⟩ := hCx
  obtain ⟨ws, hP, hD, hS, hC⟩ := hR
  refine W.widen (k := mc) (n := ms) (by omega) (by omega) ?_
  exact W.vret hx hb (hr.trans hM) (fun t ht hW => ⟨⟨none, h, ws, rfl, q, by rw [ht]; exact hP, va_K.moved hW.alike hK, hD, hC⟩, hS.F ht⟩) hS.2.2 hd.1 hlk
theorem zg_aret {x : Nat} {n : String} (hd : zAt M 1 pc pc' .areturn) (hM : M.2.2.2 = some (.object n)) (q : P (some (.ref x)) h) : ZG G l M d mc ms P pc L [.ref x] h kc ks := by
  intro p e s m args below meth c A H locs cells slots ls hCx hcc hss hl hR
  obtain ⟨hx, hb, hr, hml, hown, hX, hlk, hK, hA, hnm⟩ := hCx
  obtain ⟨ws, hP, hD, hS, hC⟩ := hR
  refine W.widen (k := mc) (n := ms) (by omega) (by omega) ?_
  exact W.aret (v := .ref x) hx hb (hr.trans hM) (Or.inl ⟨n, rfl⟩) (Or.inr ⟨x, rfl⟩) (fun t ht hW => ⟨⟨some (.ref x), h, ws, rfl, q, by rw [ht]; exact hP, va_K.moved hW.alike hK, hD, hC⟩, hS.F ht⟩) hS.2.2 hd.1 hlk
theorem zg_getf {idx ci k a : Nat} {fs : List Value} {v : Value} (hd : zAt M 3 pc pc' (.getfield idx)) (hf : zFl M.1.cls idx ci k) (ha : h a = some (.inr (ci, fs))) (hv : fs[k]? = some v) (K : ZG G l M d mc ms P pc' L (v :: S) h kc ks) : ZG G l M d mc ms P pc L (.ref a :: S) h kc ks := by
  obtain ⟨hd, rfl⟩ := hd
  intro p e s m args below meth c A H locs cells slots ls hCx hcc hss hl hR
  obtain ⟨hx, hb, hr, hml, hown, hX, hlk, hK, hA, hnm⟩ := id hCx
  obtain ⟨ws, hP, hD, hS, hC⟩ := id hR
  obtain ⟨C, T, N, h1, h2, h3, h4⟩ := hf
  have hts : ∀ w ∈ zTbl, w.before args s = true := zW_warm hX.1 (State.WarmedH.refl s)
  obtain ⟨q, hq⟩ := hC a _ ha
  exact va_get (D := zD G) (ci := ci) (v := v) (C := C) (T := T) (N := N) hx hb hts h2 hown hK hP q hq h1 k h3 (hts _ h4) (fun _ h9 => h9) hv hd (K p e s m args below meth c A H locs cells slots ls hCx hcc hss hl hR)
theorem zg_iald {a n : Nat} {i : Int} {f : Nat → Int32} (hd : zAt M 1 pc pc' .iaload) (ha : h a = some (.inl (0, n, .inl f))) (h0 : 0 ≤ i) (h1 : i < n) (hn : n < 2147483648) (K : ZG G l M d mc ms P pc' L (.int (f i.toNat) :: S) h kc ks) : ZG G l M d mc ms P pc L (vI i :: .ref a :: S) h kc ks := by
  obtain ⟨hd, rfl⟩ := hd
  intro p e s m args below meth c A H locs cells slots ls hCx hcc hss hl hR
  obtain ⟨hx, hb, hr, hml, hown, hX, hlk, hK, hA, hnm⟩ := id hCx
  obtain ⟨ws, hP, hD, hS, hC⟩ := id hR
  obtain ⟨q, hq⟩ := hC a _ ha
  refine va_iald hx hb hK hP q 0 hq rfl (zI_in h0 h1 hn) hd ?_
  rw [zI_clamp (by omega)]
  exact K p e s m args below meth c A H locs cells slots ls hCx hcc hss hl hR
theorem zg_invS {idx n d' mc' ms' : Nat} {As : List Value} {P' : Option Value → zH → Prop} (hd : decode M.2.1 pc = .ok (.invokestatic idx, 3)) (hc : zCS M.1.cls idx M' n) (hn : As.length = n) (hdd : d' + 1 ≤ d) (h1 : mc' ≤ kc) (h2 : ms' ≤ ks) (hW : (S.map fun v => v.category).sum ≤ 8)
    (hM : MZG G l M' d' mc' ms' As h P') (k : ∀ (v : Option Value) (h' : zH), P' v h' → ZG G l M d mc ms P (pc + 3) L (v.toList ++ S) h' (kc - mc') (ks - ms')) : ZG G l M d mc ms P pc L (As.reverse ++ S) h kc ks := by
  intro p e s m args below meth c A H locs cells slots ls hCx hcc hss hl hR
  obtain ⟨hx, hbb, hr, hml, hown, hX, hlk, hK, hA, hnm⟩ := id hCx
  obtain ⟨ws, hP, hD, hS, hC⟩ := hR
  obtain ⟨hys, w1, w2⟩ := hc
  have hts : ∀ w ∈ zTbl, w.before args s = true := zW_warm hX.1 (State.WarmedH.refl s)
  obtain ⟨hF, hpre⟩ := zPc_of (vs := As) hX hK hP hD hS hA
  have hrm := z_room hys.2.2.2.2 hdd mc ms mc' ms'
  refine z_after (va_runS (As := As) (rest := S) (Ts := zTbl) (own := M.1.cls) (nL := M.2.2.1) (cc := M.2.1) (n := n) (bytes := M'.2.1) (maxL := M'.2.2.1) (ret := M'.2.2.2) (index := idx) ⟨hx, hbb, hml, hown, hts⟩ (hM ws H.size hC) ?_ ⟨zPc_blind, hpre⟩ rfl hn hl.1 rfl (lv_room hW) hd ?_) hS hF (fun v h' H1 locs1 hp hR1 => k v h' hp p e s m args below meth c A H1 locs1 _ _ ls hCx (by omega) (by omega) hl hR1)
  · exact ⟨⟨rfl, rfl, hrm.1, hrm.2, z_wd hts hys.1, List.mem_singleton.mpr rfl, hts _ hys.1, hts _ hys.2.1, hys.2.2.1, hys.len, hts _ w1⟩, hts _ w2⟩
  · exact ⟨by show cells + mc' ≤ mc; omega, by show slots + ms' ≤ ms; omega⟩
theorem zg_i2c {x v : Int} (hv : (((Int32.ofInt x).toUInt32 % 65536).toInt32) = Int32.ofInt v) (hd : zAt M 1 pc pc' (.i2c)) (k : ZG G l M d mc ms P pc' L (vI v :: S) h kc ks) : ZG G l M d mc ms P pc L (vI x :: S) h kc ks := by
  obtain ⟨hd, rfl⟩ := hd
  refine zg_pure (fun hx hb w => ?_) k
  exact lv_i2c hx hb hd hv w
/-- a literal -/
theorem zg_ldcS {i : Nat} (hi : i < 28) (hM : M.1.cls = RX3) (hd : zAt M 2 pc pc' (.ldc (zsK.getD i 0))) (k : ZG G l M d mc ms P pc' L (.ref (G.2.2.2.1 i) :: S) h kc ks) : ZG G l M d mc ms P pc L S h kc ks := by
  obtain ⟨hd, rfl⟩ := hd
  intro p e s m args below meth c A H locs cells slots ls hCx hcc hss hl hR
  exact va_ldcS hCx.1 hCx.2.1 (own := RX3) (by rw [← hM]; exact hCx.2.2.2.2.1) (hCx.2.2.2.2.2.1.2.1 i hi) hd (k p e s m args below meth c A H locs cells slots ls hCx hcc hss hl hR)
/-- a field of a literal -/
theorem zg_getS {i idx : Nat} {n dd : String} {v : Value} (hi : i < 28) (hE : ∀ (A : Nat → Prop) (U : State) (H : Heap), vk_S 28 zsLen zsByt G.2.2.2.1 G.2.2.2.2 A U H → va_OF "java/lang/String" n dd v (G.2.2.2.1 i) A U H) (hlk : Cond.fieldLink M.1.cls idx "java/lang/String" n dd ∈ zTbl) (hd : zAt M 3 pc pc' (.getfield idx)) (k : ZG G l M d mc ms P pc' L (v :: S) h kc ks) : ZG G l M d mc ms P pc L (.ref (G.2.2.2.1 i) :: S) h kc ks := by
  obtain ⟨hd, rfl⟩ := hd
  intro p e s m args below meth c A H locs cells slots ls hCx hcc hss hl hR
  have hX := hCx.2.2.2.2.2.1
  obtain ⟨ws, hP, hD, hS, hC⟩ := id hR
  exact vk_getf hCx.1 hCx.2.1 (hE A s s.heap hX.2.2.1) hS hCx.2.2.2.2.1 (zW_warm hX.1 (State.WarmedH.refl s) _ hlk) (fun _ h => h) hd (k p e s m args below meth c A H locs cells slots ls hCx hcc hss hl hR)
theorem zg_value {i idx : Nat} (hi : i < 28) (hlk : Cond.fieldLink M.1.cls idx "java/lang/String" "value" "[B" ∈ zTbl) (hd : zAt M 3 pc pc' (.getfield idx)) (k : ZG G l M d mc ms P pc' L (.ref (G.2.2.2.2 i) :: S) h kc ks) : ZG G l M d mc ms P pc L (.ref (G.2.2.2.1 i) :: S) h kc ks := zg_getS hi (fun A U H q => (q.1 i hi).2.2.1) hlk hd k
theorem zg_coder {i idx : Nat} (hi : i < 28) (hlk : Cond.fieldLink M.1.cls idx "java/lang/String" "coder" "B" ∈ zTbl) (hd : zAt M 3 pc pc' (.getfield idx)) (k : ZG G l M d mc ms P pc' L (vI 0 :: S) h kc ks) : ZG G l M d mc ms P pc L (.ref (G.2.2.2.1 i) :: S) h kc ks := zg_getS hi (fun A U H q => (q.1 i hi).2.1) hlk hd k
theorem zg_blen {i : Nat} (hi : i < 28) (hd : zAt M 1 pc pc' .arraylength) (k : ZG G l M d mc ms P pc' L (vI (zsLen.getD i 0 : Nat) :: S) h kc ks) : ZG G l M d mc ms P pc L (.ref (G.2.2.2.2 i) :: S) h kc ks := by
  obtain ⟨hd, rfl⟩ := hd
  intro p e s m args below meth c A H locs cells slots ls hCx hcc hss hl hR
  have hX := hCx.2.2.2.2.2.1
  obtain ⟨ws, hP, hD, hS, hC⟩ := id hR
  exact va_tlen hCx.1 hCx.2.1 (hX.2.2.1.1 i hi).2.2.2 hS (v := Int32.ofInt (zsLen.getD i 0 : Nat)) Int32.ofInt_eq_ofNat.symm hd (k p e s m args below meth c A H locs cells slots ls hCx hcc hss hl hR)
theorem zg_bald {i : Nat} {q : Int} (hi : i < 28) (q0 : 0 ≤ q) (q1 : q < (zsLen.getD i 0 : Nat)) (hd : zAt M 1 pc pc' .baload) (k : ZG G l M d mc ms P pc' L (.int ((zsByt.getD i []).getD q.toNat 0) :: S) h kc ks) : ZG G l M d mc ms P pc L (vI q :: .ref (G.2.2.2.2 i) :: S) h kc ks := by
  obtain ⟨hd, rfl⟩ := hd
  intro p e s m args below meth c A H locs cells slots ls hCx hcc hss hl hR
  have hX := hCx.2.2.2.2.2.1
  obtain ⟨ws, hP, hD, hS, hC⟩ := id hR
  have hl6 : zsLen.getD i 0 ≤ 6 := by
    have h6 : ∀ i, i < 28 → zsLen.getD i 0 ≤ 6 := by decide
    exact h6 i hi
  have eq9 : (Int32.ofInt q).toNatClampNeg = q.toNat := zI_clamp ⟨by omega, by omega⟩
  exact va_tb hCx.1 hCx.2.1 (hX.2.2.1.1 i hi).2.2.2 hS (zI_in q0 q1 (by omega)) (v := .int ((zsByt.getD i []).getD q.toNat 0)) (by rw [eq9]) hd (k p e s m args below meth c A H locs cells slots ls hCx hcc hss hl hR)
theorem zg_compact {idx : Nat} (hlk : Cond.fieldLink M.1.cls idx "java/lang/String" "COMPACT_STRINGS" "Z" ∈ zTbl) (hd : zAt M 3 pc pc' (.getstatic idx)) (k : ZG G l M d mc ms P pc' L (vI 1 :: S) h kc ks) : ZG G l M d mc ms P pc L S h kc ks := by
  obtain ⟨hd, rfl⟩ := hd
  intro p e s m args below meth c A H locs cells slots ls hCx hcc hss hl hR
  have hX := hCx.2.2.2.2.2.1
  obtain ⟨ws, hP, hD, hS, hC⟩ := id hR
  exact va_gets hCx.1 hCx.2.1 hX.2.2.2.1 hS hCx.2.2.2.2.1 (zW_warm hX.1 (State.WarmedH.refl s) _ hlk) (fun _ h => h) hd (k p e s m args below meth c A H locs cells slots ls hCx hcc hss hl hR)
theorem zg_sioobe {idx : Nat} (hlk : Cond.fieldLink M.1.cls idx "jdk/internal/util/Preconditions" "SIOOBE_FORMATTER" "Ljava/util/function/BiFunction;" ∈ zTbl) (hd : zAt M 3 pc pc' (.getstatic idx)) (k : ∀ v : Value, (v = .null ∨ ∃ t, v = .ref t) → ZG G l M d mc ms P pc' L (v :: S) h kc ks) : ZG G l M d mc ms P pc L S h kc ks := by
  obtain ⟨hd, rfl⟩ := hd
  intro p e s m args below meth c A H locs cells slots ls hCx hcc hss hl hR
  have hX := hCx.2.2.2.2.2.1
  obtain ⟨ws, hP, hD, hS, hC⟩ := id hR
  rcases hX.2.2.2.2 with hz | ⟨t, hz⟩
  · exact va_gets hCx.1 hCx.2.1 hz hS hCx.2.2.2.2.1 (zW_warm hX.1 (State.WarmedH.refl s) _ hlk) (fun _ h => h) hd (k .null (Or.inl rfl) p e s m args below meth c A H locs cells slots ls hCx hcc hss hl hR)
  · exact va_gets hCx.1 hCx.2.1 hz hS hCx.2.2.2.2.1 (zW_warm hX.1 (State.WarmedH.refl s) _ hlk) (fun _ h => h) hd (k (.ref t) (Or.inr ⟨t, rfl⟩) p e s m args below meth c A H locs cells slots ls hCx hcc hss hl hR)
theorem zg_invStr {idx n d' mc' ms' b : Nat} {As : List Value} {P' : Option Value → zH → Prop} (hd : decode M.2.1 pc = .ok (.invokevirtual idx, 3)) (hc : zCV M.1.cls idx M' n) (hn : As.length = n) (hb : b < 28) (hci : M'.1.cls = "java/lang/String") (hdd : d' + 1 ≤ d) (h1 : mc' ≤ kc) (h2 : ms' ≤ ks) (hW : (S.map fun v => v.category).sum ≤ 8)
    (hM : MZG G l M' d' mc' ms' (.ref (G.2.2.2.1 b) :: As) h P') (k : ∀ (v : Option Value) (h' : zH), P' v h' → ZG G l M d mc ms P (pc + 3) L (v.toList ++ S) h' (kc - mc') (ks - ms')) : ZG G l M d mc ms P pc L (As.reverse ++ .ref (G.2.2.2.1 b) :: S) h kc ks := by
  intro p e s m args below meth c A H locs cells slots ls hCx hcc hss hl hR
  obtain ⟨hx, hbb, hr, hml, hown, hX, hlk, hK, hA, hnm⟩ := id hCx
  obtain ⟨ws, hP, hD, hS, hC⟩ := hR
  obtain ⟨hys, w1, w2, w3⟩ := hc
  have hts : ∀ w ∈ zTbl, w.before args s = true := zW_warm hX.1 (State.WarmedH.refl s)
  obtain ⟨hF, hpre⟩ := zPc_of (vs := .ref (G.2.2.2.1 b) :: As) hX hK hP hD hS hA
  have hrc := vk_recv hX.2.2.1 hb hS
  rw [← hci] at hrc
  have hrm := z_room hys.2.2.2.2 hdd mc ms mc' ms'
  refine z_after (va_runV (As := As) (rest := S) (Ts := zTbl) (own := M.1.cls) (nL := M.2.2.1) (cc := M.2.1) (C := M'.1.cls) (b := G.2.2.2.1 b) (n := n) (bytes := M'.2.1) (maxL := M'.2.2.1) (ret := M'.2.2.2) (index := idx) ⟨hx, hbb, hml, hown, hts⟩ (hM ws H.size hC) ?_ ⟨zPc_blind, hrc, hpre⟩ rfl hn hl.1 rfl (lv_room hW) hd ?_) hS hF (fun v h' H1 locs1 hp hR1 => k v h' hp p e s m args below meth c A H1 locs1 _ _ ls hCx (by omega) (by omega) hl hR1)
  · exact ⟨⟨rfl, rfl, hrm.1, hrm.2, z_wd hts hys.1, List.mem_singleton.mpr rfl, hts _ hys.1, hts _ hys.2.1, hys.2.2.1, hys.len, hts _ w1⟩, hts _ w2, hts _ w3⟩
  · exact ⟨by show cells + mc' ≤ mc; omega, by show slots + ms' ≤ ms; omega⟩
/-- a method that changes nothing -/
def SG (G : zG) (l : Launch) (M : zM) (n : Nat) (vs : List Value) (r : Int) : Prop := zIn r ∧ ∀ d, n ≤ d → ∀ h, MZG G l M d 0 0 vs h (fun v h' => h' = h ∧ v = some (vI r))
theorem SG.of {n : Nat} {vs : List Value} {r : Int} (q : SI l M n vs r) : SG G l M n vs r := ⟨q.1, fun d hd h => (q.2 d hd h).at G⟩
theorem SG.intro {n : Nat} {vs : List Value} {r : Int} (L : List (Option Value)) (hr : zIn r) (hy : plainName M.1.cls = true) (hn : (lg_sl vs).length ≤ M.2.2.1) (hL : lv_args 0 vs = zp 0 L) (k : ∀ d, n ≤ d → ∀ h, ZG G l M d 0 0 (fun v h' => h' = h ∧ v = some (vI r)) 0 L [] h 0 0) : SG G l M n vs r := ⟨hr, fun d hd h => MZG.intro L hy hn hL (k d hd h)⟩
theorem zg_call {idx n n' : Nat} {As : List Value} {r : Int} (hM : SG G l M' n' As r) (hd : zAt M 3 pc pc' (.invokestatic idx)) (hc : zCS M.1.cls idx M' n) (hn : As.length = n) (hdd : n' + 1 ≤ d) (hW : (S.map fun v => v.category).sum ≤ 8) (K : zIn r → ZG G l M d mc ms P pc' L (vI r :: S) h kc ks) : ZG G l M d mc ms P pc L (As.reverse ++ S) h kc ks := by
  obtain ⟨hd, rfl⟩ := hd
  refine zg_invS hd hc hn (d' := d - 1) (by omega) (Nat.zero_le _) (Nat.zero_le _) hW (hM.2 (d - 1) (by omega) h) (fun v h' hp => ?_)
  obtain ⟨rfl, rfl⟩ := hp
  exact K hM.1
theorem zg_callS {idx n n' b : Nat} {As : List Value} {r : Int} (hb : b < 28) (hci : M'.1.cls = "java/lang/String") (hM : SG G l M' n' (.ref (G.2.2.2.1 b) :: As) r) (hd : zAt M 3 pc pc' (.invokevirtual idx)) (hc : zCV M.1.cls idx M' n) (hn : As.length = n) (hdd : n' + 1 ≤ d) (hW : (S.map fun v => v.category).sum ≤ 8) (K : zIn r → ZG G l M d mc ms P pc' L (vI r :: S) h kc ks) : ZG G l M d mc ms P pc L (As.reverse ++ .ref (G.2.2.2.1 b) :: S) h kc ks := by
  obtain ⟨hd, rfl⟩ := hd
  refine zg_invStr hd hc hn hb hci (d' := d - 1) (by omega) (Nat.zero_le _) (Nat.zero_le _) hW (hM.2 (d - 1) (by omega) h) (fun v h' hp => ?_)
  obtain ⟨rfl, rfl⟩ := hp
  exact K hM.1
end ZGP
