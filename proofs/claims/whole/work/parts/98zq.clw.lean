/-! ===== the law itself ===== -/
def R_law : String := "FuseFramesLaw"
def lw_P (b : Addr) (xs : List Int32) (args : Array Value) (s : State) : Prop := args = #[.ref b] ∧ s.IntsAt b xs ∧ xs.length ≤ 384 ∧ (Jvm.Cond.and given_1 narrow_1).before args s = true
def lw_Q (_ : Array Value) (s : State) (o : Outcome) (t : State) : Prop := o = .returned (some (.int 1)) ∧ Framed s o t [] 600000 7302250
def lw_Z (below : List Frame) (a : Array Value) (s : State) : State → Prop := fun t => ∃ o, t.status = .running ∧ Ended t below o ∧ lw_Q a s o t
/-- the law's own end, with 1 on the stack, nothing written that was there before, its room as the claim has it -/
theorem lw_ret {p : Program} {l : Launch} {e : Env} {s : State} {m : MethodId} {below : List Frame} {meth : Method} {c : Code} {b : Nat} (hx : p.tables.exec = Jvm.exec) (hb : c.code = code) (hr : meth.sig.returnType = ret) (hlocks : meth.locks = false) {pc : Nat} {H : Heap} {ls : Array Slot} (hdg : decode code pc = .ok (.ireturn, 1)) : W p l e room_1 s m #[Value.ref b] below meth c H [] 600000 7302250 (lw_Z below #[Value.ref b] s) (F0 m pc ls [.int 1]) := by
  intro T hT X
  obtain ⟨fs, hret, hrun, hended, hW, hframe⟩ := X.leave (v := some (.int 1)) (hlocks := hlocks) (fun h => by rw [hr] at h; cases h)
  have hmeth' : T.vm.method? m = some meth := X.method'
  refine ⟨T.setFrames fs, ?_, .returned (some (.int 1)), hrun, hended, rfl, ⟨_, rfl⟩, hW, hframe⟩
  jvm_step X.here [X.here.top, hx, hb, hdg, hmeth', hr, ret, narrow_b1]
  (try refine ⟨rfl, ?_⟩); (try refine ⟨rfl, ?_⟩)
  first | (intro acts; rw [hret _ acts rfl rfl rfl]) | rw [hret _ _ rfl rfl rfl]
  exact Steps.refl _
/-- what holds at the law's entry: the machine, the code, the tables' words (any of lw_tbl by 'hts w (by decide +kernel)'), the script of L ints xs at the cell b, what the Statement gives of the start (any of its parts by flat_of_before) -/
def lw_At (p : Program) (s : State) (m : MethodId) (meth : Method) (c : Code) (b L : Nat) (xs : Nat → Int32) : Prop :=
  p.tables.exec = Jvm.exec ∧ c.code = code ∧ meth.sig.returnType = ret ∧ c.maxLocals = 4 ∧ s.vm.findClass R_law = some m.cls ∧ (∀ w ∈ lw_tbl, w.before #[Value.ref b] s = true) ∧ va_X b L xs s s.heap ∧ b < s.heap.size ∧ meth.locks = false ∧ (Jvm.Cond.and given_1 narrow_1).before #[Value.ref b] s = true

/-- what holds all along the law's walk -/
def LCx (G : zG) (p : Program) (s : State) (m : MethodId) (meth : Method) (c : Code) (b Ln : Nat) (xs : Nat → Int32) : Prop :=
  p.tables.exec = Jvm.exec ∧ c.code = ML_law.2.1 ∧ meth.sig.returnType = ML_law.2.2.2 ∧ c.maxLocals = ML_law.2.2.1 ∧ s.vm.findClass ML_law.1.cls = some m.cls ∧ zX G (fun q => s.heap.size ≤ q) s s.heap ∧ meth.locks = false ∧ va_K (zD G) vwCl (zTys G) s ∧ va_X b Ln xs s s.heap ∧ b < s.heap.size
def ZL (l : Launch) (b Ln : Nat) (xs : Nat → Int32) (G : zG) (pc : Nat) (L : List (Option Value)) (S : List Value) (h : zH) (kc ks : Nat) : Prop :=
  ∀ (p : Program) (e : Env) (s : State) (m : MethodId) (below : List Frame) (meth : Method) (c : Code) (H : Heap) (locs : List Loc) (cells slots : Nat) (ls : Array Slot),
    LCx G p s m meth c b Ln xs → cells + kc ≤ 600000 → slots + ks ≤ 7302250 → lv_has ls ML_law.2.2.1 (zp 0 L) → zR G (fun q => s.heap.size ≤ q) h s.heap H locs →
      W p l e room_1 s m #[Value.ref b] below meth c H locs cells slots (lw_Z below #[Value.ref b] s) (F0 m pc ls S)
section ZLR
variable {l : Launch} {b Ln : Nat} {xs : Nat → Int32} {G : zG} {M' : zM} {pc pc' : Nat} {L : List (Option Value)} {S : List Value} {h : zH} {kc ks : Nat}
theorem zl_pure {S' : List Value} (step : ∀ {p : Program} {e : Env} {R : Room} {s : State} {m : MethodId} {args : Array Value} {below : List Frame} {meth : Method} {c : Code} {H : Heap} {locs : List Loc} {cells slots : Nat} {Q : State → Prop} {ls : Array Slot}, p.tables.exec = Jvm.exec → c.code = ML_law.2.1 → W p l e R s m args below meth c H locs cells slots Q (F0 m pc' ls S') → W p l e R s m args below meth c H locs cells slots Q (F0 m pc ls S))
    (k : ZL l b Ln xs G pc' L S' h kc ks) : ZL l b Ln xs G pc L S h kc ks := by
  intro p e s m below meth c H locs cells slots ls hCx hcc hss hl hR
  exact step hCx.1 hCx.2.1 (k p e s m below meth c H locs cells slots ls hCx hcc hss hl hR)
theorem zl_br {c1 : Prop} {pt pf : Nat} {St Sf : List Value} (step : ∀ {p : Program} {e : Env} {R : Room} {s : State} {m : MethodId} {args : Array Value} {below : List Frame} {meth : Method} {c : Code} {H : Heap} {locs : List Loc} {cells slots : Nat} {Q : State → Prop} {ls : Array Slot}, p.tables.exec = Jvm.exec → c.code = ML_law.2.1 → (c1 → W p l e R s m args below meth c H locs cells slots Q (F0 m pt ls St)) → (¬ c1 → W p l e R s m args below meth c H locs cells slots Q (F0 m pf ls Sf)) → W p l e R s m args below meth c H locs cells slots Q (F0 m pc ls S))
    (kt : c1 → ZL l b Ln xs G pt L St h kc ks) (kf : ¬ c1 → ZL l b Ln xs G pf L Sf h kc ks) : ZL l b Ln xs G pc L S h kc ks := by
  intro p e s m below meth c H locs cells slots ls hCx hcc hss hl hR
  exact step hCx.1 hCx.2.1 (fun q => kt q p e s m below meth c H locs cells slots ls hCx hcc hss hl hR) (fun q => kf q p e s m below meth c H locs cells slots ls hCx hcc hss hl hR)
theorem zl_iconst {n : Int} (hd : zAt ML_law 1 pc pc' (.iconst n)) (k : ZL l b Ln xs G pc' L (vI n :: S) h kc ks) : ZL l b Ln xs G pc L (S) h kc ks := by
  obtain ⟨hd, rfl⟩ := hd
  refine zl_pure (fun hx hb w => ?_) k
  exact lv_iconst hx hb hd rfl w
theorem zl_bipush {n : Int} (hn : (Int8.ofInt n).toInt32 = Int32.ofInt n) (hd : zAt ML_law 2 pc pc' (.bipush n)) (k : ZL l b Ln xs G pc' L (vI n :: S) h kc ks) : ZL l b Ln xs G pc L (S) h kc ks := by
  obtain ⟨hd, rfl⟩ := hd
  refine zl_pure (fun hx hb w => ?_) k
  exact lv_bipush hx hb hd hn w
theorem zl_iadd {x y : Int} (hd : zAt ML_law 1 pc pc' (.iadd)) (k : ZL l b Ln xs G pc' L (vI (x + y) :: S) h kc ks) : ZL l b Ln xs G pc L (vI y :: vI x :: S) h kc ks := by
  obtain ⟨hd, rfl⟩ := hd
  refine zl_pure (fun hx hb w => ?_) k
  rw [show vI (x + y) = .int (Int32.ofInt x + Int32.ofInt y) from by rw [vI, Int32.ofInt_add]] at w
  exact lv_iadd hx hb hd w
theorem zl_isub {x y : Int} (hd : zAt ML_law 1 pc pc' (.isub)) (k : ZL l b Ln xs G pc' L (vI (x - y) :: S) h kc ks) : ZL l b Ln xs G pc L (vI y :: vI x :: S) h kc ks := by
  obtain ⟨hd, rfl⟩ := hd
  refine zl_pure (fun hx hb w => ?_) k
  rw [show vI (x - y) = .int (Int32.ofInt x - Int32.ofInt y) from by rw [vI, Int32.ofInt_sub]] at w
  exact lv_isub hx hb hd w
theorem zl_iand {x y : Int} (hd : zAt ML_law 1 pc pc' (.iand)) (k : ZL l b Ln xs G pc' L (vI (zand x y) :: S) h kc ks) : ZL l b Ln xs G pc L (vI y :: vI x :: S) h kc ks := by
  obtain ⟨hd, rfl⟩ := hd
  refine zl_pure (fun hx hb w => ?_) k
  unfold vI zand at w
  rw [Int32.ofInt_toInt] at w
  exact lv_iand hx hb hd w
theorem zl_goto {off : Int} {tgt : Nat} (hd : zAt ML_law 3 pc pc' (.goto off)) (ht : (pc : Int) + off = (tgt : Int)) (k : ZL l b Ln xs G tgt L S h kc ks) : ZL l b Ln xs G pc L S h kc ks := zl_pure (fun hx hb w => lv_goto hx hb hd.1 ht w) k
theorem zl_icmp_eq {x y : Int} {off : Int} {tgt : Nat} (hd : zAt ML_law 3 pc pc' (.if_icmp .eq off)) (ht : (pc : Int) + off = (tgt : Int)) (hx0 : zIn x) (hy0 : zIn y) (kt : x = y → ZL l b Ln xs G tgt L S h kc ks) (kf : x ≠ y → ZL l b Ln xs G pc' L S h kc ks) : ZL l b Ln xs G pc L (vI y :: vI x :: S) h kc ks := by
  obtain ⟨hd, rfl⟩ := hd
  exact zl_br (fun hx hb wt wf => lv_icmp_eq hx hb hd ht wt wf) (fun q => kt ((zI_eq hx0 hy0).mp q)) (fun q => kf (fun e => q ((zI_eq hx0 hy0).mpr e)))
theorem zl_if_eq {x : Int} {off : Int} {tgt : Nat} (hd : zAt ML_law 3 pc pc' (.ifCond .eq off)) (ht : (pc : Int) + off = (tgt : Int)) (hx0 : zIn x) (kt : x = 0 → ZL l b Ln xs G tgt L S h kc ks) (kf : x ≠ 0 → ZL l b Ln xs G pc' L S h kc ks) : ZL l b Ln xs G pc L (vI x :: S) h kc ks := by
  obtain ⟨hd, rfl⟩ := hd
  exact zl_br (fun hx hb wt wf => lv_if_eq hx hb hd ht wt wf) (fun q => kt ((zI_eq0 hx0).mp q)) (fun q => kf (fun e => q ((zI_eq0 hx0).mpr e)))
theorem zl_swIn {x : Int} {dflt lo hi off : Int} {offs : Array Int} {n tgt : Nat} (hd : zAt ML_law n pc pc' (.tableswitch dflt lo hi offs)) (hx0 : zIn x) (h1 : lo ≤ x) (h2 : x ≤ hi) (ho : offs[(x - lo).toNat]? = some off) (ht : (pc : Int) + off = (tgt : Int)) (k : ZL l b Ln xs G tgt L S h kc ks) : ZL l b Ln xs G pc L (vI x :: S) h kc ks :=
  zl_pure (fun hx hb w => lv_tableIn hx hb hd.1 (by rw [zI_toInt hx0]; omega) (by rw [zI_toInt hx0]; omega) (by rw [zI_toInt hx0]; exact ho) ht w) k
theorem zl_swOut {x : Int} {dflt lo hi : Int} {offs : Array Int} {n tgt : Nat} (hd : zAt ML_law n pc pc' (.tableswitch dflt lo hi offs)) (hx0 : zIn x) (h1 : x < lo ∨ hi < x) (ht : (pc : Int) + dflt = (tgt : Int)) (k : ZL l b Ln xs G tgt L S h kc ks) : ZL l b Ln xs G pc L (vI x :: S) h kc ks :=
  zl_pure (fun hx hb w => lv_tableOut hx hb hd.1 (by rw [zI_toInt hx0]; exact h1) ht w) k
theorem zl_ild_3 {a0 a1 a2 : Option Value} {x : Int} (hd : zAt ML_law 1 pc pc' (.iload_n 3)) (k : ZL l b Ln xs G pc' (a0 :: a1 :: a2 :: some (vI x) :: L) (vI x :: S) h kc ks) : ZL l b Ln xs G pc (a0 :: a1 :: a2 :: some (vI x) :: L) S h kc ks := by
  obtain ⟨hd, rfl⟩ := hd
  intro p e s m below meth c H locs cells slots ls hCx hcc hss hl hR
  exact lv_iload_n hCx.1 hCx.2.1 hd rfl (z_ls (i := 3) hl rfl) (k p e s m below meth c H locs cells slots ls hCx hcc hss hl hR)
theorem zl_ald_0 {x : Nat} (hd : zAt ML_law 1 pc pc' (.aload_n 0)) (k : ZL l b Ln xs G pc' (some (.ref x) :: L) (.ref x :: S) h kc ks) : ZL l b Ln xs G pc (some (.ref x) :: L) S h kc ks := by
  obtain ⟨hd, rfl⟩ := hd
  intro p e s m below meth c H locs cells slots ls hCx hcc hss hl hR
  exact lv_aload_n hCx.1 hCx.2.1 hd rfl (z_ls (i := 0) hl rfl) (k p e s m below meth c H locs cells slots ls hCx hcc hss hl hR)
theorem zl_ald_1 {a0 : Option Value} {x : Nat} (hd : zAt ML_law 1 pc pc' (.aload_n 1)) (k : ZL l b Ln xs G pc' (a0 :: some (.ref x) :: L) (.ref x :: S) h kc ks) : ZL l b Ln xs G pc (a0 :: some (.ref x) :: L) S h kc ks := by
  obtain ⟨hd, rfl⟩ := hd
  intro p e s m below meth c H locs cells slots ls hCx hcc hss hl hR
  exact lv_aload_n hCx.1 hCx.2.1 hd rfl (z_ls (i := 1) hl rfl) (k p e s m below meth c H locs cells slots ls hCx hcc hss hl hR)
theorem zl_ald_2 {a0 a1 : Option Value} {x : Nat} (hd : zAt ML_law 1 pc pc' (.aload_n 2)) (k : ZL l b Ln xs G pc' (a0 :: a1 :: some (.ref x) :: L) (.ref x :: S) h kc ks) : ZL l b Ln xs G pc (a0 :: a1 :: some (.ref x) :: L) S h kc ks := by
  obtain ⟨hd, rfl⟩ := hd
  intro p e s m below meth c H locs cells slots ls hCx hcc hss hl hR
  exact lv_aload_n hCx.1 hCx.2.1 hd rfl (z_ls (i := 2) hl rfl) (k p e s m below meth c H locs cells slots ls hCx hcc hss hl hR)
theorem zl_ist_3 {a0 a1 a2 : Option Value} {o1 : Option Value} {x : Int} (hd : zAt ML_law 1 pc pc' (.istore_n 3)) (hn : 3 < ML_law.2.2.1) (hc : zn a2 = true) (k : ZL l b Ln xs G pc' (a0 :: a1 :: a2 :: some (vI x) :: L) S h kc ks) : ZL l b Ln xs G pc (a0 :: a1 :: a2 :: o1 :: L) (vI x :: S) h kc ks := by
  obtain ⟨hd, rfl⟩ := hd
  intro p e s m below meth c H locs cells slots ls hCx hcc hss hl hR
  refine lv_istore_n hCx.1 hCx.2.1 hd rfl hl hn rfl (fun ls' h' => ?_)
  exact k p e s m below meth c H locs cells slots ls' hCx hcc hss (z_has1 (L := (a0 :: a1 :: a2 :: o1 :: L)) (i := 3) (zst_ok [a0, a1, a2] o1 L (vI x) (fun w e => zn_ok hc (by simpa using e))) h') hR
theorem zl_iinc_3 {a0 a1 a2 : Option Value} {x n : Int} (hd : zAt ML_law 3 pc pc' (.iinc 3 n)) (hn : 3 < ML_law.2.2.1) (hc : zn a2 = true) (k : ZL l b Ln xs G pc' (a0 :: a1 :: a2 :: some (vI (x + n)) :: L) S h kc ks) : ZL l b Ln xs G pc (a0 :: a1 :: a2 :: some (vI x) :: L) S h kc ks := by
  obtain ⟨hd, rfl⟩ := hd
  intro p e s m below meth c H locs cells slots ls hCx hcc hss hl hR
  obtain ⟨j, hj⟩ := List.mem_iff_getElem?.mp ((zp_mem (a0 :: a1 :: a2 :: some (vI x) :: L) 0).mpr ⟨3, by omega, rfl⟩ : (3, vI x) ∈ zp 0 (a0 :: a1 :: a2 :: some (vI x) :: L))
  refine lv_iinc (v := Int32.ofInt (x + n)) (x := Int32.ofInt x) hCx.1 hCx.2.1 hd hl hj (by rw [Int32.ofInt_add]) hn rfl (fun ls' h' => ?_)
  exact k p e s m below meth c H locs cells slots ls' hCx hcc hss (z_has1 (L := (a0 :: a1 :: a2 :: some (vI x) :: L)) (i := 3) (zst_ok [a0, a1, a2] (some (vI x)) L (vI (x + n)) (fun w e => zn_ok hc (by simpa using e))) h') hR
theorem zl_lcmp {x y : Int} (hx0 : zInL x) (hy0 : zInL y) (hd : zAt ML_law 1 pc pc' (.lcmp)) (k : ZL l b Ln xs G pc' L (vI (zlcmp x y) :: S) h kc ks) : ZL l b Ln xs G pc L (vL y :: vL x :: S) h kc ks := by
  obtain ⟨hd, rfl⟩ := hd
  refine zl_pure (fun hx hb w => ?_) k
  rw [show vI (zlcmp x y) = .int (lg_cmp (Int64.ofInt x) (Int64.ofInt y)) from by rw [vI, z_lg hx0 hy0]] at w
  exact W.lcmp hx hb hd w
theorem zl_dup {v : Value} (hv : v.category = 1) (hd : zAt ML_law 1 pc pc' (.dup)) (k : ZL l b Ln xs G pc' L (v :: v :: S) h kc ks) : ZL l b Ln xs G pc L (v :: S) h kc ks := by
  obtain ⟨hd, rfl⟩ := hd
  refine zl_pure (fun hx hb w => ?_) k
  exact lv_dup hx hb hd hv w
theorem zl_icmp_gt {x y : Int} {off : Int} {tgt : Nat} (hd : zAt ML_law 3 pc pc' (.if_icmp .gt off)) (ht : (pc : Int) + off = (tgt : Int)) (hx0 : zIn x) (hy0 : zIn y) (kt : y < x → ZL l b Ln xs G tgt L S h kc ks) (kf : x ≤ y → ZL l b Ln xs G pc' L S h kc ks) : ZL l b Ln xs G pc L (vI y :: vI x :: S) h kc ks := by
  obtain ⟨hd, rfl⟩ := hd
  exact zl_br (fun hx hb wt wf => lv_icmp_gt hx hb hd ht wt wf) (fun q => kt ((zI_lt hy0 hx0).mp q)) (fun q => kf (Int.not_lt.mp (fun e => q ((zI_lt hy0 hx0).mpr e))))
theorem zl_ast_1 {a0 : Option Value} {o1 : Option Value} {x : Nat} (hd : zAt ML_law 1 pc pc' (.astore_n 1)) (hn : 1 < ML_law.2.2.1) (hc : zn a0 = true) (k : ZL l b Ln xs G pc' (a0 :: some (.ref x) :: L) S h kc ks) : ZL l b Ln xs G pc (a0 :: o1 :: L) (.ref x :: S) h kc ks := by
  obtain ⟨hd, rfl⟩ := hd
  intro p e s m below meth c H locs cells slots ls hCx hcc hss hl hR
  refine lv_astore_n hCx.1 hCx.2.1 hd rfl hl hn rfl (fun ls' h' => ?_)
  exact k p e s m below meth c H locs cells slots ls' hCx hcc hss (z_has1 (L := (a0 :: o1 :: L)) (i := 1) (zst_ok [a0] o1 L (.ref x) (fun w e => zn_ok hc (by simpa using e))) h') hR
theorem zl_ast_2 {a0 a1 : Option Value} {o1 : Option Value} {x : Nat} (hd : zAt ML_law 1 pc pc' (.astore_n 2)) (hn : 2 < ML_law.2.2.1) (hc : zn a1 = true) (k : ZL l b Ln xs G pc' (a0 :: a1 :: some (.ref x) :: L) S h kc ks) : ZL l b Ln xs G pc (a0 :: a1 :: o1 :: L) (.ref x :: S) h kc ks := by
  obtain ⟨hd, rfl⟩ := hd
  intro p e s m below meth c H locs cells slots ls hCx hcc hss hl hR
  refine lv_astore_n hCx.1 hCx.2.1 hd rfl hl hn rfl (fun ls' h' => ?_)
  exact k p e s m below meth c H locs cells slots ls' hCx hcc hss (z_has1 (L := (a0 :: a1 :: o1 :: L)) (i := 2) (zst_ok [a0, a1] o1 L (.ref x) (fun w e => zn_ok hc (by simpa using e))) h') hR
def sx (xs : Nat → Int32) (t : Int) : Int := (xs t.toNat).toInt
theorem sx_in {xs : Nat → Int32} {t : Int} : zIn (sx xs t) := by
  unfold sx
  have h1 := Int32.le_toInt (xs t.toNat)
  have h2 := Int32.toInt_lt (xs t.toNat)
  constructor <;> omega
theorem zl_sld {i : Int} (hd : zAt ML_law 1 pc pc' .iaload) (h0 : 0 ≤ i) (h1 : i < Ln) (hn : Ln ≤ 384) (k : ZL l b Ln xs G pc' L (vI (sx xs i) :: S) h kc ks) : ZL l b Ln xs G pc L (vI i :: .ref b :: S) h kc ks := by
  obtain ⟨hd, rfl⟩ := hd
  intro p e s m below meth c H locs cells slots ls hCx hcc hss hl hR
  obtain ⟨hx, hb, hr, hml, hown, hX, hlk, hK, hSx, hbl⟩ := id hCx
  obtain ⟨ws, hP, hD, hS, hC⟩ := id hR
  refine va_sld hx hb hSx hbl (Nat.not_le.mpr hbl) hS (zI_in h0 h1 (by omega)) hd ?_
  rw [zI_clamp (by omega)]
  have hk := k p e s m below meth c H locs cells slots ls hCx hcc hss hl hR
  unfold sx vI at hk
  rw [Int32.ofInt_toInt] at hk
  exact hk
theorem zl_slen (hd : zAt ML_law 1 pc pc' .arraylength) (k : ZL l b Ln xs G pc' L (vI Ln :: S) h kc ks) : ZL l b Ln xs G pc L (.ref b :: S) h kc ks := by
  obtain ⟨hd, rfl⟩ := hd
  intro p e s m below meth c H locs cells slots ls hCx hcc hss hl hR
  obtain ⟨hx, hb, hr, hml, hown, hX, hlk, hK, hSx, hbl⟩ := id hCx
  obtain ⟨ws, hP, hD, hS, hC⟩ := id hR
  refine va_slen hx hb hSx hbl (Nat.not_le.mpr hbl) hS hd ?_
  exact k p e s m below meth c H locs cells slots ls hCx hcc hss hl hR
theorem zl_ret (hd : zAt ML_law 1 pc pc' .ireturn) : ZL l b Ln xs G pc L [vI 1] h kc ks := by
  intro p e s m below meth c H locs cells slots ls hCx hcc hss hl hR
  obtain ⟨hx, hb, hr, hml, hown, hX, hlk, hK, hSx, hbl⟩ := id hCx
  obtain ⟨ws, hP, hD, hS, hC⟩ := id hR
  refine va_forget (fun q hq => hS.2.2 q hq) ?_
  refine W.widen (k := 600000) (n := 7302250) (by omega) (by omega) ?_
  exact lw_ret hx hb hr hlk hd.1
theorem zl_newO {idx ci : Nat} {fs : List Value} (hd : zAt ML_law 3 pc pc' (.new idx)) (hc : zNw ML_law.1.cls idx ci fs) (h1 : 1 ≤ kc) (h2 : fs.length ≤ ks) (K : ∀ (q : Nat) (h' : zH), h q = none → h' q = some (.inr (ci, fs)) → (∀ x, x ≠ q → h' x = h x) → ZL l b Ln xs G pc' L (.ref q :: S) h' (kc - 1) (ks - fs.length)) : ZL l b Ln xs G pc L S h kc ks := by
  obtain ⟨hd, rfl⟩ := hd
  intro p e s m below meth c H locs cells slots ls hCx hcc hss hl hR
  obtain ⟨hx, hb, hr, hml, hown, hX, hlk, hK, hSx, hbl⟩ := id hCx
  obtain ⟨ws, hP, hD, hS, hC⟩ := id hR
  obtain ⟨C, T, N, ty0, c1, c2, c3, c4, c5, c6, c7, c8⟩ := hc
  have hts : ∀ w ∈ zTbl, w.before #[Value.ref b] s = true := zW_warm hX.1 (State.WarmedH.refl s)
  refine va_new (ci := ci) (fs := fs) hx hb hts c2 ty0 c3 hown (hts _ c4) (hts _ c5) (hts _ c6) hK hP hD hS (fun q hq => hq) c1 c7 (by show cells + 1 ≤ 600000; omega) (by show slots + N ≤ 7302250; omega) hd (fun q H1 hP1 hD1 hS1 => ?_)
  exact K q (zup h q (.inr (ci, fs))) (hC.fresh hD1) (if_pos rfl) (fun x hx => if_neg hx) p e s m below meth c H1 locs _ _ ls hCx (by omega) (by omega) hl ⟨_, hP1, hD1, hS1, hC.push (e := .inr (ci, fs))⟩
theorem zl_room {mx d' : Nat} (hm : mx ≤ 45) (hd : d' ≤ 1000) (mc' ms' : Nat) : (zRm d' mc' ms').frames + 1 ≤ room_1.frames ∧ 8 + (mx + 11) + (zRm d' mc' ms').locals ≤ room_1.locals := by
  refine ⟨by show d' + 1 ≤ 2048; omega, ?_⟩
  show 8 + (mx + 11) + 64 * d' ≤ 84000
  omega
theorem zl_invV {idx n d' mc' ms' a ci : Nat} {As : List Value} {fs : List Value} {T : u_T} {N : Nat} {P' : Option Value → zH → Prop} (hd : zAt ML_law 3 pc pc' (.invokevirtual idx)) (hc : zCV ML_law.1.cls idx M' n) (hn : As.length = n) (hb0 : h a = some (.inr (ci, fs))) (hci : vwCl[ci]? = some (M'.1.cls, T, N)) (hdd : d' ≤ 1000) (h1 : mc' ≤ kc) (h2 : ms' ≤ ks) (hW : (S.map fun v => v.category).sum ≤ 8)
    (hM : MZ l M' d' mc' ms' (.ref a :: As) h P') (k : ∀ (v : Option Value) (h' : zH), P' v h' → ZL l b Ln xs G pc' L (v.toList ++ S) h' (kc - mc') (ks - ms')) : ZL l b Ln xs G pc L (As.reverse ++ .ref a :: S) h kc ks := by
  obtain ⟨hd, rfl⟩ := hd
  intro p e s m below meth c H locs cells slots ls hCx hcc hss hl hR
  obtain ⟨hx, hbb, hr, hml, hown, hX, hlk, hK, hSx, hbl⟩ := id hCx
  obtain ⟨ws, hP, hD, hS, hC⟩ := hR
  obtain ⟨hys, w1, w2, w3⟩ := hc
  have hts : ∀ w ∈ zTbl, w.before #[Value.ref b] s = true := zW_warm hX.1 (State.WarmedH.refl s)
  obtain ⟨hF, hpre⟩ := zPc_of (vs := .ref a :: As) hX hK hP hD hS (fun q hq => hq)
  obtain ⟨kb, hkb⟩ := hC a _ hb0
  have hrm := zl_room hys.2.2.2.2 hdd mc' ms'
  refine z_after (va_runV (As := As) (rest := S) (Ts := zTbl) (own := ML_law.1.cls) (nL := ML_law.2.2.1) (cc := ML_law.2.1) (C := M'.1.cls) (b := a) (n := n) (bytes := M'.2.1) (maxL := M'.2.2.1) (ret := M'.2.2.2) (index := idx) ⟨hx, hbb, hml, hown, hts⟩ (hM G ws H.size hC) ?_ ⟨zPc_blind, va_recv hK hP (ci := ci) (q0 := kb) hci hkb, hpre⟩ rfl hn hl.1 rfl (lv_room hW) hd ?_) hS hF (fun v h' H1 locs1 hp hR1 => k v h' hp p e s m below meth c H1 locs1 _ _ ls hCx (by omega) (by omega) hl hR1)
  · exact ⟨⟨rfl, rfl, hrm.1, hrm.2, z_wd hts hys.1, List.mem_singleton.mpr rfl, hts _ hys.1, hts _ hys.2.1, hys.2.2.1, hys.len, hts _ w1⟩, hts _ w2, hts _ w3⟩
  · exact ⟨by show cells + mc' ≤ 600000; omega, by show slots + ms' ≤ 7302250; omega⟩
theorem zl_invI {idx d' mc' ms' a : Nat} {P' : Option Value → zH → Prop} (hd : zAt ML_law 3 pc pc' (.invokespecial idx)) (hc : zCI ML_law.1.cls idx M' 0) (hdd : d' ≤ 1000) (h1 : mc' ≤ kc) (h2 : ms' ≤ ks) (hW : (S.map fun v => v.category).sum ≤ 8)
    (hM : MZ l M' d' mc' ms' [.ref a] h P') (k : ∀ (v : Option Value) (h' : zH), P' v h' → ZL l b Ln xs G pc' L (v.toList ++ S) h' (kc - mc') (ks - ms')) : ZL l b Ln xs G pc L (.ref a :: S) h kc ks := by
  obtain ⟨hd, rfl⟩ := hd
  intro p e s m below meth c H locs cells slots ls hCx hcc hss hl hR
  obtain ⟨hx, hbb, hr, hml, hown, hX, hlk, hK, hSx, hbl⟩ := id hCx
  obtain ⟨ws, hP, hD, hS, hC⟩ := hR
  obtain ⟨hys, w1, w2, w3, w4⟩ := hc
  have hts : ∀ w ∈ zTbl, w.before #[Value.ref b] s = true := zW_warm hX.1 (State.WarmedH.refl s)
  obtain ⟨hF, hpre⟩ := zPc_of (vs := [.ref a]) hX hK hP hD hS (fun q hq => hq)
  have hrm := zl_room hys.2.2.2.2 hdd mc' ms'
  refine z_after (va_runI (As := []) (rest := S) (Ts := zTbl) (own := ML_law.1.cls) (nL := ML_law.2.2.1) (cc := ML_law.2.1) (n := 0) (b := a) (bytes := M'.2.1) (maxL := M'.2.2.1) (index := idx) ⟨hx, hbb, hml, hown, hts⟩ (hM G ws H.size hC) ?_ ⟨zPc_blind, hpre⟩ rfl rfl hl.1 rfl (lv_room hW) hd ?_) hS hF (fun v h' H1 locs1 hp hR1 => k v h' hp p e s m below meth c H1 locs1 _ _ ls hCx (by omega) (by omega) hl hR1)
  · exact ⟨⟨rfl, rfl, hrm.1, hrm.2, z_wd hts hys.1, by rw [← w4]; exact List.mem_singleton.mpr rfl, by rw [← w4]; exact hts _ hys.1, hts _ hys.2.1, hys.2.2.1, hys.len, hts _ w1⟩, w3, hts _ w2⟩
  · exact ⟨by show cells + mc' ≤ 600000; omega, by show slots + ms' ≤ 7302250; omega⟩
theorem ZL.less {kc' ks' : Nat} (k : ZL l b Ln xs G pc L S h kc ks) (h1 : kc ≤ kc') (h2 : ks ≤ ks') : ZL l b Ln xs G pc L S h kc' ks' := by
  intro p e s m below meth c H locs cells slots ls hCx hcc hss hl hR
  exact k p e s m below meth c H locs cells slots ls hCx (by omega) (by omega) hl hR
/-- the reference's half of a call -/
def Hlf (l : Launch) (o : Nat) (ar : Nat → Nat) (E' : cE) (f' : mF) (g' j' : mA) (n : Nat) (h' : zH) (M2 : zM) (as : List Value) (w : Value) : Prop := ∃ P2 : Option Value → zH → Prop, MZ l M2 1000 0 0 (.ref o :: as) h' P2 ∧ ∀ v2 h2, P2 v2 h2 → v2 = some w ∧ ∃ (f2' : mF) (g2' j2' : mA), BH E' f' g' j' o ar f2' g2' j2' h2 ∧ Sim E' f' g' f2' g2' (n + 1)
theorem zl_callC {o : Nat} {ar : Nat → Nat} {E : cE} {f : mF} {g j : mA} {f2 : mF} {g2 j2 : mA} {n idx N : Nat} {T : u_T} {M1 M2 : zM} {as : List Value} {mk : Int → Value} {zi : Int → Prop} (C : Cal l o ar E f2 g2 j2 n h M1 M2 as mk zi) (B : BH E f g j o ar f2 g2 j2 h) (hd : zAt ML_law 3 pc pc' (.invokevirtual idx)) (hc : zCV ML_law.1.cls idx M1 as.length) (hci : vwCl[7]? = some (M1.1.cls, T, N)) (hW : (S.map fun v => v.category).sum ≤ 8)
    (K : ∀ (r : Int) (E' : cE) (f' : mF) (g' j' : mA) (h' : zH), zi r → E'.1 31 = E.1 31 → BH E' f' g' j' o ar f2 g2 j2 h' → Hlf l o ar E' f' g' j' n h' M2 as (mk r) → ZL l b Ln xs G pc' L (mk r :: S) h' kc ks) : ZL l b Ln xs G pc L (as.reverse ++ .ref (E.1 31) :: S) h (kc + 11) (ks + 469) := by
  obtain ⟨mc, ms, P1, hb, hM, hP⟩ := C
  refine zl_invV hd hc rfl (B.1.1 0 (B.1.2.2.2.1 0 (by decide) (by decide) (by decide))) hci (Nat.le_refl _) (by omega) (by omega) hW hM (fun v h' hv => ?_)
  obtain ⟨r, E', f', g', j', ev, rz, e31, B', hH⟩ := hP v h' hv
  subst ev
  exact (K r E' f' g' j' h' rz e31 B' hH).less (by omega) (by omega)
theorem zl_callM {o : Nat} {ar : Nat → Nat} {E' : cE} {f' : mF} {g' j' : mA} {f2 : mF} {g2 j2 : mA} {n idx N : Nat} {T : u_T} {M2 : zM} {as : List Value} {w : Value} (hH : Hlf l o ar E' f' g' j' n h M2 as w) (B : BH E' f' g' j' o ar f2 g2 j2 h) (hd : zAt ML_law 3 pc pc' (.invokevirtual idx)) (hc : zCV ML_law.1.cls idx M2 as.length) (hci : vwCl[8]? = some (M2.1.cls, T, N)) (hW : (S.map fun v => v.category).sum ≤ 8)
    (K : ∀ (f2' : mF) (g2' j2' : mA) (h2 : zH), BH E' f' g' j' o ar f2' g2' j2' h2 → Sim E' f' g' f2' g2' (n + 1) → ZL l b Ln xs G pc' L (w :: S) h2 kc ks) : ZL l b Ln xs G pc L (as.reverse ++ .ref o :: S) h kc ks := by
  obtain ⟨P2, hM, hP⟩ := hH
  refine zl_invV hd hc rfl B.2.1.1 hci (Nat.le_refl _) (by omega) (by omega) hW hM (fun v h2 hv => ?_)
  obtain ⟨ev, f2', g2', j2', B2, S2⟩ := hP v h2 hv
  subst ev
  exact K f2' g2' j2' h2 B2 S2

theorem zl_callC0 {o : Nat} {ar : Nat → Nat} {E : cE} {f : mF} {g j : mA} {f2 : mF} {g2 j2 : mA} {n idx N : Nat} {T : u_T} {M1 M2 : zM} {mk : Int → Value} {zi : Int → Prop} (C : Cal l o ar E f2 g2 j2 n h M1 M2 [] mk zi) (B : BH E f g j o ar f2 g2 j2 h) (hd : zAt ML_law 3 pc pc' (.invokevirtual idx)) (hc : zCV ML_law.1.cls idx M1 0) (hci : vwCl[7]? = some (M1.1.cls, T, N)) (hW : (S.map fun v => v.category).sum ≤ 8)
    (K : ∀ (r : Int) (E' : cE) (f' : mF) (g' j' : mA) (h' : zH), zi r → E'.1 31 = E.1 31 → BH E' f' g' j' o ar f2 g2 j2 h' → Hlf l o ar E' f' g' j' n h' M2 [] (mk r) → ZL l b Ln xs G pc' L (mk r :: S) h' kc ks) : ZL l b Ln xs G pc L (.ref (E.1 31) :: S) h (kc + 11) (ks + 469) := zl_callC (as := []) C B hd hc hci hW K
theorem zl_callM0 {o : Nat} {ar : Nat → Nat} {E' : cE} {f' : mF} {g' j' : mA} {f2 : mF} {g2 j2 : mA} {n idx N : Nat} {T : u_T} {M2 : zM} {w : Value} (hH : Hlf l o ar E' f' g' j' n h M2 [] w) (B : BH E' f' g' j' o ar f2 g2 j2 h) (hd : zAt ML_law 3 pc pc' (.invokevirtual idx)) (hc : zCV ML_law.1.cls idx M2 0) (hci : vwCl[8]? = some (M2.1.cls, T, N)) (hW : (S.map fun v => v.category).sum ≤ 8)
    (K : ∀ (f2' : mF) (g2' j2' : mA) (h2 : zH), BH E' f' g' j' o ar f2' g2' j2' h2 → Sim E' f' g' f2' g2' (n + 1) → ZL l b Ln xs G pc' L (w :: S) h2 kc ks) : ZL l b Ln xs G pc L (.ref o :: S) h kc ks := zl_callM (as := []) hH B hd hc hci hW K
theorem zl_callC1 {o : Nat} {ar : Nat → Nat} {E : cE} {f : mF} {g j : mA} {f2 : mF} {g2 j2 : mA} {n idx N : Nat} {T : u_T} {M1 M2 : zM} {a0 : Value} {mk : Int → Value} {zi : Int → Prop} (C : Cal l o ar E f2 g2 j2 n h M1 M2 [a0] mk zi) (B : BH E f g j o ar f2 g2 j2 h) (hd : zAt ML_law 3 pc pc' (.invokevirtual idx)) (hc : zCV ML_law.1.cls idx M1 1) (hci : vwCl[7]? = some (M1.1.cls, T, N)) (hW : (S.map fun v => v.category).sum ≤ 8)
    (K : ∀ (r : Int) (E' : cE) (f' : mF) (g' j' : mA) (h' : zH), zi r → E'.1 31 = E.1 31 → BH E' f' g' j' o ar f2 g2 j2 h' → Hlf l o ar E' f' g' j' n h' M2 [a0] (mk r) → ZL l b Ln xs G pc' L (mk r :: S) h' kc ks) : ZL l b Ln xs G pc L (a0 :: .ref (E.1 31) :: S) h (kc + 11) (ks + 469) := zl_callC (as := [a0]) C B hd hc hci hW K
theorem zl_callM1 {o : Nat} {ar : Nat → Nat} {E' : cE} {f' : mF} {g' j' : mA} {f2 : mF} {g2 j2 : mA} {n idx N : Nat} {T : u_T} {M2 : zM} {a0 : Value} {w : Value} (hH : Hlf l o ar E' f' g' j' n h M2 [a0] w) (B : BH E' f' g' j' o ar f2 g2 j2 h) (hd : zAt ML_law 3 pc pc' (.invokevirtual idx)) (hc : zCV ML_law.1.cls idx M2 1) (hci : vwCl[8]? = some (M2.1.cls, T, N)) (hW : (S.map fun v => v.category).sum ≤ 8)
    (K : ∀ (f2' : mF) (g2' j2' : mA) (h2 : zH), BH E' f' g' j' o ar f2' g2' j2' h2 → Sim E' f' g' f2' g2' (n + 1) → ZL l b Ln xs G pc' L (w :: S) h2 kc ks) : ZL l b Ln xs G pc L (a0 :: .ref o :: S) h kc ks := zl_callM (as := [a0]) hH B hd hc hci hW K
theorem zl_callC2 {o : Nat} {ar : Nat → Nat} {E : cE} {f : mF} {g j : mA} {f2 : mF} {g2 j2 : mA} {n idx N : Nat} {T : u_T} {M1 M2 : zM} {a0 a1 : Value} {mk : Int → Value} {zi : Int → Prop} (C : Cal l o ar E f2 g2 j2 n h M1 M2 [a0, a1] mk zi) (B : BH E f g j o ar f2 g2 j2 h) (hd : zAt ML_law 3 pc pc' (.invokevirtual idx)) (hc : zCV ML_law.1.cls idx M1 2) (hci : vwCl[7]? = some (M1.1.cls, T, N)) (hW : (S.map fun v => v.category).sum ≤ 8)
    (K : ∀ (r : Int) (E' : cE) (f' : mF) (g' j' : mA) (h' : zH), zi r → E'.1 31 = E.1 31 → BH E' f' g' j' o ar f2 g2 j2 h' → Hlf l o ar E' f' g' j' n h' M2 [a0, a1] (mk r) → ZL l b Ln xs G pc' L (mk r :: S) h' kc ks) : ZL l b Ln xs G pc L (a1 :: a0 :: .ref (E.1 31) :: S) h (kc + 11) (ks + 469) := zl_callC (as := [a0, a1]) C B hd hc hci hW K
theorem zl_callM2 {o : Nat} {ar : Nat → Nat} {E' : cE} {f' : mF} {g' j' : mA} {f2 : mF} {g2 j2 : mA} {n idx N : Nat} {T : u_T} {M2 : zM} {a0 a1 : Value} {w : Value} (hH : Hlf l o ar E' f' g' j' n h M2 [a0, a1] w) (B : BH E' f' g' j' o ar f2 g2 j2 h) (hd : zAt ML_law 3 pc pc' (.invokevirtual idx)) (hc : zCV ML_law.1.cls idx M2 2) (hci : vwCl[8]? = some (M2.1.cls, T, N)) (hW : (S.map fun v => v.category).sum ≤ 8)
    (K : ∀ (f2' : mF) (g2' j2' : mA) (h2 : zH), BH E' f' g' j' o ar f2' g2' j2' h2 → Sim E' f' g' f2' g2' (n + 1) → ZL l b Ln xs G pc' L (w :: S) h2 kc ks) : ZL l b Ln xs G pc L (a1 :: a0 :: .ref o :: S) h kc ks := zl_callM (as := [a0, a1]) hH B hd hc hci hW K
theorem zl_callC3 {o : Nat} {ar : Nat → Nat} {E : cE} {f : mF} {g j : mA} {f2 : mF} {g2 j2 : mA} {n idx N : Nat} {T : u_T} {M1 M2 : zM} {a0 a1 a2 : Value} {mk : Int → Value} {zi : Int → Prop} (C : Cal l o ar E f2 g2 j2 n h M1 M2 [a0, a1, a2] mk zi) (B : BH E f g j o ar f2 g2 j2 h) (hd : zAt ML_law 3 pc pc' (.invokevirtual idx)) (hc : zCV ML_law.1.cls idx M1 3) (hci : vwCl[7]? = some (M1.1.cls, T, N)) (hW : (S.map fun v => v.category).sum ≤ 8)
    (K : ∀ (r : Int) (E' : cE) (f' : mF) (g' j' : mA) (h' : zH), zi r → E'.1 31 = E.1 31 → BH E' f' g' j' o ar f2 g2 j2 h' → Hlf l o ar E' f' g' j' n h' M2 [a0, a1, a2] (mk r) → ZL l b Ln xs G pc' L (mk r :: S) h' kc ks) : ZL l b Ln xs G pc L (a2 :: a1 :: a0 :: .ref (E.1 31) :: S) h (kc + 11) (ks + 469) := zl_callC (as := [a0, a1, a2]) C B hd hc hci hW K
theorem zl_callM3 {o : Nat} {ar : Nat → Nat} {E' : cE} {f' : mF} {g' j' : mA} {f2 : mF} {g2 j2 : mA} {n idx N : Nat} {T : u_T} {M2 : zM} {a0 a1 a2 : Value} {w : Value} (hH : Hlf l o ar E' f' g' j' n h M2 [a0, a1, a2] w) (B : BH E' f' g' j' o ar f2 g2 j2 h) (hd : zAt ML_law 3 pc pc' (.invokevirtual idx)) (hc : zCV ML_law.1.cls idx M2 3) (hci : vwCl[8]? = some (M2.1.cls, T, N)) (hW : (S.map fun v => v.category).sum ≤ 8)
    (K : ∀ (f2' : mF) (g2' j2' : mA) (h2 : zH), BH E' f' g' j' o ar f2' g2' j2' h2 → Sim E' f' g' f2' g2' (n + 1) → ZL l b Ln xs G pc' L (w :: S) h2 kc ks) : ZL l b Ln xs G pc L (a2 :: a1 :: a0 :: .ref o :: S) h kc ks := zl_callM (as := [a0, a1, a2]) hH B hd hc hci hW K
theorem zl_callC4 {o : Nat} {ar : Nat → Nat} {E : cE} {f : mF} {g j : mA} {f2 : mF} {g2 j2 : mA} {n idx N : Nat} {T : u_T} {M1 M2 : zM} {a0 a1 a2 a3 : Value} {mk : Int → Value} {zi : Int → Prop} (C : Cal l o ar E f2 g2 j2 n h M1 M2 [a0, a1, a2, a3] mk zi) (B : BH E f g j o ar f2 g2 j2 h) (hd : zAt ML_law 3 pc pc' (.invokevirtual idx)) (hc : zCV ML_law.1.cls idx M1 4) (hci : vwCl[7]? = some (M1.1.cls, T, N)) (hW : (S.map fun v => v.category).sum ≤ 8)
    (K : ∀ (r : Int) (E' : cE) (f' : mF) (g' j' : mA) (h' : zH), zi r → E'.1 31 = E.1 31 → BH E' f' g' j' o ar f2 g2 j2 h' → Hlf l o ar E' f' g' j' n h' M2 [a0, a1, a2, a3] (mk r) → ZL l b Ln xs G pc' L (mk r :: S) h' kc ks) : ZL l b Ln xs G pc L (a3 :: a2 :: a1 :: a0 :: .ref (E.1 31) :: S) h (kc + 11) (ks + 469) := zl_callC (as := [a0, a1, a2, a3]) C B hd hc hci hW K
theorem zl_callM4 {o : Nat} {ar : Nat → Nat} {E' : cE} {f' : mF} {g' j' : mA} {f2 : mF} {g2 j2 : mA} {n idx N : Nat} {T : u_T} {M2 : zM} {a0 a1 a2 a3 : Value} {w : Value} (hH : Hlf l o ar E' f' g' j' n h M2 [a0, a1, a2, a3] w) (B : BH E' f' g' j' o ar f2 g2 j2 h) (hd : zAt ML_law 3 pc pc' (.invokevirtual idx)) (hc : zCV ML_law.1.cls idx M2 4) (hci : vwCl[8]? = some (M2.1.cls, T, N)) (hW : (S.map fun v => v.category).sum ≤ 8)
    (K : ∀ (f2' : mF) (g2' j2' : mA) (h2 : zH), BH E' f' g' j' o ar f2' g2' j2' h2 → Sim E' f' g' f2' g2' (n + 1) → ZL l b Ln xs G pc' L (w :: S) h2 kc ks) : ZL l b Ln xs G pc L (a3 :: a2 :: a1 :: a0 :: .ref o :: S) h kc ks := zl_callM (as := [a0, a1, a2, a3]) hH B hd hc hci hW K
theorem zl_callC5 {o : Nat} {ar : Nat → Nat} {E : cE} {f : mF} {g j : mA} {f2 : mF} {g2 j2 : mA} {n idx N : Nat} {T : u_T} {M1 M2 : zM} {a0 a1 a2 a3 a4 : Value} {mk : Int → Value} {zi : Int → Prop} (C : Cal l o ar E f2 g2 j2 n h M1 M2 [a0, a1, a2, a3, a4] mk zi) (B : BH E f g j o ar f2 g2 j2 h) (hd : zAt ML_law 3 pc pc' (.invokevirtual idx)) (hc : zCV ML_law.1.cls idx M1 5) (hci : vwCl[7]? = some (M1.1.cls, T, N)) (hW : (S.map fun v => v.category).sum ≤ 8)
    (K : ∀ (r : Int) (E' : cE) (f' : mF) (g' j' : mA) (h' : zH), zi r → E'.1 31 = E.1 31 → BH E' f' g' j' o ar f2 g2 j2 h' → Hlf l o ar E' f' g' j' n h' M2 [a0, a1, a2, a3, a4] (mk r) → ZL l b Ln xs G pc' L (mk r :: S) h' kc ks) : ZL l b Ln xs G pc L (a4 :: a3 :: a2 :: a1 :: a0 :: .ref (E.1 31) :: S) h (kc + 11) (ks + 469) := zl_callC (as := [a0, a1, a2, a3, a4]) C B hd hc hci hW K
theorem zl_callM5 {o : Nat} {ar : Nat → Nat} {E' : cE} {f' : mF} {g' j' : mA} {f2 : mF} {g2 j2 : mA} {n idx N : Nat} {T : u_T} {M2 : zM} {a0 a1 a2 a3 a4 : Value} {w : Value} (hH : Hlf l o ar E' f' g' j' n h M2 [a0, a1, a2, a3, a4] w) (B : BH E' f' g' j' o ar f2 g2 j2 h) (hd : zAt ML_law 3 pc pc' (.invokevirtual idx)) (hc : zCV ML_law.1.cls idx M2 5) (hci : vwCl[8]? = some (M2.1.cls, T, N)) (hW : (S.map fun v => v.category).sum ≤ 8)
    (K : ∀ (f2' : mF) (g2' j2' : mA) (h2 : zH), BH E' f' g' j' o ar f2' g2' j2' h2 → Sim E' f' g' f2' g2' (n + 1) → ZL l b Ln xs G pc' L (w :: S) h2 kc ks) : ZL l b Ln xs G pc L (a4 :: a3 :: a2 :: a1 :: a0 :: .ref o :: S) h kc ks := zl_callM (as := [a0, a1, a2, a3, a4]) hH B hd hc hci hW K
end ZLR
