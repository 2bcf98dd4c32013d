/-! ===== Z: one judgement over an abstract heap (addresses to cells), its context hidden ===== -/
abbrev zM : Type := MethodName × ByteArray × Nat × Option FieldType
/-- class numbers, slots, array classes (by tag), addresses of the string constants and of their bytes -/
abbrev zG : Type := (Nat → ClassId) × (Nat → Nat → Nat) × (Nat → ClassId) × (Nat → Nat) × (Nat → Nat)
abbrev zD (G : zG) : va_G := (G.1, G.2.1)
abbrev zA (G : zG) : Nat → ClassId := G.2.2.1
def zTy (t : Nat) : FieldType := match t with
  | 0 => .int
  | 1 => .long
  | 2 => .byte
  | 3 => .boolean
  | 4 => .object "FuseFrames$Script"
  | _ => .object "FuseFrames$Frame"
def zTys (G : zG) : List (ClassId × FieldType) := [(zA G 0, zTy 0), (zA G 1, zTy 1), (zA G 2, zTy 2), (zA G 3, zTy 3), (zA G 4, zTy 4), (zA G 5, zTy 5)]
abbrev zE : Type := (Nat × vp_A) ⊕ (Nat × List Value)
abbrev zH : Type := Nat → Option zE
def zcv (G : zG) (e : zE) : va_E := match e with
  | .inl a => .inl (zA G a.1, a.2)
  | .inr o => .inr o
def zCov (G : zG) (h : zH) (ws : va_W) : Prop := ∀ (a : Nat) (e : zE), h a = some e → ∃ k : Nat, ws[k]? = some (a, zcv G e)
def zup (h : zH) (a : Nat) (e : zE) : zH := fun b => if b = a then some e else h b
def zRm (d mc ms : Nat) : Room := { frames := d, cells := mc, slots := ms, locals := 64 * d }
/-- the string constants: pool numbers in Reader, texts -/
def zsK : List Nat := [120, 122, 124, 126, 128, 130, 132, 134, 136, 138, 140, 142, 144, 146, 148, 149, 151, 153, 155, 157, 159, 161, 163, 165, 167, 169, 171, 173]
def zsT : List String := ["burns", "holds", "bars", "light", "soak", "swap", "pass", "if", "times", "with", "or", "and", "not", "fuse", "kind", "from", "to", "knot", "ends", "mood", "long", "second", "done", "latest", "gone", "damp", "lit", ""]
def zsLen : List Nat := [5, 5, 4, 5, 4, 4, 4, 2, 5, 4, 2, 3, 3, 4, 4, 4, 2, 4, 4, 4, 4, 6, 4, 6, 4, 4, 3, 0]
def zsByt : List (List Int32) := [[98, 117, 114, 110, 115], [104, 111, 108, 100, 115], [98, 97, 114, 115], [108, 105, 103, 104, 116], [115, 111, 97, 107], [115, 119, 97, 112], [112, 97, 115, 115], [105, 102], [116, 105, 109, 101, 115], [119, 105, 116, 104], [111, 114], [97, 110, 100], [110, 111, 116], [102, 117, 115, 101], [107, 105, 110, 100], [102, 114, 111, 109], [116, 111], [107, 110, 111, 116], [101, 110, 100, 115], [109, 111, 111, 100], [108, 111, 110, 103], [115, 101, 99, 111, 110, 100], [100, 111, 110, 101], [108, 97, 116, 101, 115, 116], [103, 111, 110, 101], [100, 97, 109, 112], [108, 105, 116], []]
def zStr (G : zG) (A : Nat → Prop) (U : State) (H : Heap) : Prop :=
  (∀ i : Nat, i < 28 → vk_R RX3 (zsK.getD i 0) (zsT.getD i "") (G.2.2.2.1 i) U) ∧ vk_S 28 zsLen zsByt G.2.2.2.1 G.2.2.2.2 A U H ∧ va_Z "java/lang/String" "COMPACT_STRINGS" "Z" (.int 1) A U H ∧ va_Zq "jdk/internal/util/Preconditions" "SIOOBE_FORMATTER" "Ljava/util/function/BiFunction;" A U H
def zKind (w : Cond) : Bool := goodWord w || (match w with
  | .methodLinkNest .. => true
  | .fieldLinkNest .. => true
  | .arrayOver (.object _) => true
  | _ => false)
def zTbl : List Cond := lw_tbl.filter zKind
theorem zt_in {w : Cond} (h : w ∈ lw_tbl) (hk : zKind w = true) : w ∈ zTbl := List.mem_filter.mpr ⟨h, hk⟩
theorem zt {w : Cond} (i : Nat) (h : tables_1[i]? = some w) (hk : zKind w = true) : w ∈ zTbl := zt_in (z_app i h) hk
theorem zt_all {ws : List Cond} (h : ∀ w ∈ ws, w ∈ lw_tbl) (hk : ws.all zKind = true) : ∀ w ∈ ws, w ∈ zTbl := fun w hw => zt_in (h w hw) (List.all_eq_true.mp hk w hw)
theorem zt_sel {w : Cond} (i : Nat) (h : (k2_sels lw_privs)[i]? = some w) (hk : zKind w = true) : w ∈ zTbl := zt_in (List.mem_append_left _ (List.mem_of_getElem? h)) hk
theorem zW_warm {args a' : Array Value} {s U : State} (hts : ∀ w ∈ zTbl, w.before args s = true) (hW : s.WarmedH U.vm) : ∀ w ∈ zTbl, w.before a' U = true := by
  intro w hw
  have hk := (List.mem_filter.mp hw).2
  rcases Bool.or_eq_true_iff.mp hk with h | h
  · exact word_at hW (good_of_word h) (hts w hw)
  · match w, h, hts w hw with
    | .methodLinkNest a i x k, _, hb => exact va_Nw.use rfl (va_Nw.warmM hW (va_Nw.of rfl hb))
    | .fieldLinkNest a i b n d k, _, hb => exact va_Nw.use rfl (va_Nw.warmF hW (va_Nw.of rfl hb))
    | .arrayOver (.object C), _, hb => exact va_AO.use (va_AO.moved hW.alike (va_AO.of hb))
def zW (U : State) : Prop := ∀ w ∈ zTbl, w.before #[] U = true
def zX (G : zG) (A : Nat → Prop) (U : State) (H : Heap) : Prop := zW U ∧ zStr G A U H
theorem zX.to {G : zG} {A B : Nat → Prop} {s U : State} {H : Heap} (h : zX G A s s.heap) (hW : s.WarmedH U.vm) (hH : ∀ q : Nat, q < s.heap.size → ¬ A q → H[q]? = s.heap[q]?) (hB : ∀ q, B q → A q) : zX G B U H :=
  ⟨zW_warm h.1 hW, fun i hi => (h.2.1 i hi).warm hW, ((h.2.2.1.moved hW.alike).kept hH).narrow hB, ((h.2.2.2.1.moved hW.alike).kept hH).narrow hB, ((h.2.2.2.2.moved hW.alike).kept hH).narrow hB⟩
def zCx (M : zM) (G : zG) (p : Program) (s : State) (m : MethodId) (meth : Method) (c : Code) (A : Nat → Prop) : Prop :=
  p.tables.exec = Jvm.exec ∧ c.code = M.2.1 ∧ meth.sig.returnType = M.2.2.2 ∧ c.maxLocals = M.2.2.1 ∧ s.vm.findClass M.1.cls = some m.cls ∧ zX G A s s.heap ∧ meth.locks = false ∧ va_K (zD G) vwCl (zTys G) s ∧ (∀ q : Nat, s.heap.size ≤ q → A q) ∧ meth.name = M.1.name
def zR (G : zG) (A : Nat → Prop) (h : zH) (H0 H : Heap) (locs : List Loc) : Prop := ∃ ws : va_W, va_P (zD G) vwCl ws H ∧ va_D A ws ∧ va_S A H0 H locs ∧ zCov G h ws
def zQ (G : zG) (A : Nat → Prop) (P : Option Value → zH → Prop) : Array Value → State → Outcome → State → Prop := fun _ st oc t =>
  (∃ (v : Option Value) (h : zH) (ws : va_W), oc = .returned v ∧ P v h ∧ va_P (zD G) vwCl ws t.heap ∧ va_K (zD G) vwCl (zTys G) t ∧ va_D A ws ∧ zCov G h ws) ∧ va_F A st t
/-- the locals, slot by slot (none: not known) -/
def zp : Nat → List (Option Value) → List (Nat × Value)
  | _, [] => []
  | i, some v :: L => (i, v) :: zp (i + 1) L
  | i, none :: L => zp (i + 1) L
theorem zp_mem {j : Nat} {w : Value} : ∀ (L : List (Option Value)) (i : Nat), (j, w) ∈ zp i L ↔ ∃ k : Nat, j = i + k ∧ L[k]? = some (some w) := by
  intro L
  induction L with
  | nil => intro i; simp [zp]
  | cons o L ih =>
    intro i
    have key : (∃ k : Nat, j = i + k ∧ (o :: L)[k]? = some (some w)) ↔ (j = i ∧ o = some w) ∨ ∃ k : Nat, j = i + 1 + k ∧ L[k]? = some (some w) := by
      constructor
      · rintro ⟨k, hk, hL⟩
        match k, hk, hL with
        | 0, hk, hL => exact Or.inl ⟨by omega, by simpa using hL⟩
        | k + 1, hk, hL => exact Or.inr ⟨k, by omega, by simpa using hL⟩
      · rintro (⟨h1, h2⟩ | ⟨k, h1, h2⟩)
        · exact ⟨0, by omega, by simp [h2]⟩
        · exact ⟨k + 1, by omega, by simpa using h2⟩
    rw [key]
    cases o with
    | none => rw [zp, ih]; simp
    | some v => rw [zp, List.mem_cons, ih]; simp [eq_comm]
def Z (l : Launch) (M : zM) (d mc ms : Nat) (P : Option Value → zH → Prop) (pc : Nat) (L : List (Option Value)) (S : List Value) (h : zH) (kc ks : Nat) : Prop :=
  ∀ (G : zG) (p : Program) (e : Env) (s : State) (m : MethodId) (args : Array Value) (below : List Frame) (meth : Method) (c : Code) (A : Nat → Prop) (H : Heap) (locs : List Loc) (cells slots : Nat) (ls : Array Slot),
    zCx M G p s m meth c A → cells + kc ≤ mc → slots + ks ≤ ms → lv_has ls M.2.2.1 (zp 0 L) → zR G A h s.heap H locs →
      W p l e (zRm d mc ms) s m args below meth c H locs cells slots (MQ below (zQ G A P) args s mc ms A) (F0 m pc ls S)
abbrev zWd (M : zM) : List Cond := [Cond.code M.1 M.2.1 M.2.2.1 M.2.2.2]
def zPc (G : zG) (ws : va_W) (sz : Nat) (vs : List Value) : Array Value → State → Prop := va_Pc vs (fun U => U.heap.size = sz ∧ zX G (va_A ws sz) U U.heap ∧ va_P (zD G) vwCl ws U.heap ∧ va_K (zD G) vwCl (zTys G) U ∧ va_D (fun _ => True) ws)
/-- a method's contract: from the abstract heap h, with these arguments -/
def MZ (l : Launch) (M : zM) (d mc ms : Nat) (vs : List Value) (h : zH) (P : Option Value → zH → Prop) : Prop :=
  ∀ (G : zG) (ws : va_W) (sz : Nat), zCov G h ws → Met l M.1 (zWd M) (zRm d mc ms) (zPc G ws sz vs) (zQ G (va_A ws sz) P) mc ms (va_A ws sz)
theorem MZ.intro {l : Launch} {M : zM} {d mc ms : Nat} {vs : List Value} {h : zH} {P : Option Value → zH → Prop} (L : List (Option Value)) (hy : plainName M.1.cls = true) (hn : (lg_sl vs).length ≤ M.2.2.1) (hL : lv_args 0 vs = zp 0 L)
    (k : Z l M d mc ms P 0 L [] h mc ms) : MZ l M d mc ms vs h P := by
  intro G ws sz hC
  refine Met.ofW (cc := M.2.1) (maxL := M.2.2.1) (ret := M.2.2.2) hy rfl ?_
  intro p e s m args below meth c s₁ B hml hv
  obtain ⟨rfl, hsz, hX, hP, hK, hD0⟩ := hv
  subst hsz
  have hD := hD0.self (sz := s.heap.size)
  have hl := lv_entry vs (n := M.2.2.1) hn
  rw [lg_entry_eq]
  rw [hL] at hl
  exact k G p e s m vs.toArray below meth c (va_A ws s.heap.size) s.heap [] 0 0 _ ⟨B.exec, B.bytes, B.returns, hml, findClass_of_methodNamed B.named, hX, B.notSynchronized, hK, fun q h => Or.inr h, (name_of_methodNamed B.named B.method).1⟩ (by omega) (by omega) hl ⟨ws, hP, hD, va_S.rf, hC⟩
theorem zPc_blind {G : zG} {ws : va_W} {sz : Nat} {vs : List Value} : FrameBlind (zPc G ws sz vs) := by
  intro a U g mk q
  obtain ⟨q0, q1, qX, qP, qK, qD⟩ := q
  exact ⟨q0, q1, zX.to (U := U.calling g mk a) qX (State.WarmedH.refl U) (fun _ _ _ => rfl) (fun _ h => h), qP, va_K.moved (u := U) (U := U.calling g mk a) (Vm.Alike.refl U.vm) qK, qD⟩
theorem zPc_of {G : zG} {A : Nat → Prop} {ws : va_W} {s : State} {H : Heap} {locs : List Loc} {vs : List Value} (hX : zX G A s s.heap) (hK : va_K (zD G) vwCl (zTys G) s) (hP : va_P (zD G) vwCl ws H) (hD : va_D A ws) (hS : va_S A s.heap H locs) (hA : ∀ q : Nat, s.heap.size ≤ q → A q) :
    (∀ q, va_A ws H.size q → A q) ∧ ∀ U : State, U.heap = H → s.WarmedH U.vm → zPc G ws H.size vs vs.toArray U := by
  have hF : ∀ q, va_A ws H.size q → A q := by
    intro q h
    rcases h with ⟨k, e, h⟩ | h
    · exact hD.2 k (q, e) h
    · exact hA q (Nat.le_trans hS.1 h)
  refine ⟨hF, fun U hU hW => ⟨rfl, by rw [hU], ?_, by rw [hU]; exact hP, va_K.moved hW.alike hK, hD.weaken (fun _ _ _ _ => trivial)⟩⟩
  rw [hU]
  exact zX.to hX hW hS.2.1 hF
section ZR
variable {l : Launch} {M M' : zM} {d mc ms : Nat} {P : Option Value → zH → Prop} {pc pc' : Nat} {L : List (Option Value)} {S : List Value} {h : zH} {kc ks : Nat}
/-- behind a call -/
theorem z_after {p : Program} {e : Env} {s : State} {m : MethodId} {args : Array Value} {below : List Frame} {meth : Method} {c : Code} {H : Heap} {locs : List Loc} {cells slots mc' ms' : Nat} {Q : State → Prop} {R : Room} {pc : Nat} {ls : Array Slot} {st0 rest : List Value} {a : Array Value} {A : Nat → Prop} {ws : va_W} {G : zG} {P' : Option Value → zH → Prop}
    (hr : va_Run p l e R s m args below meth c H locs cells slots mc' ms' (F0 m pc ls st0) rest (zQ G (va_A ws H.size) P' a) (va_A ws H.size)) (hS : va_S A s.heap H locs) (hF : ∀ q, va_A ws H.size q → A q)
    (kk : ∀ (v : Option Value) (h' : zH) (H1 : Heap) (locs1 : List Loc), P' v h' → zR G A h' s.heap H1 locs1 → W p l e R s m args below meth c H1 locs1 (cells + mc') (slots + ms') Q (F0 m (pc + 3) ls (v.toList ++ rest))) : W p l e R s m args below meth c H locs cells slots Q (F0 m pc ls st0) := by
  intro T hT X
  obtain ⟨v, st₀, t, T', LL, h0, X', hL, e1, e2, ⟨⟨v', h', ws', hv, hp, hP1, hK1, hD1, hC1⟩, hz, hk⟩, st⟩ := hr T hT X
  cases hv
  rw [h0] at hz hk
  obtain ⟨t2, a1, b1⟩ := kk v h' T'.heap (locs ++ LL) hp ⟨ws', by rw [e1]; exact hP1, hD1.weaken (fun k q _ h => hF q.1 h),
    ⟨Nat.le_trans hS.1 (by rw [e1]; exact hz), fun q h1 h2 => by rw [e1, hk q (Nat.lt_of_lt_of_le h1 hS.1) (fun z => h2 (hF q z))]; exact hS.2.1 q h1 h2, fun q hq => by
      rcases List.mem_append.mp hq with h | h
      · exact hS.2.2 q h
      · exact hF _ (hL q h)⟩, hC1⟩ T' rfl X'
  exact ⟨t2, st t2 a1, b1⟩
def zYs (M : zM) (n : Nat) : Prop := Cond.code M.1 M.2.1 M.2.2.1 M.2.2.2 ∈ zTbl ∧ Cond.initialized M.1.cls ∈ zTbl ∧ (M.1.cls ≠ "java/lang/invoke/MethodHandle" ∧ M.1.cls ≠ "java/lang/invoke/VarHandle") ∧ (parseMethodDescriptor M.1.desc).map (fun d => d.parameters.length) = some n ∧ M.2.2.1 ≤ 45
theorem zYs.len {M : zM} {n : Nat} (h : zYs M n) : ∀ sig, parseMethodDescriptor M.1.desc = some sig → n = sig.parameters.length := by
  intro sig hs
  have h2 := h.2.2.2.1
  rw [hs] at h2
  exact (Option.some.inj h2).symm
theorem z_wd {M : zM} {args : Array Value} {s : State} (hts : ∀ w ∈ zTbl, w.before args s = true) (hc : Cond.code M.1 M.2.1 M.2.2.1 M.2.2.2 ∈ zTbl) : ∀ w ∈ zWd M, ∀ (a' : Array Value) (U : State), s.WarmedH U.vm → w.before a' U = true := by
  intro w hw a' U hW
  rw [List.mem_singleton] at hw
  subst hw
  exact zW_warm hts hW _ hc
theorem z_room {mx d d' : Nat} (hm : mx ≤ 45) (hd : d' + 1 ≤ d) (mc ms mc' ms' : Nat) : (zRm d' mc' ms').frames + 1 ≤ (zRm d mc ms).frames ∧ 8 + (mx + 11) + (zRm d' mc' ms').locals ≤ (zRm d mc ms).locals := by
  refine ⟨hd, ?_⟩
  show 8 + (mx + 11) + 64 * d' ≤ 64 * d
  omega
def zCV (own : String) (idx : Nat) (M : zM) (n : Nat) : Prop := zYs M n ∧ Cond.methodLink own idx M.1 ∈ zTbl ∧ Cond.instanceMethod M.1 ∈ zTbl ∧ Cond.selects M.1.cls M.1 M.1 ∈ zTbl
def zCS (own : String) (idx : Nat) (M : zM) (n : Nat) : Prop := zYs M n ∧ Cond.methodLink own idx M.1 ∈ zTbl ∧ Cond.static M.1 ∈ zTbl
def zCSN (own : String) (idx : Nat) (M : zM) (n : Nat) : Prop := zYs M n ∧ (∃ host, Cond.methodLinkNest own idx M.1 host ∈ zTbl) ∧ Cond.static M.1 ∈ zTbl
def zCI (own : String) (idx : Nat) (M : zM) (n : Nat) : Prop := zYs M n ∧ Cond.methodLink own idx M.1 ∈ zTbl ∧ Cond.instanceMethod M.1 ∈ zTbl ∧ M.1.name = "<init>" ∧ M.2.2.2 = none
def zCIN (own : String) (idx : Nat) (M : zM) (n : Nat) : Prop := zYs M n ∧ (∃ host, Cond.methodLinkNest own idx M.1 host ∈ zTbl) ∧ Cond.instanceMethod M.1 ∈ zTbl ∧ M.1.name = "<init>" ∧ M.2.2.2 = none
theorem z_invV {idx n d' mc' ms' b ci : Nat} {As : List Value} {fs : List Value} {T : u_T} {N : Nat} {P' : Option Value → zH → Prop} (hd : decode M.2.1 pc = .ok (.invokevirtual idx, 3)) (hc : zCV M.1.cls idx M' n) (hn : As.length = n) (hb : h b = some (.inr (ci, fs))) (hci : vwCl[ci]? = some (M'.1.cls, T, N)) (hdd : d' + 1 ≤ d) (h1 : mc' ≤ kc) (h2 : ms' ≤ ks) (hW : (S.map fun v => v.category).sum ≤ 8)
    (hM : MZ l M' d' mc' ms' (.ref b :: As) h P') (k : ∀ (v : Option Value) (h' : zH), P' v h' → Z l M d mc ms P (pc + 3) L (v.toList ++ S) h' (kc - mc') (ks - ms')) : Z l M d mc ms P pc L (As.reverse ++ .ref b :: S) h kc ks := by
  intro G p e s m args below meth c A H locs cells slots ls hCx hcc hss hl hR
  obtain ⟨hx, hbb, hr, hml, hown, hX, hlk, hK, hA, hnm⟩ := id hCx
  obtain ⟨ws, hP, hD, hS, hC⟩ := hR
  obtain ⟨hys, w1, w2, w3⟩ := hc
  have hts : ∀ w ∈ zTbl, w.before args s = true := zW_warm hX.1 (State.WarmedH.refl s)
  obtain ⟨hF, hpre⟩ := zPc_of (vs := .ref b :: As) hX hK hP hD hS hA
  obtain ⟨kb, hkb⟩ := hC b _ hb
  have hrm := z_room hys.2.2.2.2 hdd mc ms mc' ms'
  refine z_after (va_runV (As := As) (rest := S) (Ts := zTbl) (own := M.1.cls) (nL := M.2.2.1) (cc := M.2.1) (C := M'.1.cls) (b := b) (n := n) (bytes := M'.2.1) (maxL := M'.2.2.1) (ret := M'.2.2.2) (index := idx) ⟨hx, hbb, hml, hown, hts⟩ (hM G ws H.size hC) ?_ ⟨zPc_blind, va_recv hK hP (ci := ci) (q0 := kb) hci hkb, hpre⟩ rfl hn hl.1 rfl (lv_room hW) hd ?_) hS hF (fun v h' H1 locs1 hp hR1 => k v h' hp G p e s m args below meth c A H1 locs1 _ _ ls hCx (by omega) (by omega) hl hR1)
  · exact ⟨⟨rfl, rfl, hrm.1, hrm.2, z_wd hts hys.1, List.mem_singleton.mpr rfl, hts _ hys.1, hts _ hys.2.1, hys.2.2.1, hys.len, hts _ w1⟩, hts _ w2, hts _ w3⟩
  · exact ⟨by show cells + mc' ≤ mc; omega, by show slots + ms' ≤ ms; omega⟩
theorem z_invS {idx n d' mc' ms' : Nat} {As : List Value} {P' : Option Value → zH → Prop} (hd : decode M.2.1 pc = .ok (.invokestatic idx, 3)) (hc : zCS M.1.cls idx M' n) (hn : As.length = n) (hdd : d' + 1 ≤ d) (h1 : mc' ≤ kc) (h2 : ms' ≤ ks) (hW : (S.map fun v => v.category).sum ≤ 8)
    (hM : MZ l M' d' mc' ms' As h P') (k : ∀ (v : Option Value) (h' : zH), P' v h' → Z l M d mc ms P (pc + 3) L (v.toList ++ S) h' (kc - mc') (ks - ms')) : Z l M d mc ms P pc L (As.reverse ++ S) h kc ks := by
  intro G p e s m args below meth c A H locs cells slots ls hCx hcc hss hl hR
  obtain ⟨hx, hbb, hr, hml, hown, hX, hlk, hK, hA, hnm⟩ := id hCx
  obtain ⟨ws, hP, hD, hS, hC⟩ := hR
  obtain ⟨hys, w1, w2⟩ := hc
  have hts : ∀ w ∈ zTbl, w.before args s = true := zW_warm hX.1 (State.WarmedH.refl s)
  obtain ⟨hF, hpre⟩ := zPc_of (vs := As) hX hK hP hD hS hA
  have hrm := z_room hys.2.2.2.2 hdd mc ms mc' ms'
  refine z_after (va_runS (As := As) (rest := S) (Ts := zTbl) (own := M.1.cls) (nL := M.2.2.1) (cc := M.2.1) (n := n) (bytes := M'.2.1) (maxL := M'.2.2.1) (ret := M'.2.2.2) (index := idx) ⟨hx, hbb, hml, hown, hts⟩ (hM G ws H.size hC) ?_ ⟨zPc_blind, hpre⟩ rfl hn hl.1 rfl (lv_room hW) hd ?_) hS hF (fun v h' H1 locs1 hp hR1 => k v h' hp G p e s m args below meth c A H1 locs1 _ _ ls hCx (by omega) (by omega) hl hR1)
  · exact ⟨⟨rfl, rfl, hrm.1, hrm.2, z_wd hts hys.1, List.mem_singleton.mpr rfl, hts _ hys.1, hts _ hys.2.1, hys.2.2.1, hys.len, hts _ w1⟩, hts _ w2⟩
  · exact ⟨by show cells + mc' ≤ mc; omega, by show slots + ms' ≤ ms; omega⟩
theorem z_invSN {idx n d' mc' ms' : Nat} {As : List Value} {P' : Option Value → zH → Prop} (hd : decode M.2.1 pc = .ok (.invokestatic idx, 3)) (hc : zCSN M.1.cls idx M' n) (hn : As.length = n) (hdd : d' + 1 ≤ d) (h1 : mc' ≤ kc) (h2 : ms' ≤ ks) (hW : (S.map fun v => v.category).sum ≤ 8)
    (hM : MZ l M' d' mc' ms' As h P') (k : ∀ (v : Option Value) (h' : zH), P' v h' → Z l M d mc ms P (pc + 3) L (v.toList ++ S) h' (kc - mc') (ks - ms')) : Z l M d mc ms P pc L (As.reverse ++ S) h kc ks := by
  intro G p e s m args below meth c A H locs cells slots ls hCx hcc hss hl hR
  obtain ⟨hx, hbb, hr, hml, hown, hX, hlk, hK, hA, hnm⟩ := id hCx
  obtain ⟨ws, hP, hD, hS, hC⟩ := hR
  obtain ⟨hys, ⟨host, w1⟩, w2⟩ := hc
  have hts : ∀ w ∈ zTbl, w.before args s = true := zW_warm hX.1 (State.WarmedH.refl s)
  obtain ⟨hF, hpre⟩ := zPc_of (vs := As) hX hK hP hD hS hA
  have hrm := z_room hys.2.2.2.2 hdd mc ms mc' ms'
  refine z_after (va_runSN (As := As) (rest := S) (Ts := zTbl) (own := M.1.cls) (nL := M.2.2.1) (cc := M.2.1) (n := n) (bytes := M'.2.1) (maxL := M'.2.2.1) (ret := M'.2.2.2) (index := idx) (host := host) ⟨hx, hbb, hml, hown, hts⟩ (hM G ws H.size hC) ?_ ⟨zPc_blind, hpre⟩ rfl hn hl.1 rfl (lv_room hW) hd ?_) hS hF (fun v h' H1 locs1 hp hR1 => k v h' hp G p e s m args below meth c A H1 locs1 _ _ ls hCx (by omega) (by omega) hl hR1)
  · exact ⟨⟨⟨rfl, rfl, hrm.1, hrm.2, z_wd hts hys.1, List.mem_singleton.mpr rfl⟩, hts _ hys.1, hts _ hys.2.1, hys.2.2.1, hys.len, hts _ w1⟩, hts _ w2, trivial⟩
  · exact ⟨by show cells + mc' ≤ mc; omega, by show slots + ms' ≤ ms; omega⟩
theorem z_invI {idx n d' mc' ms' b : Nat} {As : List Value} {P' : Option Value → zH → Prop} (hd : decode M.2.1 pc = .ok (.invokespecial idx, 3)) (hc : zCI M.1.cls idx M' n) (hn : As.length = n) (hdd : d' + 1 ≤ d) (h1 : mc' ≤ kc) (h2 : ms' ≤ ks) (hW : (S.map fun v => v.category).sum ≤ 8)
    (hM : MZ l M' d' mc' ms' (.ref b :: As) h P') (k : ∀ (v : Option Value) (h' : zH), P' v h' → Z l M d mc ms P (pc + 3) L (v.toList ++ S) h' (kc - mc') (ks - ms')) : Z l M d mc ms P pc L (As.reverse ++ .ref b :: S) h kc ks := by
  intro G p e s m args below meth c A H locs cells slots ls hCx hcc hss hl hR
  obtain ⟨hx, hbb, hr, hml, hown, hX, hlk, hK, hA, hnm⟩ := id hCx
  obtain ⟨ws, hP, hD, hS, hC⟩ := hR
  obtain ⟨hys, w1, w2, w3, w4⟩ := hc
  have hts : ∀ w ∈ zTbl, w.before args s = true := zW_warm hX.1 (State.WarmedH.refl s)
  obtain ⟨hF, hpre⟩ := zPc_of (vs := .ref b :: As) hX hK hP hD hS hA
  have hrm := z_room hys.2.2.2.2 hdd mc ms mc' ms'
  refine z_after (va_runI (As := As) (rest := S) (Ts := zTbl) (own := M.1.cls) (nL := M.2.2.1) (cc := M.2.1) (n := n) (b := b) (bytes := M'.2.1) (maxL := M'.2.2.1) (index := idx) ⟨hx, hbb, hml, hown, hts⟩ (hM G ws H.size hC) ?_ ⟨zPc_blind, hpre⟩ rfl hn hl.1 rfl (lv_room hW) hd ?_) hS hF (fun v h' H1 locs1 hp hR1 => k v h' hp G p e s m args below meth c A H1 locs1 _ _ ls hCx (by omega) (by omega) hl hR1)
  · exact ⟨⟨rfl, rfl, hrm.1, hrm.2, z_wd hts hys.1, by rw [← w4]; exact List.mem_singleton.mpr rfl, by rw [← w4]; exact hts _ hys.1, hts _ hys.2.1, hys.2.2.1, hys.len, hts _ w1⟩, w3, hts _ w2⟩
  · exact ⟨by show cells + mc' ≤ mc; omega, by show slots + ms' ≤ ms; omega⟩
theorem z_invIN {idx n d' mc' ms' b : Nat} {As : List Value} {P' : Option Value → zH → Prop} (hd : decode M.2.1 pc = .ok (.invokespecial idx, 3)) (hc : zCIN M.1.cls idx M' n) (hn : As.length = n) (hdd : d' + 1 ≤ d) (h1 : mc' ≤ kc) (h2 : ms' ≤ ks) (hW : (S.map fun v => v.category).sum ≤ 8)
    (hM : MZ l M' d' mc' ms' (.ref b :: As) h P') (k : ∀ (v : Option Value) (h' : zH), P' v h' → Z l M d mc ms P (pc + 3) L (v.toList ++ S) h' (kc - mc') (ks - ms')) : Z l M d mc ms P pc L (As.reverse ++ .ref b :: S) h kc ks := by
  intro G p e s m args below meth c A H locs cells slots ls hCx hcc hss hl hR
  obtain ⟨hx, hbb, hr, hml, hown, hX, hlk, hK, hA, hnm⟩ := id hCx
  obtain ⟨ws, hP, hD, hS, hC⟩ := hR
  obtain ⟨hys, ⟨host, w1⟩, w2, w3, w4⟩ := hc
  have hts : ∀ w ∈ zTbl, w.before args s = true := zW_warm hX.1 (State.WarmedH.refl s)
  obtain ⟨hF, hpre⟩ := zPc_of (vs := .ref b :: As) hX hK hP hD hS hA
  have hrm := z_room hys.2.2.2.2 hdd mc ms mc' ms'
  refine z_after (va_runIN (As := As) (rest := S) (Ts := zTbl) (own := M.1.cls) (nL := M.2.2.1) (cc := M.2.1) (n := n) (b := b) (bytes := M'.2.1) (maxL := M'.2.2.1) (index := idx) (host := host) ⟨hx, hbb, hml, hown, hts⟩ (hM G ws H.size hC) ?_ ⟨zPc_blind, hpre⟩ rfl hn hl.1 rfl (lv_room hW) hd ?_) hS hF (fun v h' H1 locs1 hp hR1 => k v h' hp G p e s m args below meth c A H1 locs1 _ _ ls hCx (by omega) (by omega) hl hR1)
  · exact ⟨⟨⟨rfl, rfl, hrm.1, hrm.2, z_wd hts hys.1, by rw [← w4]; exact List.mem_singleton.mpr rfl⟩, by rw [← w4]; exact hts _ hys.1, hts _ hys.2.1, hys.2.2.1, hys.len, hts _ w1⟩, w3, hts _ w2⟩
  · exact ⟨by show cells + mc' ≤ mc; omega, by show slots + ms' ≤ ms; omega⟩
end ZR
