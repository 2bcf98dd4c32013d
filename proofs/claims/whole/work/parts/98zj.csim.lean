/-! ===== the class and the reference alike: pieces ===== -/
def eqL {α : Type} (ks : List Nat) (a b : Nat → α) : Prop := ∀ k ∈ ks, b k = a k
theorem eqx.on {α : Type} {ks fm : List Nat} {a b : Nat → α} (h : eqx fm a b) (hd : ∀ k ∈ ks, k ∉ fm) : eqL ks a b := fun k hk => h k (hd k hk)
theorem eqx.dr {α : Type} {fm : List Nat} {a b : Nat → α} (h : eqx fm a b) (k : Nat) (e : b k = a k) : eqx (fm.filter (fun x => x != k)) a b := by
  intro q hq
  by_cases z : q = k
  · rw [z]; exact e
  · exact h q (fun y => hq (List.mem_filter.mpr ⟨y, by simp [z]⟩))
/-- laws: the row of scripts pictures the texts kept -/
def LwR (E : cE) (f : mF) (g : mA) (Lr K : Int → Int) : Prop := (∀ q : Int, 0 ≤ q → q < 6 → okR E 4 (Lr q)) ∧ ∀ t : Int, 0 ≤ t → t < K 79 → ∃ cl, LawAt K t cl ∧ LwN E f g (Lr t) cl
theorem LwR.fr {fm gm : List Nat} {E : cE} {f f' : mF} {g g' : mA} {Lr K K' : Int → Int} (h : LwR E f g Lr K) (xf : eqx fm f f') (xg : eqx gm g g') (hf : ∀ k ∈ fm, k < 512) (hg : ∀ k ∈ gm, k < 512) (e79 : K' 79 = K 79) (e81 : ∀ i, 81 ≤ i → K' i = K i) : LwR E f' g' Lr K' := by
  refine ⟨h.1, fun t t0 t1 => ?_⟩
  rw [e79] at t1
  obtain ⟨cl, h1, h2⟩ := h.2 t t0 t1
  exact ⟨cl, LawAt_cg h1 (e81 _ (by omega)) (fun i i0 i1 => ⟨e81 _ (by omega), e81 _ (by omega)⟩), LwN_fr h2 xf xg hf hg⟩
def FrK (E : cE) (f : mF) (g : mA) (d : Nat) (K : Int → Int) : Prop := FrV K (f (32 * d + 0)) (f (32 * d + 7)) (f (32 * d + 9)) (f (32 * d + 13)) (f (32 * d + 15)) (g (32 * d + 1)) (g (32 * d + 2)) (g (32 * d + 3)) (g (32 * d + 4)) (f (32 * d + 5)) (g (32 * d + 6)) (g (32 * d + 8)) (g (32 * d + 10)) (g (32 * d + 11)) (g (32 * d + 12)) ∧ LwR E f g (g (32 * d + 14)) K
def ImR (E : cE) (f : mF) (g : mA) (X3 X4 : Int → Int) : Prop := ∀ k : Int, 0 ≤ k → k ≤ 1 → (g 3 k = -1 ∧ E.2.1 (4 + k.toNat) = false ∧ X4 k = 0) ∨ (g 3 k = 4 + k ∧ E.2.1 (4 + k.toNat) = true ∧ X4 k ≠ 0 ∧ FrK E f g (4 + k.toNat) (fun i => X3 (5688 * k + i)))
theorem ImR.eq {fm gm : List Nat} {E : cE} {f f' : mF} {g g' : mA} {X3 X4 : Int → Int} (h : ImR E f g X3 X4) (xf : eqx fm f f') (xg : eqx gm g g') (hf : ∀ k ∈ fm, k < 128 ∨ (192 ≤ k ∧ k < 512)) (hg : ∀ k ∈ gm, k ≠ 3 ∧ (k < 128 ∨ (192 ≤ k ∧ k < 512))) : ImR E f' g' X3 X4 := by
  intro k k0 k1
  have nf : ∀ q, 128 ≤ q → q < 192 → f' q = f q := fun q h1 h2 => xf q (fun z => by have := hf q z; omega)
  have ng : ∀ q, 128 ≤ q → q < 192 → g' q = g q := fun q h1 h2 => xg q (fun z => by have := (hg q z).2; omega)
  have e3 : g' 3 = g 3 := xg 3 (fun z => (hg 3 z).1 rfl)
  rw [e3]
  rcases h k k0 k1 with q | ⟨q1, q2, q3, q4, q5⟩
  · exact Or.inl q
  · refine Or.inr ⟨q1, q2, q3, ?_, ?_⟩
    · rw [nf (32 * (4 + k.toNat) + 0) (by omega) (by omega), nf (32 * (4 + k.toNat) + 7) (by omega) (by omega), nf (32 * (4 + k.toNat) + 9) (by omega) (by omega), nf (32 * (4 + k.toNat) + 13) (by omega) (by omega), nf (32 * (4 + k.toNat) + 15) (by omega) (by omega), nf (32 * (4 + k.toNat) + 5) (by omega) (by omega), ng (32 * (4 + k.toNat) + 1) (by omega) (by omega), ng (32 * (4 + k.toNat) + 2) (by omega) (by omega), ng (32 * (4 + k.toNat) + 3) (by omega) (by omega), ng (32 * (4 + k.toNat) + 4) (by omega) (by omega), ng (32 * (4 + k.toNat) + 6) (by omega) (by omega), ng (32 * (4 + k.toNat) + 8) (by omega) (by omega), ng (32 * (4 + k.toNat) + 10) (by omega) (by omega), ng (32 * (4 + k.toNat) + 11) (by omega) (by omega), ng (32 * (4 + k.toNat) + 12) (by omega) (by omega)]
      exact q4
    · rw [ng (32 * (4 + k.toNat) + 14) (by omega) (by omega)]
      exact q5.fr xf xg (fun k hk => by have := hf k hk; omega) (fun k hk => by have := (hg k hk).2; omega) rfl (fun _ _ => rfl)
def EvR (n9 dp : Int) (Mt : Int → Int) (x48 : Int) (X47 : Int → Int) : Prop := z31 dp ∧ ((x48 = -1 ∧ n9 = 0 ∧ ∀ k : Int, 0 ≤ k → k ≤ 7 → Mt k = -1) ∨ (x48 = n9 ∧ (0 ≤ n9 ∧ n9 ≤ 10) ∧ (∀ i : Int, 0 ≤ i → i < n9 → X47 i = b2i (bt dp i)) ∧ ∀ k : Int, 0 ≤ k → k ≤ 7 → Mt k = X47 (20 + k)))
def RfR (Rf X1 : Int → Int) (n : Nat) : Prop := (Rf 0 = X1 1 ∧ Rf 1 = X1 2 ∧ Rf 2 = X1 3 ∧ Rf 4 = X1 5 ∧ Rf 5 = X1 6) ∧ (∀ i, Rf i ≤ (n : Int)) ∧ ∀ i, X1 i ≤ (n : Int)
theorem RfR.mo {Rf X1 : Int → Int} {n : Nat} (h : RfR Rf X1 n) : RfR Rf X1 (n + 1) := ⟨h.1, fun i => by have := h.2.1 i; omega, fun i => by have := h.2.2 i; omega⟩
theorem RfR.bu {Rf X1 : Int → Int} {n : Nat} (h : RfR Rf X1 n) {k : Int} (hk : k = -1 ∨ k = -2 ∨ k = -3 ∨ k = -5 ∨ k = -6) : RfR (bumC Rf k) (bump X1 k) (n + 1) := by
  obtain ⟨⟨h1, h2, h3, h5, h6⟩, ha, hb⟩ := h
  refine ⟨?_, fun i => ?_, fun i => ?_⟩
  · unfold bumC bump iu
    rcases hk with rfl | rfl | rfl | rfl | rfl <;> simp <;> omega
  · unfold bumC iu
    have := ha (-k - 1)
    have := ha i
    split <;> omega
  · unfold bump iu
    have := hb (-k)
    have := hb i
    split <;> omega
def NdR (E : cE) (g : mA) (n : Nat) : Prop := (∀ m, E.2.1 m = true → m < 16 + n) ∧ ∀ (k i : Nat), E.2.1 (k / 32) = true → cTag k < 6 → cTag k ≠ 0 → cTag k ≠ 1 → g k i < 0 ∨ E.2.1 (g k i).toNat = true
def tgR (k : Nat) : Bool := decide (cTag k < 6) && !(decide (cTag k = 0)) && !(decide (cTag k = 1))
theorem NdR.eq {gm : List Nat} {E : cE} {g g' : mA} {n : Nat} (h : NdR E g n) (xg : eqx gm g g') (hg : ∀ k ∈ gm, tgR k = false) : NdR E g' (n + 1) := by
  refine ⟨fun m hm => by have := h.1 m hm; omega, fun k i h1 h2 h3 h4 => ?_⟩
  by_cases hk : k ∈ gm
  · have := hg k hk
    unfold tgR at this
    simp [h2, h3, h4] at this
  · rw [xg k hk]; exact h.2 k i h1 h2 h3 h4
/-- rows of scripts copied from one another -/
theorem NdR.cp {gm : List Nat} {E : cE} {g g' : mA} {n : Nat} (h : NdR E g n) (xg : eqx gm g g') (hg : ∀ k ∈ gm, tgR k = false ∨ ∀ i : Nat, g' k i = g k i ∨ ∃ k2 : Nat, E.2.1 (k2 / 32) = true ∧ tgR k2 = true ∧ g' k i = g k2 i) : NdR E g' (n + 1) := by
  refine ⟨fun m hm => by have := h.1 m hm; omega, fun k i h1 h2 h3 h4 => ?_⟩
  by_cases hk : k ∈ gm
  · rcases hg k hk with z | z
    · unfold tgR at z
      simp [h2, h3, h4] at z
    · rcases z i with z | ⟨k2, z1, z2, z3⟩
      · rw [z]; exact h.2 k i h1 h2 h3 h4
      · rw [z3]
        unfold tgR at z2
        simp at z2
        exact h.2 k2 i z1 (by omega) (by omega) (by omega)
  · rw [xg k hk]; exact h.2 k i h1 h2 h3 h4
def cF (f : mF) (g : mA) (f2 : mF) (g2 : mA) : Prop := FLK (g2 2) (g2 34) (f2 36) f g
def cL (E : cE) (f : mF) (g g2 : mA) : Prop := LwR E f g (g 46) (g2 2)
def cI (E : cE) (f : mF) (g g2 : mA) : Prop := ImR E f g (g2 3) (g2 4)
def cV (f : mF) (g : mA) (f2 : mF) (g2 : mA) : Prop := EvR (f 96) (f 101) (g 102) (f2 48) (g2 47)
def cP (f : mF) (g : mA) (f2 : mF) (g2 : mA) : Prop := f 256 = f2 13 ∧ (0 ≤ f2 13 ∧ f2 13 ≤ 400) ∧ TpU (g2 11) (g 257)
def cW (g2 : mA) : Prop := WdH (g2 7)
def cG (f f2 : mF) : Prop := f 16 = f2 0 ∧ f 13 = f2 6 ∧ f 14 = f2 14 ∧ f 15 = f2 40
def cR (g g2 : mA) (n : Nat) : Prop := RfR (g 11) (g2 1) n
/-- the class (E, f, g) and the reference (f2, g2) alike after n calls -/
def Sim (E : cE) (f : mF) (g : mA) (f2 : mF) (g2 : mA) (n : Nat) : Prop := cF f g f2 g2 ∧ cL E f g g2 ∧ cI E f g g2 ∧ cV f g f2 g2 ∧ cP f g f2 g2 ∧ cW g2 ∧ cG f f2 ∧ cR g g2 n ∧ NdR E g n
theorem FLK.eq {K X : Int → Int} {u : Int} {f f' : mF} {g g' : mA} (h : FLK K X u f g) (ef : eqL [32, 37, 39, 41, 45, 47, 192] f f') (eg : eqL [33, 34, 35, 36, 38, 40, 42, 43, 44, 193, 194, 195] g g') : FLK K X u f' g' := by
  unfold FLK
  rw [ef 32 (by decide), ef 37 (by decide), ef 39 (by decide), ef 41 (by decide), ef 45 (by decide), ef 47 (by decide), ef 192 (by decide), eg 33 (by decide), eg 34 (by decide), eg 35 (by decide), eg 36 (by decide), eg 38 (by decide), eg 40 (by decide), eg 42 (by decide), eg 43 (by decide), eg 44 (by decide), eg 193 (by decide), eg 194 (by decide), eg 195 (by decide)]
  exact h
theorem cF.eq {f f' f2 f2' : mF} {g g' g2 g2' : mA} (h : cF f g f2 g2) (ef : eqL [32, 37, 39, 41, 45, 47, 192] f f') (eg : eqL [33, 34, 35, 36, 38, 40, 42, 43, 44, 193, 194, 195] g g') (hf : eqL [36] f2 f2') (hg : eqL [2, 34] g2 g2') : cF f' g' f2' g2' := by
  unfold cF
  rw [hf 36 (by decide), hg 2 (by decide), hg 34 (by decide)]
  exact FLK.eq h ef eg
theorem cL.eq {fm gm : List Nat} {E : cE} {f f' : mF} {g g' g2 g2' : mA} (h : cL E f g g2) (xf : eqx fm f f') (xg : eqx gm g g') (hf : ∀ k ∈ fm, k < 512) (hg : ∀ k ∈ gm, k < 512) (e46 : eqL [46] g g') (e2 : eqL [2] g2 g2') : cL E f' g' g2' := by
  unfold cL
  rw [e46 46 (by decide), e2 2 (by decide)]
  exact LwR.fr h xf xg hf hg rfl (fun _ _ => rfl)
/-- with another K, the laws as they were -/
theorem cL.mv {fm gm : List Nat} {E : cE} {f f' : mF} {g g' g2 g2' : mA} (h : cL E f g g2) (xf : eqx fm f f') (xg : eqx gm g g') (hf : ∀ k ∈ fm, k < 512) (hg : ∀ k ∈ gm, k < 512) (e46 : eqL [46] g g') (e79 : g2' 2 79 = g2 2 79) (e81 : ∀ i, 81 ≤ i → g2' 2 i = g2 2 i) : cL E f' g' g2' := by
  unfold cL
  rw [e46 46 (by decide)]
  exact LwR.fr h xf xg hf hg e79 e81
theorem cI.eq {fm gm : List Nat} {E : cE} {f f' : mF} {g g' g2 g2' : mA} (h : cI E f g g2) (xf : eqx fm f f') (xg : eqx gm g g') (hf : ∀ k ∈ fm, k < 128 ∨ (192 ≤ k ∧ k < 512)) (hg : ∀ k ∈ gm, k ≠ 3 ∧ (k < 128 ∨ (192 ≤ k ∧ k < 512))) (e2 : eqL [3, 4] g2 g2') : cI E f' g' g2' := by
  unfold cI
  rw [e2 3 (by decide), e2 4 (by decide)]
  exact ImR.eq h xf xg hf hg
theorem cV.eq {f f' f2 f2' : mF} {g g' g2 g2' : mA} (h : cV f g f2 g2) (ef : eqL [96, 101] f f') (eg : eqL [102] g g') (hf : eqL [48] f2 f2') (hg : eqL [47] g2 g2') : cV f' g' f2' g2' := by
  unfold cV
  rw [ef 96 (by decide), ef 101 (by decide), eg 102 (by decide), hf 48 (by decide), hg 47 (by decide)]
  exact h
theorem cP.eq {f f' f2 f2' : mF} {g g' g2 g2' : mA} (h : cP f g f2 g2) (ef : eqL [256] f f') (eg : eqL [257] g g') (hf : eqL [13] f2 f2') (hg : eqL [11] g2 g2') : cP f' g' f2' g2' := by
  unfold cP
  rw [ef 256 (by decide), eg 257 (by decide), hf 13 (by decide), hg 11 (by decide)]
  exact h
theorem cP.mv {f f' f2 f2' : mF} {g g' g2 g2' : mA} {z : Int} (h : cP f g f2 g2) (e1 : f' 256 = z) (e2 : f2' 13 = z) (z0 : 0 ≤ z) (z4 : z ≤ 400) (eg : eqL [257] g g') (hg : eqL [11] g2 g2') : cP f' g' f2' g2' := by
  unfold cP
  rw [e1, e2, eg 257 (by decide), hg 11 (by decide)]
  exact ⟨rfl, ⟨z0, z4⟩, h.2.2⟩
theorem cW.eq {g2 g2' : mA} (h : cW g2) (hg : eqL [7] g2 g2') : cW g2' := by
  unfold cW
  rw [hg 7 (by decide)]; exact h
theorem cG.eq {f f' f2 f2' : mF} (h : cG f f2) (ef : eqL [16, 13, 14, 15] f f') (hf : eqL [0, 6, 14, 40] f2 f2') : cG f' f2' := by
  unfold cG
  rw [ef 16 (by decide), ef 13 (by decide), ef 14 (by decide), ef 15 (by decide), hf 0 (by decide), hf 6 (by decide), hf 14 (by decide), hf 40 (by decide)]
  exact h
/-- another status -/
theorem cG.st {f f' f2 f2' : mF} {s : Int} (h : cG f f2) (e1 : f' 16 = s) (e2 : f2' 0 = s) (ef : eqL [13, 14, 15] f f') (hf : eqL [6, 14, 40] f2 f2') : cG f' f2' := by
  unfold cG
  rw [e1, e2, ef 13 (by decide), ef 14 (by decide), ef 15 (by decide), hf 6 (by decide), hf 14 (by decide), hf 40 (by decide)]
  exact ⟨rfl, h.2⟩
theorem cR.eq {g g' g2 g2' : mA} {n : Nat} (h : cR g g2 n) (eg : eqL [11] g g') (hg : eqL [1] g2 g2') : cR g' g2' (n + 1) := by
  unfold cR
  rw [eg 11 (by decide), hg 1 (by decide)]; exact RfR.mo h
theorem cR.ok {g g' g2 g2' : mA} {n : Nat} (h : cR g g2 n) (eg : g' 11 = g 11) (hg : g2' 1 = g2 1) : cR g' g2' (n + 1) := by
  unfold cR
  rw [eg, hg]; exact RfR.mo h
theorem cR.bu {g g' g2 g2' : mA} {n : Nat} {k : Int} (h : cR g g2 n) (eg : g' 11 = bumC (g 11) k) (hg : g2' 1 = bump (g2 1) k) (hk : k = -1 ∨ k = -2 ∨ k = -3 ∨ k = -5 ∨ k = -6) : cR g' g2' (n + 1) := by
  unfold cR
  rw [eg, hg]; exact RfR.bu h hk
/-- calls that only ask -/
theorem Sim.qu {fm gm fm2 gm2 : List Nat} {E : cE} {f f' f2 f2' : mF} {g g' g2 g2' : mA} {n : Nat} (S : Sim E f g f2 g2 n) (xf : eqx fm f f') (xg : eqx gm g g') (yf : eqx fm2 f2 f2') (yg : eqx gm2 g2 g2') (hf : ∀ k ∈ fm, (k < 128 ∨ (192 ≤ k ∧ k < 512)) ∧ k ∉ [32, 37, 39, 41, 45, 47, 192] ++ [96, 101, 256, 16, 13, 14, 15]) (hg : ∀ k ∈ gm, (k ≠ 3 ∧ (k < 128 ∨ (192 ≤ k ∧ k < 512))) ∧ k ∉ [33, 34, 35, 36, 38, 40, 42, 43, 44, 193, 194, 195] ++ [46, 102, 257, 11] ∧ tgR k = false) (hf2 : ∀ k ∈ fm2, k ∉ [36, 48, 13, 0, 6, 14, 40]) (hg2 : ∀ k ∈ gm2, k ∉ [2, 34, 3, 4, 47, 11, 7, 1]) : Sim E f' g' f2' g2' (n + 1) := by
  obtain ⟨sF, sL, sI, sV, sT, sW, sG, sR, sN⟩ := S
  have a1 : ∀ k, k ∈ [32, 37, 39, 41, 45, 47, 192] ++ [96, 101, 256, 16, 13, 14, 15] → f' k = f k := fun k hk => xf k (fun z => (hf k z).2 hk)
  have a2 : ∀ k, k ∈ [33, 34, 35, 36, 38, 40, 42, 43, 44, 193, 194, 195] ++ [46, 102, 257, 11] → g' k = g k := fun k hk => xg k (fun z => (hg k z).2.1 hk)
  have a3 : ∀ k, k ∈ [36, 48, 13, 0, 6, 14, 40] → f2' k = f2 k := fun k hk => yf k (fun z => hf2 k z hk)
  have a4 : ∀ k, k ∈ [2, 34, 3, 4, 47, 11, 7, 1] → g2' k = g2 k := fun k hk => yg k (fun z => hg2 k z hk)
  have b1 : ∀ ks : List Nat, (∀ k ∈ ks, k ∈ [32, 37, 39, 41, 45, 47, 192] ++ [96, 101, 256, 16, 13, 14, 15]) → eqL ks f f' := fun ks h k hk => a1 k (h k hk)
  have b2 : ∀ ks : List Nat, (∀ k ∈ ks, k ∈ [33, 34, 35, 36, 38, 40, 42, 43, 44, 193, 194, 195] ++ [46, 102, 257, 11]) → eqL ks g g' := fun ks h k hk => a2 k (h k hk)
  have b3 : ∀ ks : List Nat, (∀ k ∈ ks, k ∈ [36, 48, 13, 0, 6, 14, 40]) → eqL ks f2 f2' := fun ks h k hk => a3 k (h k hk)
  have b4 : ∀ ks : List Nat, (∀ k ∈ ks, k ∈ [2, 34, 3, 4, 47, 11, 7, 1]) → eqL ks g2 g2' := fun ks h k hk => a4 k (h k hk)
  exact ⟨sF.eq (b1 _ (by decide)) (b2 _ (by decide)) (b3 _ (by decide)) (b4 _ (by decide)), sL.eq xf xg (fun k hk => by have := (hf k hk).1; omega) (fun k hk => by have := (hg k hk).1.2; omega) (b2 _ (by decide)) (b4 _ (by decide)), sI.eq xf xg (fun k hk => (hf k hk).1) (fun k hk => (hg k hk).1) (b4 _ (by decide)), sV.eq (b1 _ (by decide)) (b2 _ (by decide)) (b3 _ (by decide)) (b4 _ (by decide)), sT.eq (b1 _ (by decide)) (b2 _ (by decide)) (b3 _ (by decide)) (b4 _ (by decide)), sW.eq (b4 _ (by decide)), sG.eq (b1 _ (by decide)) (b3 _ (by decide)), sR.eq (b2 _ (by decide)) (b4 _ (by decide)), sN.eq xg (fun k hk => (hg k hk).2.2)⟩
/-- the law in force -/
theorem Sim.law {E : cE} {f f2 : mF} {g g2 : mA} {n : Nat} (S : Sim E f g f2 g2 n) : ∃ cl, LawK (g2 2) cl ∧ LwN E f g (if 0 ≤ g2 2 80 ∧ g2 2 80 < g2 2 79 then g 46 (g2 2 80) else -1) cl := by
  have hK : KOK (g2 2) := S.1.1.1
  have h79 := hK.2.2.2.2.2.2.2.2.2.2.1
  have h80 := hK.2.2.2.2.2.2.2.2.2.2.2
  by_cases hq : g2 2 80 = -1
  · refine ⟨[], Or.inl ⟨hq, rfl⟩, ?_⟩
    rw [if_neg (by omega)]
    exact Or.inl ⟨rfl, rfl⟩
  · obtain ⟨cl, h1, h2⟩ := S.2.1.2 (g2 2 80) (by omega) (by omega)
    refine ⟨cl, Or.inr ⟨by omega, by omega, h1⟩, ?_⟩
    rw [if_pos (by omega)]
    exact h2
theorem b8_eq (x : Int) : (zi2b x = zand x 255 ∧ zand x 255 ≤ 127) ∨ (zi2b x = zand x 255 - 256 ∧ 128 ≤ zand x 255) := by
  have h1 : zi2b x = ((Int32.ofInt x).toInt).bmod 256 := by
    unfold zi2b
    rw [Int8.toInt_toInt32, Int32.toInt_toInt8]
  have h2 : zand x 255 = ((Int32.ofInt x).toInt) % 256 := by
    unfold zand
    generalize Int32.ofInt x = v
    have e : (v &&& Int32.ofInt 255).toBitVec.toNat = v.toBitVec.toNat % 256 := by
      rw [Int32.toBitVec_and, BitVec.toNat_and]
      exact Nat.and_two_pow_sub_one_eq_mod _ 8
    have h3 : v.toInt = v.toBitVec.toInt := rfl
    have h4 : (v &&& Int32.ofInt 255).toInt = (v &&& Int32.ofInt 255).toBitVec.toInt := rfl
    have h5 := BitVec.toInt_eq_toNat_cond (v &&& Int32.ofInt 255).toBitVec
    have h6 := BitVec.toInt_eq_toNat_cond v.toBitVec
    have h7 := v.toBitVec.isLt
    rw [h4, h3, h5, h6, e]
    have : v.toBitVec.toNat % 256 < 256 := Nat.mod_lt _ (by decide)
    rw [if_pos (by omega)]
    split <;> omega
  rw [h1, h2]
  rw [Int.bmod_def]
  split <;> omega
