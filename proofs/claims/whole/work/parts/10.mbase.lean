/-! ===== the reference: its one object o with its arrays ar, slot by slot; ints as integers ===== -/
def mTag (k : Nat) : Nat := match k with
  | 1 => 0
  | 2 => 0
  | 3 => 0
  | 4 => 3
  | 5 => 0
  | 7 => 2
  | 11 => 2
  | 12 => 0
  | 15 => 0
  | 16 => 0
  | 17 => 0
  | 26 => 0
  | 30 => 0
  | 31 => 0
  | 32 => 0
  | 34 => 0
  | 35 => 0
  | 37 => 0
  | 38 => 0
  | 39 => 1
  | 46 => 1
  | 47 => 0
  | _ => 9
def mlen (k : Nat) : Nat := match k with
  | 1 => 7
  | 2 => 5688
  | 3 => 11376
  | 4 => 2
  | 5 => 58
  | 7 => 134
  | 11 => 400
  | 12 => 5
  | 15 => 401
  | 16 => 401
  | 17 => 401
  | 26 => 9
  | 30 => 10
  | 31 => 8
  | 32 => 8
  | 34 => 480
  | 35 => 480
  | 37 => 8
  | 38 => 64
  | 39 => 21
  | 46 => 2
  | 47 => 29
  | _ => 0
def mWords : List Int := [98, 117, 114, 110, 115, 32, 104, 111, 108, 100, 115, 32, 98, 97, 114, 115, 32, 105, 102, 32, 111, 114, 32, 97, 110, 100, 32, 110, 111, 116, 32, 102, 117, 115, 101, 32, 107, 105, 110, 100, 32, 102, 114, 111, 109, 32, 116, 111, 32, 107, 110, 111, 116, 32, 101, 110, 100, 115, 32, 109, 111, 111, 100, 32, 108, 111, 110, 103, 32, 115, 101, 99, 111, 110, 100, 32, 100, 111, 110, 101, 32, 108, 97, 116, 101, 115, 116, 32, 103, 111, 110, 101, 32, 100, 97, 109, 112, 32, 108, 105, 116, 32, 108, 105, 103, 104, 116, 32, 115, 111, 97, 107, 32, 115, 119, 97, 112, 32, 119, 105, 116, 104, 32, 112, 97, 115, 115, 32, 116, 105, 109, 101, 115, 32]
theorem mlen_lt (k : Nat) : mlen k < 2147483648 := by unfold mlen; split <;> decide
def iu (f : Int → Int) (i v : Int) : Int → Int := fun t => if t = i then v else f t
theorem iu_self (f : Int → Int) (i v : Int) : iu f i v i = v := if_pos rfl
theorem iu_ne {f : Int → Int} {i v t : Int} (h : t ≠ i) : iu f i v t = f t := if_neg h
abbrev mF : Type := Nat → Int
abbrev mA : Type := Nat → Int → Int
def mfv (ar : Nat → Nat) (f : mF) (k : Nat) : Value := if mTag k < 4 then .ref (ar k) else vI (f k)
def mfs (ar : Nat → Nat) (f : mF) : List Value := (List.range 50).map (mfv ar f)
def mCell (g j : mA) (k : Nat) : zE := if mTag k = 1 then .inl (1, mlen k, .inr (.inl (fun i : Nat => Int64.ofInt (j k i)))) else .inl (mTag k, mlen k, .inl (fun i : Nat => Int32.ofInt (g k i)))
def HM (o : Nat) (ar : Nat → Nat) (f : mF) (g j : mA) (h : zH) : Prop :=
  h o = some (.inr (8, mfs ar f)) ∧ (∀ k, mTag k < 4 → h (ar k) = some (mCell g j k)) ∧ (∀ k, mTag k < 4 → ar k ≠ o) ∧ (∀ k k', mTag k < 4 → mTag k' < 4 → ar k = ar k' → k = k') ∧ (∀ k, zIn (f k)) ∧ (∀ k i, zIn (g k i)) ∧ (∀ k i, zInL (j k i))
def zAg (o : Nat) (ar : Nat → Nat) (h0 h : zH) : Prop := ∀ a, a ≠ o → (∀ k, mTag k < 4 → a ≠ ar k) → h a = h0 a
def MP (o : Nat) (ar : Nat → Nat) (h0 : zH) (P : Option Value → mF → mA → mA → Prop) : Option Value → zH → Prop := fun v h => ∃ (f : mF) (g j : mA), HM o ar f g j h ∧ zAg o ar h0 h ∧ P v f g j
def MM (l : Launch) (o : Nat) (ar : Nat → Nat) (M : zM) (n : Nat) (vs : List Value) (f : mF) (g j : mA) (P : Option Value → mF → mA → mA → Prop) : Prop := ∀ d, n ≤ d → ∀ h, HM o ar f g j h → MZ l M d 0 0 vs h (MP o ar h P)
def PI (Q : Int → mF → mA → mA → Prop) : Option Value → mF → mA → mA → Prop := fun v f g j => ∃ r, v = some (vI r) ∧ zIn r ∧ Q r f g j
def PL (Q : Int → mF → mA → mA → Prop) : Option Value → mF → mA → mA → Prop := fun v f g j => ∃ r, v = some (vL r) ∧ zInL r ∧ Q r f g j
def PV (Q : mF → mA → mA → Prop) : Option Value → mF → mA → mA → Prop := fun v f g j => v = none ∧ Q f g j
theorem mfs_get {ar : Nat → Nat} {f : mF} {k : Nat} (hk : k < 50) : (mfs ar f)[k]? = some (mfv ar f k) := by simp [mfs, hk]
theorem mfs_set {ar : Nat → Nat} {f : mF} {k : Nat} {x : Int} (hk : k < 50) (ht : mTag k = 9) : (mfs ar f).set k (vI x) = mfs ar (va_up f k x) := by
  apply List.ext_getElem?
  intro i
  by_cases hi : i = k
  · subst hi
    rw [List.getElem?_set_self (by simp [mfs, hk]), mfs_get hk]
    simp [mfv, ht, va_up]
  · rw [List.getElem?_set_ne (fun e => hi e.symm)]
    by_cases h50 : i < 50
    · rw [mfs_get h50, mfs_get h50]
      simp [mfv, va_up, hi]
    · simp [mfs, h50]
theorem zAg.refl {o : Nat} {ar : Nat → Nat} {h : zH} : zAg o ar h h := fun _ _ _ => rfl
theorem zAg.trans {o : Nat} {ar : Nat → Nat} {h0 h1 h2 : zH} (a : zAg o ar h0 h1) (b : zAg o ar h1 h2) : zAg o ar h0 h2 := fun q h1 h2 => (b q h1 h2).trans (a q h1 h2)
theorem HM.putF {o : Nat} {ar : Nat → Nat} {f : mF} {g j : mA} {h h0 : zH} {k : Nat} {x : Int} (H : HM o ar f g j h) (hA : zAg o ar h0 h) (hk : k < 50) (ht : mTag k = 9) (hx : zIn x) : HM o ar (va_up f k x) g j (zup h o (.inr (8, (mfs ar f).set k (vI x)))) ∧ zAg o ar h0 (zup h o (.inr (8, (mfs ar f).set k (vI x)))) := by
  obtain ⟨h1, h2, h3, h4, h5, h6, h7⟩ := H
  refine ⟨⟨?_, fun q hq => ?_, h3, h4, fun q => ?_, h6, h7⟩, fun a ha hb => ?_⟩
  · rw [mfs_set hk ht]; exact if_pos rfl
  · rw [zup, if_neg (h3 q hq)]; exact h2 q hq
  · unfold va_up
    by_cases e : q = k
    · rw [if_pos e]; exact hx
    · rw [if_neg e]; exact h5 q
  · rw [zup, if_neg ha]; exact hA a ha hb
theorem HM.putC {o : Nat} {ar : Nat → Nat} {f : mF} {g j g' j' : mA} {h h0 : zH} {k : Nat} (H : HM o ar f g j h) (hA : zAg o ar h0 h) (ht : mTag k < 4) (e1 : ∀ q, q ≠ k → g' q = g q) (e2 : ∀ q, q ≠ k → j' q = j q) (r1 : ∀ i, zIn (g' k i)) (r2 : ∀ i, zInL (j' k i)) : HM o ar f g' j' (zup h (ar k) (mCell g' j' k)) ∧ zAg o ar h0 (zup h (ar k) (mCell g' j' k)) := by
  obtain ⟨h1, h2, h3, h4, h5, h6, h7⟩ := H
  refine ⟨⟨?_, fun q hq => ?_, h3, h4, h5, fun q i => ?_, fun q i => ?_⟩, fun a ha hb => ?_⟩
  · rw [zup, if_neg (fun e => h3 k ht e.symm)]; exact h1
  · by_cases e : q = k
    · subst e; exact if_pos rfl
    · rw [zup, if_neg (fun z => e (h4 q k hq ht z)), h2 q hq]
      simp only [mCell, e1 q e, e2 q e]
  · by_cases e : q = k
    · subst e; exact r1 i
    · rw [e1 q e]; exact h6 q i
  · by_cases e : q = k
    · subst e; exact r2 i
    · rw [e2 q e]; exact h7 q i
  · rw [zup, if_neg (hb k ht)]; exact hA a ha hb
theorem upd_iu {G : Int → Int} {i x : Int} (h0 : 0 ≤ i) : upd (fun n : Nat => Int32.ofInt (G n)) i.toNat (Int32.ofInt x) = fun n : Nat => Int32.ofInt (iu G i x n) := by
  funext n
  unfold upd iu
  by_cases e : n = i.toNat
  · rw [if_pos e, if_pos (by omega)]
  · rw [if_neg e, if_neg (by omega)]
theorem updL_iu {G : Int → Int} {i x : Int} (h0 : 0 ≤ i) : vp_updL (fun n : Nat => Int64.ofInt (G n)) i.toNat (Int64.ofInt x) = fun n : Nat => Int64.ofInt (iu G i x n) := by
  funext n
  unfold vp_updL iu
  by_cases e : n = i.toNat
  · rw [if_pos e, if_pos (by omega)]
  · rw [if_neg e, if_neg (by omega)]
theorem iu_in {G : Int → Int} {i x : Int} (h : ∀ t, zIn (G t)) (hx : zIn x) : ∀ t, zIn (iu G i x t) := by
  intro t; unfold iu; split
  · exact hx
  · exact h t
theorem iu_inL {G : Int → Int} {i x : Int} (h : ∀ t, zInL (G t)) (hx : zInL x) : ∀ t, zInL (iu G i x t) := by
  intro t; unfold iu; split
  · exact hx
  · exact h t
theorem zi2b_in (x : Int) : -128 ≤ zi2b x ∧ zi2b x ≤ 127 := by
  have h1 := Int8.le_toInt (Int32.ofInt x).toInt8
  have h2 := Int8.toInt_lt (Int32.ofInt x).toInt8
  unfold zi2b
  rw [Int8.toInt_toInt32]
  omega
section MR
variable {l : Launch} {M M' : zM} {d : Nat} {Pz : Option Value → zH → Prop} {pc pc' : Nat} {L : List (Option Value)} {S : List Value} {h h0 : zH} {o : Nat} {ar : Nat → Nat} {f : mF} {g j : mA}
theorem MM.intro {n : Nat} {vs : List Value} {P : Option Value → mF → mA → mA → Prop} (L : List (Option Value)) (hy : plainName M.1.cls = true) (hn : (lg_sl vs).length ≤ M.2.2.1) (hL : lv_args 0 vs = zp 0 L) (k : ∀ d, n ≤ d → ∀ h0 h, HM o ar f g j h → zAg o ar h0 h → Z l M d 0 0 (MP o ar h0 P) 0 L [] h 0 0) : MM l o ar M n vs f g j P :=
  fun d hd h hH => MZ.intro L hy hn hL (k d hd h h hH zAg.refl)
theorem zm_getI {idx k : Nat} (hd : zAt M 3 pc pc' (.getfield idx)) (hf : zFl M.1.cls idx 8 k) (hH : HM o ar f g j h) (ht : mTag k = 9) (hk : k < 50) (K : zIn (f k) → Z l M d 0 0 Pz pc' L (vI (f k) :: S) h 0 0) : Z l M d 0 0 Pz pc L (.ref o :: S) h 0 0 :=
  z_getf hd hf hH.1 (mfs_get hk) (by rw [mfv, if_neg (by rw [ht]; decide)]; exact K (hH.2.2.2.2.1 k))
theorem zm_getA {idx k : Nat} (hd : zAt M 3 pc pc' (.getfield idx)) (hf : zFl M.1.cls idx 8 k) (hH : HM o ar f g j h) (ht : mTag k < 4) (hk : k < 50) (K : Z l M d 0 0 Pz pc' L (.ref (ar k) :: S) h 0 0) : Z l M d 0 0 Pz pc L (.ref o :: S) h 0 0 :=
  z_getf hd hf hH.1 (mfs_get hk) (by rw [mfv, if_pos ht]; exact K)
theorem zm_putI {idx k : Nat} {x : Int} (hd : zAt M 3 pc pc' (.putfield idx)) (hf : zFp M.1.cls idx 8 k false .int) (hH : HM o ar f g j h) (hA : zAg o ar h0 h) (ht : mTag k = 9) (hk : k < 50) (hx : zIn x) (K : ∀ h, HM o ar (va_up f k x) g j h → zAg o ar h0 h → Z l M d 0 0 Pz pc' L S h 0 0) : Z l M d 0 0 Pz pc L (vI x :: .ref o :: S) h 0 0 :=
  z_putf hd hf hH.1 (by simp [mfs, hk]) rfl rfl (K _ (hH.putF hA hk ht hx).1 (hH.putF hA hk ht hx).2)
theorem zm_putZ {idx k : Nat} {x : Int} (hd : zAt M 3 pc pc' (.putfield idx)) (hf : zFp M.1.cls idx 8 k false .boolean) (hH : HM o ar f g j h) (hA : zAg o ar h0 h) (ht : mTag k = 9) (hk : k < 50) (hx : x = 0 ∨ x = 1) (K : ∀ h, HM o ar (va_up f k x) g j h → zAg o ar h0 h → Z l M d 0 0 Pz pc' L S h 0 0) : Z l M d 0 0 Pz pc L (vI x :: .ref o :: S) h 0 0 :=
  have hx' : zIn x := by rcases hx with rfl | rfl <;> decide
  z_putf hd hf hH.1 (by simp [mfs, hk]) (by rcases hx with rfl | rfl <;> rfl) (by rcases hx with rfl | rfl <;> rfl) (K _ (hH.putF hA hk ht hx').1 (hH.putF hA hk ht hx').2)
theorem zm_iald {k : Nat} {i : Int} (hd : zAt M 1 pc pc' .iaload) (hH : HM o ar f g j h) (ht : mTag k = 0) (hi0 : 0 ≤ i) (hi1 : i < mlen k) (K : zIn (g k i) → Z l M d 0 0 Pz pc' L (vI (g k i) :: S) h 0 0) : Z l M d 0 0 Pz pc L (vI i :: .ref (ar k) :: S) h 0 0 :=
  z_iald hd (f := fun n : Nat => Int32.ofInt (g k n)) (n := mlen k) (by rw [hH.2.1 k (by rw [ht]; decide), mCell, if_neg (by rw [ht]; decide), ht]) hi0 hi1 (mlen_lt k) (by rw [show ((i.toNat : Nat) : Int) = i by omega]; exact K (hH.2.2.2.2.2.1 k i))
theorem zm_bald {k : Nat} {i : Int} (hd : zAt M 1 pc pc' .baload) (hH : HM o ar f g j h) (ht : mTag k = 2) (hi0 : 0 ≤ i) (hi1 : i < mlen k) (K : zIn (g k i) → Z l M d 0 0 Pz pc' L (vI (g k i) :: S) h 0 0) : Z l M d 0 0 Pz pc L (vI i :: .ref (ar k) :: S) h 0 0 :=
  z_bald hd (f := fun n : Nat => Int32.ofInt (g k n)) (n := mlen k) (by rw [hH.2.1 k (by rw [ht]; decide), mCell, if_neg (by rw [ht]; decide), ht]) hi0 hi1 (mlen_lt k) (by rw [show ((i.toNat : Nat) : Int) = i by omega]; exact K (hH.2.2.2.2.2.1 k i))
theorem zm_zald {k : Nat} {i : Int} (hd : zAt M 1 pc pc' .baload) (hH : HM o ar f g j h) (ht : mTag k = 3) (hi0 : 0 ≤ i) (hi1 : i < mlen k) (K : zIn (g k i) → Z l M d 0 0 Pz pc' L (vI (g k i) :: S) h 0 0) : Z l M d 0 0 Pz pc L (vI i :: .ref (ar k) :: S) h 0 0 :=
  z_zald hd (f := fun n : Nat => Int32.ofInt (g k n)) (n := mlen k) (by rw [hH.2.1 k (by rw [ht]; decide), mCell, if_neg (by rw [ht]; decide), ht]) hi0 hi1 (mlen_lt k) (by rw [show ((i.toNat : Nat) : Int) = i by omega]; exact K (hH.2.2.2.2.2.1 k i))
theorem zm_lald {k : Nat} {i : Int} (hd : zAt M 1 pc pc' .laload) (hH : HM o ar f g j h) (ht : mTag k = 1) (hi0 : 0 ≤ i) (hi1 : i < mlen k) (K : zInL (j k i) → Z l M d 0 0 Pz pc' L (vL (j k i) :: S) h 0 0) : Z l M d 0 0 Pz pc L (vI i :: .ref (ar k) :: S) h 0 0 :=
  z_lald hd (f := fun n : Nat => Int64.ofInt (j k n)) (n := mlen k) (by rw [hH.2.1 k (by rw [ht]; decide), mCell, if_pos ht]) hi0 hi1 (mlen_lt k) (by rw [show ((i.toNat : Nat) : Int) = i by omega]; exact K (hH.2.2.2.2.2.2 k i))
theorem zm_iast {k : Nat} {i x : Int} (hd : zAt M 1 pc pc' .iastore) (hH : HM o ar f g j h) (hA : zAg o ar h0 h) (ht : mTag k = 0) (hi0 : 0 ≤ i) (hi1 : i < mlen k) (hx : zIn x) (K : ∀ h, HM o ar f (va_up g k (iu (g k) i x)) j h → zAg o ar h0 h → Z l M d 0 0 Pz pc' L S h 0 0) : Z l M d 0 0 Pz pc L (vI x :: vI i :: .ref (ar k) :: S) h 0 0 := by
  have q := hH.putC (g' := va_up g k (iu (g k) i x)) (j' := j) (k := k) hA (by rw [ht]; decide) (fun q e => va_up_ne _ _ e) (fun _ _ => rfl) (by rw [va_up_self]; exact iu_in (hH.2.2.2.2.2.1 k) hx) (hH.2.2.2.2.2.2 k)
  refine z_iast hd (f := fun n : Nat => Int32.ofInt (g k n)) (n := mlen k) (by rw [hH.2.1 k (by rw [ht]; decide), mCell, if_neg (by rw [ht]; decide), ht]) hi0 hi1 (mlen_lt k) ?_
  rw [upd_iu hi0]
  rw [mCell, if_neg (by rw [ht]; decide), ht, va_up_self] at q
  exact K _ q.1 q.2
theorem zm_bast {k : Nat} {i x : Int} (hd : zAt M 1 pc pc' .bastore) (hH : HM o ar f g j h) (hA : zAg o ar h0 h) (ht : mTag k = 2) (hi0 : 0 ≤ i) (hi1 : i < mlen k) (K : ∀ h, HM o ar f (va_up g k (iu (g k) i (zi2b x))) j h → zAg o ar h0 h → Z l M d 0 0 Pz pc' L S h 0 0) : Z l M d 0 0 Pz pc L (vI x :: vI i :: .ref (ar k) :: S) h 0 0 := by
  have q := hH.putC (g' := va_up g k (iu (g k) i (zi2b x))) (j' := j) (k := k) hA (by rw [ht]; decide) (fun q e => va_up_ne _ _ e) (fun _ _ => rfl) (by rw [va_up_self]; exact iu_in (hH.2.2.2.2.2.1 k) (by have := zi2b_in x; omega)) (hH.2.2.2.2.2.2 k)
  refine z_bast hd (f := fun n : Nat => Int32.ofInt (g k n)) (n := mlen k) (by rw [hH.2.1 k (by rw [ht]; decide), mCell, if_neg (by rw [ht]; decide), ht]) hi0 hi1 (mlen_lt k) ?_
  rw [upd_iu hi0]
  rw [mCell, if_neg (by rw [ht]; decide), ht, va_up_self] at q
  exact K _ q.1 q.2
theorem zm_zast {k : Nat} {i x : Int} (hd : zAt M 1 pc pc' .bastore) (hH : HM o ar f g j h) (hA : zAg o ar h0 h) (ht : mTag k = 3) (hi0 : 0 ≤ i) (hi1 : i < mlen k) (hx : x = 0 ∨ x = 1) (K : ∀ h, HM o ar f (va_up g k (iu (g k) i x)) j h → zAg o ar h0 h → Z l M d 0 0 Pz pc' L S h 0 0) : Z l M d 0 0 Pz pc L (vI x :: vI i :: .ref (ar k) :: S) h 0 0 := by
  have q := hH.putC (g' := va_up g k (iu (g k) i x)) (j' := j) (k := k) hA (by rw [ht]; decide) (fun q e => va_up_ne _ _ e) (fun _ _ => rfl) (by rw [va_up_self]; exact iu_in (hH.2.2.2.2.2.1 k) (by omega)) (hH.2.2.2.2.2.2 k)
  refine z_zast hd (f := fun n : Nat => Int32.ofInt (g k n)) (n := mlen k) (by rw [hH.2.1 k (by rw [ht]; decide), mCell, if_neg (by rw [ht]; decide), ht]) hi0 hi1 (mlen_lt k) hx ?_
  rw [upd_iu hi0]
  rw [mCell, if_neg (by rw [ht]; decide), ht, va_up_self] at q
  exact K _ q.1 q.2
theorem zm_last {k : Nat} {i x : Int} (hd : zAt M 1 pc pc' .lastore) (hH : HM o ar f g j h) (hA : zAg o ar h0 h) (ht : mTag k = 1) (hi0 : 0 ≤ i) (hi1 : i < mlen k) (hx : zInL x) (K : ∀ h, HM o ar f g (va_up j k (iu (j k) i x)) h → zAg o ar h0 h → Z l M d 0 0 Pz pc' L S h 0 0) : Z l M d 0 0 Pz pc L (vL x :: vI i :: .ref (ar k) :: S) h 0 0 := by
  have q := hH.putC (g' := g) (j' := va_up j k (iu (j k) i x)) (k := k) hA (by rw [ht]; decide) (fun _ _ => rfl) (fun q e => va_up_ne _ _ e) (hH.2.2.2.2.2.1 k) (by rw [va_up_self]; exact iu_inL (hH.2.2.2.2.2.2 k) hx)
  refine z_last hd (f := fun n : Nat => Int64.ofInt (j k n)) (n := mlen k) (by rw [hH.2.1 k (by rw [ht]; decide), mCell, if_pos ht]) hi0 hi1 (mlen_lt k) ?_
  rw [updL_iu hi0]
  rw [mCell, if_pos ht, va_up_self] at q
  exact K _ q.1 q.2
theorem zm_alen {k : Nat} (hd : zAt M 1 pc pc' .arraylength) (hH : HM o ar f g j h) (ht : mTag k < 4) (K : Z l M d 0 0 Pz pc' L (vI (mlen k : Int) :: S) h 0 0) : Z l M d 0 0 Pz pc L (.ref (ar k) :: S) h 0 0 := by
  have q := hH.2.1 k ht
  unfold mCell at q
  split at q
  · exact z_alen hd q (by decide) K
  · exact z_alen hd q (by omega) K
theorem zm_iret {x : Int} {Q : Int → mF → mA → mA → Prop} (hd : zAt M 1 pc pc' .ireturn) (hM : M.2.2.2 = some .int) (hH : HM o ar f g j h) (hA : zAg o ar h0 h) (hx : zIn x) (q : Q x f g j) : Z l M d 0 0 (MP o ar h0 (PI Q)) pc L [vI x] h 0 0 :=
  z_iret hd hM ⟨f, g, j, hH, hA, x, rfl, hx, q⟩
theorem zm_zret {x : Int} {Q : Int → mF → mA → mA → Prop} (hd : zAt M 1 pc pc' .ireturn) (hM : M.2.2.2 = some .boolean) (hH : HM o ar f g j h) (hA : zAg o ar h0 h) (hx : x = 0 ∨ x = 1) (q : Q x f g j) : Z l M d 0 0 (MP o ar h0 (PI Q)) pc L [vI x] h 0 0 :=
  z_zret hd hM hx ⟨f, g, j, hH, hA, x, rfl, by omega, q⟩
theorem zm_lret {x : Int} {Q : Int → mF → mA → mA → Prop} (hd : zAt M 1 pc pc' .lreturn) (hM : M.2.2.2 = some .long) (hH : HM o ar f g j h) (hA : zAg o ar h0 h) (hx : zInL x) (q : Q x f g j) : Z l M d 0 0 (MP o ar h0 (PL Q)) pc L [vL x] h 0 0 :=
  z_lret hd hM ⟨f, g, j, hH, hA, x, rfl, hx, q⟩
theorem zm_vret {Q : mF → mA → mA → Prop} (hd : zAt M 1 pc pc' .return_) (hM : M.2.2.2 = none) (hH : HM o ar f g j h) (hA : zAg o ar h0 h) (q : Q f g j) : Z l M d 0 0 (MP o ar h0 (PV Q)) pc L [] h 0 0 :=
  z_vret hd hM ⟨f, g, j, hH, hA, rfl, q⟩
theorem zm_callI {idx n n' : Nat} {As : List Value} {Q : Int → mF → mA → mA → Prop} (hM : MM l o ar M' n' (.ref o :: As) f g j (PI Q)) (hd : zAt M 3 pc pc' (.invokevirtual idx)) (hc : zCV M.1.cls idx M' n) (hn : As.length = n) (hcl : M'.1.cls = RX8) (hH : HM o ar f g j h) (hA : zAg o ar h0 h) (hdd : n' + 1 ≤ d) (hW : (S.map fun v => v.category).sum ≤ 8)
    (K : ∀ (r : Int) (f : mF) (g j : mA) (h : zH), zIn r → Q r f g j → HM o ar f g j h → zAg o ar h0 h → Z l M d 0 0 Pz pc' L (vI r :: S) h 0 0) : Z l M d 0 0 Pz pc L (As.reverse ++ .ref o :: S) h 0 0 := by
  obtain ⟨hd, rfl⟩ := hd
  refine z_invV (ci := 8) (T := TX8) (N := 50) hd hc hn hH.1 (by rw [hcl]; rfl) (d' := d - 1) (by omega) (Nat.le_refl 0) (Nat.le_refl 0) hW (hM (d - 1) (by omega) h hH) (fun v h' hp => ?_)
  obtain ⟨f', g', j', hH', hA', r, rfl, hr, hq⟩ := hp
  exact K r f' g' j' h' hr hq hH' (hA.trans hA')
theorem zm_callL {idx n n' : Nat} {As : List Value} {Q : Int → mF → mA → mA → Prop} (hM : MM l o ar M' n' (.ref o :: As) f g j (PL Q)) (hd : zAt M 3 pc pc' (.invokevirtual idx)) (hc : zCV M.1.cls idx M' n) (hn : As.length = n) (hcl : M'.1.cls = RX8) (hH : HM o ar f g j h) (hA : zAg o ar h0 h) (hdd : n' + 1 ≤ d) (hW : (S.map fun v => v.category).sum ≤ 8)
    (K : ∀ (r : Int) (f : mF) (g j : mA) (h : zH), zInL r → Q r f g j → HM o ar f g j h → zAg o ar h0 h → Z l M d 0 0 Pz pc' L (vL r :: S) h 0 0) : Z l M d 0 0 Pz pc L (As.reverse ++ .ref o :: S) h 0 0 := by
  obtain ⟨hd, rfl⟩ := hd
  refine z_invV (ci := 8) (T := TX8) (N := 50) hd hc hn hH.1 (by rw [hcl]; rfl) (d' := d - 1) (by omega) (Nat.le_refl 0) (Nat.le_refl 0) hW (hM (d - 1) (by omega) h hH) (fun v h' hp => ?_)
  obtain ⟨f', g', j', hH', hA', r, rfl, hr, hq⟩ := hp
  exact K r f' g' j' h' hr hq hH' (hA.trans hA')
theorem zm_callV {idx n n' : Nat} {As : List Value} {Q : mF → mA → mA → Prop} (hM : MM l o ar M' n' (.ref o :: As) f g j (PV Q)) (hd : zAt M 3 pc pc' (.invokevirtual idx)) (hc : zCV M.1.cls idx M' n) (hn : As.length = n) (hcl : M'.1.cls = RX8) (hH : HM o ar f g j h) (hA : zAg o ar h0 h) (hdd : n' + 1 ≤ d) (hW : (S.map fun v => v.category).sum ≤ 8)
    (K : ∀ (f : mF) (g j : mA) (h : zH), Q f g j → HM o ar f g j h → zAg o ar h0 h → Z l M d 0 0 Pz pc' L S h 0 0) : Z l M d 0 0 Pz pc L (As.reverse ++ .ref o :: S) h 0 0 := by
  obtain ⟨hd, rfl⟩ := hd
  refine z_invV (ci := 8) (T := TX8) (N := 50) hd hc hn hH.1 (by rw [hcl]; rfl) (d' := d - 1) (by omega) (Nat.le_refl 0) (Nat.le_refl 0) hW (hM (d - 1) (by omega) h hH) (fun v h' hp => ?_)
  obtain ⟨f', g', j', hH', hA', rfl, hq⟩ := hp
  exact K f' g' j' h' hq hH' (hA.trans hA')
end MR
/-- a static method that touches no cell and answers an int -/
def SI (l : Launch) (M : zM) (n : Nat) (vs : List Value) (r : Int) : Prop := zIn r ∧ ∀ d, n ≤ d → ∀ h : zH, MZ l M d 0 0 vs h (fun v h' => h' = h ∧ v = some (vI r))
section SR
variable {l : Launch} {M M' : zM} {d mc ms kc ks : Nat} {Pz : Option Value → zH → Prop} {pc pc' : Nat} {L : List (Option Value)} {S : List Value} {h : zH}
theorem SI.intro {n : Nat} {vs : List Value} {r : Int} (L : List (Option Value)) (hr : zIn r) (hy : plainName M.1.cls = true) (hn : (lg_sl vs).length ≤ M.2.2.1) (hL : lv_args 0 vs = zp 0 L) (k : ∀ d, n ≤ d → ∀ h, Z l M d 0 0 (fun v h' => h' = h ∧ v = some (vI r)) 0 L [] h 0 0) : SI l M n vs r :=
  ⟨hr, fun d hd h => MZ.intro L hy hn hL (k d hd h)⟩
theorem zs_iret {x r : Int} (hd : zAt M 1 pc pc' .ireturn) (hM : M.2.2.2 = some .int) (e : x = r) : Z l M d 0 0 (fun v h' => h' = h ∧ v = some (vI r)) pc L [vI x] h 0 0 := z_iret hd hM ⟨rfl, by rw [e]⟩
theorem zs_zret {x r : Int} (hd : zAt M 1 pc pc' .ireturn) (hM : M.2.2.2 = some .boolean) (hx : x = 0 ∨ x = 1) (e : x = r) : Z l M d 0 0 (fun v h' => h' = h ∧ v = some (vI r)) pc L [vI x] h 0 0 := z_zret hd hM hx ⟨rfl, by rw [e]⟩
theorem zs_call {idx n n' : Nat} {As : List Value} {r : Int} (hM : SI l M' n' As r) (hd : zAt M 3 pc pc' (.invokestatic idx)) (hc : zCS M.1.cls idx M' n) (hn : As.length = n) (hdd : n' + 1 ≤ d) (hW : (S.map fun v => v.category).sum ≤ 8) (K : zIn r → Z l M d mc ms Pz pc' L (vI r :: S) h kc ks) : Z l M d mc ms Pz pc L (As.reverse ++ S) h kc ks := by
  obtain ⟨hd, rfl⟩ := hd
  refine z_invS hd hc hn (d' := d - 1) (by omega) (Nat.zero_le _) (Nat.zero_le _) hW (hM.2 (d - 1) (by omega) h) (fun v h' hp => ?_)
  obtain ⟨rfl, rfl⟩ := hp
  exact K hM.1
theorem zs_callN {idx n n' : Nat} {As : List Value} {r : Int} (hM : SI l M' n' As r) (hd : zAt M 3 pc pc' (.invokestatic idx)) (hc : zCSN M.1.cls idx M' n) (hn : As.length = n) (hdd : n' + 1 ≤ d) (hW : (S.map fun v => v.category).sum ≤ 8) (K : zIn r → Z l M d mc ms Pz pc' L (vI r :: S) h kc ks) : Z l M d mc ms Pz pc L (As.reverse ++ S) h kc ks := by
  obtain ⟨hd, rfl⟩ := hd
  refine z_invSN hd hc hn (d' := d - 1) (by omega) (Nat.zero_le _) (Nat.zero_le _) hW (hM.2 (d - 1) (by omega) h) (fun v h' hp => ?_)
  obtain ⟨rfl, rfl⟩ := hp
  exact K hM.1
end SR
