/-! ===== the class's rules where cells may be made ===== -/
section CK
variable {l : Launch} {M M' : zM} {d mc ms kc ks : Nat} {Pz : Option Value → zH → Prop} {pc pc' : Nat} {L : List (Option Value)} {S : List Value} {h h0 : zH} {E : cE} {f : mF} {g j : mA}
theorem zk_getI {idx ci m s k : Nat} (hm : E.2.1 m = true) (hd : zAt M 3 pc pc' (.getfield idx)) (hf : zFl M.1.cls idx ci s) (hH : HC E f g j h) (hc : cCls m = ci) (hk : 32 * m + s = k) (hs : s < cNf ci) (ht : cTg ci s = 9) (K : zIn (f k) → Z l M d mc ms Pz pc' L (vI (f k) :: S) h kc ks) : Z l M d mc ms Pz pc L (.ref (E.1 (32 * m + 31)) :: S) h kc ks := by
  subst hc; subst hk
  have hs32 := Nat.lt_of_lt_of_le hs (cNf_le _)
  have e : (32 * m + s) % 32 = s := by omega
  exact z_getf hd hf (hH.1 m hm) (cfs_get hs) (by rw [cfv, e, ht, if_neg (by decide), if_neg (by decide)]; exact K (hH.2.2.2.2.2.2.1.1 _))
theorem zk_getA {idx ci m s k : Nat} (hm : E.2.1 m = true) (hd : zAt M 3 pc pc' (.getfield idx)) (hf : zFl M.1.cls idx ci s) (hH : HC E f g j h) (hc : cCls m = ci) (hk : 32 * m + s = k) (hs : s < cNf ci) (ht : cTg ci s < 6) (K : Z l M d mc ms Pz pc' L (.ref (E.1 k) :: S) h kc ks) : Z l M d mc ms Pz pc L (.ref (E.1 (32 * m + 31)) :: S) h kc ks := by
  subst hc; subst hk
  have hs32 := Nat.lt_of_lt_of_le hs (cNf_le _)
  have e : (32 * m + s) % 32 = s := by omega
  exact z_getf hd hf (hH.1 m hm) (cfs_get hs) (by rw [cfv, e, if_pos ht]; exact K)
theorem zk_getO {idx ci m s k : Nat} (hm : E.2.1 m = true) (hd : zAt M 3 pc pc' (.getfield idx)) (hf : zFl M.1.cls idx ci s) (hH : HC E f g j h) (hc : cCls m = ci) (hk : cOb ci s = k) (hs : s < cNf ci) (ht : cTg ci s = 8) (K : Z l M d mc ms Pz pc' L (.ref (E.1 k) :: S) h kc ks) : Z l M d mc ms Pz pc L (.ref (E.1 (32 * m + 31)) :: S) h kc ks := by
  subst hc; subst hk
  have hs32 := Nat.lt_of_lt_of_le hs (cNf_le _)
  have e : (32 * m + s) % 32 = s := by omega
  exact z_getf hd hf (hH.1 m hm) (cfs_get hs) (by rw [cfv, e, ht, if_neg (by decide), if_pos rfl]; exact K)
theorem zk_putI {idx ci m s k : Nat} {x : Int} (hm : E.2.1 m = true) (hd : zAt M 3 pc pc' (.putfield idx)) (hf : zFp M.1.cls idx ci s false .int) (hH : HC E f g j h) (hA : cAg E h0 h) (hc : cCls m = ci) (hk : 32 * m + s = k) (hs : s < cNf ci) (ht : cTg ci s = 9) (hx : zIn x) (K : ∀ (h : zH) (f1 : mF), (∀ q, q ≠ k → f1 q = f q) → f1 k = x → HC E f1 g j h → cAg E h0 h → Z l M d mc ms Pz pc' L S h kc ks) (h354 : k = 354 → 0 ≤ x := by first | (intro h9; exfalso; revert h9; decide) | (intro _; omega)) : Z l M d mc ms Pz pc L (vI x :: .ref (E.1 (32 * m + 31)) :: S) h kc ks := by
  subst hc; subst hk
  exact z_putf hd hf (hH.1 m hm) (by simp [cfs, hs]) rfl rfl (K _ _ (fun _ e => va_up_ne _ _ e) (va_up_self _ _ _) (hH.putF hA hm hs ht hx h354).1 (hH.putF hA hm hs ht hx h354).2)
theorem zk_putZ {idx ci m s k : Nat} {x : Int} (hm : E.2.1 m = true) (hd : zAt M 3 pc pc' (.putfield idx)) (hf : zFp M.1.cls idx ci s false .boolean) (hH : HC E f g j h) (hA : cAg E h0 h) (hc : cCls m = ci) (hk : 32 * m + s = k) (hs : s < cNf ci) (ht : cTg ci s = 9) (hx : x = 0 ∨ x = 1) (K : ∀ (h : zH) (f1 : mF), (∀ q, q ≠ k → f1 q = f q) → f1 k = x → HC E f1 g j h → cAg E h0 h → Z l M d mc ms Pz pc' L S h kc ks) : Z l M d mc ms Pz pc L (vI x :: .ref (E.1 (32 * m + 31)) :: S) h kc ks := by
  subst hc; subst hk
  have hx' : zIn x := by rcases hx with rfl | rfl <;> decide
  exact z_putf hd hf (hH.1 m hm) (by simp [cfs, hs]) (by rcases hx with rfl | rfl <;> rfl) (by rcases hx with rfl | rfl <;> rfl) (K _ _ (fun _ e => va_up_ne _ _ e) (va_up_self _ _ _) (hH.putF hA hm hs ht hx' (fun _ => by omega)).1 (hH.putF hA hm hs ht hx' (fun _ => by omega)).2)
theorem zk_iald {k : Nat} {i : Int} {G : Int → Int} (hm : E.2.1 (k / 32) = true) (e : g k = G) (hd : zAt M 1 pc pc' .iaload) (hH : HC E f g j h) (ht : cTag k = 0) (hi0 : 0 ≤ i) (hi1 : i < E.2.2 k) (K : zIn (G i) → Z l M d mc ms Pz pc' L (vI (G i) :: S) h kc ks) : Z l M d mc ms Pz pc L (vI i :: .ref (E.1 k) :: S) h kc ks := by
  subst e
  exact z_iald hd (f := fun n : Nat => Int32.ofInt (g k n)) (n := E.2.2 k) (hH.arrI hm ht) hi0 hi1 (hH.2.2.2.2.2.1 k) (by rw [show ((i.toNat : Nat) : Int) = i by omega]; exact K (hH.2.2.2.2.2.2.2.1 k i))
theorem zk_lald {k : Nat} {i : Int} {G : Int → Int} (hm : E.2.1 (k / 32) = true) (e : j k = G) (hd : zAt M 1 pc pc' .laload) (hH : HC E f g j h) (ht : cTag k = 1) (hi0 : 0 ≤ i) (hi1 : i < E.2.2 k) (K : zInL (G i) → Z l M d mc ms Pz pc' L (vL (G i) :: S) h kc ks) : Z l M d mc ms Pz pc L (vI i :: .ref (E.1 k) :: S) h kc ks := by
  subst e
  exact z_lald hd (f := fun n : Nat => Int64.ofInt (j k n)) (n := E.2.2 k) (hH.arrL hm ht) hi0 hi1 (hH.2.2.2.2.2.1 k) (by rw [show ((i.toNat : Nat) : Int) = i by omega]; exact K (hH.2.2.2.2.2.2.2.2 k i))
theorem zk_iast {k : Nat} {i x : Int} (hm : E.2.1 (k / 32) = true) (hd : zAt M 1 pc pc' .iastore) (hH : HC E f g j h) (hA : cAg E h0 h) (ht : cTag k = 0) (hi0 : 0 ≤ i) (hi1 : i < E.2.2 k) (hx : zIn x) (K : ∀ (h : zH) (g1 : mA), (∀ q, q ≠ k → g1 q = g q) → g1 k = iu (g k) i x → HC E f g1 j h → cAg E h0 h → Z l M d mc ms Pz pc' L S h kc ks) : Z l M d mc ms Pz pc L (vI x :: vI i :: .ref (E.1 k) :: S) h kc ks := by
  have q := hH.putC (g' := va_up g k (iu (g k) i x)) (j' := j) (k := k) hA hm (by rw [ht]; decide) (fun q e => va_up_ne _ _ e) (fun _ _ => rfl) (by rw [va_up_self]; exact iu_in (hH.2.2.2.2.2.2.2.1 k) hx) (hH.2.2.2.2.2.2.2.2 k)
  refine z_iast hd (f := fun n : Nat => Int32.ofInt (g k n)) (n := E.2.2 k) (hH.arrI hm ht) hi0 hi1 (hH.2.2.2.2.2.1 k) ?_
  rw [upd_iu hi0]
  rw [cCell, if_neg (by rw [ht]; decide), if_pos ht, va_up_self] at q
  exact K _ _ (fun _ e => va_up_ne _ _ e) (va_up_self _ _ _) q.1 q.2
theorem zk_last {k : Nat} {i x : Int} (hm : E.2.1 (k / 32) = true) (hd : zAt M 1 pc pc' .lastore) (hH : HC E f g j h) (hA : cAg E h0 h) (ht : cTag k = 1) (hi0 : 0 ≤ i) (hi1 : i < E.2.2 k) (hx : zInL x) (K : ∀ (h : zH) (j1 : mA), (∀ q, q ≠ k → j1 q = j q) → j1 k = iu (j k) i x → HC E f g j1 h → cAg E h0 h → Z l M d mc ms Pz pc' L S h kc ks) : Z l M d mc ms Pz pc L (vL x :: vI i :: .ref (E.1 k) :: S) h kc ks := by
  have q := hH.putC (g' := g) (j' := va_up j k (iu (j k) i x)) (k := k) hA hm (by rw [ht]; decide) (fun _ _ => rfl) (fun q e => va_up_ne _ _ e) (hH.2.2.2.2.2.2.2.1 k) (by rw [va_up_self]; exact iu_inL (hH.2.2.2.2.2.2.2.2 k) hx)
  refine z_last hd (f := fun n : Nat => Int64.ofInt (j k n)) (n := E.2.2 k) (hH.arrL hm ht) hi0 hi1 (hH.2.2.2.2.2.1 k) ?_
  rw [updL_iu hi0]
  rw [cCell, if_pos ht, va_up_self] at q
  exact K _ _ (fun _ e => va_up_ne _ _ e) (va_up_self _ _ _) q.1 q.2
theorem zk_alen {k : Nat} (hm : E.2.1 (k / 32) = true) (hd : zAt M 1 pc pc' .arraylength) (hH : HC E f g j h) (ht : cTag k < 6) (K : Z l M d mc ms Pz pc' L (vI (E.2.2 k : Int) :: S) h kc ks) : Z l M d mc ms Pz pc L (.ref (E.1 k) :: S) h kc ks := by
  have q := hH.2.1 k hm ht
  unfold cCell at q
  split at q
  · exact z_alen hd q (by decide) K
  · split at q
    · exact z_alen hd q (by decide) K
    · exact z_alen hd q ht K
theorem zk_callI {idx n n' m : Nat} {As : List Value} {T : u_T} {N : Nat} {Q : Int → mF → mA → mA → Prop} (hM : CM l E M' n' (.ref (E.1 (32 * m + 31)) :: As) f g j (PI Q)) (hm : E.2.1 m = true) (hd : zAt M 3 pc pc' (.invokevirtual idx)) (hc : zCV M.1.cls idx M' n) (hn : As.length = n) (hcl : vwCl[cCls m]? = some (M'.1.cls, T, N)) (hH : HC E f g j h) (hA : cAg E h0 h) (hdd : n' + 1 ≤ d) (hW : (S.map fun v => v.category).sum ≤ 8)
    (K : ∀ (r : Int) (f : mF) (g j : mA) (h : zH), zIn r → Q r f g j → HC E f g j h → cAg E h0 h → Z l M d mc ms Pz pc' L (vI r :: S) h kc ks) : Z l M d mc ms Pz pc L (As.reverse ++ .ref (E.1 (32 * m + 31)) :: S) h kc ks := by
  obtain ⟨hd, rfl⟩ := hd
  refine z_invV (ci := cCls m) (T := T) (N := N) hd hc hn (hH.1 m hm) hcl (d' := d - 1) (by omega) (Nat.zero_le _) (Nat.zero_le _) hW (hM (d - 1) (by omega) h hH) (fun v h' hp => ?_)
  obtain ⟨f', g', j', hH', hA', r, rfl, hr, hq⟩ := hp
  exact K r f' g' j' h' hr hq hH' (hA.trans hA')
theorem zk_callL {idx n n' m : Nat} {As : List Value} {T : u_T} {N : Nat} {Q : Int → mF → mA → mA → Prop} (hM : CM l E M' n' (.ref (E.1 (32 * m + 31)) :: As) f g j (PL Q)) (hm : E.2.1 m = true) (hd : zAt M 3 pc pc' (.invokevirtual idx)) (hc : zCV M.1.cls idx M' n) (hn : As.length = n) (hcl : vwCl[cCls m]? = some (M'.1.cls, T, N)) (hH : HC E f g j h) (hA : cAg E h0 h) (hdd : n' + 1 ≤ d) (hW : (S.map fun v => v.category).sum ≤ 8)
    (K : ∀ (r : Int) (f : mF) (g j : mA) (h : zH), zInL r → Q r f g j → HC E f g j h → cAg E h0 h → Z l M d mc ms Pz pc' L (vL r :: S) h kc ks) : Z l M d mc ms Pz pc L (As.reverse ++ .ref (E.1 (32 * m + 31)) :: S) h kc ks := by
  obtain ⟨hd, rfl⟩ := hd
  refine z_invV (ci := cCls m) (T := T) (N := N) hd hc hn (hH.1 m hm) hcl (d' := d - 1) (by omega) (Nat.zero_le _) (Nat.zero_le _) hW (hM (d - 1) (by omega) h hH) (fun v h' hp => ?_)
  obtain ⟨f', g', j', hH', hA', r, rfl, hr, hq⟩ := hp
  exact K r f' g' j' h' hr hq hH' (hA.trans hA')
theorem zk_callV {idx n n' m : Nat} {As : List Value} {T : u_T} {N : Nat} {Q : mF → mA → mA → Prop} (hM : CM l E M' n' (.ref (E.1 (32 * m + 31)) :: As) f g j (PV Q)) (hm : E.2.1 m = true) (hd : zAt M 3 pc pc' (.invokevirtual idx)) (hc : zCV M.1.cls idx M' n) (hn : As.length = n) (hcl : vwCl[cCls m]? = some (M'.1.cls, T, N)) (hH : HC E f g j h) (hA : cAg E h0 h) (hdd : n' + 1 ≤ d) (hW : (S.map fun v => v.category).sum ≤ 8)
    (K : ∀ (f : mF) (g j : mA) (h : zH), Q f g j → HC E f g j h → cAg E h0 h → Z l M d mc ms Pz pc' L (S) h kc ks) : Z l M d mc ms Pz pc L (As.reverse ++ .ref (E.1 (32 * m + 31)) :: S) h kc ks := by
  obtain ⟨hd, rfl⟩ := hd
  refine z_invV (ci := cCls m) (T := T) (N := N) hd hc hn (hH.1 m hm) hcl (d' := d - 1) (by omega) (Nat.zero_le _) (Nat.zero_le _) hW (hM (d - 1) (by omega) h hH) (fun v h' hp => ?_)
  obtain ⟨f', g', j', hH', hA', rfl, hq⟩ := hp
  exact K f' g' j' h' hq hH' (hA.trans hA')
theorem zk_callI0 {idx n n' m : Nat} {T : u_T} {N : Nat} {Q : Int → mF → mA → mA → Prop} (hM : CM l E M' n' [.ref (E.1 (32 * m + 31))] f g j (PI Q)) (hm : E.2.1 m = true) (hd : zAt M 3 pc pc' (.invokevirtual idx)) (hc : zCV M.1.cls idx M' n) (hn : 0 = n) (hcl : vwCl[cCls m]? = some (M'.1.cls, T, N)) (hH : HC E f g j h) (hA : cAg E h0 h) (hdd : n' + 1 ≤ d) (hW : (S.map fun v => v.category).sum ≤ 8) (K : ∀ (r : Int) (f : mF) (g j : mA) (h : zH), zIn r → Q r f g j → HC E f g j h → cAg E h0 h → Z l M d mc ms Pz pc' L (vI r :: S) h kc ks) : Z l M d mc ms Pz pc L (.ref (E.1 (32 * m + 31)) :: S) h kc ks := zk_callI (As := []) hM hm hd hc hn hcl hH hA hdd hW K
theorem zk_callL0 {idx n n' m : Nat} {T : u_T} {N : Nat} {Q : Int → mF → mA → mA → Prop} (hM : CM l E M' n' [.ref (E.1 (32 * m + 31))] f g j (PL Q)) (hm : E.2.1 m = true) (hd : zAt M 3 pc pc' (.invokevirtual idx)) (hc : zCV M.1.cls idx M' n) (hn : 0 = n) (hcl : vwCl[cCls m]? = some (M'.1.cls, T, N)) (hH : HC E f g j h) (hA : cAg E h0 h) (hdd : n' + 1 ≤ d) (hW : (S.map fun v => v.category).sum ≤ 8) (K : ∀ (r : Int) (f : mF) (g j : mA) (h : zH), zInL r → Q r f g j → HC E f g j h → cAg E h0 h → Z l M d mc ms Pz pc' L (vL r :: S) h kc ks) : Z l M d mc ms Pz pc L (.ref (E.1 (32 * m + 31)) :: S) h kc ks := zk_callL (As := []) hM hm hd hc hn hcl hH hA hdd hW K
theorem zk_callV0 {idx n n' m : Nat} {T : u_T} {N : Nat} {Q : mF → mA → mA → Prop} (hM : CM l E M' n' [.ref (E.1 (32 * m + 31))] f g j (PV Q)) (hm : E.2.1 m = true) (hd : zAt M 3 pc pc' (.invokevirtual idx)) (hc : zCV M.1.cls idx M' n) (hn : 0 = n) (hcl : vwCl[cCls m]? = some (M'.1.cls, T, N)) (hH : HC E f g j h) (hA : cAg E h0 h) (hdd : n' + 1 ≤ d) (hW : (S.map fun v => v.category).sum ≤ 8) (K : ∀ (f : mF) (g j : mA) (h : zH), Q f g j → HC E f g j h → cAg E h0 h → Z l M d mc ms Pz pc' L (S) h kc ks) : Z l M d mc ms Pz pc L (.ref (E.1 (32 * m + 31)) :: S) h kc ks := zk_callV (As := []) hM hm hd hc hn hcl hH hA hdd hW K
theorem zk_callI1 {idx n n' m : Nat} {a0 : Value} {T : u_T} {N : Nat} {Q : Int → mF → mA → mA → Prop} (hM : CM l E M' n' [.ref (E.1 (32 * m + 31)), a0] f g j (PI Q)) (hm : E.2.1 m = true) (hd : zAt M 3 pc pc' (.invokevirtual idx)) (hc : zCV M.1.cls idx M' n) (hn : 1 = n) (hcl : vwCl[cCls m]? = some (M'.1.cls, T, N)) (hH : HC E f g j h) (hA : cAg E h0 h) (hdd : n' + 1 ≤ d) (hW : (S.map fun v => v.category).sum ≤ 8) (K : ∀ (r : Int) (f : mF) (g j : mA) (h : zH), zIn r → Q r f g j → HC E f g j h → cAg E h0 h → Z l M d mc ms Pz pc' L (vI r :: S) h kc ks) : Z l M d mc ms Pz pc L (a0 :: .ref (E.1 (32 * m + 31)) :: S) h kc ks := zk_callI (As := [a0]) hM hm hd hc hn hcl hH hA hdd hW K
theorem zk_callL1 {idx n n' m : Nat} {a0 : Value} {T : u_T} {N : Nat} {Q : Int → mF → mA → mA → Prop} (hM : CM l E M' n' [.ref (E.1 (32 * m + 31)), a0] f g j (PL Q)) (hm : E.2.1 m = true) (hd : zAt M 3 pc pc' (.invokevirtual idx)) (hc : zCV M.1.cls idx M' n) (hn : 1 = n) (hcl : vwCl[cCls m]? = some (M'.1.cls, T, N)) (hH : HC E f g j h) (hA : cAg E h0 h) (hdd : n' + 1 ≤ d) (hW : (S.map fun v => v.category).sum ≤ 8) (K : ∀ (r : Int) (f : mF) (g j : mA) (h : zH), zInL r → Q r f g j → HC E f g j h → cAg E h0 h → Z l M d mc ms Pz pc' L (vL r :: S) h kc ks) : Z l M d mc ms Pz pc L (a0 :: .ref (E.1 (32 * m + 31)) :: S) h kc ks := zk_callL (As := [a0]) hM hm hd hc hn hcl hH hA hdd hW K
theorem zk_callV1 {idx n n' m : Nat} {a0 : Value} {T : u_T} {N : Nat} {Q : mF → mA → mA → Prop} (hM : CM l E M' n' [.ref (E.1 (32 * m + 31)), a0] f g j (PV Q)) (hm : E.2.1 m = true) (hd : zAt M 3 pc pc' (.invokevirtual idx)) (hc : zCV M.1.cls idx M' n) (hn : 1 = n) (hcl : vwCl[cCls m]? = some (M'.1.cls, T, N)) (hH : HC E f g j h) (hA : cAg E h0 h) (hdd : n' + 1 ≤ d) (hW : (S.map fun v => v.category).sum ≤ 8) (K : ∀ (f : mF) (g j : mA) (h : zH), Q f g j → HC E f g j h → cAg E h0 h → Z l M d mc ms Pz pc' L (S) h kc ks) : Z l M d mc ms Pz pc L (a0 :: .ref (E.1 (32 * m + 31)) :: S) h kc ks := zk_callV (As := [a0]) hM hm hd hc hn hcl hH hA hdd hW K
theorem zk_callI2 {idx n n' m : Nat} {a0 a1 : Value} {T : u_T} {N : Nat} {Q : Int → mF → mA → mA → Prop} (hM : CM l E M' n' [.ref (E.1 (32 * m + 31)), a0, a1] f g j (PI Q)) (hm : E.2.1 m = true) (hd : zAt M 3 pc pc' (.invokevirtual idx)) (hc : zCV M.1.cls idx M' n) (hn : 2 = n) (hcl : vwCl[cCls m]? = some (M'.1.cls, T, N)) (hH : HC E f g j h) (hA : cAg E h0 h) (hdd : n' + 1 ≤ d) (hW : (S.map fun v => v.category).sum ≤ 8) (K : ∀ (r : Int) (f : mF) (g j : mA) (h : zH), zIn r → Q r f g j → HC E f g j h → cAg E h0 h → Z l M d mc ms Pz pc' L (vI r :: S) h kc ks) : Z l M d mc ms Pz pc L (a1 :: a0 :: .ref (E.1 (32 * m + 31)) :: S) h kc ks := zk_callI (As := [a0, a1]) hM hm hd hc hn hcl hH hA hdd hW K
theorem zk_callL2 {idx n n' m : Nat} {a0 a1 : Value} {T : u_T} {N : Nat} {Q : Int → mF → mA → mA → Prop} (hM : CM l E M' n' [.ref (E.1 (32 * m + 31)), a0, a1] f g j (PL Q)) (hm : E.2.1 m = true) (hd : zAt M 3 pc pc' (.invokevirtual idx)) (hc : zCV M.1.cls idx M' n) (hn : 2 = n) (hcl : vwCl[cCls m]? = some (M'.1.cls, T, N)) (hH : HC E f g j h) (hA : cAg E h0 h) (hdd : n' + 1 ≤ d) (hW : (S.map fun v => v.category).sum ≤ 8) (K : ∀ (r : Int) (f : mF) (g j : mA) (h : zH), zInL r → Q r f g j → HC E f g j h → cAg E h0 h → Z l M d mc ms Pz pc' L (vL r :: S) h kc ks) : Z l M d mc ms Pz pc L (a1 :: a0 :: .ref (E.1 (32 * m + 31)) :: S) h kc ks := zk_callL (As := [a0, a1]) hM hm hd hc hn hcl hH hA hdd hW K
theorem zk_callV2 {idx n n' m : Nat} {a0 a1 : Value} {T : u_T} {N : Nat} {Q : mF → mA → mA → Prop} (hM : CM l E M' n' [.ref (E.1 (32 * m + 31)), a0, a1] f g j (PV Q)) (hm : E.2.1 m = true) (hd : zAt M 3 pc pc' (.invokevirtual idx)) (hc : zCV M.1.cls idx M' n) (hn : 2 = n) (hcl : vwCl[cCls m]? = some (M'.1.cls, T, N)) (hH : HC E f g j h) (hA : cAg E h0 h) (hdd : n' + 1 ≤ d) (hW : (S.map fun v => v.category).sum ≤ 8) (K : ∀ (f : mF) (g j : mA) (h : zH), Q f g j → HC E f g j h → cAg E h0 h → Z l M d mc ms Pz pc' L (S) h kc ks) : Z l M d mc ms Pz pc L (a1 :: a0 :: .ref (E.1 (32 * m + 31)) :: S) h kc ks := zk_callV (As := [a0, a1]) hM hm hd hc hn hcl hH hA hdd hW K
theorem zk_callI3 {idx n n' m : Nat} {a0 a1 a2 : Value} {T : u_T} {N : Nat} {Q : Int → mF → mA → mA → Prop} (hM : CM l E M' n' [.ref (E.1 (32 * m + 31)), a0, a1, a2] f g j (PI Q)) (hm : E.2.1 m = true) (hd : zAt M 3 pc pc' (.invokevirtual idx)) (hc : zCV M.1.cls idx M' n) (hn : 3 = n) (hcl : vwCl[cCls m]? = some (M'.1.cls, T, N)) (hH : HC E f g j h) (hA : cAg E h0 h) (hdd : n' + 1 ≤ d) (hW : (S.map fun v => v.category).sum ≤ 8) (K : ∀ (r : Int) (f : mF) (g j : mA) (h : zH), zIn r → Q r f g j → HC E f g j h → cAg E h0 h → Z l M d mc ms Pz pc' L (vI r :: S) h kc ks) : Z l M d mc ms Pz pc L (a2 :: a1 :: a0 :: .ref (E.1 (32 * m + 31)) :: S) h kc ks := zk_callI (As := [a0, a1, a2]) hM hm hd hc hn hcl hH hA hdd hW K
theorem zk_callL3 {idx n n' m : Nat} {a0 a1 a2 : Value} {T : u_T} {N : Nat} {Q : Int → mF → mA → mA → Prop} (hM : CM l E M' n' [.ref (E.1 (32 * m + 31)), a0, a1, a2] f g j (PL Q)) (hm : E.2.1 m = true) (hd : zAt M 3 pc pc' (.invokevirtual idx)) (hc : zCV M.1.cls idx M' n) (hn : 3 = n) (hcl : vwCl[cCls m]? = some (M'.1.cls, T, N)) (hH : HC E f g j h) (hA : cAg E h0 h) (hdd : n' + 1 ≤ d) (hW : (S.map fun v => v.category).sum ≤ 8) (K : ∀ (r : Int) (f : mF) (g j : mA) (h : zH), zInL r → Q r f g j → HC E f g j h → cAg E h0 h → Z l M d mc ms Pz pc' L (vL r :: S) h kc ks) : Z l M d mc ms Pz pc L (a2 :: a1 :: a0 :: .ref (E.1 (32 * m + 31)) :: S) h kc ks := zk_callL (As := [a0, a1, a2]) hM hm hd hc hn hcl hH hA hdd hW K
theorem zk_callV3 {idx n n' m : Nat} {a0 a1 a2 : Value} {T : u_T} {N : Nat} {Q : mF → mA → mA → Prop} (hM : CM l E M' n' [.ref (E.1 (32 * m + 31)), a0, a1, a2] f g j (PV Q)) (hm : E.2.1 m = true) (hd : zAt M 3 pc pc' (.invokevirtual idx)) (hc : zCV M.1.cls idx M' n) (hn : 3 = n) (hcl : vwCl[cCls m]? = some (M'.1.cls, T, N)) (hH : HC E f g j h) (hA : cAg E h0 h) (hdd : n' + 1 ≤ d) (hW : (S.map fun v => v.category).sum ≤ 8) (K : ∀ (f : mF) (g j : mA) (h : zH), Q f g j → HC E f g j h → cAg E h0 h → Z l M d mc ms Pz pc' L (S) h kc ks) : Z l M d mc ms Pz pc L (a2 :: a1 :: a0 :: .ref (E.1 (32 * m + 31)) :: S) h kc ks := zk_callV (As := [a0, a1, a2]) hM hm hd hc hn hcl hH hA hdd hW K
theorem zk_callI4 {idx n n' m : Nat} {a0 a1 a2 a3 : Value} {T : u_T} {N : Nat} {Q : Int → mF → mA → mA → Prop} (hM : CM l E M' n' [.ref (E.1 (32 * m + 31)), a0, a1, a2, a3] f g j (PI Q)) (hm : E.2.1 m = true) (hd : zAt M 3 pc pc' (.invokevirtual idx)) (hc : zCV M.1.cls idx M' n) (hn : 4 = n) (hcl : vwCl[cCls m]? = some (M'.1.cls, T, N)) (hH : HC E f g j h) (hA : cAg E h0 h) (hdd : n' + 1 ≤ d) (hW : (S.map fun v => v.category).sum ≤ 8) (K : ∀ (r : Int) (f : mF) (g j : mA) (h : zH), zIn r → Q r f g j → HC E f g j h → cAg E h0 h → Z l M d mc ms Pz pc' L (vI r :: S) h kc ks) : Z l M d mc ms Pz pc L (a3 :: a2 :: a1 :: a0 :: .ref (E.1 (32 * m + 31)) :: S) h kc ks := zk_callI (As := [a0, a1, a2, a3]) hM hm hd hc hn hcl hH hA hdd hW K
theorem zk_callL4 {idx n n' m : Nat} {a0 a1 a2 a3 : Value} {T : u_T} {N : Nat} {Q : Int → mF → mA → mA → Prop} (hM : CM l E M' n' [.ref (E.1 (32 * m + 31)), a0, a1, a2, a3] f g j (PL Q)) (hm : E.2.1 m = true) (hd : zAt M 3 pc pc' (.invokevirtual idx)) (hc : zCV M.1.cls idx M' n) (hn : 4 = n) (hcl : vwCl[cCls m]? = some (M'.1.cls, T, N)) (hH : HC E f g j h) (hA : cAg E h0 h) (hdd : n' + 1 ≤ d) (hW : (S.map fun v => v.category).sum ≤ 8) (K : ∀ (r : Int) (f : mF) (g j : mA) (h : zH), zInL r → Q r f g j → HC E f g j h → cAg E h0 h → Z l M d mc ms Pz pc' L (vL r :: S) h kc ks) : Z l M d mc ms Pz pc L (a3 :: a2 :: a1 :: a0 :: .ref (E.1 (32 * m + 31)) :: S) h kc ks := zk_callL (As := [a0, a1, a2, a3]) hM hm hd hc hn hcl hH hA hdd hW K
theorem zk_callV4 {idx n n' m : Nat} {a0 a1 a2 a3 : Value} {T : u_T} {N : Nat} {Q : mF → mA → mA → Prop} (hM : CM l E M' n' [.ref (E.1 (32 * m + 31)), a0, a1, a2, a3] f g j (PV Q)) (hm : E.2.1 m = true) (hd : zAt M 3 pc pc' (.invokevirtual idx)) (hc : zCV M.1.cls idx M' n) (hn : 4 = n) (hcl : vwCl[cCls m]? = some (M'.1.cls, T, N)) (hH : HC E f g j h) (hA : cAg E h0 h) (hdd : n' + 1 ≤ d) (hW : (S.map fun v => v.category).sum ≤ 8) (K : ∀ (f : mF) (g j : mA) (h : zH), Q f g j → HC E f g j h → cAg E h0 h → Z l M d mc ms Pz pc' L (S) h kc ks) : Z l M d mc ms Pz pc L (a3 :: a2 :: a1 :: a0 :: .ref (E.1 (32 * m + 31)) :: S) h kc ks := zk_callV (As := [a0, a1, a2, a3]) hM hm hd hc hn hcl hH hA hdd hW K
theorem zk_callI5 {idx n n' m : Nat} {a0 a1 a2 a3 a4 : Value} {T : u_T} {N : Nat} {Q : Int → mF → mA → mA → Prop} (hM : CM l E M' n' [.ref (E.1 (32 * m + 31)), a0, a1, a2, a3, a4] f g j (PI Q)) (hm : E.2.1 m = true) (hd : zAt M 3 pc pc' (.invokevirtual idx)) (hc : zCV M.1.cls idx M' n) (hn : 5 = n) (hcl : vwCl[cCls m]? = some (M'.1.cls, T, N)) (hH : HC E f g j h) (hA : cAg E h0 h) (hdd : n' + 1 ≤ d) (hW : (S.map fun v => v.category).sum ≤ 8) (K : ∀ (r : Int) (f : mF) (g j : mA) (h : zH), zIn r → Q r f g j → HC E f g j h → cAg E h0 h → Z l M d mc ms Pz pc' L (vI r :: S) h kc ks) : Z l M d mc ms Pz pc L (a4 :: a3 :: a2 :: a1 :: a0 :: .ref (E.1 (32 * m + 31)) :: S) h kc ks := zk_callI (As := [a0, a1, a2, a3, a4]) hM hm hd hc hn hcl hH hA hdd hW K
theorem zk_callL5 {idx n n' m : Nat} {a0 a1 a2 a3 a4 : Value} {T : u_T} {N : Nat} {Q : Int → mF → mA → mA → Prop} (hM : CM l E M' n' [.ref (E.1 (32 * m + 31)), a0, a1, a2, a3, a4] f g j (PL Q)) (hm : E.2.1 m = true) (hd : zAt M 3 pc pc' (.invokevirtual idx)) (hc : zCV M.1.cls idx M' n) (hn : 5 = n) (hcl : vwCl[cCls m]? = some (M'.1.cls, T, N)) (hH : HC E f g j h) (hA : cAg E h0 h) (hdd : n' + 1 ≤ d) (hW : (S.map fun v => v.category).sum ≤ 8) (K : ∀ (r : Int) (f : mF) (g j : mA) (h : zH), zInL r → Q r f g j → HC E f g j h → cAg E h0 h → Z l M d mc ms Pz pc' L (vL r :: S) h kc ks) : Z l M d mc ms Pz pc L (a4 :: a3 :: a2 :: a1 :: a0 :: .ref (E.1 (32 * m + 31)) :: S) h kc ks := zk_callL (As := [a0, a1, a2, a3, a4]) hM hm hd hc hn hcl hH hA hdd hW K
theorem zk_callV5 {idx n n' m : Nat} {a0 a1 a2 a3 a4 : Value} {T : u_T} {N : Nat} {Q : mF → mA → mA → Prop} (hM : CM l E M' n' [.ref (E.1 (32 * m + 31)), a0, a1, a2, a3, a4] f g j (PV Q)) (hm : E.2.1 m = true) (hd : zAt M 3 pc pc' (.invokevirtual idx)) (hc : zCV M.1.cls idx M' n) (hn : 5 = n) (hcl : vwCl[cCls m]? = some (M'.1.cls, T, N)) (hH : HC E f g j h) (hA : cAg E h0 h) (hdd : n' + 1 ≤ d) (hW : (S.map fun v => v.category).sum ≤ 8) (K : ∀ (f : mF) (g j : mA) (h : zH), Q f g j → HC E f g j h → cAg E h0 h → Z l M d mc ms Pz pc' L (S) h kc ks) : Z l M d mc ms Pz pc L (a4 :: a3 :: a2 :: a1 :: a0 :: .ref (E.1 (32 * m + 31)) :: S) h kc ks := zk_callV (As := [a0, a1, a2, a3, a4]) hM hm hd hc hn hcl hH hA hdd hW K
theorem zk_getIE {idx ci m s k : Nat} {x : Int} (hm : E.2.1 m = true) (e : f k = x) (hd : zAt M 3 pc pc' (.getfield idx)) (hf : zFl M.1.cls idx ci s) (hH : HC E f g j h) (hc : cCls m = ci) (hk : 32 * m + s = k) (hs : s < cNf ci) (ht : cTg ci s = 9) (K : zIn x → Z l M d mc ms Pz pc' L (vI x :: S) h kc ks) : Z l M d mc ms Pz pc L (.ref (E.1 (32 * m + 31)) :: S) h kc ks := by
  subst e
  exact zk_getI hm hd hf hH hc hk hs ht K
theorem z_cpK {P : Option Value → zH → Prop} {idx a0 a1 n0 n1 : Nat} {n : Int} {f g : Nat → Int32} (hd : zAt M 3 pc pc' (.invokestatic idx)) (hc : zCpy M.1.cls idx) (ha0 : h a0 = some (.inl (0, n0, .inl f))) (ha1 : h a1 = some (.inl (0, n1, .inl g))) (hn : 0 ≤ n) (h0 : n ≤ n0) (h1 : n ≤ n1) (hn0 : n0 < 2147483648) (hn1 : n1 < 2147483648) (hdd : 1 ≤ d) (K : ∀ h' : zH, h' a1 = some (.inl (0, n1, .inl (va_cpy f g 0 0 n.toNat))) → (∀ x, x ≠ a1 → h' x = h x) → Z l M d mc ms P pc' L [] h' kc ks) : Z l M d mc ms P pc L [vI n, vI 0, .ref a1, vI 0, .ref a0] h kc ks :=
  z_copy hd hc ha0 ha1 (by decide) (by decide) hn (by omega) (by omega) hn0 hn1 hdd rfl (K _ (if_pos rfl) (fun x hx => if_neg hx))
end CK
theorem HP.ndG {E : cE} {f f' : mF} {g g' j j' : mA} {h h' : zH} {m b : Nat} {ad ln : Nat → Nat} {ce : Nat → zE} {fv : Nat → Value} (H : HP E f g j h) (hm : E.2.1 m = false) (B : Nd (cCls m) b ad ce fv h')
    (ef : ∀ k, k / 32 ≠ m → f' k = f k) (eg : ∀ k, k / 32 ≠ m → g' k = g k) (ej : ∀ k, k / 32 ≠ m → j' k = j k)
    (hce : ∀ s, cTg (cCls m) s < 6 → ce s = cCell (eAdd E m b ad ln) g' j' (32 * m + s)) (hfv : ∀ s, s < cNf (cCls m) → ¬ cTg (cCls m) s < 6 → fv s = cfv (eAdd E m b ad ln) f' (cCls m) (32 * m + s))
    (hu : ∀ k, cUse E k → h' (E.1 k) = h (E.1 k) ∧ E.1 k ≠ b ∧ ∀ s, cTg (cCls m) s < 6 → E.1 k ≠ ad s)
    (h8 : ∀ x s, E.2.1 x = true → cTg (cCls x) s = 8 → cOb (cCls x) s / 32 ≠ m)
    (hrf : ∀ (k i : Nat), E.2.1 (k / 32) = true → cTag k < 6 → cTag k ≠ 0 → cTag k ≠ 1 → g k i < 0 ∨ (g k i).toNat ≠ m)
    (hln : ∀ s, s < 32 → ln s < 2147483648 ∧ (m < 14 → ln s = cLn (cCls m) s)) (z1 : ∀ k, zIn (f' k)) (z2 : ∀ k i, zIn (g' k i)) (z3 : ∀ k i, zInL (j' k i)) : HP (eAdd E m b ad ln) f' g' j' h' := by
  refine HP.add H hm ef eg ej ?_ (fun s hs => ?_) B.2.2.1 B.2.2.2 hu h8 hrf hln z1 z2 z3
  · rw [B.1]
    congr 3
    unfold ndF cfs
    apply List.map_congr_left
    intro s hs
    have hs := List.mem_range.mp hs
    have hs2 := Nat.lt_of_lt_of_le hs (cNf_le _)
    by_cases q : cTg (cCls m) s < 6
    · rw [if_pos q, cfv, show (32 * m + s) % 32 = s by omega, if_pos q, eAdd_s (by omega)]
    · rw [if_neg q, hfv s hs q]
  · rw [B.2.1 s hs, hce s hs]
/-- the copy of the reader's script at a new node m -/
def cpR (X : Int → Int) (n : Int) : Int → Int := fun i => if 0 ≤ i ∧ i < n then X i else 0
def fCp (f : mF) (m : Nat) : mF := fun k => if k / 32 = m then (if k % 32 < 3 then f (416 + k % 32) else 0) else f k
def gCp (f : mF) (g : mA) (m : Nat) : mA := fun k => if k / 32 = m then (if 3 ≤ k % 32 ∧ k % 32 ≤ 8 then cpR (g (416 + k % 32)) (if k % 32 = 8 then f 417 else f 416) else fun _ => 0) else g k
def jCp (j : mA) (m : Nat) : mA := fun k => if k / 32 = m then (fun _ => 0) else j k
def lnC (f : mF) : Nat → Nat := fun s => if s = 8 then (f 417).toNat else (f 416).toNat
theorem cpR_c {X : Int → Int} {n : Int} : va_cpy (fun i : Nat => Int32.ofInt (X i)) (fun _ => 0) 0 0 n.toNat = fun i : Nat => Int32.ofInt (cpR X n i) := by
  funext i
  unfold va_cpy cpR
  by_cases z : i < n.toNat
  · rw [if_pos (by omega), if_pos (by omega)]
    simp
  · rw [if_neg (by omega), if_neg (by omega)]; rfl
theorem cls16 {m : Nat} (h : 16 ≤ m) : cCls m = 4 := by
  unfold cCls
  split <;> first | omega | rfl
def CpQ (f : mF) (g : mA) (hs : zH) : Option Value → zH → Prop := fun v h => ∃ (b : Nat) (ad : Nat → Nat), v = some (.ref b) ∧ hs b = none ∧ (∀ s, cTg 4 s < 6 → hs (ad s) = none) ∧ (∀ x, x ≠ b → (∀ s, cTg 4 s < 6 → x ≠ ad s) → h x = hs x) ∧ Nd 4 b ad (fun s => .inl (0, lnC f s, .inl (fun i : Nat => Int32.ofInt (cpR (g (416 + s)) (if s = 8 then f 417 else f 416) i)))) (fun s => vI (f (416 + s))) h
set_option maxHeartbeats 4000000 in
set_option maxRecDepth 100000 in
theorem i_copied {l : Launch} {d : Nat} {E : cE} {f : mF} {g j : mA} {h : zH} (hd : 3 ≤ d) (hH : HC E f g j h) (n0 : 0 ≤ f 416) (n1 : f 416 ≤ 12) (k0 : 0 ≤ f 417) (k1 : f 417 ≤ 400) (a01 : in01 (f 418)) : MZ l MX4_copied d 7 469 [.ref (E.1 447)] h (CpQ f g h) := by
  refine MZ.intro [some (.ref (E.1 447)), none] (by decide) (Nat.le_of_ble_eq_true rfl) rfl ?_
  have q416 := hH.2.2.2.2.2.2.1.1 416
  have q417 := hH.2.2.2.2.2.2.1.1 417
  have kO : h (E.1 447) = some (.inr (4, [vI (f 416), vI (f 417), vI (f 418), .ref (E.1 419), .ref (E.1 420), .ref (E.1 421), .ref (E.1 422), .ref (E.1 423), .ref (E.1 424)])) := hH.1 13 (hH.lv (by decide))
  have r3 : h (E.1 419) = some (.inl (0, 12, .inl (fun i : Nat => Int32.ofInt (g 419 i)))) := by have q := hH.arrI (k := 419) (hH.lv (by decide)) rfl; rw [hH.2.2.2.2.1 419 (by decide)] at q; exact q
  have r4 : h (E.1 420) = some (.inl (0, 12, .inl (fun i : Nat => Int32.ofInt (g 420 i)))) := by have q := hH.arrI (k := 420) (hH.lv (by decide)) rfl; rw [hH.2.2.2.2.1 420 (by decide)] at q; exact q
  have r5 : h (E.1 421) = some (.inl (0, 12, .inl (fun i : Nat => Int32.ofInt (g 421 i)))) := by have q := hH.arrI (k := 421) (hH.lv (by decide)) rfl; rw [hH.2.2.2.2.1 421 (by decide)] at q; exact q
  have r6 : h (E.1 422) = some (.inl (0, 12, .inl (fun i : Nat => Int32.ofInt (g 422 i)))) := by have q := hH.arrI (k := 422) (hH.lv (by decide)) rfl; rw [hH.2.2.2.2.1 422 (by decide)] at q; exact q
  have r7 : h (E.1 423) = some (.inl (0, 12, .inl (fun i : Nat => Int32.ofInt (g 423 i)))) := by have q := hH.arrI (k := 423) (hH.lv (by decide)) rfl; rw [hH.2.2.2.2.1 423 (by decide)] at q; exact q
  have r8 : h (E.1 424) = some (.inl (0, 400, .inl (fun i : Nat => Int32.ofInt (g 424 i)))) := by have q := hH.arrI (k := 424) (hH.lv (by decide)) rfl; rw [hH.2.2.2.2.1 424 (by decide)] at q; exact q
  have hb0 := hH
  obtain ⟨hs, ehs⟩ : ∃ z, z = h := ⟨_, rfl⟩
  rw [← ehs] at hb0
  refine z_newO (TX4_copied_0.at 0 rfl) nw4_10 (by omega) (by show 9 ≤ _; omega) (fun b h1 hn e1 e2 => ?_)
  show Z l MX4_copied d _ _ _ _ _ _ h1 _ (_ - 9)
  have nb_kO : (E.1 447) ≠ b := (ne_so kO hn).symm
  have nb_r3 : (E.1 419) ≠ b := (ne_so r3 hn).symm
  have nb_r4 : (E.1 420) ≠ b := (ne_so r4 hn).symm
  have nb_r5 : (E.1 421) ≠ b := (ne_so r5 hn).symm
  have nb_r6 : (E.1 422) ≠ b := (ne_so r6 hn).symm
  have nb_r7 : (E.1 423) ≠ b := (ne_so r7 hn).symm
  have nb_r8 : (E.1 424) ≠ b := (ne_so r8 hn).symm
  have hbn : hs b = none := by rw [ehs]; exact hn
  have hfr : ∀ x, x ≠ b → h1 x = hs x := fun x hx => by rw [ehs]; exact e2 x hx
  have kO := (e2 (E.1 447) (nb_kO)).trans kO
  have r3 := (e2 (E.1 419) (nb_r3)).trans r3
  have r4 := (e2 (E.1 420) (nb_r4)).trans r4
  have r5 := (e2 (E.1 421) (nb_r5)).trans r5
  have r6 := (e2 (E.1 422) (nb_r6)).trans r6
  have r7 := (e2 (E.1 423) (nb_r7)).trans r7
  have r8 := (e2 (E.1 424) (nb_r8)).trans r8
  have kb := e1
  refine z_dup rfl (TX4_copied_0.at 1 rfl) ?_
  refine z_ald_0 (TX4_copied_0.at 2 rfl) ?_
  refine z_getf (v := (vI (f 416))) (TX4_copied_0.at 3 rfl) fl4_9 kO rfl ?_
  refine z_ald_0 (TX4_copied_0.at 4 rfl) ?_
  refine z_getf (v := (vI (f 417))) (TX4_copied_0.at 5 rfl) fl4_15 kO rfl ?_
  refine z_invI2 (TX4_copied_0.at 6 rfl) c4_47 (by omega) (by omega) (by omega) (Nat.le_of_ble_eq_true rfl) (i_X4 (by omega) n0 n1 k0 k1 kb) (fun v h2 hp => ?_)
  obtain ⟨rfl, ad, B⟩ := hp
  have na3_kO : (E.1 447) ≠ ad 3 := (ne_so kO (B.2.1 3 (by decide))).symm
  have na4_kO : (E.1 447) ≠ ad 4 := (ne_so kO (B.2.1 4 (by decide))).symm
  have na5_kO : (E.1 447) ≠ ad 5 := (ne_so kO (B.2.1 5 (by decide))).symm
  have na6_kO : (E.1 447) ≠ ad 6 := (ne_so kO (B.2.1 6 (by decide))).symm
  have na7_kO : (E.1 447) ≠ ad 7 := (ne_so kO (B.2.1 7 (by decide))).symm
  have na8_kO : (E.1 447) ≠ ad 8 := (ne_so kO (B.2.1 8 (by decide))).symm
  have na3_r3 : (E.1 419) ≠ ad 3 := (ne_so r3 (B.2.1 3 (by decide))).symm
  have na4_r3 : (E.1 419) ≠ ad 4 := (ne_so r3 (B.2.1 4 (by decide))).symm
  have na5_r3 : (E.1 419) ≠ ad 5 := (ne_so r3 (B.2.1 5 (by decide))).symm
  have na6_r3 : (E.1 419) ≠ ad 6 := (ne_so r3 (B.2.1 6 (by decide))).symm
  have na7_r3 : (E.1 419) ≠ ad 7 := (ne_so r3 (B.2.1 7 (by decide))).symm
  have na8_r3 : (E.1 419) ≠ ad 8 := (ne_so r3 (B.2.1 8 (by decide))).symm
  have na3_r4 : (E.1 420) ≠ ad 3 := (ne_so r4 (B.2.1 3 (by decide))).symm
  have na4_r4 : (E.1 420) ≠ ad 4 := (ne_so r4 (B.2.1 4 (by decide))).symm
  have na5_r4 : (E.1 420) ≠ ad 5 := (ne_so r4 (B.2.1 5 (by decide))).symm
  have na6_r4 : (E.1 420) ≠ ad 6 := (ne_so r4 (B.2.1 6 (by decide))).symm
  have na7_r4 : (E.1 420) ≠ ad 7 := (ne_so r4 (B.2.1 7 (by decide))).symm
  have na8_r4 : (E.1 420) ≠ ad 8 := (ne_so r4 (B.2.1 8 (by decide))).symm
  have na3_r5 : (E.1 421) ≠ ad 3 := (ne_so r5 (B.2.1 3 (by decide))).symm
  have na4_r5 : (E.1 421) ≠ ad 4 := (ne_so r5 (B.2.1 4 (by decide))).symm
  have na5_r5 : (E.1 421) ≠ ad 5 := (ne_so r5 (B.2.1 5 (by decide))).symm
  have na6_r5 : (E.1 421) ≠ ad 6 := (ne_so r5 (B.2.1 6 (by decide))).symm
  have na7_r5 : (E.1 421) ≠ ad 7 := (ne_so r5 (B.2.1 7 (by decide))).symm
  have na8_r5 : (E.1 421) ≠ ad 8 := (ne_so r5 (B.2.1 8 (by decide))).symm
  have na3_r6 : (E.1 422) ≠ ad 3 := (ne_so r6 (B.2.1 3 (by decide))).symm
  have na4_r6 : (E.1 422) ≠ ad 4 := (ne_so r6 (B.2.1 4 (by decide))).symm
  have na5_r6 : (E.1 422) ≠ ad 5 := (ne_so r6 (B.2.1 5 (by decide))).symm
  have na6_r6 : (E.1 422) ≠ ad 6 := (ne_so r6 (B.2.1 6 (by decide))).symm
  have na7_r6 : (E.1 422) ≠ ad 7 := (ne_so r6 (B.2.1 7 (by decide))).symm
  have na8_r6 : (E.1 422) ≠ ad 8 := (ne_so r6 (B.2.1 8 (by decide))).symm
  have na3_r7 : (E.1 423) ≠ ad 3 := (ne_so r7 (B.2.1 3 (by decide))).symm
  have na4_r7 : (E.1 423) ≠ ad 4 := (ne_so r7 (B.2.1 4 (by decide))).symm
  have na5_r7 : (E.1 423) ≠ ad 5 := (ne_so r7 (B.2.1 5 (by decide))).symm
  have na6_r7 : (E.1 423) ≠ ad 6 := (ne_so r7 (B.2.1 6 (by decide))).symm
  have na7_r7 : (E.1 423) ≠ ad 7 := (ne_so r7 (B.2.1 7 (by decide))).symm
  have na8_r7 : (E.1 423) ≠ ad 8 := (ne_so r7 (B.2.1 8 (by decide))).symm
  have na3_r8 : (E.1 424) ≠ ad 3 := (ne_so r8 (B.2.1 3 (by decide))).symm
  have na4_r8 : (E.1 424) ≠ ad 4 := (ne_so r8 (B.2.1 4 (by decide))).symm
  have na5_r8 : (E.1 424) ≠ ad 5 := (ne_so r8 (B.2.1 5 (by decide))).symm
  have na6_r8 : (E.1 424) ≠ ad 6 := (ne_so r8 (B.2.1 6 (by decide))).symm
  have na7_r8 : (E.1 424) ≠ ad 7 := (ne_so r8 (B.2.1 7 (by decide))).symm
  have na8_r8 : (E.1 424) ≠ ad 8 := (ne_so r8 (B.2.1 8 (by decide))).symm
  have kO := B.keep kO nb_kO
  have r3 := B.keep r3 nb_r3
  have r4 := B.keep r4 nb_r4
  have r5 := B.keep r5 nb_r5
  have r6 := B.keep r6 nb_r6
  have r7 := B.keep r7 nb_r7
  have r8 := B.keep r8 nb_r8
  have da3 : ad 3 ≠ b := B.1.2.2.2 3 (by decide)
  have da4 : ad 4 ≠ b := B.1.2.2.2 4 (by decide)
  have da5 : ad 5 ≠ b := B.1.2.2.2 5 (by decide)
  have da6 : ad 6 ≠ b := B.1.2.2.2 6 (by decide)
  have da7 : ad 7 ≠ b := B.1.2.2.2 7 (by decide)
  have da8 : ad 8 ≠ b := B.1.2.2.2 8 (by decide)
  have dd : ∀ s t : Nat, cTg 4 s < 6 → cTg 4 t < 6 → s ≠ t → ad s ≠ ad t := fun s t hs ht hne z => hne (B.1.2.2.1 s t hs ht z)
  have kb : h2 b = some (.inr (4, [vI 0, vI 0, vI 0, .ref (ad 3), .ref (ad 4), .ref (ad 5), .ref (ad 6), .ref (ad 7), .ref (ad 8)])) := B.1.1
  have k3 : h2 (ad 3) = some (.inl (0, (f 416).toNat, .inl (fun _ => 0))) := B.1.2.1 3 (by decide)
  have k4 : h2 (ad 4) = some (.inl (0, (f 416).toNat, .inl (fun _ => 0))) := B.1.2.1 4 (by decide)
  have k5 : h2 (ad 5) = some (.inl (0, (f 416).toNat, .inl (fun _ => 0))) := B.1.2.1 5 (by decide)
  have k6 : h2 (ad 6) = some (.inl (0, (f 416).toNat, .inl (fun _ => 0))) := B.1.2.1 6 (by decide)
  have k7 : h2 (ad 7) = some (.inl (0, (f 416).toNat, .inl (fun _ => 0))) := B.1.2.1 7 (by decide)
  have k8 : h2 (ad 8) = some (.inl (0, (f 417).toNat, .inl (fun _ => 0))) := B.1.2.1 8 (by decide)
  have hfr2 : ∀ x, x ≠ b → (∀ s, cTg 4 s < 6 → x ≠ ad s) → h2 x = hs x := fun x xb xs => (B.2.2 x xb xs).trans (hfr x xb)
  have hfn : ∀ s, cTg 4 s < 6 → hs (ad s) = none := fun s z => (hfr _ (B.1.2.2.2 s z)).symm.trans (B.2.1 s z)
  have nb_k3 := da3
  have nb_k4 := da4
  have nb_k5 := da5
  have nb_k6 := da6
  have nb_k7 := da7
  have nb_k8 := da8
  refine z_ast_1 (TX4_copied_0.at 7 rfl) (by decide) rfl ?_
  refine z_ald_1 (TX4_copied_0.at 8 rfl) ?_
  refine z_ald_0 (TX4_copied_0.at 9 rfl) ?_
  refine z_getf (v := (vI (f 416))) (TX4_copied_0.at 10 rfl) fl4_9 kO rfl ?_
  refine z_pf (TX4_copied_0.at 11 rfl) fp4_9 kb (Nat.le_of_ble_eq_true rfl) rfl rfl (fun h3 e1 e2 => ?_)
  have kO := (e2 (E.1 447) (nb_kO)).trans kO
  have r3 := (e2 (E.1 419) (nb_r3)).trans r3
  have r4 := (e2 (E.1 420) (nb_r4)).trans r4
  have r5 := (e2 (E.1 421) (nb_r5)).trans r5
  have r6 := (e2 (E.1 422) (nb_r6)).trans r6
  have r7 := (e2 (E.1 423) (nb_r7)).trans r7
  have r8 := (e2 (E.1 424) (nb_r8)).trans r8
  have k3 := (e2 (ad 3) (nb_k3)).trans k3
  have k4 := (e2 (ad 4) (nb_k4)).trans k4
  have k5 := (e2 (ad 5) (nb_k5)).trans k5
  have k6 := (e2 (ad 6) (nb_k6)).trans k6
  have k7 := (e2 (ad 7) (nb_k7)).trans k7
  have k8 := (e2 (ad 8) (nb_k8)).trans k8
  have kb : h3 b = some (.inr (4, [vI (f 416), vI 0, vI 0, .ref (ad 3), .ref (ad 4), .ref (ad 5), .ref (ad 6), .ref (ad 7), .ref (ad 8)])) := e1
  have hfr2 : ∀ x, x ≠ b → (∀ s, cTg 4 s < 6 → x ≠ ad s) → h3 x = hs x := fun x xb xs => (e2 x xb).trans (hfr2 x xb xs)
  refine z_ald_1 (TX4_copied_0.at 12 rfl) ?_
  refine z_ald_0 (TX4_copied_0.at 13 rfl) ?_
  refine z_getf (v := (vI (f 417))) (TX4_copied_0.at 14 rfl) fl4_15 kO rfl ?_
  refine z_pf (TX4_copied_0.at 15 rfl) fp4_15 kb (Nat.le_of_ble_eq_true rfl) rfl rfl (fun h3 e1 e2 => ?_)
  have kO := (e2 (E.1 447) (nb_kO)).trans kO
  have r3 := (e2 (E.1 419) (nb_r3)).trans r3
  have r4 := (e2 (E.1 420) (nb_r4)).trans r4
  have r5 := (e2 (E.1 421) (nb_r5)).trans r5
  have r6 := (e2 (E.1 422) (nb_r6)).trans r6
  have r7 := (e2 (E.1 423) (nb_r7)).trans r7
  have r8 := (e2 (E.1 424) (nb_r8)).trans r8
  have k3 := (e2 (ad 3) (nb_k3)).trans k3
  have k4 := (e2 (ad 4) (nb_k4)).trans k4
  have k5 := (e2 (ad 5) (nb_k5)).trans k5
  have k6 := (e2 (ad 6) (nb_k6)).trans k6
  have k7 := (e2 (ad 7) (nb_k7)).trans k7
  have k8 := (e2 (ad 8) (nb_k8)).trans k8
  have kb : h3 b = some (.inr (4, [vI (f 416), vI (f 417), vI 0, .ref (ad 3), .ref (ad 4), .ref (ad 5), .ref (ad 6), .ref (ad 7), .ref (ad 8)])) := e1
  have hfr2 : ∀ x, x ≠ b → (∀ s, cTg 4 s < 6 → x ≠ ad s) → h3 x = hs x := fun x xb xs => (e2 x xb).trans (hfr2 x xb xs)
  refine z_ald_1 (TX4_copied_0.at 16 rfl) ?_
  refine z_ald_0 (TX4_copied_0.at 17 rfl) ?_
  refine z_getf (v := (vI (f 418))) (TX4_copied_0.at 18 rfl) fl4_18 kO rfl ?_
  refine z_pf (TX4_copied_0.at 19 rfl) fp4_18 kb (Nat.le_of_ble_eq_true rfl) (by rcases a01 with q | q <;> rw [q] <;> rfl) (by rcases a01 with q | q <;> rw [q] <;> rfl) (fun h3 e1 e2 => ?_)
  have kO := (e2 (E.1 447) (nb_kO)).trans kO
  have r3 := (e2 (E.1 419) (nb_r3)).trans r3
  have r4 := (e2 (E.1 420) (nb_r4)).trans r4
  have r5 := (e2 (E.1 421) (nb_r5)).trans r5
  have r6 := (e2 (E.1 422) (nb_r6)).trans r6
  have r7 := (e2 (E.1 423) (nb_r7)).trans r7
  have r8 := (e2 (E.1 424) (nb_r8)).trans r8
  have k3 := (e2 (ad 3) (nb_k3)).trans k3
  have k4 := (e2 (ad 4) (nb_k4)).trans k4
  have k5 := (e2 (ad 5) (nb_k5)).trans k5
  have k6 := (e2 (ad 6) (nb_k6)).trans k6
  have k7 := (e2 (ad 7) (nb_k7)).trans k7
  have k8 := (e2 (ad 8) (nb_k8)).trans k8
  have kb : h3 b = some (.inr (4, [vI (f 416), vI (f 417), vI (f 418), .ref (ad 3), .ref (ad 4), .ref (ad 5), .ref (ad 6), .ref (ad 7), .ref (ad 8)])) := e1
  have hfr2 : ∀ x, x ≠ b → (∀ s, cTg 4 s < 6 → x ≠ ad s) → h3 x = hs x := fun x xb xs => (e2 x xb).trans (hfr2 x xb xs)
  refine z_ald_0 (TX4_copied_0.at 20 rfl) ?_
  refine z_getf (v := (.ref (E.1 419))) (TX4_copied_0.at 21 rfl) fl4_28 kO rfl ?_
  refine z_iconst (TX4_copied_0.at 22 rfl) ?_
  refine z_ald_1 (TX4_copied_0.at 23 rfl) ?_
  refine z_getf (v := (.ref (ad 3))) (TX4_copied_0.at 24 rfl) fl4_28 kb rfl ?_
  refine z_iconst (TX4_copied_0.at 25 rfl) ?_
  refine z_ald_0 (TX4_copied_0.at 26 rfl) ?_
  refine z_getf (v := (vI (f 416))) (TX4_copied_0.at 27 rfl) fl4_9 kO rfl ?_
  refine z_cpK (TX4_copied_0.at 28 rfl) cp4_50 r3 k3 (by omega) (by omega) (by omega) (by decide) (by omega) (by omega) (fun h3 e1 e2 => ?_)
  have kO := (e2 (E.1 447) na3_kO).trans kO
  have r3 := (e2 (E.1 419) na3_r3).trans r3
  have r4 := (e2 (E.1 420) na3_r4).trans r4
  have r5 := (e2 (E.1 421) na3_r5).trans r5
  have r6 := (e2 (E.1 422) na3_r6).trans r6
  have r7 := (e2 (E.1 423) na3_r7).trans r7
  have r8 := (e2 (E.1 424) na3_r8).trans r8
  have k4 := (e2 (ad 4) (dd 4 3 (by decide) (by decide) (by decide))).trans k4
  have k5 := (e2 (ad 5) (dd 5 3 (by decide) (by decide) (by decide))).trans k5
  have k6 := (e2 (ad 6) (dd 6 3 (by decide) (by decide) (by decide))).trans k6
  have k7 := (e2 (ad 7) (dd 7 3 (by decide) (by decide) (by decide))).trans k7
  have k8 := (e2 (ad 8) (dd 8 3 (by decide) (by decide) (by decide))).trans k8
  have kb := (e2 b (da3).symm).trans kb
  have k3 : h3 (ad 3) = some (.inl (0, (f 416).toNat, .inl (fun i : Nat => Int32.ofInt (cpR (g 419) (f 416) i)))) := by rw [← cpR_c]; exact e1
  have hfr2 : ∀ x, x ≠ b → (∀ s, cTg 4 s < 6 → x ≠ ad s) → h3 x = hs x := fun x xb xs => (e2 x (xs 3 (by decide))).trans (hfr2 x xb xs)
  refine z_ald_0 (TX4_copied_0.at 29 rfl) ?_
  refine z_getf (v := (.ref (E.1 420))) (TX4_copied_0.at 30 rfl) fl4_32 kO rfl ?_
  refine z_iconst (TX4_copied_0.at 31 rfl) ?_
  refine z_ald_1 (TX4_copied_0.at 32 rfl) ?_
  refine z_getf (v := (.ref (ad 4))) (TX4_copied_0.at 33 rfl) fl4_32 kb rfl ?_
  refine z_iconst (TX4_copied_0.at 34 rfl) ?_
  refine z_ald_0 (TX4_copied_0.at 35 rfl) ?_
  refine z_getf (v := (vI (f 416))) (TX4_copied_0.at 36 rfl) fl4_9 kO rfl ?_
  refine z_cpK (TX4_copied_0.at 37 rfl) cp4_50 r4 k4 (by omega) (by omega) (by omega) (by decide) (by omega) (by omega) (fun h3 e1 e2 => ?_)
  have kO := (e2 (E.1 447) na4_kO).trans kO
  have r3 := (e2 (E.1 419) na4_r3).trans r3
  have r4 := (e2 (E.1 420) na4_r4).trans r4
  have r5 := (e2 (E.1 421) na4_r5).trans r5
  have r6 := (e2 (E.1 422) na4_r6).trans r6
  have r7 := (e2 (E.1 423) na4_r7).trans r7
  have r8 := (e2 (E.1 424) na4_r8).trans r8
  have k3 := (e2 (ad 3) (dd 3 4 (by decide) (by decide) (by decide))).trans k3
  have k5 := (e2 (ad 5) (dd 5 4 (by decide) (by decide) (by decide))).trans k5
  have k6 := (e2 (ad 6) (dd 6 4 (by decide) (by decide) (by decide))).trans k6
  have k7 := (e2 (ad 7) (dd 7 4 (by decide) (by decide) (by decide))).trans k7
  have k8 := (e2 (ad 8) (dd 8 4 (by decide) (by decide) (by decide))).trans k8
  have kb := (e2 b (da4).symm).trans kb
  have k4 : h3 (ad 4) = some (.inl (0, (f 416).toNat, .inl (fun i : Nat => Int32.ofInt (cpR (g 420) (f 416) i)))) := by rw [← cpR_c]; exact e1
  have hfr2 : ∀ x, x ≠ b → (∀ s, cTg 4 s < 6 → x ≠ ad s) → h3 x = hs x := fun x xb xs => (e2 x (xs 4 (by decide))).trans (hfr2 x xb xs)
  refine z_ald_0 (TX4_copied_0.at 38 rfl) ?_
  refine z_getf (v := (.ref (E.1 421))) (TX4_copied_0.at 39 rfl) fl4_35 kO rfl ?_
  refine z_iconst (TX4_copied_1.at 0 rfl) ?_
  refine z_ald_1 (TX4_copied_1.at 1 rfl) ?_
  refine z_getf (v := (.ref (ad 5))) (TX4_copied_1.at 2 rfl) fl4_35 kb rfl ?_
  refine z_iconst (TX4_copied_1.at 3 rfl) ?_
  refine z_ald_0 (TX4_copied_1.at 4 rfl) ?_
  refine z_getf (v := (vI (f 416))) (TX4_copied_1.at 5 rfl) fl4_9 kO rfl ?_
  refine z_cpK (TX4_copied_1.at 6 rfl) cp4_50 r5 k5 (by omega) (by omega) (by omega) (by decide) (by omega) (by omega) (fun h3 e1 e2 => ?_)
  have kO := (e2 (E.1 447) na5_kO).trans kO
  have r3 := (e2 (E.1 419) na5_r3).trans r3
  have r4 := (e2 (E.1 420) na5_r4).trans r4
  have r5 := (e2 (E.1 421) na5_r5).trans r5
  have r6 := (e2 (E.1 422) na5_r6).trans r6
  have r7 := (e2 (E.1 423) na5_r7).trans r7
  have r8 := (e2 (E.1 424) na5_r8).trans r8
  have k3 := (e2 (ad 3) (dd 3 5 (by decide) (by decide) (by decide))).trans k3
  have k4 := (e2 (ad 4) (dd 4 5 (by decide) (by decide) (by decide))).trans k4
  have k6 := (e2 (ad 6) (dd 6 5 (by decide) (by decide) (by decide))).trans k6
  have k7 := (e2 (ad 7) (dd 7 5 (by decide) (by decide) (by decide))).trans k7
  have k8 := (e2 (ad 8) (dd 8 5 (by decide) (by decide) (by decide))).trans k8
  have kb := (e2 b (da5).symm).trans kb
  have k5 : h3 (ad 5) = some (.inl (0, (f 416).toNat, .inl (fun i : Nat => Int32.ofInt (cpR (g 421) (f 416) i)))) := by rw [← cpR_c]; exact e1
  have hfr2 : ∀ x, x ≠ b → (∀ s, cTg 4 s < 6 → x ≠ ad s) → h3 x = hs x := fun x xb xs => (e2 x (xs 5 (by decide))).trans (hfr2 x xb xs)
  refine z_ald_0 (TX4_copied_1.at 7 rfl) ?_
  refine z_getf (v := (.ref (E.1 422))) (TX4_copied_1.at 8 rfl) fl4_38 kO rfl ?_
  refine z_iconst (TX4_copied_1.at 9 rfl) ?_
  refine z_ald_1 (TX4_copied_1.at 10 rfl) ?_
  refine z_getf (v := (.ref (ad 6))) (TX4_copied_1.at 11 rfl) fl4_38 kb rfl ?_
  refine z_iconst (TX4_copied_1.at 12 rfl) ?_
  refine z_ald_0 (TX4_copied_1.at 13 rfl) ?_
  refine z_getf (v := (vI (f 416))) (TX4_copied_1.at 14 rfl) fl4_9 kO rfl ?_
  refine z_cpK (TX4_copied_1.at 15 rfl) cp4_50 r6 k6 (by omega) (by omega) (by omega) (by decide) (by omega) (by omega) (fun h3 e1 e2 => ?_)
  have kO := (e2 (E.1 447) na6_kO).trans kO
  have r3 := (e2 (E.1 419) na6_r3).trans r3
  have r4 := (e2 (E.1 420) na6_r4).trans r4
  have r5 := (e2 (E.1 421) na6_r5).trans r5
  have r6 := (e2 (E.1 422) na6_r6).trans r6
  have r7 := (e2 (E.1 423) na6_r7).trans r7
  have r8 := (e2 (E.1 424) na6_r8).trans r8
  have k3 := (e2 (ad 3) (dd 3 6 (by decide) (by decide) (by decide))).trans k3
  have k4 := (e2 (ad 4) (dd 4 6 (by decide) (by decide) (by decide))).trans k4
  have k5 := (e2 (ad 5) (dd 5 6 (by decide) (by decide) (by decide))).trans k5
  have k7 := (e2 (ad 7) (dd 7 6 (by decide) (by decide) (by decide))).trans k7
  have k8 := (e2 (ad 8) (dd 8 6 (by decide) (by decide) (by decide))).trans k8
  have kb := (e2 b (da6).symm).trans kb
  have k6 : h3 (ad 6) = some (.inl (0, (f 416).toNat, .inl (fun i : Nat => Int32.ofInt (cpR (g 422) (f 416) i)))) := by rw [← cpR_c]; exact e1
  have hfr2 : ∀ x, x ≠ b → (∀ s, cTg 4 s < 6 → x ≠ ad s) → h3 x = hs x := fun x xb xs => (e2 x (xs 6 (by decide))).trans (hfr2 x xb xs)
  refine z_ald_0 (TX4_copied_1.at 16 rfl) ?_
  refine z_getf (v := (.ref (E.1 423))) (TX4_copied_1.at 17 rfl) fl4_41 kO rfl ?_
  refine z_iconst (TX4_copied_1.at 18 rfl) ?_
  refine z_ald_1 (TX4_copied_1.at 19 rfl) ?_
  refine z_getf (v := (.ref (ad 7))) (TX4_copied_1.at 20 rfl) fl4_41 kb rfl ?_
  refine z_iconst (TX4_copied_1.at 21 rfl) ?_
  refine z_ald_0 (TX4_copied_1.at 22 rfl) ?_
  refine z_getf (v := (vI (f 416))) (TX4_copied_1.at 23 rfl) fl4_9 kO rfl ?_
  refine z_cpK (TX4_copied_1.at 24 rfl) cp4_50 r7 k7 (by omega) (by omega) (by omega) (by decide) (by omega) (by omega) (fun h3 e1 e2 => ?_)
  have kO := (e2 (E.1 447) na7_kO).trans kO
  have r3 := (e2 (E.1 419) na7_r3).trans r3
  have r4 := (e2 (E.1 420) na7_r4).trans r4
  have r5 := (e2 (E.1 421) na7_r5).trans r5
  have r6 := (e2 (E.1 422) na7_r6).trans r6
  have r7 := (e2 (E.1 423) na7_r7).trans r7
  have r8 := (e2 (E.1 424) na7_r8).trans r8
  have k3 := (e2 (ad 3) (dd 3 7 (by decide) (by decide) (by decide))).trans k3
  have k4 := (e2 (ad 4) (dd 4 7 (by decide) (by decide) (by decide))).trans k4
  have k5 := (e2 (ad 5) (dd 5 7 (by decide) (by decide) (by decide))).trans k5
  have k6 := (e2 (ad 6) (dd 6 7 (by decide) (by decide) (by decide))).trans k6
  have k8 := (e2 (ad 8) (dd 8 7 (by decide) (by decide) (by decide))).trans k8
  have kb := (e2 b (da7).symm).trans kb
  have k7 : h3 (ad 7) = some (.inl (0, (f 416).toNat, .inl (fun i : Nat => Int32.ofInt (cpR (g 423) (f 416) i)))) := by rw [← cpR_c]; exact e1
  have hfr2 : ∀ x, x ≠ b → (∀ s, cTg 4 s < 6 → x ≠ ad s) → h3 x = hs x := fun x xb xs => (e2 x (xs 7 (by decide))).trans (hfr2 x xb xs)
  refine z_ald_0 (TX4_copied_1.at 25 rfl) ?_
  refine z_getf (v := (.ref (E.1 424))) (TX4_copied_1.at 26 rfl) fl4_44 kO rfl ?_
  refine z_iconst (TX4_copied_1.at 27 rfl) ?_
  refine z_ald_1 (TX4_copied_1.at 28 rfl) ?_
  refine z_getf (v := (.ref (ad 8))) (TX4_copied_1.at 29 rfl) fl4_44 kb rfl ?_
  refine z_iconst (TX4_copied_1.at 30 rfl) ?_
  refine z_ald_0 (TX4_copied_1.at 31 rfl) ?_
  refine z_getf (v := (vI (f 417))) (TX4_copied_1.at 32 rfl) fl4_15 kO rfl ?_
  refine z_cpK (TX4_copied_1.at 33 rfl) cp4_50 r8 k8 (by omega) (by omega) (by omega) (by decide) (by omega) (by omega) (fun h3 e1 e2 => ?_)
  have kO := (e2 (E.1 447) na8_kO).trans kO
  have r3 := (e2 (E.1 419) na8_r3).trans r3
  have r4 := (e2 (E.1 420) na8_r4).trans r4
  have r5 := (e2 (E.1 421) na8_r5).trans r5
  have r6 := (e2 (E.1 422) na8_r6).trans r6
  have r7 := (e2 (E.1 423) na8_r7).trans r7
  have r8 := (e2 (E.1 424) na8_r8).trans r8
  have k3 := (e2 (ad 3) (dd 3 8 (by decide) (by decide) (by decide))).trans k3
  have k4 := (e2 (ad 4) (dd 4 8 (by decide) (by decide) (by decide))).trans k4
  have k5 := (e2 (ad 5) (dd 5 8 (by decide) (by decide) (by decide))).trans k5
  have k6 := (e2 (ad 6) (dd 6 8 (by decide) (by decide) (by decide))).trans k6
  have k7 := (e2 (ad 7) (dd 7 8 (by decide) (by decide) (by decide))).trans k7
  have kb := (e2 b (da8).symm).trans kb
  have k8 : h3 (ad 8) = some (.inl (0, (f 417).toNat, .inl (fun i : Nat => Int32.ofInt (cpR (g 424) (f 417) i)))) := by rw [← cpR_c]; exact e1
  have hfr2 : ∀ x, x ≠ b → (∀ s, cTg 4 s < 6 → x ≠ ad s) → h3 x = hs x := fun x xb xs => (e2 x (xs 8 (by decide))).trans (hfr2 x xb xs)
  refine z_ald_1 (TX4_copied_1.at 34 rfl) ?_
  rw [ehs] at hbn hfn hfr2
  refine z_aret (TX4_copied_1.at 35 rfl) rfl ⟨b, ad, rfl, hbn, hfn, hfr2, kb, fun s hs => ?_, fun s t hs ht z => ?_, fun s hs => ?_⟩
  · rcases sl4 hs with rfl | rfl | rfl | rfl | rfl | rfl
    · exact k3
    · exact k4
    · exact k5
    · exact k6
    · exact k7
    · exact k8
  · exact Decidable.byContradiction (fun q => dd s t hs ht q z)
  · rcases sl4 hs with rfl | rfl | rfl | rfl | rfl | rfl
    · exact da3
    · exact da4
    · exact da5
    · exact da6
    · exact da7
    · exact da8

