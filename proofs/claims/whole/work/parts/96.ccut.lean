/-! ===== the class itself: cuts ===== -/
theorem cnt_sub {m S : Int} : ∀ n : Nat, (∀ i : Int, 0 ≤ i → i < n → bt m i → bt S i) → cnt m n ≤ cnt S n ∧ (cnt m n = cnt S n → ∀ i : Int, 0 ≤ i → i < n → (bt m i ↔ bt S i)) := by
  intro n
  induction n with
  | zero => intro _; exact ⟨Int.le_refl _, fun _ i i0 i1 => by omega⟩
  | succ n ih =>
    intro h
    have a := ih (fun i i0 i1 => h i i0 (by omega))
    have c := h n (by omega) (by omega)
    have hb : b2i (bt m n) ≤ b2i (bt S n) := by
      by_cases e : bt m n
      · rw [b2i_t e, b2i_t (c e)]; decide
      · rw [b2i_f e]; rcases b2i_01 (bt S n) with z | z <;> rw [z] <;> decide
    simp only [cnt]
    refine ⟨by omega, fun e i i0 i1 => ?_⟩
    by_cases ei : i = n
    · rw [ei]; exact b2i_iff.mp (by omega)
    · exact a.2 (by omega) i i0 (by omega)
section CUT
variable {K : Int → Int} {cl : List Cla}
theorem ctS_lt (hK : KOK K) : ctS K cl < 1024 := by
  have hn := hK.1
  have h := (msk_in (p := fun t => decide (ctc K cl t)) (n := (K 76).toNat) (by omega)).2
  have h2 : (2 ^ (K 76).toNat : Nat) ≤ 2 ^ 10 := Nat.pow_le_pow_right (by decide) (by omega)
  have h3 : (2 ^ 10 : Nat) = 1024 := by decide
  show msk (fun t => decide (ctc K cl t)) (K 76).toNat < 1024
  omega
def cSub (S m : Int) : Prop := zand m (zxor S (-1)) = 0
theorem cSub_bt {S m : Int} (hS : z31 S) (hm : z31 m) : cSub S m ↔ ∀ i : Int, 0 ≤ i → bt m i → bt S i := by
  unfold cSub
  constructor
  · intro e i i0 hi
    have h := bt_andn (s := m) (t := S) (k := i) hm hS
    rw [e] at h
    by_cases z : bt S i
    · exact z
    · exact absurd (h.mpr ⟨hi, z⟩) (bt_zero i)
  · intro h
    refine bt_ext (zandn_le hm hS).1 (by decide) (fun i i0 => ?_)
    rw [bt_andn hm hS]
    exact ⟨fun q => absurd (h i i0 q.1) q.2, fun q => absurd q (bt_zero i)⟩
theorem bt10 {x i : Int} (h : x < 1024) (hi : 10 ≤ i) : ¬ bt x i := by
  have e : ((2 ^ 10 : Nat) : Int) = 1024 := by decide
  exact bt_lt (n := 10) (by omega) hi
theorem sub_eq {S m : Int} (hS : z31 S) (hm : z31 m) (s1 : S < 1024) (m1 : m < 1024) (h : cSub S m) (e : cnt m 10 = cnt S 10) : m = S := by
  have q := (cSub_bt hS hm).mp h
  have c := (cnt_sub (m := m) (S := S) 10 (fun i i0 _ => q i i0)).2 e
  refine bt_ext hm.1 hS.1 (fun i i0 => ?_)
  by_cases z : i < 10
  · exact c i i0 z
  · exact ⟨fun y => absurd y (bt10 m1 (by omega)), fun y => absurd y (bt10 s1 (by omega))⟩
def dsc (K : Int → Int) (cl : List Cla) (a b m : Int) : Prop := dK K cl (zand (ctS K cl) (zxor m (-1))) (src (zshl 1 a)) b = 1000000
theorem cutN_spec {a b : Int} (hK : KOK K) : ∀ n : Nat, (n : Int) ≤ ctS K cl → (cutN K cl (ctS K cl) a b n = ctS K cl ∨ (0 ≤ cutN K cl (ctS K cl) a b n ∧ cutN K cl (ctS K cl) a b n < n ∧ cSub (ctS K cl) (cutN K cl (ctS K cl) a b n) ∧ dsc K cl a b (cutN K cl (ctS K cl) a b n))) ∧ ∀ m : Int, 0 ≤ m → m < n → cSub (ctS K cl) m → dsc K cl a b m → cnt (cutN K cl (ctS K cl) a b n) 10 ≤ cnt m 10 ∧ (cnt (cutN K cl (ctS K cl) a b n) 10 = cnt m 10 → cutN K cl (ctS K cl) a b n ≤ m) := by
  have hS := ctS_31 (cl := cl) hK
  have hS2 := ctS_lt (cl := cl) hK
  intro n
  induction n with
  | zero => intro _; exact ⟨Or.inl rfl, fun m m0 m1 => by omega⟩
  | succ n ih =>
    intro hn
    have a1 := ih (by omega)
    simp only [cutN]
    split
    · rename_i hc
      refine ⟨Or.inr ⟨by omega, by omega, hc.1, hc.2.2⟩, fun m m0 m1 h1 h2 => ?_⟩
      by_cases e : m = n
      · subst e; exact ⟨Int.le_refl _, fun _ => Int.le_refl _⟩
      · have q := a1.2 m m0 (by omega) h1 h2
        have := hc.2.1
        omega
    · rename_i hc
      refine ⟨?_, fun m m0 m1 h1 h2 => ?_⟩
      · rcases a1.1 with z | ⟨z0, z1, z2, z3⟩
        · exact Or.inl z
        · exact Or.inr ⟨z0, by omega, z2, z3⟩
      · by_cases e : m = n
        · subst e
          have hle : ¬ cnt (n : Int) 10 < cnt (cutN K cl (ctS K cl) a b n) 10 := fun z => hc ⟨h1, z, h2⟩
          refine ⟨by omega, fun ee => ?_⟩
          rcases a1.1 with z | ⟨z0, z1, z2, z3⟩
          · rw [z] at ee
            have := sub_eq hS ⟨by omega, by omega⟩ hS2 (by omega) h1 ee.symm
            omega
          · omega
        · exact a1.2 m m0 (by omega) h1 h2
/-- fire stays on its side -/
theorem side_rdN {fr to B Hd : Int → Int} {S sd : Int} {p : (Int → Int) × Int} {n : Nat} (hF : FrOK fr to B Hd n) (hx : ∀ x : Int, 0 ≤ x → x < n → bt S x → (bt sd (fr x) ↔ bt sd (to x))) (hp : ∀ t : Int, 0 ≤ t → t ≤ 7 → ¬ bt sd t → p.1 t = 1000000) : ∀ m : Nat, m ≤ n → ∀ t : Int, 0 ≤ t → t ≤ 7 → ¬ bt sd t → (rdN fr to B Hd S p m).1 t = 1000000 := by
  intro m
  induction m with
  | zero => intro _; exact hp
  | succ m ih =>
    intro hm
    have a := ih (by omega)
    have key : ∀ (C : Int → Int) (u w : Int), (0 ≤ u ∧ u ≤ 7) → (¬ bt sd w → ¬ bt sd u) → (∀ t : Int, 0 ≤ t → t ≤ 7 → ¬ bt sd t → C t = 1000000) → ∀ t : Int, 0 ≤ t → t ≤ 7 → ¬ bt sd t → gC C B Hd m u w t = 1000000 := by
      intro C u w hu huw hC t t0 t7 ht
      unfold gC
      by_cases e : t = w
      · subst e
        rw [iu_self, hC t t0 t7 ht]
        unfold gIs
        rw [if_pos (hC u hu.1 hu.2 (huw ht))]
        rfl
      · rw [iu_ne e]; exact hC t t0 t7 ht
    have hf := hF.2.1 m (by omega) (by omega)
    simp only [rdN, rdS]
    split
    · rename_i hb
      have hi := hx m (by omega) (by omega) hb
      exact key _ _ _ hf.2.1 (fun z y => z (hi.mpr y)) (key _ _ _ hf.1 (fun z y => z (hi.mp y)) a)
    · exact a
theorem side_dist {fr to B Hd C : Int → Int} {S sd : Int} {n : Nat} (hF : FrOK fr to B Hd n) (hx : ∀ x : Int, 0 ≤ x → x < n → bt S x → (bt sd (fr x) ↔ bt sd (to x))) (hp : ∀ t : Int, 0 ≤ t → t ≤ 7 → ¬ bt sd t → C t = 1000000) : ∀ t : Int, 0 ≤ t → t ≤ 7 → ¬ bt sd t → dist fr to B Hd S n C t = 1000000 := by
  have key : ∀ k : Nat, ∀ t : Int, 0 ≤ t → t ≤ 7 → ¬ bt sd t → rdI fr to B Hd S n C k t = 1000000 := by
    intro k
    induction k with
    | zero => exact hp
    | succ k ih => exact side_rdN (p := (rdI fr to B Hd S n C k, 0)) hF hx ih n (Nat.le_refl n)
  exact key 8
def btw (K : Int → Int) (cl : List Cla) (sd : Int) : Int := zand (msk (fun x => decide (¬ (bt sd (frK K x) ↔ bt sd (toK K x)))) (K 76).toNat) (ctS K cl)
theorem btw_31 {sd : Int} (hK : KOK K) : z31 (btw K cl sd) ∧ btw K cl sd < 1024 := by
  have hn := hK.1
  have h1 := msk_31 (p := fun x => decide (¬ (bt sd (frK K x) ↔ bt sd (toK K x)))) (n := (K 76).toNat) (by omega)
  have h2 := zand_le h1 (ctS_31 (cl := cl) hK)
  have h := (msk_in (p := fun x => decide (¬ (bt sd (frK K x) ↔ bt sd (toK K x)))) (n := (K 76).toNat) (by omega)).2
  have h3 : (2 ^ (K 76).toNat : Nat) ≤ 2 ^ 10 := Nat.pow_le_pow_right (by decide) (by omega)
  have h4 : (2 ^ 10 : Nat) = 1024 := by decide
  unfold btw
  exact ⟨⟨h2.1, by have := h1.2; omega⟩, by omega⟩
theorem bt_btw {sd i : Int} (hK : KOK K) (i0 : 0 ≤ i) : bt (btw K cl sd) i ↔ ((i < K 76 ∧ ¬ (bt sd (frK K i) ↔ bt sd (toK K i))) ∧ bt (ctS K cl) i) := by
  have hn := hK.1
  have h1 := msk_31 (p := fun x => decide (¬ (bt sd (frK K x) ↔ bt sd (toK K x)))) (n := (K 76).toNat) (by omega)
  unfold btw
  rw [bt_and h1 (ctS_31 hK), bt_msk i0 (by omega), decide_eq_true_iff]
  constructor
  · intro q; exact ⟨⟨by omega, q.1.2⟩, q.2⟩
  · intro q; exact ⟨⟨by omega, q.1.2⟩, q.2⟩
theorem btw_sub {sd : Int} (hK : KOK K) : cSub (ctS K cl) (btw K cl sd) := (cSub_bt (ctS_31 hK) (btw_31 hK).1).mpr (fun _ i0 h => ((bt_btw hK i0).mp h).2)
theorem btw_dsc {a b sd : Int} (hK : KOK K) (a0 : 0 ≤ a) (a7 : a ≤ 7) (b0 : 0 ≤ b) (b7 : b ≤ 7) (ha : bt sd a) (hb : ¬ bt sd b) : dsc K cl a b (btw K cl sd) := by
  have hn := hK.1
  refine side_dist (sd := sd) hK.fr (fun x x0 x1 hx => ?_) (fun t t0 t7 ht => ?_) b b0 b7 hb
  · rw [bt_andn (ctS_31 hK) (btw_31 hK).1, bt_btw hK x0] at hx
    by_cases e : (bt sd (frK K x) ↔ bt sd (toK K x))
    · exact e
    · exact absurd ⟨⟨by omega, e⟩, hx.1⟩ hx.2
  · rw [src_1 a0 a7 t0, if_neg (fun e => ht (by rw [e]; exact ha))]
theorem dsc_side {a b m : Int} (hK : KOK K) (a0 : 0 ≤ a) (a7 : a ≤ 7) (b0 : 0 ≤ b) (b7 : b ≤ 7) (hm : z31 m) (hd : dsc K cl a b m) : ∃ sd : Int, 0 ≤ sd ∧ sd ≤ 255 ∧ bt sd a ∧ ¬ bt sd b ∧ ∀ i : Int, 0 ≤ i → bt (btw K cl sd) i → bt m i := by
  have hn := hK.1
  have hC := COK_src (zshl 1 a)
  have hS := ctS_31 (cl := cl) hK
  have hd1 := (dist_ok (S := zand (ctS K cl) (zxor m (-1))) (hK.fr (cl := cl)) hC).2.1 a
  rw [src_1 a0 a7 a0, if_pos rfl] at hd1
  refine ⟨msk (fun t => decide (dK K cl (zand (ctS K cl) (zxor m (-1))) (src (zshl 1 a)) t ≠ 1000000)) 8, (msk_31 (by omega)).1, ?_, ?_, ?_, fun i i0 hi => ?_⟩
  · have := (msk_in (p := fun t => decide (dK K cl (zand (ctS K cl) (zxor m (-1))) (src (zshl 1 a)) t ≠ 1000000)) (n := 8) (by omega)).2
    have h4 : (2 ^ 8 : Nat) = 256 := by decide
    omega
  · rw [bt_msk a0 (by omega), decide_eq_true_iff]
    refine ⟨by omega, fun z => ?_⟩
    have : dK K cl (zand (ctS K cl) (zxor m (-1))) (src (zshl 1 a)) a ≤ 0 := hd1
    omega
  · rw [bt_msk b0 (by omega), decide_eq_true_iff]
    exact fun z => z.2 hd
  · rw [bt_btw hK i0] at hi
    obtain ⟨⟨h1, h2⟩, h3⟩ := hi
    have hki := hK.2.1 i i0 h1
    by_cases e : bt m i
    · exact e
    · exfalso
      have hb := dist_both (S := zand (ctS K cl) (zxor m (-1))) (hK.fr (cl := cl)) hC i0 (by omega) ((bt_andn hS hm).mpr ⟨h3, e⟩)
      apply h2
      rw [bt_msk hki.2.2.1.1 (by omega), bt_msk hki.2.2.2.1.1 (by omega), decide_eq_true_iff, decide_eq_true_iff]
      have q1 := hki.2.2.1
      have q2 := hki.2.2.2.1
      constructor
      · intro z; exact ⟨by omega, fun y => z.2 (hb.mpr y)⟩
      · intro z; exact ⟨by omega, fun y => z.2 (hb.mp y)⟩
theorem cut_eq {a b q : Int} (hK : KOK K) (hab : a ≠ b) (a0 : 0 ≤ a) (a7 : a ≤ 7) (b0 : 0 ≤ b) (b7 : b ≤ 7) (sd : Int) (hq : q = btw K cl sd) (ha : bt sd a) (hb : ¬ bt sd b) (hmin : ∀ s : Int, 0 ≤ s → s ≤ 255 → bt s a → ¬ bt s b → cnt q 10 ≤ cnt (btw K cl s) 10 ∧ (cnt q 10 = cnt (btw K cl s) 10 → q ≤ btw K cl s)) : q = cutN K cl (ctS K cl) a b (ctS K cl).toNat := by
  have hS := ctS_31 (cl := cl) hK
  have hS2 := ctS_lt (cl := cl) hK
  have sp := cutN_spec (cl := cl) (a := a) (b := b) hK (ctS K cl).toNat (by have := hS.1; omega)
  have hin := cutN_in (K := K) (cl := cl) (S := ctS K cl) (a := a) (b := b) hS.1 (ctS K cl).toNat (by have := hS.1; omega)
  have hq1 := btw_31 (cl := cl) (sd := sd) hK
  have qs := btw_sub (cl := cl) (sd := sd) hK
  have qd := btw_dsc (cl := cl) hK a0 a7 b0 b7 ha hb
  rw [← hq] at hq1 qs qd
  obtain ⟨R, hR⟩ : ∃ z, z = cutN K cl (ctS K cl) a b (ctS K cl).toNat := ⟨_, rfl⟩
  rw [← hR] at sp hin ⊢
  have hR31 : z31 R := ⟨hin.1, by have := hS.2; omega⟩
  -- R itself is a cut
  have qle : q ≤ ctS K cl := by
    by_cases z : q ≤ ctS K cl
    · exact z
    · exfalso
      have hb2 := (cSub_bt hS hq1.1).mp qs
      have : q = zand q (ctS K cl) := bt_ext hq1.1.1 (zand_le hq1.1 hS).1 (fun i i0 => by rw [bt_and hq1.1 hS]; exact ⟨fun y => ⟨y, hb2 i i0 y⟩, fun y => y.1⟩)
      have h2 : zand (ctS K cl) q ≤ ctS K cl := (zand_le hS hq1.1).2
      have h3 : zand q (ctS K cl) = zand (ctS K cl) q := bt_ext (zand_le hq1.1 hS).1 (zand_le hS hq1.1).1 (fun i i0 => by rw [bt_and hq1.1 hS, bt_and hS hq1.1]; exact And.comm)
      omega
  have hRq : cnt R 10 ≤ cnt q 10 ∧ (cnt R 10 = cnt q 10 → R ≤ q) := by
    by_cases z : q < ctS K cl
    · exact sp.2 q hq1.1.1 (by have := hS.1; omega) qs qd
    · have e : q = ctS K cl := by omega
      have c := cnt_sub (m := R) (S := ctS K cl) 10 (fun i i0 _ => by
        rcases sp.1 with y | ⟨y0, y1, y2, y3⟩
        · rw [y]; exact id
        · exact (cSub_bt hS hR31).mp y2 i i0)
      rw [e]
      exact ⟨c.1, fun _ => hin.2⟩
  have hRd : cSub (ctS K cl) R ∧ dsc K cl a b R := by
    rcases sp.1 with y | ⟨y0, y1, y2, y3⟩
    · rw [y]
      refine ⟨(cSub_bt hS hS).mpr (fun _ _ h => h), ?_⟩
      refine side_dist (sd := zshl 1 a) hK.fr (fun x x0 x1 hx => ?_) (fun t t0 t7 ht => ?_) b b0 b7 (by rw [bt_shl a0 (by omega) b0]; omega)
      · rw [bt_andn hS hS] at hx; exact absurd hx.1 hx.2
      · rw [src_1 a0 a7 t0, if_neg (fun e => ht ((bt_shl a0 (by omega) t0).mpr e))]
    · exact ⟨y2, y3⟩
  obtain ⟨s, s0, s1, s2, s3, s4⟩ := dsc_side (cl := cl) hK a0 a7 b0 b7 hR31 hRd.2
  have hm := hmin s s0 s1 s2 s3
  have hB := btw_31 (cl := cl) (sd := s) hK
  have c := cnt_sub (m := btw K cl s) (S := R) 10 (fun i i0 _ => s4 i i0)
  have e1 : cnt (btw K cl s) 10 = cnt R 10 := by omega
  have e2 : btw K cl s = R := by
    refine bt_ext hB.1.1 hin.1 (fun i i0 => ?_)
    by_cases z : i < 10
    · exact c.2 e1 i i0 z
    · exact ⟨fun y => absurd y (bt10 hB.2 (by omega)), fun y => absurd y (bt10 (by omega) (by omega))⟩
  have h5 := hm.2 (by omega)
  have h6 := hRq.2 (by omega)
  omega
theorem fire_btw {S sd : Int} (hK : KOK K) (hS : z31 S) (hct : ∀ x : Int, 0 ≤ x → x < K 76 → (bt S x ↔ ctc K cl x)) : zand (msk (fun x => decide (¬ (bt sd (frK K x) ↔ bt sd (toK K x)))) (K 76).toNat) S = btw K cl sd := by
  have hn := hK.1
  have h1 := msk_31 (p := fun x => decide (¬ (bt sd (frK K x) ↔ bt sd (toK K x)))) (n := (K 76).toNat) (by omega)
  have hc := ctS_31 (cl := cl) hK
  refine bt_ext (zand_le h1 hS).1 (zand_le h1 hc).1 (fun i i0 => ?_)
  unfold btw
  rw [bt_and h1 hS, bt_and h1 hc, bt_msk i0 (by omega)]
  constructor
  · intro q; exact ⟨q.1, (ctS_bt hK i0 (by omega)).mpr ((hct i i0 (by omega)).mp q.2)⟩
  · intro q; exact ⟨q.1, (hct i i0 (by omega)).mpr ((ctS_bt hK i0 (by omega)).mp q.2)⟩
end CUT
def CutI (K : Int → Int) (cl : List Cla) (a b sd fw lo : Int) : Prop := (fw = 11 ∧ lo = -1 ∧ ∀ s : Int, 0 ≤ s → s < sd → bt s a → bt s b) ∨ ((∃ s0 : Int, bt s0 a ∧ ¬ bt s0 b ∧ lo = btw K cl s0) ∧ fw = cnt lo 10 ∧ ∀ s : Int, 0 ≤ s → s < sd → bt s a → ¬ bt s b → cnt lo 10 ≤ cnt (btw K cl s) 10 ∧ (cnt lo 10 = cnt (btw K cl s) 10 → lo ≤ btw K cl s))
theorem cut_skip {K : Int → Int} {cl : List Cla} {a b sd fw lo : Int} (h : CutI K cl a b sd fw lo) (hn : ¬ (bt sd a ∧ ¬ bt sd b)) : CutI K cl a b (sd + 1) fw lo := by
  rcases h with ⟨h1, h2, h3⟩ | ⟨h1, h2, h3⟩
  · refine Or.inl ⟨h1, h2, fun s s0 s1 sa => ?_⟩
    by_cases e : s = sd
    · subst e; by_cases z : bt s b; exact z; exact absurd ⟨sa, z⟩ hn
    · exact h3 s s0 (by omega) sa
  · refine Or.inr ⟨h1, h2, fun s s0 s1 sa sb => ?_⟩
    by_cases e : s = sd
    · subst e; exact absurd ⟨sa, sb⟩ hn
    · exact h3 s s0 (by omega) sa sb
theorem cut_old {K : Int → Int} {cl : List Cla} {a b sd fw lo : Int} (h : CutI K cl a b sd fw lo) (h10 : cnt (btw K cl sd) 10 ≤ 10) (hn : ¬ (cnt (btw K cl sd) 10 < fw ∨ (cnt (btw K cl sd) 10 = fw ∧ btw K cl sd < lo))) : CutI K cl a b (sd + 1) fw lo := by
  rcases h with ⟨h1, h2, h3⟩ | ⟨h1, h2, h3⟩
  · exfalso; omega
  · refine Or.inr ⟨h1, h2, fun s s0 s1 sa sb => ?_⟩
    by_cases e : s = sd
    · subst e; omega
    · exact h3 s s0 (by omega) sa sb
theorem cut_new {K : Int → Int} {cl : List Cla} {a b sd fw lo : Int} (h : CutI K cl a b sd fw lo) (ha : bt sd a) (hb : ¬ bt sd b) (hn : cnt (btw K cl sd) 10 < fw ∨ (cnt (btw K cl sd) 10 = fw ∧ btw K cl sd < lo)) : CutI K cl a b (sd + 1) (cnt (btw K cl sd) 10) (btw K cl sd) := by
  rcases h with ⟨h1, h2, h3⟩ | ⟨h1, h2, h3⟩
  · refine Or.inr ⟨⟨sd, ha, hb, rfl⟩, rfl, fun s s0 s1 sa sb => ?_⟩
    by_cases e : s = sd
    · subst e; exact ⟨Int.le_refl _, fun _ => Int.le_refl _⟩
    · exact absurd (h3 s s0 (by omega) sa) sb
  · refine Or.inr ⟨⟨sd, ha, hb, rfl⟩, rfl, fun s s0 s1 sa sb => ?_⟩
    by_cases e : s = sd
    · subst e; exact ⟨Int.le_refl _, fun _ => Int.le_refl _⟩
    · have := h3 s s0 (by omega) sa sb
      omega
theorem cut_fin {K : Int → Int} {cl : List Cla} {a b fw lo : Int} (hK : KOK K) (hab : a ≠ b) (a0 : 0 ≤ a) (a7 : a ≤ 7) (b0 : 0 ≤ b) (b7 : b ≤ 7) (h : CutI K cl a b 256 fw lo) : lo = cutN K cl (ctS K cl) a b (ctS K cl).toNat ∧ fw = cnt lo 10 := by
  rcases h with ⟨h1, h2, h3⟩ | ⟨⟨s0, h1, h2, h4⟩, h5, h3⟩
  · exfalso
    have hz := shl_31 (i := a) a0 (by omega)
    have hl : zshl 1 a < 256 := by
      rcases (show a = 0 ∨ a = 1 ∨ a = 2 ∨ a = 3 ∨ a = 4 ∨ a = 5 ∨ a = 6 ∨ a = 7 by omega) with e | e | e | e | e | e | e | e <;> subst e <;> decide
    have := h3 (zshl 1 a) hz.1 hl ((bt_shl a0 (by omega) a0).mpr rfl)
    rw [bt_shl a0 (by omega) b0] at this
    exact hab this.symm
  · exact ⟨cut_eq hK hab a0 a7 b0 b7 s0 h4 h1 h2 (fun s q0 q1 => h3 s q0 (by omega)), h5⟩
set_option maxHeartbeats 4000000 in
set_option maxRecDepth 100000 in
theorem lp_ccut {l : Launch} {E : cE} {d : Nat} {Pz : Option Value → zH → Prop} {h0 : zH} {f0 : mF} {g0 : mA} {j : mA} (hd : 3 ≤ d) {Fr To BX HX K : Int → Int} {S2 : Int} {cl : List Cla} (hK : KOK K) (hT : FiT Fr To BX HX (frK K) (toK K) (brn K cl) (hld K cl) (K 76) S2) (hct : ∀ x : Int, 0 ≤ x → x < K 76 → (bt S2 x ↔ ctc K cl x)) {a b w : Int} (a0 : 0 ≤ a) (a7 : a ≤ 7) (b0 : 0 ≤ b) (b7 : b ≤ 7) (kx : ∀ (fw lo : Int) (o7 o8 : Option Value) (f : mF) (g : mA) (h : zH), CutI K cl a b 256 fw lo → (0 ≤ fw ∧ fw ≤ 11) → (-1 ≤ lo ∧ lo ≤ 1023) → eqx [] f0 f → eqx [] g0 g → HC E f g j h → cAg E h0 h → Z l MX7_cut d 0 0 Pz 143 [some (.ref (E.1 31)), some (vI a), some (vI b), some (vI w), some (vI fw), some (vI lo), some (vI 256), o7, o8] [] h 0 0)  : ∀ (n : Nat) (sd : Int) (fw : Int) (lo : Int) (o7 : Option Value) (o8 : Option Value) (X : Int → Int) (f : mF) (g : mA) (h : zH) (d0 : 0 ≤ sd) (d1 : sd ≤ 256) (d2 : 256 < sd + n) (hC : CutI K cl a b sd fw lo) (fb : 0 ≤ fw ∧ fw ≤ 11) (lb : -1 ≤ lo ∧ lo ≤ 1023) (eg33 : g 33 = Fr) (eg34 : g 34 = To) (eg352 : g 352 = BX) (eg353 : g 353 = HX) (eg355 : g 355 = X) (ef32 : f 32 = (K 76)) (ef354 : f 354 = S2) (hfE : eqx [] f0 f) (hgE : eqx [] g0 g) (hH : HC E f g j h) (hA : cAg E h0 h), Z l MX7_cut d 0 0 Pz 56 [some (.ref (E.1 31)), some (vI a), some (vI b), some (vI w), some (vI fw), some (vI lo), some (vI sd), o7, o8] [] h 0 0 := by
  intro n
  induction n with
  | zero => intro sd fw lo o7 o8 X f g h d0 d1 d2 hC fb lb eg33 eg34 eg352 eg353 eg355 ef32 ef354 hfE hgE hH hA; exfalso; omega
  | succ n ih =>
    intro sd fw lo o7 o8 X f g h d0 d1 d2 hC fb lb eg33 eg34 eg352 eg353 eg355 ef32 ef354 hfE hgE hH hA
    have hn := hK.1
    refine z_ild_6 (TX7_cut_0.at 28 rfl) ?_
    refine z_sipush (by decide) (TX7_cut_0.at 29 rfl) ?_
    refine z_icmp_gt (tgt := 143) (TX7_cut_0.at 30 rfl) rfl (by omega) (by omega) (fun c1 => ?_) (fun c1 => ?_)
    · skip
      obtain rfl : sd = 256 := by omega
      exact kx _ _ _ _ _ _ _ hC fb lb hfE hgE hH hA
    · skip
      have hsd : z31 sd := ⟨by omega, by omega⟩
      have q1 := b2i_01 (bt sd a)
      have q2 := b2i_01 (bt sd b)
      refine z_ild_6 (TX7_cut_0.at 31 rfl) ?_
      refine z_ild_1 (TX7_cut_0.at 32 rfl) ?_
      refine zs_call2 (c_bit hsd (by omega)) (TX7_cut_0.at 33 rfl) c7_128 rfl (by omega) (Nat.le_of_ble_eq_true rfl) (fun r67 => ?_)
      refine z_if_eq (tgt := 137) (TX7_cut_0.at 34 rfl) rfl (by omega) (fun c2 => ?_) (fun c2 => ?_)
      · skip
        refine z_iinc_6 (TX7_cut_1.at 24 rfl) (Nat.le_of_ble_eq_true rfl) rfl ?_
        refine z_goto (tgt := 56) (TX7_cut_1.at 25 rfl) rfl ?_
        exact ih (sd + 1) _ _ _ _ _ _ _ _ (by omega) (by omega) (by omega) (cut_skip hC (fun z => by have y := b2i_t z.1; omega)) fb lb eg33 eg34 eg352 eg353 eg355 ef32 ef354 hfE hgE hH hA
      · skip
        refine z_ild_6 (TX7_cut_0.at 35 rfl) ?_
        refine z_ild_2 (TX7_cut_0.at 36 rfl) ?_
        refine zs_call2 (c_bit hsd (by omega)) (TX7_cut_0.at 37 rfl) c7_128 rfl (by omega) (Nat.le_of_ble_eq_true rfl) (fun r76 => ?_)
        refine z_iconst (TX7_cut_0.at 38 rfl) ?_
        refine z_icmp_ne (tgt := 86) (TX7_cut_0.at 39 rfl) rfl (by omega) (by omega) (fun c3 => ?_) (fun c3 => ?_)
        · skip
          have ha1 : bt sd a := b2y (by omega)
          have hb0 : ¬ bt sd b := b2n (by omega)
          refine z_ald_0 (TX7_cut_1.at 1 rfl) ?_
          refine zc_getO (m := 0) (s := 9) (k := 383) (hH.lv (by decide)) (TX7_cut_1.at 2 rfl) fl7_60 hH rfl rfl (by decide) (by decide) ?_
          refine z_ald_0 (TX7_cut_1.at 3 rfl) ?_
          refine zc_getO (m := 0) (s := 0) (k := 63) (hH.lv (by decide)) (TX7_cut_1.at 4 rfl) fl7_12 hH rfl rfl (by decide) (by decide) ?_
          refine z_ild_6 (TX7_cut_1.at 5 rfl) ?_
          refine zc_callI2 (m := 11) (c_betw (fr := frK K) (to := toK K) eg33 eg34 ef32 ef354 (by omega) hsd hT.1 hn.1 hn.2 (fun i i0 i1 => ⟨(hT.2.2.2.1 i i0 i1).1, (hT.2.2.2.1 i i0 i1).2.1, (hK.2.1 i i0 i1).2.2.1, (hK.2.1 i i0 i1).2.2.2.1⟩)) (hH.lv (by decide)) (TX7_cut_1.at 6 rfl) c7_355 rfl rfl hH hA (by omega) (Nat.le_of_ble_eq_true rfl) (fun x96 f96 g96 j96 h r96 q96 hH hA => ?_)
          obtain ⟨q96, xf, xg, xj⟩ := q96
          rw [xj] at hH
          have ef32 := (xf 32 (by decide)).trans ef32
          have ef354 := (xf 354 (by decide)).trans ef354
          have hfE := hfE.trans xf (by decide)
          have eg33 := (xg 33 (by decide)).trans eg33
          have eg34 := (xg 34 (by decide)).trans eg34
          have eg352 := (xg 352 (by decide)).trans eg352
          have eg353 := (xg 353 (by decide)).trans eg353
          have eg355 := (xg 355 (by decide)).trans eg355
          have hgE := hgE.trans xg (by decide)
          have qL := q96
          rw [fire_btw hK hT.1 hct] at qL
          subst qL
          have hb1 := btw_31 (cl := cl) (sd := sd) hK
          have hb2 := hb1.1.1
          have hb3 := hb1.2
          have hcn := cnt_le (btw K cl sd) 10
          refine z_ist_7 (TX7_cut_1.at 7 rfl) (Nat.le_of_ble_eq_true rfl) rfl ?_
          refine z_ild_7 (TX7_cut_1.at 8 rfl) ?_
          refine zs_call1 (c_bits (by omega) (by omega)) (TX7_cut_1.at 9 rfl) c7_264 rfl (by omega) (Nat.le_of_ble_eq_true rfl) (fun r103 => ?_)
          refine z_ist_8 (TX7_cut_1.at 10 rfl) (Nat.le_of_ble_eq_true rfl) rfl ?_
          refine z_ild_8 (TX7_cut_1.at 11 rfl) ?_
          refine z_ild_4 (TX7_cut_1.at 12 rfl) ?_
          refine z_icmp_lt (tgt := 129) (TX7_cut_1.at 13 rfl) rfl (by omega) (by omega) (fun c4 => ?_) (fun c4 => ?_)
          · skip
            refine z_ild_8 (TX7_cut_1.at 20 rfl) ?_
            refine z_ist_4 (TX7_cut_1.at 21 rfl) (Nat.le_of_ble_eq_true rfl) rfl ?_
            refine z_ild_7 (TX7_cut_1.at 22 rfl) ?_
            refine z_ist_5 (TX7_cut_1.at 23 rfl) (Nat.le_of_ble_eq_true rfl) rfl ?_
            refine z_iinc_6 (TX7_cut_1.at 24 rfl) (Nat.le_of_ble_eq_true rfl) rfl ?_
            refine z_goto (tgt := 56) (TX7_cut_1.at 25 rfl) rfl ?_
            exact ih (sd + 1) _ _ _ _ _ _ _ _ (by omega) (by omega) (by omega) (cut_new hC ha1 hb0 (by omega)) (by omega) (by omega) eg33 eg34 eg352 eg353 eg355 ef32 ef354 hfE hgE hH hA
          · skip
            refine z_ild_8 (TX7_cut_1.at 14 rfl) ?_
            refine z_ild_4 (TX7_cut_1.at 15 rfl) ?_
            refine z_icmp_ne (tgt := 137) (TX7_cut_1.at 16 rfl) rfl (by omega) (by omega) (fun c5 => ?_) (fun c5 => ?_)
            · skip
              refine z_iinc_6 (TX7_cut_1.at 24 rfl) (Nat.le_of_ble_eq_true rfl) rfl ?_
              refine z_goto (tgt := 56) (TX7_cut_1.at 25 rfl) rfl ?_
              exact ih (sd + 1) _ _ _ _ _ _ _ _ (by omega) (by omega) (by omega) (cut_old hC (by omega) (by omega)) (by omega) (by omega) eg33 eg34 eg352 eg353 eg355 ef32 ef354 hfE hgE hH hA
            · skip
              refine z_ild_7 (TX7_cut_1.at 17 rfl) ?_
              refine z_ild_5 (TX7_cut_1.at 18 rfl) ?_
              refine z_icmp_ge (tgt := 137) (TX7_cut_1.at 19 rfl) rfl (by omega) (by omega) (fun c6 => ?_) (fun c6 => ?_)
              · skip
                refine z_iinc_6 (TX7_cut_1.at 24 rfl) (Nat.le_of_ble_eq_true rfl) rfl ?_
                refine z_goto (tgt := 56) (TX7_cut_1.at 25 rfl) rfl ?_
                exact ih (sd + 1) _ _ _ _ _ _ _ _ (by omega) (by omega) (by omega) (cut_old hC (by omega) (by omega)) (by omega) (by omega) eg33 eg34 eg352 eg353 eg355 ef32 ef354 hfE hgE hH hA
              · skip
                refine z_ild_8 (TX7_cut_1.at 20 rfl) ?_
                refine z_ist_4 (TX7_cut_1.at 21 rfl) (Nat.le_of_ble_eq_true rfl) rfl ?_
                refine z_ild_7 (TX7_cut_1.at 22 rfl) ?_
                refine z_ist_5 (TX7_cut_1.at 23 rfl) (Nat.le_of_ble_eq_true rfl) rfl ?_
                refine z_iinc_6 (TX7_cut_1.at 24 rfl) (Nat.le_of_ble_eq_true rfl) rfl ?_
                refine z_goto (tgt := 56) (TX7_cut_1.at 25 rfl) rfl ?_
                exact ih (sd + 1) _ _ _ _ _ _ _ _ (by omega) (by omega) (by omega) (cut_new hC ha1 hb0 (by omega)) (by omega) (by omega) eg33 eg34 eg352 eg353 eg355 ef32 ef354 hfE hgE hH hA
        · skip
          refine z_goto (tgt := 137) (TX7_cut_1.at 0 rfl) rfl ?_
          refine z_iinc_6 (TX7_cut_1.at 24 rfl) (Nat.le_of_ble_eq_true rfl) rfl ?_
          refine z_goto (tgt := 56) (TX7_cut_1.at 25 rfl) rfl ?_
          exact ih (sd + 1) _ _ _ _ _ _ _ _ (by omega) (by omega) (by omega) (cut_skip hC (fun z => by have y := b2i_f z.2; omega)) fb lb eg33 eg34 eg352 eg353 eg355 ef32 ef354 hfE hgE hH hA

set_option maxHeartbeats 4000000 in
set_option maxRecDepth 100000 in
theorem c_cut {l : Launch} {E : cE} {f : mF} {g j : mA} {Fr : Int → Int} {To : Int → Int} {Ln : Int → Int} {Kd : Int → Int} {Tm : Int → Int} {Lw : Int → Int} {dp : Int} {S : Int} {a b w : Int} {K : Int → Int} {cl : List Cla} (eg33 : g 33 = Fr) (eg34 : g 34 = To) (eg35 : g 35 = Ln) (eg36 : g 36 = Kd) (eg44 : g 44 = Tm) (eg46 : g 46 = Lw) (ef32 : f 32 = (K 76)) (ef37 : f 37 = dp) (ef354 : f 354 = S) (ef45 : f 45 = (K 79)) (ef47 : f 47 = (K 80)) (ha : zIn a) (hb : zIn b) (hw : zIn w) (hL : LwN E f g (if 0 ≤ K 80 ∧ K 80 < K 79 then Lw (K 80) else -1) cl) (hK : KOK K) (hP : FrA Fr To Ln Kd dp K) (hS : z31 S) (t0 : Tm 0 = K 28) (t2 : Tm 2 = K 75) : CM l E MX7_cut 7 [.ref (E.1 31), vI a, vI b, vI w] f g j (PI (fun r f' g' j' => (r = cutV K cl a b w) ∧ eqx [354] f f' ∧ eqx [352, 353, 355, 356, 384] g g' ∧ j' = j)) := by
  refine CM.intro [some (.ref (E.1 31)), some (vI a), some (vI b), some (vI w), none, none, none, none, none] (by decide) (Nat.le_of_ble_eq_true rfl) rfl (fun d hd h0 h hH hA => ?_)
  have hfE : eqx [354] f f := eqx.rf
  have hgE : eqx [352, 353, 355, 356, 384] g g := eqx.rf
  have h79 := hK.2.2.2.2.2.2.2.2.2.2.1
  have hn := hK.1
  refine z_ild_1 (TX7_cut_0.at 0 rfl) ?_
  refine zs_call1 (c_isKnot (by omega)) (TX7_cut_0.at 1 rfl) c7_157 rfl (by omega) (Nat.le_of_ble_eq_true rfl) (fun r1 => ?_)
  refine z_if_eqB (tgt := 26) (TX7_cut_0.at 2 rfl) rfl (fun c1 => ?_) (fun c1 => ?_)
  · skip
    refine z_iconst (TX7_cut_0.at 12 rfl) ?_
    refine zc_iret (TX7_cut_0.at 13 rfl) rfl hH hA (by omega) ?_
    exact ⟨by unfold cutV; rw [if_neg (by omega)], hfE, hgE, rfl⟩
  · skip
    refine z_ild_2 (TX7_cut_0.at 3 rfl) ?_
    refine zs_call1 (c_isKnot (by omega)) (TX7_cut_0.at 4 rfl) c7_157 rfl (by omega) (Nat.le_of_ble_eq_true rfl) (fun r8 => ?_)
    refine z_if_eqB (tgt := 26) (TX7_cut_0.at 5 rfl) rfl (fun c2 => ?_) (fun c2 => ?_)
    · skip
      refine z_iconst (TX7_cut_0.at 12 rfl) ?_
      refine zc_iret (TX7_cut_0.at 13 rfl) rfl hH hA (by omega) ?_
      exact ⟨by unfold cutV; rw [if_neg (by omega)], hfE, hgE, rfl⟩
    · skip
      refine z_ild_1 (TX7_cut_0.at 6 rfl) ?_
      refine z_ild_2 (TX7_cut_0.at 7 rfl) ?_
      refine z_icmp_eq (tgt := 26) (TX7_cut_0.at 8 rfl) rfl (by omega) (by omega) (fun c3 => ?_) (fun c3 => ?_)
      · skip
        refine z_iconst (TX7_cut_0.at 12 rfl) ?_
        refine zc_iret (TX7_cut_0.at 13 rfl) rfl hH hA (by omega) ?_
        exact ⟨by unfold cutV; rw [if_neg (by omega)], hfE, hgE, rfl⟩
      · skip
        refine z_ild_3 (TX7_cut_0.at 9 rfl) ?_
        refine zs_call1 (c_isPair (by omega)) (TX7_cut_0.at 10 rfl) c7_321 rfl (by omega) (Nat.le_of_ble_eq_true rfl) (fun r20 => ?_)
        refine z_if_neB (tgt := 28) (TX7_cut_0.at 11 rfl) rfl (fun c4 => ?_) (fun c4 => ?_)
        · skip
          refine z_ald_0 (TX7_cut_0.at 14 rfl) ?_
          refine zc_getO (m := 0) (s := 9) (k := 383) (hH.lv (by decide)) (TX7_cut_0.at 15 rfl) fl7_60 hH rfl rfl (by decide) (by decide) ?_
          refine z_ald_0 (TX7_cut_0.at 16 rfl) ?_
          refine zc_getO (m := 0) (s := 0) (k := 63) (hH.lv (by decide)) (TX7_cut_0.at 17 rfl) fl7_12 hH rfl rfl (by decide) (by decide) ?_
          refine z_ald_0 (TX7_cut_0.at 18 rfl) ?_
          refine zc_getO (m := 0) (s := 0) (k := 63) (hH.lv (by decide)) (TX7_cut_0.at 19 rfl) fl7_12 hH rfl rfl (by decide) (by decide) ?_
          refine zc_callO (m := 1) (As := []) (c_lawIn1 eg46 ef45 ef47 h79.1 h79.2) (hH.lv (by decide)) (TX7_cut_0.at 20 rfl) c7_135 rfl rfl hH hA (by omega) (Nat.le_of_ble_eq_true rfl) (fun y40 f40 g40 j40 h q40 hH hA => ?_)
          obtain ⟨q40, xf, xg, xj⟩ := q40
          rw [xj] at hH
          have ef32 := (xf 32 (by decide)).trans ef32
          have ef37 := (xf 37 (by decide)).trans ef37
          have ef354 := (xf 354 (by decide)).trans ef354
          have ef45 := (xf 45 (by decide)).trans ef45
          have ef47 := (xf 47 (by decide)).trans ef47
          have hfE := hfE.trans xf (by decide)
          have eg33 := (xg 33 (by decide)).trans eg33
          have eg34 := (xg 34 (by decide)).trans eg34
          have eg35 := (xg 35 (by decide)).trans eg35
          have eg36 := (xg 36 (by decide)).trans eg36
          have eg44 := (xg 44 (by decide)).trans eg44
          have eg46 := (xg 46 (by decide)).trans eg46
          have hgE := hgE.trans xg (by decide)
          have qL := q40
          have hL := LwN_cg hL xf xg
          rw [← qL] at hL
          refine zc_callV2 (m := 11) (c_measY1 eg33 eg34 eg35 eg36 eg44 ef32 ef37 ef354 hL hK hP hS t0 t2) (hH.lv (by decide)) (TX7_cut_0.at 21 rfl) c7_139 rfl rfl hH hA (by omega) (Nat.le_of_ble_eq_true rfl) (fun f43 g43 j43 h q43 hH hA => ?_)
          obtain ⟨q43, xf, xg, xj⟩ := q43
          rw [xj] at hH
          have ef32 := (xf 32 (by decide)).trans ef32
          have ef37 := (xf 37 (by decide)).trans ef37
          have ef45 := (xf 45 (by decide)).trans ef45
          have ef47 := (xf 47 (by decide)).trans ef47
          have hfE := hfE.trans xf (by decide)
          have eg33 := (xg 33 (by decide)).trans eg33
          have eg34 := (xg 34 (by decide)).trans eg34
          have eg35 := (xg 35 (by decide)).trans eg35
          have eg36 := (xg 36 (by decide)).trans eg36
          have eg44 := (xg 44 (by decide)).trans eg44
          have eg46 := (xg 46 (by decide)).trans eg46
          have hgE := hgE.trans xg (by decide)
          have qL := q43
          obtain ⟨hT, hct⟩ := qL
          obtain ⟨BX, eg352⟩ : ∃ z, g43 352 = z := ⟨_, rfl⟩
          obtain ⟨HX, eg353⟩ : ∃ z, g43 353 = z := ⟨_, rfl⟩
          obtain ⟨S2, ef354⟩ : ∃ z, f43 354 = z := ⟨_, rfl⟩
          rw [eg352, eg353, ef354] at hT
          rw [ef354] at hct
          refine z_bipush (by decide) (TX7_cut_0.at 22 rfl) ?_
          refine z_ist_4 (TX7_cut_0.at 23 rfl) (Nat.le_of_ble_eq_true rfl) rfl ?_
          refine z_iconst (TX7_cut_0.at 24 rfl) ?_
          refine z_ist_5 (TX7_cut_0.at 25 rfl) (Nat.le_of_ble_eq_true rfl) rfl ?_
          refine z_iconst (TX7_cut_0.at 26 rfl) ?_
          refine z_ist_6 (TX7_cut_0.at 27 rfl) (Nat.le_of_ble_eq_true rfl) rfl ?_
          refine lp_ccut (by omega) hK hT hct (w := w) (by omega) (by omega) (by omega) (by omega) (fun fw lo o7 o8 f56 g56 h hC fb lb xf xg hH hA => ?_) 257 0 11 (-1) none none _ _ _ _ (by omega) (by omega) (by omega) (Or.inl ⟨rfl, rfl, fun s s0 s1 => by omega⟩) (by omega) (by omega) eg33 eg34 eg352 eg353 rfl  ef32 ef354  eqx.rf eqx.rf hH hA
          have ef32 := (xf 32 (by decide)).trans ef32
          have ef37 := (xf 37 (by decide)).trans ef37
          have ef354 := (xf 354 (by decide)).trans ef354
          have ef45 := (xf 45 (by decide)).trans ef45
          have ef47 := (xf 47 (by decide)).trans ef47
          have hfE := hfE.trans xf (by decide)
          have eg33 := (xg 33 (by decide)).trans eg33
          have eg34 := (xg 34 (by decide)).trans eg34
          have eg35 := (xg 35 (by decide)).trans eg35
          have eg36 := (xg 36 (by decide)).trans eg36
          have eg44 := (xg 44 (by decide)).trans eg44
          have eg46 := (xg 46 (by decide)).trans eg46
          have eg352 := (xg 352 (by decide)).trans eg352
          have eg353 := (xg 353 (by decide)).trans eg353
          have hgE := hgE.trans xg (by decide)
          have hcf := cut_fin hK (by omega) (by omega) (by omega) (by omega) (by omega) hC
          refine z_ild_3 (TX7_cut_1.at 26 rfl) ?_
          refine z_if_ne (tgt := 152) (TX7_cut_1.at 27 rfl) rfl (by omega) (fun c5 => ?_) (fun c5 => ?_)
          · skip
            refine z_ild_5 (TX7_cut_1.at 30 rfl) ?_
            refine zc_iret (TX7_cut_1.at 31 rfl) rfl hH hA (by omega) ?_
            exact ⟨by unfold cutV; rw [if_pos (by omega), ← hcf.1, ← hcf.2]; split <;> omega, hfE, hgE, rfl⟩
          · skip
            refine z_ild_4 (TX7_cut_1.at 28 rfl) ?_
            refine z_goto (tgt := 154) (TX7_cut_1.at 29 rfl) rfl ?_
            refine zc_iret (TX7_cut_1.at 31 rfl) rfl hH hA (by omega) ?_
            exact ⟨by unfold cutV; rw [if_pos (by omega), ← hcf.1, ← hcf.2]; split <;> omega, hfE, hgE, rfl⟩
        · skip
          refine z_iconst (TX7_cut_0.at 12 rfl) ?_
          refine zc_iret (TX7_cut_0.at 13 rfl) rfl hH hA (by omega) ?_
          exact ⟨by unfold cutV; rw [if_neg (by omega)], hfE, hgE, rfl⟩

