/-! ===== sets as bits ===== -/
abbrev bt (s k : Int) : Prop := s.toNat.testBit k.toNat = true
abbrev z31 (x : Int) : Prop := 0 ≤ x ∧ x ≤ 2147483647
theorem zb_nat {x : Int} (h : z31 x) : (Int32.ofInt x).toBitVec = BitVec.ofNat 32 x.toNat := by
  obtain ⟨n, rfl⟩ : ∃ n : Nat, x = (n : Int) := ⟨x.toNat, by omega⟩
  rw [Int32.ofInt_eq_ofNat]
  simp
theorem zb_toInt {w : Int32} {n : Nat} (h : w.toBitVec.toNat = n) (hn : n < 2147483648) : w.toInt = (n : Int) := by
  show w.toBitVec.toInt = _
  rw [BitVec.toInt_eq_toNat_of_lt (by omega), h]
theorem zand_nat {s t : Int} (hs : z31 s) (ht : z31 t) : zand s t = ((s.toNat &&& t.toNat : Nat) : Int) := by
  unfold zand
  refine zb_toInt ?_ (Nat.lt_of_le_of_lt Nat.and_le_left (by omega))
  rw [Int32.toBitVec_and, zb_nat hs, zb_nat ht, BitVec.toNat_and, BitVec.toNat_ofNat, BitVec.toNat_ofNat, Nat.mod_eq_of_lt (by omega), Nat.mod_eq_of_lt (by omega)]
theorem zor_nat {s t : Int} (hs : z31 s) (ht : z31 t) : zor s t = ((s.toNat ||| t.toNat : Nat) : Int) := by
  unfold zor
  have hlt : s.toNat ||| t.toNat < 2 ^ 31 := Nat.or_lt_two_pow (by omega) (by omega)
  refine zb_toInt ?_ (by omega)
  rw [Int32.toBitVec_or, zb_nat hs, zb_nat ht, BitVec.toNat_or, BitVec.toNat_ofNat, BitVec.toNat_ofNat, Nat.mod_eq_of_lt (by omega), Nat.mod_eq_of_lt (by omega)]
theorem zxor_nat {s t : Int} (hs : z31 s) (ht : z31 t) : zxor s t = ((s.toNat ^^^ t.toNat : Nat) : Int) := by
  unfold zxor
  have hlt : s.toNat ^^^ t.toNat < 2 ^ 31 := Nat.xor_lt_two_pow (by omega) (by omega)
  refine zb_toInt ?_ (by omega)
  rw [Int32.toBitVec_xor, zb_nat hs, zb_nat ht, BitVec.toNat_xor, BitVec.toNat_ofNat, BitVec.toNat_ofNat, Nat.mod_eq_of_lt (by omega), Nat.mod_eq_of_lt (by omega)]
theorem zk_31 {k : Int} (h0 : 0 ≤ k) (h1 : k ≤ 31) : ((Int32.ofInt k &&& 31).toBitVec.smod 32#32).toNat = k.toNat := by
  obtain ⟨n, rfl⟩ : ∃ n : Nat, k = (n : Int) := ⟨k.toNat, by omega⟩
  have hn : n < 32 := by omega
  have key : ∀ m : Fin 32, ((Int32.ofInt ((m : Nat) : Int) &&& 31).toBitVec.smod 32#32).toNat = (m : Nat) := by decide
  exact key ⟨n, hn⟩
theorem zshr_nat {s k : Int} (hs : z31 s) (h0 : 0 ≤ k) (h1 : k ≤ 31) : zshr s k = ((s.toNat >>> k.toNat : Nat) : Int) := by
  unfold zshr
  have h := pk_shr (Int32.ofInt s) (Int32.ofInt k &&& 31) k.toNat (zk_31 h0 h1)
  rw [h, zI_toInt (by omega), show s = ((s.toNat : Nat) : Int) by omega]
  rfl
theorem zshl_one {k : Int} (h0 : 0 ≤ k) (h1 : k ≤ 30) : zshl 1 k = ((2 ^ k.toNat : Nat) : Int) := by
  obtain ⟨n, rfl⟩ : ∃ n : Nat, k = (n : Int) := ⟨k.toNat, by omega⟩
  have hn : n < 31 := by omega
  have key : ∀ m : Fin 31, zshl 1 ((m : Nat) : Int) = ((2 ^ (m : Nat) : Nat) : Int) := by decide
  exact key ⟨n, hn⟩
theorem z_bit {s k : Int} (hs : z31 s) (h0 : 0 ≤ k) (h1 : k ≤ 31) : zand (zshr s k) 1 = b2i (bt s k) := by
  have hle : s.toNat >>> k.toNat ≤ s.toNat := Nat.shiftRight_le _ _
  have hp : ∀ m : Nat, m ≤ s.toNat → z31 (m : Int) := fun m hm => ⟨by omega, by omega⟩
  rw [zshr_nat hs h0 h1, zand_nat (hp _ hle) (by decide)]
  show (((s.toNat >>> k.toNat) &&& 1 : Nat) : Int) = _
  have e : (s.toNat >>> k.toNat) &&& 1 = (s.toNat.testBit k.toNat).toNat := by rw [Nat.testBit, Nat.and_comm]; rcases Nat.mod_two_eq_zero_or_one (s.toNat >>> k.toNat) with h | h <;> simp [Nat.one_and_eq_mod_two, h]
  rw [e]
  by_cases hb : bt s k
  · rw [b2i_t hb, show s.toNat.testBit k.toNat = true from hb]; rfl
  · rw [b2i_f hb, show s.toNat.testBit k.toNat = false from Bool.eq_false_iff.mpr hb]; rfl
theorem bt_or {s t k : Int} (hs : z31 s) (ht : z31 t) : bt (zor s t) k ↔ bt s k ∨ bt t k := by
  rw [zor_nat hs ht]; simp [bt, Nat.testBit_or]
theorem bt_and {s t k : Int} (hs : z31 s) (ht : z31 t) : bt (zand s t) k ↔ bt s k ∧ bt t k := by
  rw [zand_nat hs ht]; simp [bt, Nat.testBit_and]
theorem bt_shl {i k : Int} (h0 : 0 ≤ i) (h1 : i ≤ 30) (hk : 0 ≤ k) : bt (zshl 1 i) k ↔ k = i := by
  rw [zshl_one h0 h1]
  simp only [bt, Int.toNat_natCast, Nat.testBit_two_pow, decide_eq_true_eq]
  omega
theorem zor_31 {s t : Int} (hs : z31 s) (ht : z31 t) : z31 (zor s t) := by
  have hlt : s.toNat ||| t.toNat < 2 ^ 31 := Nat.or_lt_two_pow (by omega) (by omega)
  rw [zor_nat hs ht]; omega
theorem zor_lt {s t : Int} {n : Nat} (hs : z31 s) (ht : z31 t) (h1 : s < (2 ^ n : Nat)) (h2 : t < (2 ^ n : Nat)) : zor s t < (2 ^ n : Nat) := by
  have hlt : s.toNat ||| t.toNat < 2 ^ n := Nat.or_lt_two_pow (by omega) (by omega)
  rw [zor_nat hs ht]; omega
theorem zandn_nat {s t : Int} (hs : z31 s) (ht : z31 t) : ∃ n : Nat, zand s (zxor t (-1)) = (n : Int) ∧ n ≤ s.toNat ∧ ∀ i, n.testBit i = (s.toNat.testBit i && !t.toNat.testBit i) := by
  have e : (Int32.ofInt s &&& Int32.ofInt (zxor t (-1))).toBitVec = BitVec.ofNat 32 s.toNat &&& ~~~ (BitVec.ofNat 32 t.toNat) := by
    unfold zxor
    rw [Int32.ofInt_toInt, Int32.toBitVec_and, Int32.toBitVec_xor, zb_nat hs, zb_nat ht]
    congr 1
    rw [show (Int32.ofInt (-1)).toBitVec = BitVec.allOnes 32 by decide, BitVec.xor_allOnes]
  refine ⟨(BitVec.ofNat 32 s.toNat &&& ~~~ (BitVec.ofNat 32 t.toNat)).toNat, ?_, ?_, ?_⟩
  · refine zb_toInt (by rw [e]) ?_
    rw [BitVec.toNat_and]
    refine Nat.lt_of_le_of_lt Nat.and_le_left ?_
    rw [BitVec.toNat_ofNat, Nat.mod_eq_of_lt (by omega)]
    omega
  · rw [BitVec.toNat_and]
    refine Nat.le_trans Nat.and_le_left ?_
    rw [BitVec.toNat_ofNat]
    exact Nat.mod_le _ _
  · intro i
    by_cases hi : i < 32
    · rw [BitVec.testBit_toNat, BitVec.getLsbD_and, BitVec.getLsbD_not, BitVec.getLsbD_ofNat, BitVec.getLsbD_ofNat]
      simp [hi]
    · have h1 : s.toNat.testBit i = false := Nat.testBit_lt_two_pow (Nat.lt_of_lt_of_le (show s.toNat < 2 ^ 32 by omega) (Nat.pow_le_pow_right (by decide) (by omega)))
      rw [BitVec.testBit_toNat, BitVec.getLsbD_and, BitVec.getLsbD_ofNat]
      simp [hi, h1]
theorem bt_andn {s t k : Int} (hs : z31 s) (ht : z31 t) : bt (zand s (zxor t (-1))) k ↔ bt s k ∧ ¬ bt t k := by
  obtain ⟨n, e, -, h⟩ := zandn_nat hs ht
  rw [e]
  simp [bt, h]
theorem zandn_le {s t : Int} (hs : z31 s) (ht : z31 t) : 0 ≤ zand s (zxor t (-1)) ∧ zand s (zxor t (-1)) ≤ s := by
  obtain ⟨n, e, h, -⟩ := zandn_nat hs ht
  rw [e]
  omega
theorem zand_le {s t : Int} (hs : z31 s) (ht : z31 t) : 0 ≤ zand s t ∧ zand s t ≤ s := by
  have : s.toNat &&& t.toNat ≤ s.toNat := Nat.and_le_left
  rw [zand_nat hs ht]
  omega
theorem bt_lt {s k : Int} {n : Nat} (h1 : s < (2 ^ n : Nat)) (hk : (n : Int) ≤ k) : ¬ bt s k := by
  intro h
  have : s.toNat.testBit k.toNat = false := Nat.testBit_lt_two_pow (Nat.lt_of_lt_of_le (show s.toNat < 2 ^ n by have := Nat.two_pow_pos n; omega) (Nat.pow_le_pow_right (by decide) (by omega)))
  simp [bt, this] at h
theorem bt_zero (k : Int) : ¬ bt 0 k := by simp [bt]
theorem bt_ext {s t : Int} (hs : 0 ≤ s) (ht : 0 ≤ t) (h : ∀ k : Int, 0 ≤ k → (bt s k ↔ bt t k)) : s = t := by
  have : s.toNat = t.toNat := by
    apply Nat.eq_of_testBit_eq
    intro i
    have := h (i : Int) (by omega)
    simp only [bt, Int.toNat_natCast] at this
    cases h1 : s.toNat.testBit i <;> cases h2 : t.toNat.testBit i <;> simp_all
  omega
/-- how many of the first n bits are set -/
def cnt (s : Int) : Nat → Int
  | 0 => 0
  | n + 1 => cnt s n + b2i (bt s n)
theorem cnt_le (s : Int) : ∀ n : Nat, 0 ≤ cnt s n ∧ cnt s n ≤ n := by
  intro n
  induction n with
  | zero => simp [cnt]
  | succ n ih => have := b2i_01 (bt s n); simp only [cnt]; omega
theorem zrem_nat {x y : Int} (hx : z31 x) (hy : z31 y) (h0 : 0 < y) : zrem x y = x % y := by
  obtain ⟨n, rfl⟩ : ∃ n : Nat, x = (n : Int) := ⟨x.toNat, by omega⟩
  obtain ⟨m, rfl⟩ : ∃ m : Nat, y = (m : Int) := ⟨y.toNat, by omega⟩
  unfold zrem
  rw [Int32.ofInt_eq_ofNat, Int32.ofInt_eq_ofNat]
  have h := pk_rem (a := n) (d := m) (by omega) (by omega) (by omega)
  unfold nI at h
  rw [h]
  have hlt : n % m < m := Nat.mod_lt _ (by omega)
  have h2 := nI_toInt (n := n % m) (by omega)
  unfold nI at h2
  rw [h2]
  omega
theorem zdiv_nat {x y : Int} (hx : z31 x) (hy : z31 y) (h0 : 0 < y) : zdiv x y = x / y := by
  obtain ⟨n, rfl⟩ : ∃ n : Nat, x = (n : Int) := ⟨x.toNat, by omega⟩
  obtain ⟨m, rfl⟩ : ∃ m : Nat, y = (m : Int) := ⟨y.toNat, by omega⟩
  unfold zdiv
  rw [Int32.ofInt_eq_ofNat, Int32.ofInt_eq_ofNat]
  have h := pk_div (a := n) (d := m) (by omega) (by omega) (by omega)
  unfold nI at h
  rw [h]
  have hle : n / m ≤ n := Nat.div_le_self _ _
  have h2 := nI_toInt (n := n / m) (by omega)
  unfold nI at h2
  rw [h2]
  omega
