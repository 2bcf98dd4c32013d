/-! ===== times and fires by matches ===== -/
def msk (p : Int → Bool) : Nat → Int
  | 0 => 0
  | n + 1 => zor (msk p n) (if p n = true then zshl 1 n else 0)
theorem msk_in {p : Int → Bool} : ∀ {n : Nat}, n ≤ 30 → 0 ≤ msk p n ∧ msk p n < (2 ^ n : Nat) := by
  intro n
  induction n with
  | zero => intro _; exact ⟨Int.le_refl 0, show (0 : Int) < ((2 ^ 0 : Nat) : Int) by decide⟩
  | succ n ih =>
    intro hn
    obtain ⟨h0, h1⟩ := ih (by omega)
    have h2 : (2 ^ n : Nat) ≤ 2 ^ 29 := Nat.pow_le_pow_right (by decide) (by omega)
    have h3 : (2 ^ (n + 1) : Nat) = 2 * 2 ^ n := by rw [Nat.pow_succ]; omega
    have h4 : (2 ^ 29 : Nat) = 536870912 := by decide
    have h5 : 0 < (2 ^ n : Nat) := Nat.pow_pos (by decide)
    have hs : z31 (msk p n) := ⟨h0, by omega⟩
    have e : zshl 1 (n : Int) = ((2 ^ n : Nat) : Int) := by
      have := zshl_one (k := (n : Int)) (by omega) (by omega)
      rw [this]; rfl
    have ht : z31 (if p n = true then zshl 1 n else 0) ∧ (if p n = true then zshl 1 (n : Int) else 0) < (2 ^ (n + 1) : Nat) := by
      split
      · rw [e]; exact ⟨⟨by omega, by omega⟩, by omega⟩
      · exact ⟨⟨by omega, by omega⟩, by omega⟩
    exact ⟨(zor_31 hs ht.1).1, zor_lt hs ht.1 (by omega) ht.2⟩
theorem msk_31 {p : Int → Bool} {n : Nat} (hn : n ≤ 30) : z31 (msk p n) := by
  have h := msk_in (p := p) hn
  have h2 : (2 ^ n : Nat) ≤ 2 ^ 30 := Nat.pow_le_pow_right (by decide) (by omega)
  have h4 : (2 ^ 30 : Nat) = 1073741824 := by decide
  exact ⟨h.1, by omega⟩
theorem bt_msk {p : Int → Bool} {k : Int} (hk : 0 ≤ k) : ∀ {n : Nat}, n ≤ 30 → (bt (msk p n) k ↔ k < n ∧ p k = true) := by
  intro n
  induction n with
  | zero => intro _; exact ⟨fun h => absurd h (bt_zero k), fun h => by omega⟩
  | succ n ih =>
    intro hn
    have hs := msk_31 (p := p) (n := n) (by omega)
    have i1 := ih (by omega)
    by_cases hp : p n = true
    · have e : msk p (n + 1) = zor (msk p n) (zshl 1 n) := by show zor _ (if p n = true then zshl 1 n else 0) = _; rw [if_pos hp]
      have ht : z31 (zshl 1 (n : Int)) := by
        rw [zshl_one (k := (n : Int)) (by omega) (by omega)]
        have h2 : (2 ^ (n : Int).toNat : Nat) ≤ 2 ^ 29 := Nat.pow_le_pow_right (by decide) (by omega)
        have h4 : (2 ^ 29 : Nat) = 536870912 := by decide
        exact ⟨Int.natCast_nonneg _, by omega⟩
      rw [e, bt_or hs ht, bt_shl (by omega) (by omega) hk, i1]
      constructor
      · rintro (⟨h1, h2⟩ | h1)
        · exact ⟨by omega, h2⟩
        · exact ⟨by omega, by rw [h1]; exact hp⟩
      · rintro ⟨h1, h2⟩
        by_cases hkn : k = n
        · exact Or.inr hkn
        · exact Or.inl ⟨by omega, h2⟩
    · have e : msk p (n + 1) = zor (msk p n) 0 := by show zor _ (if p n = true then zshl 1 n else 0) = _; rw [if_neg hp]
      rw [e, bt_or hs (by decide), i1]
      constructor
      · rintro (⟨h1, h2⟩ | h1)
        · exact ⟨by omega, h2⟩
        · exact absurd h1 (bt_zero k)
      · rintro ⟨h1, h2⟩
        by_cases hkn : k = n
        · rw [hkn] at h2; exact absurd h2 hp
        · exact Or.inl ⟨by omega, h2⟩
