/-! ===== a law that was laid down is a law that is asked ===== -/
theorem vT_0 {U : Int → Int} {z : Int} (z0 : 0 ≤ z) (i : Nat) : 0 ≤ vT U z i := by
  unfold vT
  by_cases h : (i : Int) < tN U z
  · rw [if_pos h]
    unfold valT
    by_cases hd : dgB (U (tP U z i)) = true
    · rw [if_pos hd]
      by_cases he : tP U z i ≤ endT U z (tP U z i)
      · have hq : 0 ≤ tP U z i ∧ tP U z i < z := (tkN_in (U := U) z0 400).2.2.2 i (by omega) h
        exact (numN_in _ (fun j j0 j1 => dig_all (z := z) hq.2 hd j0 (by omega))).1
      · rw [show (endT U z (tP U z i) - tP U z i).toNat = 0 by omega]
        exact Int.le_refl 0
    · rw [if_neg hd]; exact Int.le_refl 0
  · rw [if_neg h]; exact Int.le_refl 0
theorem txtS_g {lw : Bool} {U : Int → Int} {z : Int} {cl : List Cla} (z0 : 0 ≤ z) (h : txtS lw U z = .ok cl) : ∀ k ∈ cl, ClG lw k := text_g (fun i _ => vT_0 z0 i) _ _ _ _ h
theorem LwN_new {E' : cE} {f' : mF} {g' : mA} {m : Nat} {U : Int → Int} {z : Int} {cl : List Cla} (z0 : 0 ≤ z) (hx : txtS true U z = .ok cl) (m16 : 16 ≤ m) (hm : E'.2.1 m = true) (h0 : f' (32 * m) = (cl.length : Int)) (h1 : 0 ≤ f' (32 * m + 1) ∧ f' (32 * m + 1) ≤ 400) (hR : RdR true (g' (32 * m + 3)) (g' (32 * m + 4)) (g' (32 * m + 5)) (g' (32 * m + 6)) (g' (32 * m + 7)) (g' (32 * m + 8)) (f' (32 * m + 1)) (f' (32 * m + 2)) cl) (hL : ∀ s, 3 ≤ s → s ≤ 7 → E'.2.2 (32 * m + s) = cl.length) (h8 : (E'.2.2 (32 * m + 8) : Int) = f' (32 * m + 1)) : LwN E' f' g' (m : Int) cl := by
  have hl : cl.length ≤ 12 := ptext_len _ _ _ _ hx
  have a3 := hL 3 (by omega) (by omega)
  have a5 := hL 5 (by omega) (by omega)
  have a7 := hL 7 (by omega) (by omega)
  exact Or.inr ⟨m, rfl, hm, cls16 m16, m16, by omega, h1.2, by omega, by omega, by omega, by omega, hR.scl (txtS_g z0 hx) h1.2, h0⟩
