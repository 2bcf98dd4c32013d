/-! ===== the class: a frame is measured by any law or none ===== -/
/-- the node y (-1: none) is a script that pictures the clauses cl -/
def LwN (E : cE) (f : mF) (g : mA) (y : Int) (cl : List Cla) : Prop := (y = -1 ∧ cl = []) ∨ ∃ m : Nat, y = (m : Int) ∧ E.2.1 m = true ∧ cCls m = 4 ∧ 16 ≤ m ∧ f (32 * m + 1) ≤ E.2.2 (32 * m + 8) ∧ f (32 * m + 1) ≤ 400 ∧ (cl.length : Int) ≤ E.2.2 (32 * m + 3) ∧ (cl.length : Int) ≤ E.2.2 (32 * m + 5) ∧ (cl.length : Int) ≤ E.2.2 (32 * m + 7) ∧ (cl.length : Int) ≤ 12 ∧ ScL (g (32 * m + 3)) (g (32 * m + 5)) (g (32 * m + 7)) (g (32 * m + 8)) (f (32 * m + 1)) 0 cl ∧ f (32 * m + 0) = (cl.length : Int)
theorem crf_n {E : cE} {m : Nat} : crf E (m : Int) = some (E.1 (32 * m + 31)) := by
  unfold crf
  rw [if_neg (by omega), Int.toNat_natCast]
theorem c_measY1 {l : Launch} {E : cE} {f : mF} {g j : mA} {Fr To Ln Kd Tm K : Int → Int} {dp S y : Int} {cl : List Cla} (eg33 : g 33 = Fr) (eg34 : g 34 = To) (eg35 : g 35 = Ln) (eg36 : g 36 = Kd) (eg44 : g 44 = Tm) (ef32 : f 32 = K 76) (ef37 : f 37 = dp) (ef354 : f 354 = S) (hL : LwN E f g y cl) (hK : KOK K) (hP : FrA Fr To Ln Kd dp K) (hS : z31 S) (t0 : Tm 0 = K 28) (t2 : Tm 2 = K 75) : CM l E MX0_measure 5 [.ref (E.1 383), .ref (E.1 63), va_rf (crf E y)] f g j (PV (fun f' g' j' => (FiT Fr To (g' 352) (g' 353) (frK K) (toK K) (brn K cl) (hld K cl) (K 76) (f' 354) ∧ ∀ x : Int, 0 ≤ x → x < K 76 → (bt (f' 354) x ↔ ctc K cl x)) ∧ eqx [354] f f' ∧ eqx [352, 353, 356, 384] g g' ∧ j' = j)) := by
  rcases hL with ⟨rfl, rfl⟩ | ⟨m, rfl, h1, h2, h3, h4, h5, h6, h7, h8, h9, h10, h11⟩
  · exact c_measN1 eg33 eg34 eg35 eg36 eg44 rfl ef32 ef37 ef354 hK hP hS t0 t2
  · rw [crf_n]
    exact c_meas1 eg33 eg34 eg35 eg36 eg44 rfl rfl rfl rfl rfl ef32 ef37 ef354 rfl h11 h1 h2 (by omega) h4 h5 h6 h7 h8 (by omega) h9 h10 rfl hK hP hS t0 t2
theorem c_measY3 {l : Launch} {E : cE} {f : mF} {g j : mA} {Fr To Ln Kd Tm K : Int → Int} {dp S y : Int} {cl : List Cla} (eg97 : g 97 = Fr) (eg98 : g 98 = To) (eg99 : g 99 = Ln) (eg100 : g 100 = Kd) (eg108 : g 108 = Tm) (ef96 : f 96 = K 76) (ef101 : f 101 = dp) (ef354 : f 354 = S) (hL : LwN E f g y cl) (hK : KOK K) (hP : FrA Fr To Ln Kd dp K) (hS : z31 S) (t0 : Tm 0 = K 28) (t2 : Tm 2 = K 75) : CM l E MX0_measure 5 [.ref (E.1 383), .ref (E.1 127), va_rf (crf E y)] f g j (PV (fun f' g' j' => (FiT Fr To (g' 352) (g' 353) (frK K) (toK K) (brn K cl) (hld K cl) (K 76) (f' 354) ∧ ∀ x : Int, 0 ≤ x → x < K 76 → (bt (f' 354) x ↔ ctc K cl x)) ∧ eqx [354] f f' ∧ eqx [352, 353, 356, 384] g g' ∧ j' = j)) := by
  rcases hL with ⟨rfl, rfl⟩ | ⟨m, rfl, h1, h2, h3, h4, h5, h6, h7, h8, h9, h10, h11⟩
  · exact c_measN3 eg97 eg98 eg99 eg100 eg108 rfl ef96 ef101 ef354 hK hP hS t0 t2
  · rw [crf_n]
    exact c_meas3 eg97 eg98 eg99 eg100 eg108 rfl rfl rfl rfl rfl ef96 ef101 ef354 rfl h11 h1 h2 (by omega) h4 h5 h6 h7 h8 (by omega) h9 h10 rfl hK hP hS t0 t2
