/-! PURE: settings, stages -/
theorem q_tsub {a b : Int32} (h1 : -1000000000 ≤ a.toInt - b.toInt) (h2 : a.toInt - b.toInt ≤ 1000000000) : (a - b).toInt = a.toInt - b.toInt := by
  rw [Int32.toInt_sub]
  exact Int.bmod_eq_of_le (by omega) (by omega)
theorem q_tmul {a b : Int32} {x : Int} (h : a.toInt * b.toInt = x) (h1 : -1000000000 ≤ x) (h2 : x ≤ 1000000000) : (a * b).toInt = x := by
  rw [Int32.toInt_mul, h]
  exact Int.bmod_eq_of_le (by omega) (by omega)
theorem q_f {st f : Nat → Int32} (h : RT st f) : f 42 = st 0 ∧ f 43 = st 1 ∧ f 44 = st 2 ∧ f 45 = st 3 ∧ f 46 = st 4 ∧ f 47 = st 5 ∧ f 48 = st 6 ∧ f 49 = st 7 ∧ f 50 = st 8 :=
  ⟨(h 0 (by omega)).1.symm, (h 1 (by omega)).1.symm, (h 2 (by omega)).1.symm, (h 3 (by omega)).1.symm, (h 4 (by omega)).1.symm, (h 5 (by omega)).1.symm, (h 6 (by omega)).1.symm, (h 7 (by omega)).1.symm, (h 8 (by omega)).1.symm⟩
theorem q_rg {x M : Int32} {n : Nat} (hM : M.toInt = n) (h1 : 0 ≤ x) (h2 : x ≤ M) : ∃ j : Nat, j ≤ n ∧ x = nI j := nI_of2 hM (Int32.not_lt.mpr h1) h2
theorem q_set {st f : Nat → Int32} (h : RT st f) : ∃ r e c th bl : Nat, r ≤ 200 ∧ e ≤ 100 ∧ c ≤ 10 ∧ th ≤ 500 ∧ bl ≤ 50 ∧ st 1 = nI r ∧ st 2 = nI e ∧ st 4 = nI c ∧ st 7 = nI th ∧ st 8 = nI bl := by
  obtain ⟨-, a1, b1⟩ := h 1 (by omega)
  obtain ⟨-, a2, b2⟩ := h 2 (by omega)
  obtain ⟨-, a4, b4⟩ := h 4 (by omega)
  obtain ⟨-, a7, b7⟩ := h 7 (by omega)
  obtain ⟨-, a8, b8⟩ := h 8 (by omega)
  obtain ⟨r, r1, r2⟩ := q_rg (n := 200) (by decide) a1 b1
  obtain ⟨e, e1, e2⟩ := q_rg (n := 100) (by decide) (Int32.le_trans (by decide) a2) b2
  obtain ⟨c, c1, c2⟩ := q_rg (n := 10) (by decide) a4 b4
  obtain ⟨t, t1, t2⟩ := q_rg (n := 500) (by decide) a7 b7
  obtain ⟨l, l1, l2⟩ := q_rg (n := 50) (by decide) a8 b8
  exact ⟨r, e, c, t, l, r1, e1, c1, t1, l1, r2, e2, c2, t2, l2⟩
theorem q_temp {st f : Nat → Int32} (h : RT st f) : -30 ≤ (st 3).toInt ∧ (st 3).toInt ≤ 80 := by
  obtain ⟨-, a, b⟩ := h 3 (by omega)
  exact ⟨Int32.le_iff_toInt_le.mp a, Int32.le_iff_toInt_le.mp b⟩
theorem p_has1 {pf : Nat → Nat → Int32} {S k : Nat} (hS : S ≤ 5) (h : pf 0 0 = nI S) (hk : k < S) : f_X3_has pf (nI k) = 1 := by
  unfold f_X3_has
  rw [h, if_neg (nI_pos (by omega)), if_neg (nI_ge hk (by omega))]
theorem p_has0 {pf : Nat → Nat → Int32} {S k : Nat} (hk2 : k < 2 ^ 31) (h : pf 0 0 = nI S) (hk : S ≤ k) : f_X3_has pf (nI k) = 0 := by
  unfold f_X3_has
  rw [h, if_neg (nI_pos (by omega)), if_pos (nI_le hk (by omega))]
theorem p_ofS (f : Nat → Int32) {k w : Nat} (hk : k < 5) (hw : w < 4) : f_X7_ofStage f (nI k) (nI w) = f (51 + 4 * k + w) ∧ ok_X7_ofStage (nI k) (nI w) := by
  unfold f_X7_ofStage ok_X7_ofStage
  rw [q_4, q_51, nI_add, q_c (by omega)]
  exact ⟨rfl, q_in (by omega), trivial⟩
/-- a stage that there is, both sides -/
theorem p_st {pf : Nat → Nat → Int32} {f : Nat → Int32} {S k : Nat} (hk : k < S) (h : (∀ w, w < 4 → pf (1 + w) k = f (51 + 4 * k + w))) (hS : S ≤ 5) : f_X7_ofStage f (nI k) 0 = pf 1 k ∧ f_X7_ofStage f (nI k) 1 = pf 2 k ∧ f_X7_ofStage f (nI k) 2 = pf 3 k ∧ f_X7_ofStage f (nI k) 3 = pf 4 k ∧ ok_X7_ofStage (nI k) 0 ∧ ok_X7_ofStage (nI k) 1 ∧ ok_X7_ofStage (nI k) 2 ∧ ok_X7_ofStage (nI k) 3 := by
  obtain ⟨a0, b0⟩ := p_ofS f (show k < 5 by omega) (show 0 < 4 by omega)
  obtain ⟨a1, b1⟩ := p_ofS f (show k < 5 by omega) (show 1 < 4 by omega)
  obtain ⟨a2, b2⟩ := p_ofS f (show k < 5 by omega) (show 2 < 4 by omega)
  obtain ⟨a3, b3⟩ := p_ofS f (show k < 5 by omega) (show 3 < 4 by omega)
  exact ⟨a0.trans (h 0 (by omega)).symm, a1.trans (h 1 (by omega)).symm, a2.trans (h 2 (by omega)).symm, a3.trans (h 3 (by omega)).symm, b0, b1, b2, b3⟩
theorem p_limit {st f : Nat → Int32} {pf : Nat → Nat → Int32} {S k : Nat} (hk : k < S) (h : (∀ w, w < 4 → pf (1 + w) k = f (51 + 4 * k + w))) (hS : S ≤ 5) (hT : RT st f) (hk1 : pf 1 k = 0 ∨ pf 1 k = 1) : f_X4_limitOfNow st pf (nI k) = f_X7_limit f (nI k) ∧ f_X7_limit f (nI k) = (if pf 1 k = 0 then pf 3 k else pf 2 k) - st 4 * (st 3 - 25) ∧ ok_X4_limitOfNow pf (nI k) ∧ ok_X7_limit f (nI k) := by
  obtain ⟨s0, s1, s2, s3, t0, t1, t2, t3⟩ := p_st hk h hS
  obtain ⟨-, -, -, h45, h46, -, -, -, -⟩ := q_f hT
  have hc : (nI k).toNatClampNeg = k := q_c (by omega)
  have hv : vp_in (nI k) 5 := vp_in_nI (by omega) (by omega)
  unfold f_X4_limitOfNow f_X7_limit ok_X4_limitOfNow ok_X7_limit f_X3_limitOf ok_X3_limitOf
  simp only [q_gL, s0, s1, s2, h45, h46, hc]
  rcases hk1 with e | e
  · have n1 : ¬ (0 : Int32) = 1 := by decide
    rw [e]
    simp only [if_neg n1, if_true, hv, t0, t1, t2, true_and, and_true, implies_true, and_self]
  · have n1 : ¬ (1 : Int32) = 0 := by decide
    rw [e]
    simp only [if_neg n1, if_true, hv, t0, t1, t2, true_and, and_true, implies_true, and_self]
theorem q_comp {st f : Nat → Int32} (hT : RT st f) : -550 ≤ (st 4 * (st 3 - 25)).toInt ∧ (st 4 * (st 3 - 25)).toInt ≤ 550 := by
  obtain ⟨r, e, c, th, bl, -, -, hc, -, -, -, -, e4, -, -⟩ := q_set hT
  obtain ⟨t1, t2⟩ := q_temp hT
  have e25 : (25 : Int32).toInt = 25 := by decide
  have s : (st 3 - 25).toInt = (st 3).toInt - 25 := by rw [q_tsub (by omega) (by omega), e25]
  have ec : (st 4).toInt = (c : Int) := by rw [e4]; exact nI_toInt (by omega)
  have key : -550 ≤ (c : Int) * ((st 3).toInt - 25) ∧ (c : Int) * ((st 3).toInt - 25) ≤ 550 := by
    rcases (show c = 0 ∨ c = 1 ∨ c = 2 ∨ c = 3 ∨ c = 4 ∨ c = 5 ∨ c = 6 ∨ c = 7 ∨ c = 8 ∨ c = 9 ∨ c = 10 by omega) with rfl | rfl | rfl | rfl | rfl | rfl | rfl | rfl | rfl | rfl | rfl <;> constructor <;> simp only [Int.cast_ofNat_Int] <;> omega
  have m : (st 4 * (st 3 - 25)).toInt = (c : Int) * ((st 3).toInt - 25) := q_tmul (by rw [ec, s]) (by omega) (by omega)
  rw [m]; exact key
theorem q_ring (x : Int32) : (x + 1) * 1000 - 1 = 1000 * x + 999 := by grind
theorem q_gmin2000 (v : Int32) : gmin 2000 v = if v ≤ 2000 then v else 2000 := by
  unfold gmin
  by_cases h : v < 2000
  · rw [if_pos h, if_pos (Int32.le_of_lt h)]
  · rw [if_neg h]
    by_cases e : v ≤ 2000
    · rw [if_pos e]; exact (Int32.le_antisymm e (Int32.not_lt.mp h)).symm
    · rw [if_neg e]
theorem q_0m (x : Int32) : (0 : Int32) * x / 1000 = 0 := by rw [Int32.zero_mul]; rfl
