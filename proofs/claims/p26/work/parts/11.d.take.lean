theorem q_sub {a b : Nat} (h : b ≤ a) : nI a - nI b = nI (a - b) := pk_sub h
theorem q_over {F d : Nat} (hF : F < 2 ^ 30) (hd : d < 2 ^ 30) : gmax 0 (nI F - nI d) = (if nI F ≤ nI d then 0 else nI F - nI d) := by
  by_cases h : F ≤ d
  · rw [if_pos (nI_le h (by omega))]
    unfold gmax
    rcases Nat.lt_or_ge F d with h1 | h1
    · have := pk_sneg hd h1
      rw [if_neg (fun q => absurd (Int32.lt_trans q this) (by decide))]
    · rw [show F = d by omega, Int32.sub_self]; rfl
  · rw [if_neg (nI_ge (by omega) (by omega)), q_sub (by omega)]
    unfold gmax
    rw [if_pos]
    exact nI_lt (a := 0) (by omega) (by omega)
def tkB (b : Nat → Nat → Int32) (c : Nat) (p1 p2 p3 : Int32) : Nat → Nat → Int32 :=
  sF (sF (sF (sF (sF b 1 (upd (b 1) c (b 1 c + (b 2 c + p1 * p2) / 100 - gmax 0 (b 1 c + (b 2 c + p1 * p2) / 100 - p3)))) 2 (upd (b 2) c (b 2 c + p1 * p2 - (b 2 c + p1 * p2) / 100 * 100))) 3 (upd (b 3) c (b 3 c + p1))) 4 (upd (b 4) c (b 4 c + (b 2 c + p1 * p2) / 100))) 5 (upd (b 5) c (b 5 c + gmax 0 (b 1 c + (b 2 c + p1 * p2) / 100 - p3)))
theorem p_tkB {b : Nat → Nat → Int32} {N c : Nat} (p1 p2 p3 : Int32) (n : Nat) (hN : b 0 0 = nI (N + 1)) (h6 : N + 1 ≤ 6) (hc : c ≤ N) : fl_X0_takeIn_3 p1 p2 p3 (n + 1) (nI c) b = fl_X0_takeIn_3 p1 p2 p3 n (nI (c + 1)) (tkB b c p1 p2 p3) ∧ (okl_X0_takeIn_3 p1 p2 p3 n (nI (c + 1)) (tkB b c p1 p2 p3) → okl_X0_takeIn_3 p1 p2 p3 (n + 1) (nI c) b) := by
  have h : ¬ nI (N + 1) ≤ nI c := nI_ge (by omega) (by omega)
  have hv : vp_in (nI c) 6 := vp_in_nI (by omega) (by omega)
  rw [fl_X0_takeIn_3, okl_X0_takeIn_3, hN, if_neg h]
  simp only [q_gL, q_c (show c < 2 ^ 31 by omega), q_p1]
  exact ⟨rfl, fun k => ⟨fun q => absurd q h, fun _ => ⟨hv, hv, hv, hv, hv, hv, hv, hv, hv, hv, k⟩⟩⟩
/-- what follows the cells in the reference's charging -/
def chEnd (R1 : Int32) (f : Nat → Int32) : Nat → Int32 := fl_X7_charges_17 R1 1 (f 71) f
def okEnd (R1 : Int32) (f : Nat → Int32) : Prop := okl_X7_charges_17 R1 1 (f 71) f
theorem p_chEnd (R1 : Int32) (f : Nat → Int32) (n : Nat) : fl_X7_charges_17 R1 (n + 1) (f 71) f = chEnd R1 f ∧ (okEnd R1 f → okl_X7_charges_17 R1 (n + 1) (f 71) f) := by
  have h : f 71 ≤ f 71 := Int32.le_refl _
  unfold chEnd okEnd
  rw [fl_X7_charges_17, fl_X7_charges_17, okl_X7_charges_17, okl_X7_charges_17, if_pos h, if_pos h]
  exact ⟨rfl, fun k => ⟨k.1, fun q => absurd h q⟩⟩
theorem p_chStep {f : Nat → Int32} {N c : Nat} (R1 : Int32) (n : Nat) (hN : f 71 = nI (N + 1)) (h6 : N + 1 ≤ 6) (hc : c ≤ N) : fl_X7_charges_17 R1 (n + 1) (nI c) f = fl_X7_charges_17 R1 n (nI (c + 1)) (f_X7_takesIn f (nI c) R1) ∧ (okl_X7_charges_17 R1 n (nI (c + 1)) (f_X7_takesIn f (nI c) R1) → okl_X7_charges_17 R1 (n + 1) (nI c) f) := by
  have h : ¬ nI (N + 1) ≤ nI c := nI_ge (by omega) (by omega)
  obtain ⟨-, o2⟩ := p_takesIn f (show c < 6 by omega) R1
  rw [fl_X7_charges_17, okl_X7_charges_17, hN, if_neg h]
  simp only [q_gL (α := Int32), q_p1]
  rw [q_gL]
  exact ⟨rfl, fun k => ⟨fun q => absurd q h, fun _ => ⟨o2, k⟩⟩⟩
def RN_ (b : Nat → Nat → Int32) (N d : Nat) : Prop := ∀ c, c ≤ N → ∃ a r : Nat, a ≤ d ∧ r ≤ 99 ∧ b 1 c = nI a ∧ b 2 c = nI r
theorem tkB_0 (b : Nat → Nat → Int32) (c : Nat) (p1 p2 p3 : Int32) : tkB b c p1 p2 p3 0 = b 0 := rfl
theorem p_take1 {b : Nat → Nat → Int32} {f : Nat → Int32} {N d q e c : Nat} (hd : d ≤ 5000) (hq : q ≤ 2000) (he : e ≤ 100) (h6 : N + 1 ≤ 6) (hc : c ≤ N) (hR : RC b f) (h44 : f 44 = nI e) (h42 : f 42 = nI d) (hB : RN_ b N d) : RC (tkB b c (nI q) (nI e) (nI d)) (f_X7_takesIn f (nI c) (nI q)) ∧ RN_ (tkB b c (nI q) (nI e) (nI d)) N d ∧ ∀ j, 42 ≤ j → f_X7_takesIn f (nI c) (nI q) j = f j := by
  obtain ⟨o1, -⟩ := p_takesIn f (show c < 6 by omega) (nI q)
  obtain ⟨a, r, ha, hr, ea, er⟩ := hB c hc
  have f0 : f (7 * c) = nI a := by rw [← ea]; exact (hR c 0 (by omega) (by omega)).symm
  have f1 : f (7 * c + 1) = nI r := by rw [← er]; exact (hR c 1 (by omega) (by omega)).symm
  have hqe : q * e ≤ 200000 := by
    calc q * e ≤ 2000 * 100 := Nat.mul_le_mul hq he
      _ = 200000 := by decide
  have eH : tkH f c (nI q) = nI (r + q * e) := by unfold tkH; rw [f1, h44, pk_mul, nI_add]
  have eD : nI (r + q * e) / 100 = nI ((r + q * e) / 100) := pk_div (d := 100) (by omega) (by omega) (by omega)
  have eF : tkF f c (nI q) = nI (a + (r + q * e) / 100) := by unfold tkF; rw [f0, eH, eD, nI_add]
  have eO : tkO f c (nI q) = gmax 0 (nI (a + (r + q * e) / 100) - nI d) := by unfold tkO; rw [eF, h42, q_over (by omega) (by omega)]
  have eM : nI (r + q * e) - nI (r + q * e) / 100 * 100 = nI ((r + q * e) % 100) := pk_rem (d := 100) (by omega) (by omega) (by omega)
  have eb1 : b 1 c + (b 2 c + nI q * nI e) / 100 = tkF f c (nI q) := by rw [ea, er, pk_mul, nI_add, eD, nI_add, eF]
  have eb2 : b 2 c + nI q * nI e = tkH f c (nI q) := by rw [er, pk_mul, nI_add, eH]
  have eO2 : gmax 0 (tkF f c (nI q) - nI d) = tkO f c (nI q) := by rw [eO, eF]
  have eN : tkF f c (nI q) - tkO f c (nI q) = nI (min (a + (r + q * e) / 100) d) := by
    rw [eO, eF, q_over (by omega) (by omega)]
    by_cases h : a + (r + q * e) / 100 ≤ d
    · rw [if_pos (nI_le h (by omega)), Int32.sub_zero, Nat.min_eq_left h]
    · rw [if_neg (nI_ge (by omega) (by omega)), q_sub (by omega), q_sub (by omega), Nat.min_eq_right (by omega)]
      congr 1; omega
  have T : tkB b c (nI q) (nI e) (nI d) = sF (sF (sF (sF (sF b 1 (upd (b 1) c (tkF f c (nI q) - tkO f c (nI q)))) 2 (upd (b 2) c (tkH f c (nI q) - tkH f c (nI q) / 100 * 100))) 3 (upd (b 3) c (b 3 c + nI q))) 4 (upd (b 4) c (b 4 c + tkH f c (nI q) / 100))) 5 (upd (b 5) c (b 5 c + tkO f c (nI q))) := by
    unfold tkB
    rw [eb1, eb2, eO2]
  rw [T, o1]
  refine ⟨fun c' w hc' hw => ?_, fun c' hc' => ?_, fun j hj => ?_⟩
  · by_cases e1 : c' = c
    · subst e1
      have R3 := hR c' 2 hc' (by omega)
      have R4 := hR c' 3 hc' (by omega)
      have R5 := hR c' 4 hc' (by omega)
      rcases (show w = 0 ∨ w = 1 ∨ w = 2 ∨ w = 3 ∨ w = 4 ∨ w = 5 ∨ w = 6 by omega) with rfl | rfl | rfl | rfl | rfl | rfl | rfl
      · simp [q_sF, q_up]
      · simp [q_sF, q_up]
      · simp [q_sF, q_up, R3]
      · simp [q_sF, q_up, R4]
      · simp [q_sF, q_up, R5]
      · have := hR c' 5 hc' (by omega); simp [q_sF, q_up, this]
      · have := hR c' 6 hc' (by omega); simp [q_sF, q_up, this]
    · have hne : ∀ k, k < 7 → ¬ 7 * c' + w = 7 * c + k := fun k hk => by omega
      have R := hR c' w hc' hw
      dsimp only
      rw [if_neg (hne 4 (by omega)), if_neg (show ¬ 7 * c' + w = 7 * c from hne 0 (by omega)), if_neg (hne 3 (by omega)), if_neg (hne 1 (by omega)), if_neg (hne 2 (by omega)), ← R]
      rcases (show w = 0 ∨ w = 1 ∨ w = 2 ∨ w = 3 ∨ w = 4 ∨ w = 5 ∨ w = 6 by omega) with rfl | rfl | rfl | rfl | rfl | rfl | rfl <;> simp [q_sF, q_up, e1]
  · by_cases e1 : c' = c
    · subst e1
      refine ⟨min (a + (r + q * e) / 100) d, (r + q * e) % 100, by omega, by omega, ?_, ?_⟩
      · rw [← eN]; simp [q_sF, q_up]
      · rw [← eM, ← eH]; simp [q_sF, q_up]
    · obtain ⟨a', r', g1, g2, g3, g4⟩ := hB c' hc'
      exact ⟨a', r', g1, g2, by rw [← g3]; simp [q_sF, q_up, e1], by rw [← g4]; simp [q_sF, q_up, e1]⟩
  · dsimp only
    rw [if_neg (show ¬ j = 7 * c + 4 by omega), if_neg (show ¬ j = 7 * c by omega), if_neg (show ¬ j = 7 * c + 3 by omega), if_neg (show ¬ j = 7 * c + 1 by omega), if_neg (show ¬ j = 7 * c + 2 by omega)]
theorem p_take {N d q e : Nat} (hd : d ≤ 5000) (hq : q ≤ 2000) (he : e ≤ 100) (h6 : N + 1 ≤ 6) : ∀ (k c n n' : Nat) (b : Nat → Nat → Int32) (f : Nat → Int32), c + k = N + 1 → k < n → k < n' → b 0 0 = nI (N + 1) → f 71 = nI (N + 1) → RC b f → f 44 = nI e → f 42 = nI d → RN_ b N d →
    ∃ (b' : Nat → Nat → Int32) (f' : Nat → Int32), fl_X0_takeIn_3 (nI q) (nI e) (nI d) n (nI c) b = b' ∧ okl_X0_takeIn_3 (nI q) (nI e) (nI d) n (nI c) b ∧ fl_X7_charges_17 (nI q) n' (nI c) f = chEnd (nI q) f' ∧ (okEnd (nI q) f' → okl_X7_charges_17 (nI q) n' (nI c) f) ∧ RC b' f' ∧ RN_ b' N d ∧ b' 0 = b 0 ∧ ∀ j, 42 ≤ j → f' j = f j := by
  intro k
  induction k with
  | zero =>
    intro c n n' b f hc hn hn' h0 h71 hR h44 h42 hB
    obtain ⟨n, rfl⟩ : ∃ m, n = m + 1 := ⟨n - 1, by omega⟩
    obtain ⟨n', rfl⟩ : ∃ m, n' = m + 1 := ⟨n' - 1, by omega⟩
    have hcN : c = N + 1 := by omega
    subst hcN
    have h : b 0 0 ≤ nI (N + 1) := by rw [h0]; exact Int32.le_refl _
    have e71 : nI (N + 1) = f 71 := h71.symm
    refine ⟨b, f, ?_, ?_, ?_, ?_, hR, hB, rfl, fun _ _ => rfl⟩
    · rw [fl_X0_takeIn_3, if_pos h]
    · rw [okl_X0_takeIn_3]; exact ⟨fun _ => trivial, fun q => absurd h q⟩
    · rw [e71]; exact (p_chEnd (nI q) f n').1
    · rw [e71]; exact (p_chEnd (nI q) f n').2
  | succ k ih =>
    intro c n n' b f hc hn hn' h0 h71 hR h44 h42 hB
    obtain ⟨n, rfl⟩ : ∃ m, n = m + 1 := ⟨n - 1, by omega⟩
    obtain ⟨n', rfl⟩ : ∃ m, n' = m + 1 := ⟨n' - 1, by omega⟩
    obtain ⟨s1, s2⟩ := p_tkB (nI q) (nI e) (nI d) n h0 h6 (show c ≤ N by omega)
    obtain ⟨t1, t2⟩ := p_chStep (nI q) n' h71 h6 (show c ≤ N by omega)
    obtain ⟨r1, r2, r3⟩ := p_take1 hd hq he h6 (show c ≤ N by omega) hR h44 h42 hB
    obtain ⟨b', f', i1, i2, i3, i4, i5, i6, i7, i8⟩ := ih (c + 1) n n' _ _ (by omega) (by omega) (by omega) (by rw [tkB_0]; exact h0) (by rw [r3 71 (by omega)]; exact h71) r1 (by rw [r3 44 (by omega)]; exact h44) (by rw [r3 42 (by omega)]; exact h42) r2
    exact ⟨b', f', by rw [s1]; exact i1, s2 i2, by rw [t1]; exact i3, fun z => t2 (i4 z), i5, i6, by rw [i7, tkB_0], fun j hj => by rw [i8 j hj, r3 j hj]⟩
