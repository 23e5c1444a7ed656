/-! PURE: base voltages -/
def bs (x d : Int32) : Int32 := 3000 + (1200 * x) / d
theorem bs_nI {a d : Nat} (ha : a ≤ 5000) (h1 : 100 ≤ d) (h2 : d ≤ 5000) : bs (nI a) (nI d) = nI (3000 + 1200 * a / d) := by
  unfold bs
  rw [show (1200 : Int32) * nI a = nI (1200 * a) from pk_mul 1200 a, pk_div (by omega) (by omega) (by omega), show (3000 : Int32) + nI (1200 * a / d) = nI (3000 + 1200 * a / d) from nI_add 3000 _]
theorem bs_lt {a d : Nat} (ha : a ≤ 5000) (h1 : 100 ≤ d) : 1200 * a / d ≤ 60000 := by
  refine Nat.div_le_of_le_mul ?_
  calc 1200 * a ≤ 6000000 := by omega
    _ = 100 * 60000 := by decide
    _ ≤ d * 60000 := Nat.mul_le_mul_right _ h1
theorem bs_mono {a b d : Nat} (h : a ≤ b) : 1200 * a / d ≤ 1200 * b / d := Nat.div_le_div_right (Nat.mul_le_mul_left _ h)
theorem bs_max {a b d : Nat} (ha : a ≤ 5000) (hb : b ≤ 5000) (h1 : 100 ≤ d) (h2 : d ≤ 5000) : gmax (bs (nI a) (nI d)) (bs (nI b) (nI d)) = bs (gmax (nI a) (nI b)) (nI d) := by
  have l1 := bs_lt (d := d) ha h1
  have l2 := bs_lt (d := d) hb h1
  unfold gmax
  rw [bs_nI ha h1 h2, bs_nI hb h1 h2]
  by_cases h : a < b
  · rw [if_pos (nI_lt h (by omega))]
    have m := bs_mono (d := d) (Nat.le_of_lt h)
    rw [bs_nI hb h1 h2]
    by_cases e : nI (3000 + 1200 * a / d) < nI (3000 + 1200 * b / d)
    · rw [if_pos e]
    · rw [if_neg e]
      have : ¬ 3000 + 1200 * a / d < 3000 + 1200 * b / d := fun q => e (nI_lt q (by omega))
      congr 1; omega
  · have hn : ¬ nI a < nI b := nI_nlt (by omega) (by omega)
    have m := bs_mono (d := d) (Nat.le_of_not_lt h)
    have hk : ¬ nI (3000 + 1200 * a / d) < nI (3000 + 1200 * b / d) := nI_nlt (by omega) (by omega)
    rw [if_neg hn, if_neg hk, bs_nI ha h1 h2]
theorem bs_min {a b d : Nat} (ha : a ≤ 5000) (hb : b ≤ 5000) (h1 : 100 ≤ d) (h2 : d ≤ 5000) : gmin (bs (nI a) (nI d)) (bs (nI b) (nI d)) = bs (gmin (nI a) (nI b)) (nI d) := by
  have l1 := bs_lt (d := d) ha h1
  have l2 := bs_lt (d := d) hb h1
  unfold gmin
  rw [bs_nI ha h1 h2, bs_nI hb h1 h2]
  by_cases h : b < a
  · rw [if_pos (nI_lt h (by omega))]
    have m := bs_mono (d := d) (Nat.le_of_lt h)
    rw [bs_nI hb h1 h2]
    by_cases e : nI (3000 + 1200 * b / d) < nI (3000 + 1200 * a / d)
    · rw [if_pos e]
    · rw [if_neg e]
      have : ¬ 3000 + 1200 * b / d < 3000 + 1200 * a / d := fun q => e (nI_lt q (by omega))
      congr 1; omega
  · have hn : ¬ nI b < nI a := nI_nlt (by omega) (by omega)
    have m := bs_mono (d := d) (Nat.le_of_not_lt h)
    have hk : ¬ nI (3000 + 1200 * b / d) < nI (3000 + 1200 * a / d) := nI_nlt (by omega) (by omega)
    rw [if_neg hn, if_neg hk, bs_nI ha h1 h2]
theorem gmax_nI (a b : Nat) (ha : a < 2 ^ 31) (hb : b < 2 ^ 31) : gmax (nI a) (nI b) = nI (max a b) := by
  unfold gmax
  by_cases h : a < b
  · rw [if_pos (nI_lt h hb), Nat.max_eq_right (Nat.le_of_lt h)]
  · rw [if_neg (nI_nlt (by omega) ha), Nat.max_eq_left (by omega)]
theorem gmin_nI (a b : Nat) (ha : a < 2 ^ 31) (hb : b < 2 ^ 31) : gmin (nI a) (nI b) = nI (min a b) := by
  unfold gmin
  by_cases h : b < a
  · rw [if_pos (nI_lt h ha), Nat.min_eq_right (Nat.le_of_lt h)]
  · rw [if_neg (nI_nlt (by omega) hb), Nat.min_eq_left (by omega)]
theorem mx_nI {h : Nat → Int32} {M : Nat} (hM : M < 2 ^ 31) : ∀ k, (∀ c, c ≤ k → ∃ a, a ≤ M ∧ h c = nI a) → ∃ a, a ≤ M ∧ mx h k = nI a
  | 0, e => e 0 (Nat.le_refl 0)
  | k + 1, e => by
    obtain ⟨a, h1, h2⟩ := mx_nI hM k (fun c hc => e c (by omega))
    obtain ⟨b, h3, h4⟩ := e (k + 1) (Nat.le_refl _)
    refine ⟨max a b, by omega, ?_⟩
    rw [mx, h2, h4, gmax_nI a b (by omega) (by omega)]
theorem mn_nI {h : Nat → Int32} {M : Nat} (hM : M < 2 ^ 31) : ∀ k, (∀ c, c ≤ k → ∃ a, a ≤ M ∧ h c = nI a) → ∃ a, a ≤ M ∧ mn h k = nI a
  | 0, e => e 0 (Nat.le_refl 0)
  | k + 1, e => by
    obtain ⟨a, h1, h2⟩ := mn_nI hM k (fun c hc => e c (by omega))
    obtain ⟨b, h3, h4⟩ := e (k + 1) (Nat.le_refl _)
    refine ⟨min a b, by omega, ?_⟩
    rw [mn, h2, h4, gmin_nI a b (by omega) (by omega)]
/-- a row of the reference's whose cells and capacity are in their ranges -/
def RG (f : Nat → Int32) (N d : Nat) : Prop := f 71 = nI (N + 1) ∧ N + 1 ≤ 6 ∧ f 42 = nI d ∧ 100 ≤ d ∧ d ≤ 5000 ∧ ∀ c, c ≤ N → ∃ a, a ≤ d ∧ ch f c = nI a
theorem p_baseX {x : Int32} {d : Nat} (h1 : 100 ≤ d) (h2 : d ≤ 5000) : f_X6_baseVoltage x (nI d) = bs x (nI d) ∧ ok_X6_baseVoltage (nI d) := by
  have h : ¬ nI d ≤ 0 := nI_nle (by omega) (by omega)
  unfold f_X6_baseVoltage ok_X6_baseVoltage
  rw [if_neg h]
  exact ⟨rfl, fun q => absurd q h, fun _ => ⟨nI_ne0 (by omega) (by omega), trivial⟩⟩
theorem p_base {f : Nat → Int32} {N d c : Nat} (hG : RG f N d) (hc : c < 6) : f_X7_base f (nI c) = bs (ch f c) (f 42) ∧ ok_X7_base f (nI c) := by
  obtain ⟨-, -, h42, h1, h2, -⟩ := hG
  obtain ⟨o1, o2⟩ := p_of (f := f) hc
  unfold f_X7_base ok_X7_base
  simp only [q_gL, o1]
  exact ⟨rfl, o2, by rw [h42]; exact nI_ne0 (by omega) (by omega), trivial⟩
theorem p_highest_aux {f : Nat → Int32} {N d : Nat} (hG : RG f N d) : ∀ n c, c ≤ N → N + 1 ≤ c + n → fl_X7_highest_4 f n (bs (mx (ch f) c) (f 42)) (nI (c + 1)) = bs (mx (ch f) N) (f 42) ∧ okl_X7_highest_4 f n (bs (mx (ch f) c) (f 42)) (nI (c + 1)) := by
  have hG' := hG
  obtain ⟨hN, h6, h42, d1, d2, hch⟩ := hG
  intro n
  induction n with
  | zero => intro c h1 h2; omega
  | succ n ih =>
    intro c h1 h2
    rw [fl_X7_highest_4, okl_X7_highest_4, hN]
    by_cases e : c = N
    · subst e
      have h : nI (c + 1) ≤ nI (c + 1) := nI_le (Nat.le_refl _) (by omega)
      rw [if_pos h]
      exact ⟨rfl, fun _ => trivial, fun q => absurd h q⟩
    · have h : ¬ nI (N + 1) ≤ nI (c + 1) := nI_ge (by omega) (by omega)
      rw [if_neg h]
      obtain ⟨i1, i2⟩ := ih (c + 1) (by omega) (by omega)
      obtain ⟨o1, o2⟩ := p_base hG' (show c + 1 < 6 by omega)
      obtain ⟨a, a1, a2⟩ := mx_nI (M := d) (by omega) c (fun j hj => hch j (by omega))
      obtain ⟨b, b1, b2⟩ := hch (c + 1) (by omega)
      have eM : bs (mx (ch f) (c + 1)) (f 42) = gmax (bs (mx (ch f) c) (f 42)) (bs (ch f (c + 1)) (f 42)) := by
        rw [mx, a2, b2, h42, bs_max (by omega) (by omega) d1 d2]
      simp only [q_gL, q_p1, o1]
      rw [eM, ← g_max] at i1 i2
      by_cases hc : bs (ch f (c + 1)) (f 42) ≤ bs (mx (ch f) c) (f 42)
      · rw [if_pos hc] at i1 i2 ⊢
        exact ⟨i1, fun q => absurd q h, fun _ => ⟨o2, fun _ => i2, fun q => absurd hc q⟩⟩
      · rw [if_neg hc] at i1 i2 ⊢
        exact ⟨i1, fun q => absurd q h, fun _ => ⟨o2, fun q => absurd q hc, fun _ => ⟨o2, i2⟩⟩⟩
theorem p_highest {f : Nat → Int32} {N d : Nat} (hG : RG f N d) : f_X7_highest f = bs (mx (ch f) N) (f 42) ∧ ok_X7_highest f := by
  have hG' := hG
  obtain ⟨hN, h6, h42, d1, d2, hch⟩ := hG
  obtain ⟨o1, o2⟩ := p_base hG' (show 0 < 6 by omega)
  obtain ⟨i1, i2⟩ := p_highest_aux hG' 6 0 (by omega) (by omega)
  have e0 : mx (ch f) 0 = ch f 0 := rfl
  have h : ¬ nI (N + 1) ≤ 0 := nI_ge (a := 0) (by omega) (by omega)
  have o1' : f_X7_base f 0 = bs (ch f 0) (f 42) := o1
  have hz : ¬ bs (ch f 0) (f 42) ≤ 0 := by
    obtain ⟨a, a1, a2⟩ := hch 0 (by omega)
    have := bs_lt (d := d) (show a ≤ 5000 by omega) d1
    rw [a2, h42, bs_nI (by omega) d1 d2]
    exact nI_nle (Nat.lt_of_lt_of_le (by decide : 0 < 3000) (Nat.le_add_right _ _)) (by omega)
  unfold f_X7_highest ok_X7_highest
  rw [fl_X7_highest_4, okl_X7_highest_4, hN, if_neg h]
  simp only [q_gL, o1', if_neg hz]
  exact ⟨i1, fun q => absurd q h, fun _ => ⟨o2, fun q => absurd q hz, fun _ => ⟨o2, i2⟩⟩⟩
theorem p_lowest_aux {f : Nat → Int32} {N d : Nat} (hG : RG f N d) : ∀ n c, c ≤ N → N + 1 ≤ c + n → fl_X7_lowest_8 f n (bs (mn (ch f) c) (f 42)) (nI (c + 1)) = bs (mn (ch f) N) (f 42) ∧ okl_X7_lowest_8 f n (bs (mn (ch f) c) (f 42)) (nI (c + 1)) := by
  have hG' := hG
  obtain ⟨hN, h6, h42, d1, d2, hch⟩ := hG
  intro n
  induction n with
  | zero => intro c h1 h2; omega
  | succ n ih =>
    intro c h1 h2
    rw [fl_X7_lowest_8, okl_X7_lowest_8, hN]
    by_cases e : c = N
    · subst e
      have h : nI (c + 1) ≤ nI (c + 1) := nI_le (Nat.le_refl _) (by omega)
      rw [if_pos h]
      exact ⟨rfl, fun _ => trivial, fun q => absurd h q⟩
    · have h : ¬ nI (N + 1) ≤ nI (c + 1) := nI_ge (by omega) (by omega)
      rw [if_neg h]
      obtain ⟨i1, i2⟩ := ih (c + 1) (by omega) (by omega)
      obtain ⟨o1, o2⟩ := p_base hG' (show c + 1 < 6 by omega)
      obtain ⟨a, a1, a2⟩ := mn_nI (M := d) (by omega) c (fun j hj => hch j (by omega))
      obtain ⟨b, b1, b2⟩ := hch (c + 1) (by omega)
      have eM : bs (mn (ch f) (c + 1)) (f 42) = gmin (bs (mn (ch f) c) (f 42)) (bs (ch f (c + 1)) (f 42)) := by
        rw [mn, a2, b2, h42, bs_min (by omega) (by omega) d1 d2]
      simp only [q_gL, q_p1, o1]
      rw [eM, ← g_min] at i1 i2
      by_cases hc : bs (mn (ch f) c) (f 42) ≤ bs (ch f (c + 1)) (f 42)
      · rw [if_pos hc] at i1 i2 ⊢
        exact ⟨i1, fun q => absurd q h, fun _ => ⟨o2, fun _ => i2, fun q => absurd hc q⟩⟩
      · rw [if_neg hc] at i1 i2 ⊢
        exact ⟨i1, fun q => absurd q h, fun _ => ⟨o2, fun q => absurd q hc, fun _ => ⟨o2, i2⟩⟩⟩
theorem p_lowest {f : Nat → Int32} {N d : Nat} (hG : RG f N d) : f_X7_lowest f = bs (mn (ch f) N) (f 42) ∧ ok_X7_lowest f := by
  obtain ⟨o1, o2⟩ := p_base hG (show 0 < 6 by omega)
  obtain ⟨i1, i2⟩ := p_lowest_aux hG 7 0 (by omega) (by have := hG.2.1; omega)
  have o1' : f_X7_base f 0 = bs (ch f 0) (f 42) := o1
  unfold f_X7_lowest ok_X7_lowest
  simp only [q_gL, o1']
  exact ⟨i1, o2, i2⟩
theorem p_gvolt {st : Nat → Int32} {b : Nat → Nat → Int32} {N d : Nat} (p1 : Int32) (hN : b 0 0 = nI (N + 1)) (h6 : N + 1 ≤ 6) (h0 : st 0 = nI d) (d1 : 100 ≤ d) (d2 : d ≤ 5000) : f_X4_greatestVoltage st b p1 = bs (mx (b 1) N) (st 0) + p1 * st 1 / 1000 ∧ ok_X4_greatestVoltage st b := by
  obtain ⟨o1, o2⟩ := p_great hN h6
  obtain ⟨v1, v2⟩ := p_baseX (x := mx (b 1) N) d1 d2
  unfold f_X4_greatestVoltage ok_X4_greatestVoltage
  simp only [q_gL, o1, h0, v1]
  exact ⟨trivial, o2, v2, trivial⟩
