/-! PURE: reading a text, the pieces -/
def TR (t : Nat → Nat → Int32) (m tx : Nat → Int32) (n p : Nat) : Prop := n ≤ 60 ∧ p ≤ n ∧ t 0 0 = nI n ∧ m 2 = nI n ∧ t 0 1 = nI p ∧ m 3 = nI p ∧ ∀ j, j < n → t 1 j = tx j
def MX (m m' : Nat → Int32) : Prop := m' 0 = m 0 ∧ m' 1 = m 1 ∧ m' 2 = m 2 ∧ m' 5 = m 5
theorem MX.refl (m : Nat → Int32) : MX m m := ⟨rfl, rfl, rfl, rfl⟩
theorem MX.trans {a b c : Nat → Int32} (h1 : MX a b) (h2 : MX b c) : MX a c := ⟨h2.1.trans h1.1, h2.2.1.trans h1.2.1, h2.2.2.1.trans h1.2.2.1, h2.2.2.2.trans h1.2.2.2⟩
theorem TR_step {t : Nat → Nat → Int32} {m tx : Nat → Int32} {n p : Nat} (h : TR t m tx n p) (hp : p < n) : TR (sF t 0 (upd (t 0) 1 (t 0 1 + 1))) (upd m 3 (m 3 + 1)) tx n (p + 1) := by
  obtain ⟨a, b, c, d, e, f, g⟩ := h
  refine ⟨a, hp, c, d, ?_, ?_, g⟩
  · show t 0 1 + 1 = nI (p + 1)
    rw [e, q_p1]
  · show m 3 + 1 = nI (p + 1)
    rw [f, q_p1]
theorem p_sees {t : Nat → Nat → Int32} {m tx : Nat → Int32} {n p : Nat} (h : TR t m tx n p) (a b : Int32) : ok_X7_sees m ∧ f_X7_sees m tx a b = (if p < n then (if f_X7_in (t 1 p) a b = 0 then 0 else 1) else 0) := by
  obtain ⟨h1, h2, h3, h4, h5, h6, h7⟩ := h
  unfold ok_X7_sees f_X7_sees
  rw [h4, h6, q_c (by omega)]
  by_cases hp : p < n
  · have hc : ¬ nI n ≤ nI p := nI_ge hp (by omega)
    rw [if_neg hc, if_pos hp, q_gLp, h7 p hp]
    exact ⟨⟨fun q => absurd q hc, fun _ => ⟨vp_in_nI (by omega) (by omega), trivial⟩⟩, rfl⟩
  · have hc : nI n ≤ nI p := nI_le (by omega) (by omega)
    rw [if_pos hc, if_neg hp]
    exact ⟨⟨fun _ => trivial, fun q => absurd hc q⟩, rfl⟩
theorem p_inE (x a : Int32) : (x = a ∧ f_X7_in x a a = 1) ∨ (¬ x = a ∧ f_X7_in x a a = 0) := by
  by_cases e : x = a
  · subst e
    exact Or.inl ⟨rfl, p_in3 (fun q => Int32.lt_irrefl q) (Int32.le_refl _)⟩
  · refine Or.inr ⟨e, ?_⟩
    by_cases h : x < a
    · exact p_in1 h
    · refine p_in2 (Int32.not_le.mp fun q => e (Int32.le_antisymm q (Int32.not_lt.mp h)))
theorem p_acc {t : Nat → Nat → Int32} {m tx : Nat → Int32} {n p : Nat} (a : Int32) (h : TR t m tx n p) : ok_X5_accepts t ∧ ok_X7_takes m tx a ∧ MX m (f_X7_takes m tx a).2 ∧ ∃ p', TR (f_X5_accepts t a).2 (f_X7_takes m tx a).2 tx n p' ∧ (((f_X5_accepts t a).1 = 0 ∧ (f_X7_takes m tx a).1 = 0) ∨ ((f_X5_accepts t a).1 = 1 ∧ (f_X7_takes m tx a).1 = 1)) := by
  obtain ⟨s1, s2⟩ := p_sees h a a
  have h' := h
  obtain ⟨h1, h2, h3, h4, h5, h6, h7⟩ := h
  have mk0 : f_X7_sees m tx a a = 0 → ok_X7_takes m tx a ∧ f_X7_takes m tx a = (0, upd m 3 (m 3 + 0)) := by
    intro e
    refine ⟨?_, ?_⟩
    · unfold ok_X7_takes; exact ⟨s1, fun q => ⟨Or.inl q, trivial⟩, fun q => absurd e q⟩
    · unfold f_X7_takes; rw [q_gLp, if_pos e, e]
  have mk1 : f_X7_sees m tx a a = 1 → ok_X7_takes m tx a ∧ f_X7_takes m tx a = (1, upd m 3 (m 3 + 1)) := by
    intro e
    have e' := q_1no e
    refine ⟨?_, ?_⟩
    · unfold ok_X7_takes; exact ⟨s1, fun q => absurd q e', fun _ => ⟨Or.inr e, trivial⟩⟩
    · unfold f_X7_takes; rw [q_gLp, if_neg e', e]
  have ez : upd m 3 (m 3 + 0) = m := by
    funext j
    rw [q_up, Int32.add_zero]
    by_cases e : j = 3
    · rw [if_pos e, e]
    · rw [if_neg e]
  have okk : ok_X5_accepts t := by
    unfold ok_X5_accepts
    rw [h3, h5]
    by_cases hp : p < n
    · exact ⟨fun _ => trivial, fun _ => ⟨vp_in_nI (by omega) (by omega), trivial⟩⟩
    · have hc : nI n ≤ nI p := nI_le (by omega) (by omega)
      exact ⟨fun _ => trivial, fun q => absurd hc q⟩
  by_cases hp : p < n
  · have hc : ¬ t 0 0 ≤ t 0 1 := by rw [h3, h5]; exact nI_ge hp (by omega)
    have cc : (t 0 1).toNatClampNeg = p := by rw [h5]; exact q_c (by omega)
    rw [if_pos hp] at s2
    rcases p_inE (t 1 p) a with ⟨e, e1⟩ | ⟨e, e1⟩
    · rw [e1, if_neg n10] at s2
      obtain ⟨k1, k2⟩ := mk1 s2
      have k3 : f_X5_accepts t a = (1, sF t 0 (upd (t 0) 1 (t 0 1 + 1))) := by unfold f_X5_accepts; rw [if_neg hc, cc, if_pos e]
      refine ⟨okk, k1, ?_, p + 1, ?_, ?_⟩
      · rw [k2]; exact ⟨rfl, rfl, rfl, rfl⟩
      · rw [k2, k3]; exact TR_step h' hp
      · rw [k2, k3]; exact Or.inr ⟨rfl, rfl⟩
    · rw [e1, if_pos rfl] at s2
      obtain ⟨k1, k2⟩ := mk0 s2
      have k3 : f_X5_accepts t a = (0, t) := by unfold f_X5_accepts; rw [if_neg hc, cc, if_neg e]
      rw [ez] at k2
      refine ⟨okk, k1, ?_, p, ?_, ?_⟩
      · rw [k2]; exact MX.refl m
      · rw [k2, k3]; exact h'
      · rw [k2, k3]; exact Or.inl ⟨rfl, rfl⟩
  · have hc : t 0 0 ≤ t 0 1 := by rw [h3, h5]; exact nI_le (by omega) (by omega)
    rw [if_neg hp] at s2
    obtain ⟨k1, k2⟩ := mk0 s2
    have k3 : f_X5_accepts t a = (0, t) := by unfold f_X5_accepts; rw [if_pos hc]
    rw [ez] at k2
    refine ⟨okk, k1, ?_, p, ?_, ?_⟩
    · rw [k2]; exact MX.refl m
    · rw [k2, k3]; exact h'
    · rw [k2, k3]; exact Or.inl ⟨rfl, rfl⟩
theorem p_dig {t : Nat → Nat → Int32} {m tx : Nat → Int32} {n p : Nat} {a : Int32} (ha : 48 ≤ a) (h : TR t m tx n p) : ok_X5_isDigitAhead t a ∧ ok_X7_sees m ∧ ((f_X5_isDigitAhead t a = 0 ∧ f_X7_sees m tx a 57 = 0) ∨ (f_X5_isDigitAhead t a = 1 ∧ f_X7_sees m tx a 57 = 1 ∧ p < n ∧ ∃ q : Nat, q ≤ 9 ∧ t 1 p = nI (48 + q))) := by
  obtain ⟨s1, s2⟩ := p_sees h a 57
  obtain ⟨h1, h2, h3, h4, h5, h6, h7⟩ := h
  rw [s2]
  unfold ok_X5_isDigitAhead f_X5_isDigitAhead
  rw [h3, h5, q_c (by omega)]
  have hv : p < n → vp_in (nI p) 60 := fun _ => vp_in_nI (by omega) (by omega)
  by_cases hp : p < n
  · have hc : ¬ nI n ≤ nI p := nI_ge hp (by omega)
    rw [if_neg hc, if_pos hp]
    refine ⟨⟨fun q => absurd q hc, fun _ => ⟨hv hp, fun _ => trivial, fun _ => ⟨hv hp, trivial⟩⟩⟩, s1, ?_⟩
    by_cases e1 : t 1 p < a
    · rw [if_pos e1, p_in1 e1, if_pos rfl]
      exact Or.inl ⟨rfl, rfl⟩
    · rw [if_neg e1]
      by_cases e2 : 57 < t 1 p
      · rw [if_pos e2, p_in2 e2, if_pos rfl]
        exact Or.inl ⟨rfl, rfl⟩
      · rw [if_neg e2, p_in3 e1 (Int32.not_lt.mp e2), if_neg n10]
        have g1 : (48 : Int32) ≤ t 1 p := Int32.le_trans ha (Int32.not_lt.mp e1)
        obtain ⟨j, j1, j2⟩ := q_rg (x := t 1 p) (M := 57) (n := 57) (by decide) (Int32.le_trans (by decide) g1) (Int32.not_lt.mp e2)
        rw [j2] at g1
        have j3 : 48 ≤ j := (nI_leI (a := 48) (by omega) (by omega)).mp g1
        refine Or.inr ⟨rfl, rfl, hp, j - 48, by omega, ?_⟩
        rw [j2, show 48 + (j - 48) = j by omega]
  · have hc : nI n ≤ nI p := nI_le (by omega) (by omega)
    rw [if_pos hc, if_neg hp]
    exact ⟨⟨fun _ => trivial, fun q => absurd hc q⟩, s1, Or.inl ⟨rfl, rfl⟩⟩
theorem q_dig1 (k q : Nat) : nI k * 10 + nI (48 + q) - 48 = nI (10 * k + q) := by
  rw [show nI k * 10 = nI (k * 10) from pk_mul k 10, nI_add, show (48 : Int32) = nI 48 from rfl, q_sub (by omega)]
  congr 1
  omega
theorem q_dig2 (k q : Nat) : 10 * nI k + nI (48 + q) - 48 = nI (10 * k + q) := by
  rw [show (10 : Int32) * nI k = nI (10 * k) from pk_mul 10 k, nI_add, show (48 : Int32) = nI 48 from rfl, q_sub (by omega)]
  congr 1
  omega
theorem q_dig0 (q : Nat) : nI (48 + q) - 48 = nI q := by
  rw [show (48 : Int32) = nI 48 from rfl, q_sub (by omega)]
  congr 1
  omega
theorem p_numL {tx : Nat → Int32} {n : Nat} : ∀ N x k p (t : Nat → Nat → Int32) (m : Nat → Int32), x + N = 5 → 1 ≤ N → k < 10 ^ x → m 4 = nI k → TR t m tx n p →
    okl_X5_readNumber_35 N (nI k) (nI x) t ∧ okl_X7_takesNumber_40 tx N (nI x) m ∧ MX m (fl_X7_takesNumber_40 tx N (nI x) m).2 ∧ (fl_X7_takesNumber_40 tx N (nI x) m).1 = 1 ∧ ∃ p' k', TR (fl_X5_readNumber_35 N (nI k) (nI x) t).2 (fl_X7_takesNumber_40 tx N (nI x) m).2 tx n p' ∧ k' ≤ 9999 ∧ (fl_X5_readNumber_35 N (nI k) (nI x) t).1 = nI k' ∧ (fl_X7_takesNumber_40 tx N (nI x) m).2 4 = nI k' := by
  intro N
  induction N with
  | zero => intro x k p t m h1 h2; omega
  | succ N ih =>
    intro x k p t m h1 h2 hk h4 h
    have hk4 : k ≤ 9999 := by
      have := Nat.pow_le_pow_right (n := 10) (by omega) (show x ≤ 4 by omega)
      have e : (10 : Nat) ^ 4 = 10000 := by decide
      omega
    have leaf : fl_X5_readNumber_35 (N + 1) (nI k) (nI x) t = (nI k, t) → fl_X7_takesNumber_40 tx (N + 1) (nI x) m = (1, m) → MX m (fl_X7_takesNumber_40 tx (N + 1) (nI x) m).2 ∧ (fl_X7_takesNumber_40 tx (N + 1) (nI x) m).1 = 1 ∧ ∃ p' k', TR (fl_X5_readNumber_35 (N + 1) (nI k) (nI x) t).2 (fl_X7_takesNumber_40 tx (N + 1) (nI x) m).2 tx n p' ∧ k' ≤ 9999 ∧ (fl_X5_readNumber_35 (N + 1) (nI k) (nI x) t).1 = nI k' ∧ (fl_X7_takesNumber_40 tx (N + 1) (nI x) m).2 4 = nI k' := by
      intro v5 v7
      rw [v5, v7]
      exact ⟨MX.refl m, rfl, p, k, h, hk4, rfl, h4⟩
    by_cases e : N = 0
    · have hx : x = 4 := by omega
      subst hx
      have hc : (4 : Int32) ≤ nI 4 := Int32.le_refl _
      refine ⟨?_, ?_, leaf ?_ ?_⟩
      · rw [okl_X5_readNumber_35]; exact ⟨fun _ => trivial, fun q => absurd hc q⟩
      · rw [okl_X7_takesNumber_40]; exact ⟨fun _ => trivial, fun q => absurd hc q⟩
      · rw [fl_X5_readNumber_35, if_pos hc]
      · rw [fl_X7_takesNumber_40, if_pos hc]
    · have hc : ¬ (4 : Int32) ≤ nI x := nI_ge (b := 4) (by omega) (by omega)
      by_cases hz : nI k ≤ 0
      · have hz' : m 4 ≤ 0 := by rw [h4]; exact hz
        refine ⟨?_, ?_, leaf ?_ ?_⟩
        · rw [okl_X5_readNumber_35]; exact ⟨fun q => absurd q hc, fun _ => ⟨fun _ => trivial, fun q => absurd hz q⟩⟩
        · rw [okl_X7_takesNumber_40]; exact ⟨fun q => absurd q hc, fun _ => ⟨fun _ => trivial, fun q => absurd hz' q⟩⟩
        · rw [fl_X5_readNumber_35, if_neg hc, if_pos hz]
        · rw [fl_X7_takesNumber_40, if_neg hc, if_pos hz']
      · have hz' : ¬ m 4 ≤ 0 := by rw [h4]; exact hz
        obtain ⟨d1, d2, d3⟩ := p_dig (a := 48) (Int32.le_refl _) h
        rcases d3 with ⟨e5, e7⟩ | ⟨e5, e7, hp, q, q9, eq⟩
        · refine ⟨?_, ?_, leaf ?_ ?_⟩
          · rw [okl_X5_readNumber_35]; exact ⟨fun q => absurd q hc, fun _ => ⟨fun q => absurd q hz, fun _ => ⟨d1, fun _ => trivial, fun q => absurd e5 q⟩⟩⟩
          · rw [okl_X7_takesNumber_40]; exact ⟨fun q => absurd q hc, fun _ => ⟨fun q => absurd q hz', fun _ => ⟨d2, fun _ => trivial, fun q => absurd e7 q⟩⟩⟩
          · rw [fl_X5_readNumber_35, if_neg hc, if_neg hz, q_gLp, if_pos e5]
          · rw [fl_X7_takesNumber_40, if_neg hc, if_neg hz', q_gLp, if_pos e7]
        · have e5' := q_1no e5
          have e7' := q_1no e7
          have h' := h
          obtain ⟨g1, g2, g3, g4, g5, g6, g7⟩ := h
          have c5 : (t 0 1).toNatClampNeg = p := by rw [g5]; exact q_c (by omega)
          have c7 : (m 3).toNatClampNeg = p := by rw [g6]; exact q_c (by omega)
          have vt : vp_in (t 0 1) 60 := by rw [g5]; exact vp_in_nI (by omega) (by omega)
          have vm : vp_in (m 3) 60 := by rw [g6]; exact vp_in_nI (by omega) (by omega)
          have etx : tx p = nI (48 + q) := (g7 p hp).symm.trans eq
          have hT : TR (sF t 0 (upd (t 0) 1 (t 0 1 + 1))) (upd (upd m 4 (nI (10 * k + q))) 3 (m 3 + 1)) tx n (p + 1) := by
            obtain ⟨a1, a2, a3, a4, a5, a6, a7⟩ := TR_step h' hp
            exact ⟨a1, a2, a3, a4, a5, a6, a7⟩
          have hpow : 10 * k + q < 10 ^ (x + 1) := by rw [Nat.pow_succ]; omega
          obtain ⟨i1, i2, i3, i4, p', k', i5, i6, i7, i8⟩ := ih (x + 1) (10 * k + q) (p + 1) _ _ (by omega) (by omega) hpow rfl hT
          have v5 : fl_X5_readNumber_35 (N + 1) (nI k) (nI x) t = fl_X5_readNumber_35 N (nI (10 * k + q)) (nI (x + 1)) (sF t 0 (upd (t 0) 1 (t 0 1 + 1))) := by rw [fl_X5_readNumber_35, if_neg hc, if_neg hz, q_gLp, if_neg e5', c5, eq, q_dig1, q_gLp, q_gLp, q_p1]
          have v7 : fl_X7_takesNumber_40 tx (N + 1) (nI x) m = fl_X7_takesNumber_40 tx N (nI (x + 1)) (upd (upd m 4 (nI (10 * k + q))) 3 (m 3 + 1)) := by rw [fl_X7_takesNumber_40, if_neg hc, if_neg hz', q_gLp, if_neg e7', c7, etx, h4, q_dig2, q_gLp, q_p1]
          rw [v5, v7]
          refine ⟨?_, ?_, ?_, i4, p', k', i5, i6, i7, i8⟩
          · rw [okl_X5_readNumber_35, c5, eq, q_dig1, q_p1]; exact ⟨fun q => absurd q hc, fun _ => ⟨fun q => absurd q hz, fun _ => ⟨d1, fun q => absurd q e5', fun _ => ⟨vt, i1⟩⟩⟩⟩
          · rw [okl_X7_takesNumber_40, c7, etx, h4, q_dig2, q_p1]; rw [h4] at hz'; exact ⟨fun q => absurd q hc, fun _ => ⟨fun q => absurd q hz', fun _ => ⟨d2, fun q => absurd q e7', fun _ => ⟨vm, i2⟩⟩⟩⟩
          · exact MX.trans ⟨rfl, rfl, rfl, rfl⟩ i3
theorem p_num {t : Nat → Nat → Int32} {m tx : Nat → Int32} {n p : Nat} {a : Int32} (ha : 48 ≤ a) (h : TR t m tx n p) : ok_X5_readNumber t a ∧ ok_X7_takesNumber m tx a ∧ MX m (f_X7_takesNumber m tx a).2 ∧ ∃ p', TR (f_X5_readNumber t a).2 (f_X7_takesNumber m tx a).2 tx n p' ∧ (((f_X5_readNumber t a).1 = -1 ∧ (f_X7_takesNumber m tx a).1 = 0) ∨ (¬ (f_X5_readNumber t a).1 = -1 ∧ (f_X7_takesNumber m tx a).1 = 1 ∧ (f_X7_takesNumber m tx a).2 4 = (f_X5_readNumber t a).1)) := by
  obtain ⟨d1, d2, d3⟩ := p_dig ha h
  rcases d3 with ⟨e5, e7⟩ | ⟨e5, e7, hp, q, q9, eq⟩
  · have v5 : f_X5_readNumber t a = (-1, t) := by unfold f_X5_readNumber; rw [q_gLp, if_pos e5]
    have v7 : f_X7_takesNumber m tx a = (0, m) := by unfold f_X7_takesNumber; rw [q_gLp, if_pos e7]
    refine ⟨?_, ?_, ?_, p, ?_, ?_⟩
    · unfold ok_X5_readNumber; exact ⟨d1, fun _ => trivial, fun q => absurd e5 q⟩
    · unfold ok_X7_takesNumber; exact ⟨d2, fun _ => trivial, fun q => absurd e7 q⟩
    · rw [v7]; exact MX.refl m
    · rw [v5, v7]; exact h
    · rw [v5, v7]; exact Or.inl ⟨rfl, rfl⟩
  · have e5' := q_1no e5
    have e7' := q_1no e7
    have h' := h
    obtain ⟨g1, g2, g3, g4, g5, g6, g7⟩ := h
    have c5 : (t 0 1).toNatClampNeg = p := by rw [g5]; exact q_c (by omega)
    have c7 : (m 3).toNatClampNeg = p := by rw [g6]; exact q_c (by omega)
    have vt : vp_in (t 0 1) 60 := by rw [g5]; exact vp_in_nI (by omega) (by omega)
    have vm : vp_in (m 3) 60 := by rw [g6]; exact vp_in_nI (by omega) (by omega)
    have etx : tx p = nI (48 + q) := (g7 p hp).symm.trans eq
    have hT : TR (sF t 0 (upd (t 0) 1 (t 0 1 + 1))) (upd (upd m 4 (nI q)) 3 (m 3 + 1)) tx n (p + 1) := by
      obtain ⟨a1, a2, a3, a4, a5, a6, a7⟩ := TR_step h' hp
      exact ⟨a1, a2, a3, a4, a5, a6, a7⟩
    obtain ⟨i1, i2, i3, i4, p', k', i5, i6, i7, i8⟩ := p_numL 4 1 q (p + 1) _ _ (by omega) (by omega) (by omega) rfl hT
    have v5 : f_X5_readNumber t a = fl_X5_readNumber_35 4 (nI q) (nI 1) (sF t 0 (upd (t 0) 1 (t 0 1 + 1))) := by unfold f_X5_readNumber; rw [q_gLp, if_neg e5', c5, eq, q_dig0, q_gLp]; rfl
    have v7 : f_X7_takesNumber m tx a = fl_X7_takesNumber_40 tx 4 (nI 1) (upd (upd m 4 (nI q)) 3 (m 3 + 1)) := by unfold f_X7_takesNumber; rw [q_gLp, if_neg e7', c7, etx, q_dig0]; rfl
    refine ⟨?_, ?_, ?_, p', ?_, ?_⟩
    · unfold ok_X5_readNumber; rw [c5, eq, q_dig0]; exact ⟨d1, fun q => absurd q e5', fun _ => ⟨vt, i1⟩⟩
    · unfold ok_X7_takesNumber; rw [c7, etx, q_dig0]; exact ⟨d2, fun q => absurd q e7', fun _ => ⟨vm, i2⟩⟩
    · rw [v7]; exact MX.trans ⟨rfl, rfl, rfl, rfl⟩ i3
    · rw [v5, v7]; exact i5
    · rw [v5, v7]
      refine Or.inr ⟨?_, i4, i8.trans i7.symm⟩
      rw [i7]
      intro hh
      have := congrArg Int32.toInt hh
      rw [nI_toInt (by omega)] at this
      have e9 : (-1 : Int32).toInt = -1 := by decide
      omega
