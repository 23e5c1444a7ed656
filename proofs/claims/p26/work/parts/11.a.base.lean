/-! PURE: rows and least/greatest -/
theorem q_up (f : Nat → Int32) (k : Nat) (x : Int32) (j : Nat) : upd f k x j = if j = k then x else f j := rfl
theorem q_sF (b : Nat → Nat → Int32) (r : Nat) (f : Nat → Int32) (k : Nat) : sF b r f k = if k = r then f else b k := rfl
theorem q_gL {α : Type} {β : Sort _} (x : α) (f : α → β) : gL x f = f x := rfl
theorem q_c {n : Nat} (h : n < 2 ^ 31) : (nI n).toNatClampNeg = n := nI_clamp h
theorem q_7 (c : Nat) : (7 : Int32) * nI c = nI (7 * c) := pk_mul 7 c
theorem q_4 (c : Nat) : (4 : Int32) * nI c = nI (4 * c) := pk_mul 4 c
theorem q_3 (c : Nat) : (3 : Int32) * nI c = nI (3 * c) := pk_mul 3 c
theorem q_51 (c : Nat) : (51 : Int32) + nI c = nI (51 + c) := nI_add 51 c
theorem q_82 (c : Nat) : (82 : Int32) + nI c = nI (82 + c) := nI_add 82 c
theorem q_p0 (c : Nat) : nI c + 0 = nI c := nI_add c 0
theorem q_p1 (c : Nat) : nI c + 1 = nI (c + 1) := nI_add c 1
theorem q_p2 (c : Nat) : nI c + 2 = nI (c + 2) := nI_add c 2
theorem q_p3 (c : Nat) : nI c + 3 = nI (c + 3) := nI_add c 3
theorem q_p4 (c : Nat) : nI c + 4 = nI (c + 4) := nI_add c 4
theorem q_p5 (c : Nat) : nI c + 5 = nI (c + 5) := nI_add c 5
theorem q_0 : (0 : Int32) = nI 0 := rfl
theorem q_1 : (1 : Int32) = nI 1 := rfl
theorem q_cl0 : (0 : Int32).toNatClampNeg = 0 := rfl
def mn (h : Nat → Int32) : Nat → Int32
  | 0 => h 0
  | k + 1 => gmin (mn h k) (h (k + 1))
def mx (h : Nat → Int32) : Nat → Int32
  | 0 => h 0
  | k + 1 => gmax (mx h k) (h (k + 1))
theorem mn_congr {h h' : Nat → Int32} : ∀ k, (∀ c, c ≤ k → h c = h' c) → mn h k = mn h' k
  | 0, e => e 0 (Nat.le_refl 0)
  | k + 1, e => by rw [mn, mn, mn_congr k (fun c hc => e c (by omega)), e (k + 1) (Nat.le_refl _)]
theorem mx_congr {h h' : Nat → Int32} : ∀ k, (∀ c, c ≤ k → h c = h' c) → mx h k = mx h' k
  | 0, e => e 0 (Nat.le_refl 0)
  | k + 1, e => by rw [mx, mx, mx_congr k (fun c hc => e c (by omega)), e (k + 1) (Nat.le_refl _)]
theorem p_least_aux {b : Nat → Nat → Int32} {N : Nat} (hN : b 0 0 = nI (N + 1)) (h6 : N + 1 ≤ 6) : ∀ n c, c ≤ N → N + 1 ≤ c + n → fl_X0_leastCharge_9 b n (mn (b 1) c) (nI (c + 1)) = mn (b 1) N ∧ okl_X0_leastCharge_9 b n (mn (b 1) c) (nI (c + 1)) := by
  intro n
  induction n with
  | zero => intro c h1 h2; omega
  | succ n ih =>
    intro c h1 h2
    rw [fl_X0_leastCharge_9, okl_X0_leastCharge_9, hN]
    by_cases e : c = N
    · subst e
      have h : nI (c + 1) ≤ nI (c + 1) := nI_le (Nat.le_refl _) (by omega)
      rw [if_pos h]
      exact ⟨rfl, fun _ => trivial, fun q => absurd h q⟩
    · have h : ¬ nI (N + 1) ≤ nI (c + 1) := nI_ge (by omega) (by omega)
      rw [if_neg h]
      have := ih (c + 1) (by omega) (by omega)
      simp only [q_gL, q_c (show c + 1 < 2 ^ 31 by omega), q_p1]
      exact ⟨this.1, fun q => absurd q h, fun _ => ⟨vp_in_nI (by omega) (by omega), this.2⟩⟩
theorem p_least {b : Nat → Nat → Int32} {N : Nat} (hN : b 0 0 = nI (N + 1)) (h6 : N + 1 ≤ 6) : f_X0_leastCharge b = mn (b 1) N ∧ ok_X0_leastCharge b := p_least_aux hN h6 7 0 (by omega) (by omega)
theorem p_great_aux {b : Nat → Nat → Int32} {N : Nat} (hN : b 0 0 = nI (N + 1)) (h6 : N + 1 ≤ 6) : ∀ n c, c ≤ N → N + 1 ≤ c + n → fl_X0_greatestCharge_9 b n (mx (b 1) c) (nI (c + 1)) = mx (b 1) N ∧ okl_X0_greatestCharge_9 b n (mx (b 1) c) (nI (c + 1)) := by
  intro n
  induction n with
  | zero => intro c h1 h2; omega
  | succ n ih =>
    intro c h1 h2
    rw [fl_X0_greatestCharge_9, okl_X0_greatestCharge_9, hN]
    by_cases e : c = N
    · subst e
      have h : nI (c + 1) ≤ nI (c + 1) := nI_le (Nat.le_refl _) (by omega)
      rw [if_pos h]
      exact ⟨rfl, fun _ => trivial, fun q => absurd h q⟩
    · have h : ¬ nI (N + 1) ≤ nI (c + 1) := nI_ge (by omega) (by omega)
      rw [if_neg h]
      have := ih (c + 1) (by omega) (by omega)
      simp only [q_gL, q_c (show c + 1 < 2 ^ 31 by omega), q_p1]
      exact ⟨this.1, fun q => absurd q h, fun _ => ⟨vp_in_nI (by omega) (by omega), this.2⟩⟩
theorem p_great {b : Nat → Nat → Int32} {N : Nat} (hN : b 0 0 = nI (N + 1)) (h6 : N + 1 ≤ 6) : f_X0_greatestCharge b = mx (b 1) N ∧ ok_X0_greatestCharge b := p_great_aux hN h6 7 0 (by omega) (by omega)
def ch (f : Nat → Int32) (c : Nat) : Int32 := f (7 * c)
theorem p_of {f : Nat → Int32} {c : Nat} (hc : c < 6) : f_X7_of f (nI c) 0 = ch f c ∧ ok_X7_of (nI c) 0 := by
  unfold f_X7_of ok_X7_of ch
  rw [q_7, q_p0, q_c (by omega)]
  exact ⟨rfl, vp_in_nI (by omega) (by omega), trivial⟩
theorem g_min (x y : Int32) : (if x ≤ y then x else y) = gmin x y := by
  unfold gmin
  by_cases h : x ≤ y
  · rw [if_pos h, if_neg (Int32.not_lt.mpr h)]
  · rw [if_neg h, if_pos (Int32.not_le.mp h)]
theorem g_max (x y : Int32) : (if y ≤ x then x else y) = gmax x y := by
  unfold gmax
  by_cases h : y ≤ x
  · rw [if_pos h, if_neg (Int32.not_lt.mpr h)]
  · rw [if_neg h, if_pos (Int32.not_le.mp h)]
theorem p_charged_aux {f : Nat → Int32} {N : Nat} (p1 : Int32) (hN : f 71 = nI (N + 1)) (h6 : N + 1 ≤ 6) : ∀ n c, c ≤ N → N + 1 ≤ c + n →
    (p1 = 0 → fl_X7_charged_9 p1 f n (mn (ch f) c) (nI (c + 1)) = mn (ch f) N ∧ okl_X7_charged_9 p1 f n (mn (ch f) c) (nI (c + 1))) ∧ (¬ p1 = 0 → fl_X7_charged_9 p1 f n (mx (ch f) c) (nI (c + 1)) = mx (ch f) N ∧ okl_X7_charged_9 p1 f n (mx (ch f) c) (nI (c + 1))) := by
  intro n
  induction n with
  | zero => intro c h1 h2; omega
  | succ n ih =>
    intro c h1 h2
    rw [fl_X7_charged_9, fl_X7_charged_9, okl_X7_charged_9, okl_X7_charged_9, hN]
    by_cases e : c = N
    · subst e
      have h : nI (c + 1) ≤ nI (c + 1) := nI_le (Nat.le_refl _) (by omega)
      rw [if_pos h, if_pos h]
      exact ⟨fun _ => ⟨rfl, fun _ => trivial, fun q => absurd h q⟩, fun _ => ⟨rfl, fun _ => trivial, fun q => absurd h q⟩⟩
    · have h : ¬ nI (N + 1) ≤ nI (c + 1) := nI_ge (by omega) (by omega)
      rw [if_neg h, if_neg h]
      obtain ⟨i1, i2⟩ := ih (c + 1) (by omega) (by omega)
      obtain ⟨o1, o2⟩ := p_of (f := f) (show c + 1 < 6 by omega)
      simp only [q_gL, q_p1, o1]
      have em : mn (ch f) (c + 1) = gmin (mn (ch f) c) (ch f (c + 1)) := rfl
      have eM : mx (ch f) (c + 1) = gmax (mx (ch f) c) (ch f (c + 1)) := rfl
      refine ⟨fun hp => ?_, fun hp => ?_⟩
      · have i1 := i1 hp
        rw [em, ← g_min] at i1
        simp only [if_pos hp]
        by_cases hc : mn (ch f) c ≤ ch f (c + 1)
        · rw [if_pos hc] at i1 ⊢
          exact ⟨i1.1, fun q => absurd q h, fun _ => ⟨o2, fun _ => ⟨fun _ => i1.2, fun q => absurd hc q⟩, fun q => absurd hp q⟩⟩
        · rw [if_neg hc] at i1 ⊢
          exact ⟨i1.1, fun q => absurd q h, fun _ => ⟨o2, fun _ => ⟨fun q => absurd q hc, fun _ => i1.2⟩, fun q => absurd hp q⟩⟩
      · have i2 := i2 hp
        rw [eM, ← g_max] at i2
        simp only [if_neg hp]
        by_cases hc : ch f (c + 1) ≤ mx (ch f) c
        · rw [if_pos hc] at i2 ⊢
          exact ⟨i2.1, fun q => absurd q h, fun _ => ⟨o2, fun q => absurd q hp, fun _ => ⟨fun _ => i2.2, fun q => absurd hc q⟩⟩⟩
        · rw [if_neg hc] at i2 ⊢
          exact ⟨i2.1, fun q => absurd q h, fun _ => ⟨o2, fun q => absurd q hp, fun _ => ⟨fun q => absurd q hc, fun _ => i2.2⟩⟩⟩
theorem p_charged {f : Nat → Int32} {N : Nat} (p1 : Int32) (hN : f 71 = nI (N + 1)) (h6 : N + 1 ≤ 6) : (p1 = 0 → f_X7_charged f p1 = mn (ch f) N) ∧ (¬ p1 = 0 → f_X7_charged f p1 = mx (ch f) N) ∧ ok_X7_charged f p1 := by
  obtain ⟨o1, o2⟩ := p_of (f := f) (show 0 < 6 by omega)
  obtain ⟨i1, i2⟩ := p_charged_aux p1 hN h6 7 0 (by omega) (by omega)
  unfold f_X7_charged ok_X7_charged
  simp only [q_gL, q_0 ▸ o1] at *
  have e0 : mn (ch f) 0 = ch f 0 := rfl
  have e1 : mx (ch f) 0 = ch f 0 := rfl
  have o1' : f_X7_of f 0 0 = ch f 0 := o1
  rw [o1']
  by_cases hp : p1 = 0
  · exact ⟨fun _ => (i1 hp).1, fun q => absurd hp q, o2, (i1 hp).2⟩
  · exact ⟨fun q => absurd q hp, fun _ => (i2 hp).1, o2, (i2 hp).2⟩
