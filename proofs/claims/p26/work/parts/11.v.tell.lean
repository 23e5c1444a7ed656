/-! PURE: what is told -/
theorem pu_count (cx : (Nat → Int32)) (o : (Nat → Int32)) (st : (Nat → Int32)) (b : (Nat → Nat → Int32)) (pf : (Nat → Nat → Int32)) (g : (Nat → Nat → Int32)) (so : (Nat → Int32)) (sst : (Nat → Int32)) (sb : (Nat → Nat → Int32)) (sp : (Nat → Nat → Int32)) (sg : (Nat → Nat → Int32)) (hh : HVal) (t : (Nat → Nat → Int32)) (mo : (Nat → Int32)) (f : (Nat → Int32)) (fw : (Nat → Int32)) (fs : (Nat → Int32)) (tx : (Nat → Int32)) (a1 : Int32) (h : Rel cx o st b pf g so sst sb sp sg hh t mo f fw fs tx) : (ok_X6_count b a1) ∧ (ok_X7_count f a1) ∧ (f_X6_count o st b pf hh t a1) = (f_X7_count mo f a1) ∧ Rel cx o st b pf g so sst sb sp sg hh t mo f fw fs tx := by
  obtain ⟨hS, k1, k2⟩ := Rel_now h
  obtain ⟨-, hH, hN, n, n1, n2, n3, n4⟩ := id h
  obtain ⟨x0, x1, x2, x3, x4, x5, x6, x7, x8, x9⟩ := hS.2.2.2.1
  obtain ⟨N, d, h6, d1, d2, s0, h42, b0, h71, hR, hB, hG⟩ := RB_G hS.1 hS.2.1
  obtain ⟨S, hS5, p0, f72, hst⟩ := hS.2.2.1
  obtain ⟨w1, -, w3⟩ := p_charged (f := f) 0 h71 h6
  have w1 := w1 rfl
  obtain ⟨-, y2, y3⟩ := p_charged (f := f) 1 h71 h6
  have y2 := y2 n10
  obtain ⟨l1, l2⟩ := p_least b0 h6
  obtain ⟨g1, g2⟩ := p_great b0 h6
  have em : mn (b 1) N = mn (ch f) N := mn_congr N (fun c hc => hR c 0 (by omega) (by omega))
  have eM : mx (b 1) N = mx (ch f) N := mx_congr N (fun c hc => hR c 0 (by omega) (by omega))
  have e78 : ¬ (7 : Int32) = 8 := by decide
  have n01 : ¬ (0 : Int32) = 1 := by decide
  suffices hh' : ok_X6_count b a1 ∧ ok_X7_count f a1 ∧ f_X6_count o st b pf hh t a1 = f_X7_count mo f a1 from ⟨hh'.1, hh'.2.1, hh'.2.2, h⟩
  by_cases c0 : a1 = 0
  · subst c0
    refine ⟨⟨fun _ => trivial, fun q => absurd rfl q⟩, ⟨fun _ => trivial, fun q => absurd rfl q⟩, ?_⟩
    unfold f_X6_count f_X7_count
    rw [if_pos rfl, if_pos rfl]
    exact x3
  by_cases c1 : a1 = 1
  · subst c1
    refine ⟨⟨fun q => absurd q c0, fun _ => ⟨fun _ => trivial, fun q => absurd rfl q⟩⟩, ⟨fun q => absurd q c0, fun _ => ⟨fun _ => trivial, fun q => absurd rfl q⟩⟩, ?_⟩
    unfold f_X6_count f_X7_count
    rw [if_neg c0, if_pos rfl, if_neg c0, if_pos rfl]
    exact b0.trans h71.symm
  by_cases c2 : a1 = 2
  · subst c2
    refine ⟨⟨fun q => absurd q c0, fun _ => ⟨fun q => absurd q c1, fun _ => ⟨fun _ => trivial, fun q => absurd rfl q⟩⟩⟩, ⟨fun q => absurd q c0, fun _ => ⟨fun q => absurd q c1, fun _ => ⟨fun _ => trivial, fun q => absurd rfl q⟩⟩⟩, ?_⟩
    unfold f_X6_count f_X7_count
    rw [if_neg c0, if_neg c1, if_pos rfl, if_neg c0, if_neg c1, if_pos rfl]
    exact p0.trans f72.symm
  by_cases c3 : a1 = 3
  · subst c3
    refine ⟨⟨fun q => absurd q c0, fun _ => ⟨fun q => absurd q c1, fun _ => ⟨fun q => absurd q c2, fun _ => ⟨fun _ => trivial, fun q => absurd rfl q⟩⟩⟩⟩, ⟨fun q => absurd q c0, fun _ => ⟨fun q => absurd q c1, fun _ => ⟨fun q => absurd q c2, fun _ => ⟨fun _ => trivial, fun q => absurd rfl q⟩⟩⟩⟩, ?_⟩
    unfold f_X6_count f_X7_count
    rw [if_neg c0, if_neg c1, if_neg c2, if_pos rfl, if_neg c0, if_neg c1, if_neg c2, if_pos rfl]
    exact x0
  by_cases c4 : a1 = 4
  · subst c4
    refine ⟨⟨fun q => absurd q c0, fun _ => ⟨fun q => absurd q c1, fun _ => ⟨fun q => absurd q c2, fun _ => ⟨fun q => absurd q c3, fun _ => ⟨fun _ => trivial, fun q => absurd rfl q⟩⟩⟩⟩⟩, ⟨fun q => absurd q c0, fun _ => ⟨fun q => absurd q c1, fun _ => ⟨fun q => absurd q c2, fun _ => ⟨fun q => absurd q c3, fun _ => ⟨fun _ => trivial, fun q => absurd rfl q⟩⟩⟩⟩⟩, ?_⟩
    unfold f_X6_count f_X7_count
    rw [if_neg c0, if_neg c1, if_neg c2, if_neg c3, if_pos rfl, if_neg c0, if_neg c1, if_neg c2, if_neg c3, if_pos rfl]
    rw [x0, x1]
  by_cases c5 : a1 = 5
  · subst c5
    refine ⟨⟨fun q => absurd q c0, fun _ => ⟨fun q => absurd q c1, fun _ => ⟨fun q => absurd q c2, fun _ => ⟨fun q => absurd q c3, fun _ => ⟨fun q => absurd q c4, fun _ => ⟨fun _ => trivial, fun q => absurd rfl q⟩⟩⟩⟩⟩⟩, ⟨fun q => absurd q c0, fun _ => ⟨fun q => absurd q c1, fun _ => ⟨fun q => absurd q c2, fun _ => ⟨fun q => absurd q c3, fun _ => ⟨fun q => absurd q c4, fun _ => ⟨fun _ => trivial, fun q => absurd rfl q⟩⟩⟩⟩⟩⟩, ?_⟩
    unfold f_X6_count f_X7_count
    rw [if_neg c0, if_neg c1, if_neg c2, if_neg c3, if_neg c4, if_pos rfl, if_neg c0, if_neg c1, if_neg c2, if_neg c3, if_neg c4, if_pos rfl]
    rw [x0, x2]
  by_cases c6 : a1 = 6
  · subst c6
    refine ⟨⟨fun q => absurd q c0, fun _ => ⟨fun q => absurd q c1, fun _ => ⟨fun q => absurd q c2, fun _ => ⟨fun q => absurd q c3, fun _ => ⟨fun q => absurd q c4, fun _ => ⟨fun q => absurd q c5, fun _ => ⟨fun _ => trivial, fun q => absurd rfl q⟩⟩⟩⟩⟩⟩⟩, ⟨fun q => absurd q c0, fun _ => ⟨fun q => absurd q c1, fun _ => ⟨fun q => absurd q c2, fun _ => ⟨fun q => absurd q c3, fun _ => ⟨fun q => absurd q c4, fun _ => ⟨fun q => absurd q c5, fun _ => ⟨fun _ => trivial, fun q => absurd rfl q⟩⟩⟩⟩⟩⟩⟩, ?_⟩
    unfold f_X6_count f_X7_count
    rw [if_neg c0, if_neg c1, if_neg c2, if_neg c3, if_neg c4, if_neg c5, if_pos rfl, if_neg c0, if_neg c1, if_neg c2, if_neg c3, if_neg c4, if_neg c5, if_pos rfl]
    exact x4
  by_cases c7 : a1 = 7
  · subst c7
    refine ⟨⟨fun q => absurd q c0, fun _ => ⟨fun q => absurd q c1, fun _ => ⟨fun q => absurd q c2, fun _ => ⟨fun q => absurd q c3, fun _ => ⟨fun q => absurd q c4, fun _ => ⟨fun q => absurd q c5, fun _ => ⟨fun q => absurd q c6, fun _ => ⟨fun _ => ⟨l2, trivial⟩, fun q => absurd rfl q⟩⟩⟩⟩⟩⟩⟩⟩, ⟨fun q => absurd q c0, fun _ => ⟨fun q => absurd q c1, fun _ => ⟨fun q => absurd q c2, fun _ => ⟨fun q => absurd q c3, fun _ => ⟨fun q => absurd q c4, fun _ => ⟨fun q => absurd q c5, fun _ => ⟨fun q => absurd q c6, fun _ => ⟨fun _ => ⟨fun q => absurd q e78, fun _ => ⟨w3, trivial⟩⟩, fun q => absurd rfl q⟩⟩⟩⟩⟩⟩⟩⟩, ?_⟩
    unfold f_X6_count f_X7_count
    rw [if_neg c0, if_neg c1, if_neg c2, if_neg c3, if_neg c4, if_neg c5, if_neg c6, if_pos rfl, if_neg c0, if_neg c1, if_neg c2, if_neg c3, if_neg c4, if_neg c5, if_neg c6, if_pos rfl]
    rw [if_neg e78, q_gLp, q_gLp, l1, w1]
    exact em
  by_cases c8 : a1 = 8
  · subst c8
    refine ⟨⟨fun q => absurd q c0, fun _ => ⟨fun q => absurd q c1, fun _ => ⟨fun q => absurd q c2, fun _ => ⟨fun q => absurd q c3, fun _ => ⟨fun q => absurd q c4, fun _ => ⟨fun q => absurd q c5, fun _ => ⟨fun q => absurd q c6, fun _ => ⟨fun q => absurd q c7, fun _ => ⟨fun _ => ⟨g2, trivial⟩, fun q => absurd rfl q⟩⟩⟩⟩⟩⟩⟩⟩⟩, ⟨fun q => absurd q c0, fun _ => ⟨fun q => absurd q c1, fun _ => ⟨fun q => absurd q c2, fun _ => ⟨fun q => absurd q c3, fun _ => ⟨fun q => absurd q c4, fun _ => ⟨fun q => absurd q c5, fun _ => ⟨fun q => absurd q c6, fun _ => ⟨fun q => absurd q c7, fun _ => ⟨fun _ => ⟨fun _ => ⟨y3, trivial⟩, fun q => absurd rfl q⟩, fun q => absurd rfl q⟩⟩⟩⟩⟩⟩⟩⟩⟩, ?_⟩
    unfold f_X6_count f_X7_count
    rw [if_neg c0, if_neg c1, if_neg c2, if_neg c3, if_neg c4, if_neg c5, if_neg c6, if_neg c7, if_pos rfl, if_neg c0, if_neg c1, if_neg c2, if_neg c3, if_neg c4, if_neg c5, if_neg c6, if_neg c7, if_pos rfl]
    rw [if_pos rfl, q_gLp, q_gLp, g1, y2]
    exact eM
  by_cases c9 : a1 = 9
  · subst c9
    refine ⟨⟨fun q => absurd q c0, fun _ => ⟨fun q => absurd q c1, fun _ => ⟨fun q => absurd q c2, fun _ => ⟨fun q => absurd q c3, fun _ => ⟨fun q => absurd q c4, fun _ => ⟨fun q => absurd q c5, fun _ => ⟨fun q => absurd q c6, fun _ => ⟨fun q => absurd q c7, fun _ => ⟨fun q => absurd q c8, fun _ => trivial⟩⟩⟩⟩⟩⟩⟩⟩⟩, ⟨fun q => absurd q c0, fun _ => ⟨fun q => absurd q c1, fun _ => ⟨fun q => absurd q c2, fun _ => ⟨fun q => absurd q c3, fun _ => ⟨fun q => absurd q c4, fun _ => ⟨fun q => absurd q c5, fun _ => ⟨fun q => absurd q c6, fun _ => ⟨fun q => absurd q c7, fun _ => ⟨fun q => absurd q c8, fun _ => trivial⟩⟩⟩⟩⟩⟩⟩⟩⟩, ?_⟩
    unfold f_X6_count f_X7_count
    rw [if_neg c0, if_neg c1, if_neg c2, if_neg c3, if_neg c4, if_neg c5, if_neg c6, if_neg c7, if_neg c8, if_pos rfl, if_neg c0, if_neg c1, if_neg c2, if_neg c3, if_neg c4, if_neg c5, if_neg c6, if_neg c7, if_neg c8, if_pos rfl]
    rw [q_gLp, ← x0]
    by_cases hm : o 0 = 1
    · rw [if_pos hm, q_gLp, (p_out (o := o) hS.2.1 hm).1]
    · rw [if_neg hm, p_nout hm, if_pos rfl]
  by_cases c10 : a1 = 10
  · subst c10
    refine ⟨⟨fun q => absurd q c0, fun _ => ⟨fun q => absurd q c1, fun _ => ⟨fun q => absurd q c2, fun _ => ⟨fun q => absurd q c3, fun _ => ⟨fun q => absurd q c4, fun _ => ⟨fun q => absurd q c5, fun _ => ⟨fun q => absurd q c6, fun _ => ⟨fun q => absurd q c7, fun _ => ⟨fun q => absurd q c8, fun _ => trivial⟩⟩⟩⟩⟩⟩⟩⟩⟩, ⟨fun q => absurd q c0, fun _ => ⟨fun q => absurd q c1, fun _ => ⟨fun q => absurd q c2, fun _ => ⟨fun q => absurd q c3, fun _ => ⟨fun q => absurd q c4, fun _ => ⟨fun q => absurd q c5, fun _ => ⟨fun q => absurd q c6, fun _ => ⟨fun q => absurd q c7, fun _ => ⟨fun q => absurd q c8, fun _ => trivial⟩⟩⟩⟩⟩⟩⟩⟩⟩, ?_⟩
    unfold f_X6_count f_X7_count
    rw [if_neg c0, if_neg c1, if_neg c2, if_neg c3, if_neg c4, if_neg c5, if_neg c6, if_neg c7, if_neg c8, if_neg c9, if_pos rfl, if_neg c0, if_neg c1, if_neg c2, if_neg c3, if_neg c4, if_neg c5, if_neg c6, if_neg c7, if_neg c8, if_neg c9, if_pos rfl]
    exact x6
  by_cases c11 : a1 = 11
  · subst c11
    refine ⟨⟨fun q => absurd q c0, fun _ => ⟨fun q => absurd q c1, fun _ => ⟨fun q => absurd q c2, fun _ => ⟨fun q => absurd q c3, fun _ => ⟨fun q => absurd q c4, fun _ => ⟨fun q => absurd q c5, fun _ => ⟨fun q => absurd q c6, fun _ => ⟨fun q => absurd q c7, fun _ => ⟨fun q => absurd q c8, fun _ => trivial⟩⟩⟩⟩⟩⟩⟩⟩⟩, ⟨fun q => absurd q c0, fun _ => ⟨fun q => absurd q c1, fun _ => ⟨fun q => absurd q c2, fun _ => ⟨fun q => absurd q c3, fun _ => ⟨fun q => absurd q c4, fun _ => ⟨fun q => absurd q c5, fun _ => ⟨fun q => absurd q c6, fun _ => ⟨fun q => absurd q c7, fun _ => ⟨fun q => absurd q c8, fun _ => trivial⟩⟩⟩⟩⟩⟩⟩⟩⟩, ?_⟩
    unfold f_X6_count f_X7_count
    rw [if_neg c0, if_neg c1, if_neg c2, if_neg c3, if_neg c4, if_neg c5, if_neg c6, if_neg c7, if_neg c8, if_neg c9, if_neg c10, if_pos rfl, if_neg c0, if_neg c1, if_neg c2, if_neg c3, if_neg c4, if_neg c5, if_neg c6, if_neg c7, if_neg c8, if_neg c9, if_neg c10, if_pos rfl]
    exact x7
  by_cases c12 : a1 = 12
  · subst c12
    refine ⟨⟨fun q => absurd q c0, fun _ => ⟨fun q => absurd q c1, fun _ => ⟨fun q => absurd q c2, fun _ => ⟨fun q => absurd q c3, fun _ => ⟨fun q => absurd q c4, fun _ => ⟨fun q => absurd q c5, fun _ => ⟨fun q => absurd q c6, fun _ => ⟨fun q => absurd q c7, fun _ => ⟨fun q => absurd q c8, fun _ => trivial⟩⟩⟩⟩⟩⟩⟩⟩⟩, ⟨fun q => absurd q c0, fun _ => ⟨fun q => absurd q c1, fun _ => ⟨fun q => absurd q c2, fun _ => ⟨fun q => absurd q c3, fun _ => ⟨fun q => absurd q c4, fun _ => ⟨fun q => absurd q c5, fun _ => ⟨fun q => absurd q c6, fun _ => ⟨fun q => absurd q c7, fun _ => ⟨fun q => absurd q c8, fun _ => trivial⟩⟩⟩⟩⟩⟩⟩⟩⟩, ?_⟩
    unfold f_X6_count f_X7_count
    rw [if_neg c0, if_neg c1, if_neg c2, if_neg c3, if_neg c4, if_neg c5, if_neg c6, if_neg c7, if_neg c8, if_neg c9, if_neg c10, if_neg c11, if_pos rfl, if_neg c0, if_neg c1, if_neg c2, if_neg c3, if_neg c4, if_neg c5, if_neg c6, if_neg c7, if_neg c8, if_neg c9, if_neg c10, if_neg c11, if_pos rfl]
    exact hH.2.2.1.symm
  by_cases c13 : a1 = 13
  · subst c13
    refine ⟨⟨fun q => absurd q c0, fun _ => ⟨fun q => absurd q c1, fun _ => ⟨fun q => absurd q c2, fun _ => ⟨fun q => absurd q c3, fun _ => ⟨fun q => absurd q c4, fun _ => ⟨fun q => absurd q c5, fun _ => ⟨fun q => absurd q c6, fun _ => ⟨fun q => absurd q c7, fun _ => ⟨fun q => absurd q c8, fun _ => trivial⟩⟩⟩⟩⟩⟩⟩⟩⟩, ⟨fun q => absurd q c0, fun _ => ⟨fun q => absurd q c1, fun _ => ⟨fun q => absurd q c2, fun _ => ⟨fun q => absurd q c3, fun _ => ⟨fun q => absurd q c4, fun _ => ⟨fun q => absurd q c5, fun _ => ⟨fun q => absurd q c6, fun _ => ⟨fun q => absurd q c7, fun _ => ⟨fun q => absurd q c8, fun _ => trivial⟩⟩⟩⟩⟩⟩⟩⟩⟩, ?_⟩
    unfold f_X6_count f_X7_count
    rw [if_neg c0, if_neg c1, if_neg c2, if_neg c3, if_neg c4, if_neg c5, if_neg c6, if_neg c7, if_neg c8, if_neg c9, if_neg c10, if_neg c11, if_neg c12, if_pos rfl, if_neg c0, if_neg c1, if_neg c2, if_neg c3, if_neg c4, if_neg c5, if_neg c6, if_neg c7, if_neg c8, if_neg c9, if_neg c10, if_neg c11, if_neg c12, if_pos rfl]
    exact n2.trans n3.symm
  refine ⟨⟨fun q => absurd q c0, fun _ => ⟨fun q => absurd q c1, fun _ => ⟨fun q => absurd q c2, fun _ => ⟨fun q => absurd q c3, fun _ => ⟨fun q => absurd q c4, fun _ => ⟨fun q => absurd q c5, fun _ => ⟨fun q => absurd q c6, fun _ => ⟨fun q => absurd q c7, fun _ => ⟨fun q => absurd q c8, fun _ => trivial⟩⟩⟩⟩⟩⟩⟩⟩⟩, ⟨fun q => absurd q c0, fun _ => ⟨fun q => absurd q c1, fun _ => ⟨fun q => absurd q c2, fun _ => ⟨fun q => absurd q c3, fun _ => ⟨fun q => absurd q c4, fun _ => ⟨fun q => absurd q c5, fun _ => ⟨fun q => absurd q c6, fun _ => ⟨fun q => absurd q c7, fun _ => ⟨fun q => absurd q c8, fun _ => trivial⟩⟩⟩⟩⟩⟩⟩⟩⟩, ?_⟩
  unfold f_X6_count f_X7_count
  rw [if_neg c0, if_neg c1, if_neg c2, if_neg c3, if_neg c4, if_neg c5, if_neg c6, if_neg c7, if_neg c8, if_neg c9, if_neg c10, if_neg c11, if_neg c12, if_neg c13, if_neg c0, if_neg c1, if_neg c2, if_neg c3, if_neg c4, if_neg c5, if_neg c6, if_neg c7, if_neg c8, if_neg c9, if_neg c10, if_neg c11, if_neg c12, if_neg c13]
theorem pu_stage (cx : (Nat → Int32)) (o : (Nat → Int32)) (st : (Nat → Int32)) (b : (Nat → Nat → Int32)) (pf : (Nat → Nat → Int32)) (g : (Nat → Nat → Int32)) (so : (Nat → Int32)) (sst : (Nat → Int32)) (sb : (Nat → Nat → Int32)) (sp : (Nat → Nat → Int32)) (sg : (Nat → Nat → Int32)) (hh : HVal) (t : (Nat → Nat → Int32)) (mo : (Nat → Int32)) (f : (Nat → Int32)) (fw : (Nat → Int32)) (fs : (Nat → Int32)) (tx : (Nat → Int32)) (a1 : Int32) (a2 : Int32) (h : Rel cx o st b pf g so sst sb sp sg hh t mo f fw fs tx) : (ok_X6_stage pf a1 a2) ∧ (ok_X7_stage f a1 a2) ∧ (f_X6_stage st pf a1 a2) = (f_X7_stage f a1 a2) ∧ Rel cx o st b pf g so sst sb sp sg hh t mo f fw fs tx := by
  obtain ⟨hS, k1, k2⟩ := Rel_now h
  obtain ⟨S, hS5, p0, f72, hst⟩ := hS.2.2.1
  suffices hh' : ok_X6_stage pf a1 a2 ∧ ok_X7_stage f a1 a2 ∧ f_X6_stage st pf a1 a2 = f_X7_stage f a1 a2 from ⟨hh'.1, hh'.2.1, hh'.2.2, h⟩
  have hcase : (f_X3_has pf a1 = 0 ∧ f_X7_in a1 0 (f 72 - 1) = 0) ∨ (∃ k, k < S ∧ a1 = nI k ∧ f_X7_in a1 0 (f 72 - 1) = 1) := by
    by_cases h1 : a1 < 0
    · exact Or.inl ⟨by unfold f_X3_has; rw [if_pos h1], p_in1 h1⟩
    · obtain ⟨k, kk1, kk2⟩ := nI_of h1
      subst kk2
      by_cases h2 : k < S
      · refine Or.inr ⟨k, h2, rfl, p_in3 h1 ?_⟩
        rw [f72, show (1 : Int32) = nI 1 from rfl, q_sub (by omega)]
        exact nI_le (by omega) (by omega)
      · refine Or.inl ⟨p_has0 kk1 p0 (by omega), p_in2 ?_⟩
        rw [f72]
        rcases Nat.eq_zero_or_pos S with q | q
        · subst q
          have e1 : (nI 0 - 1 : Int32) = -1 := by decide
          rw [e1]
          exact Int32.lt_of_lt_of_le (by decide) (Int32.not_lt.mp h1)
        · rw [show (1 : Int32) = nI 1 from rfl, q_sub (by omega)]
          exact nI_lt (by omega) (by omega)
  rcases hcase with ⟨e6, e7⟩ | ⟨k, hk, ea, e7⟩
  · have v6 : f_X6_stage st pf a1 a2 = -1 := by unfold f_X6_stage; rw [q_gLp, if_pos e6]
    have v7 : f_X7_stage f a1 a2 = -1 := by unfold f_X7_stage; rw [q_gLp, if_pos e7]
    refine ⟨?_, ?_, by rw [v6, v7]⟩
    · unfold ok_X6_stage; exact ⟨fun _ => trivial, fun q => absurd e6 q⟩
    · unfold ok_X7_stage; exact ⟨fun _ => trivial, fun q => absurd e7 q⟩
  · subst ea
    have r6 := q_1no (p_has1 hS5 p0 hk)
    have r7 := q_1no e7
    have hv : vp_in (nI k) 5 := vp_in_nI (by omega) (by omega)
    have cc : (nI k).toNatClampNeg = k := q_c (by omega)
    obtain ⟨s0, s1, s2, s3, t0, t1, t2, t3⟩ := p_st hk (hst k hk).1 hS5
    have hV := (hst k hk).2
    unfold ok_X6_stage ok_X7_stage f_X6_stage f_X7_stage
    by_cases c0 : a2 = 0
    · subst c0
      have e : ¬ f_X7_in 0 0 4 = 0 := by decide
      have n4 : ¬ (0 : Int32) = 4 := by decide
      refine ⟨⟨fun q => absurd q r6, fun _ => ⟨fun _ => ⟨hv, trivial⟩, fun q => absurd rfl q⟩⟩, ⟨fun q => absurd q r7, fun _ => ⟨fun q => absurd q e, fun _ => ⟨fun q => absurd q n4, fun _ => ⟨t0, trivial⟩⟩⟩⟩, ?_⟩
      rw [q_gLp, if_neg r6, if_pos rfl, q_gLp, if_neg r7, q_gLp, if_neg e, if_neg n4, q_gLp, cc]
      exact s0.symm
    by_cases c1 : a2 = 1
    · subst c1
      have e : ¬ f_X7_in 1 0 4 = 0 := by decide
      have n4 : ¬ (1 : Int32) = 4 := by decide
      refine ⟨⟨fun q => absurd q r6, fun _ => ⟨fun q => absurd q c0, fun _ => ⟨fun _ => ⟨hv, trivial⟩, fun q => absurd rfl q⟩⟩⟩, ⟨fun q => absurd q r7, fun _ => ⟨fun q => absurd q e, fun _ => ⟨fun q => absurd q n4, fun _ => ⟨t1, trivial⟩⟩⟩⟩, ?_⟩
      rw [q_gLp, if_neg r6, if_neg c0, if_pos rfl, q_gLp, if_neg r7, q_gLp, if_neg e, if_neg n4, q_gLp, cc]
      exact s1.symm
    by_cases c2 : a2 = 2
    · subst c2
      have e : ¬ f_X7_in 2 0 4 = 0 := by decide
      have n4 : ¬ (2 : Int32) = 4 := by decide
      refine ⟨⟨fun q => absurd q r6, fun _ => ⟨fun q => absurd q c0, fun _ => ⟨fun q => absurd q c1, fun _ => ⟨fun _ => ⟨hv, trivial⟩, fun q => absurd rfl q⟩⟩⟩⟩, ⟨fun q => absurd q r7, fun _ => ⟨fun q => absurd q e, fun _ => ⟨fun q => absurd q n4, fun _ => ⟨t2, trivial⟩⟩⟩⟩, ?_⟩
      rw [q_gLp, if_neg r6, if_neg c0, if_neg c1, if_pos rfl, q_gLp, if_neg r7, q_gLp, if_neg e, if_neg n4, q_gLp, cc]
      exact s2.symm
    by_cases c3 : a2 = 3
    · subst c3
      have e : ¬ f_X7_in 3 0 4 = 0 := by decide
      have n4 : ¬ (3 : Int32) = 4 := by decide
      refine ⟨⟨fun q => absurd q r6, fun _ => ⟨fun q => absurd q c0, fun _ => ⟨fun q => absurd q c1, fun _ => ⟨fun q => absurd q c2, fun _ => ⟨fun _ => ⟨hv, trivial⟩, fun q => absurd rfl q⟩⟩⟩⟩⟩, ⟨fun q => absurd q r7, fun _ => ⟨fun q => absurd q e, fun _ => ⟨fun q => absurd q n4, fun _ => ⟨t3, trivial⟩⟩⟩⟩, ?_⟩
      rw [q_gLp, if_neg r6, if_neg c0, if_neg c1, if_neg c2, if_pos rfl, q_gLp, if_neg r7, q_gLp, if_neg e, if_neg n4, q_gLp, cc]
      exact s3.symm
    by_cases c4 : a2 = 4
    · subst c4
      have e : ¬ f_X7_in 4 0 4 = 0 := by decide
      by_cases hk2 : pf 1 k = 2
      · refine ⟨⟨fun q => absurd q r6, fun _ => ⟨fun q => absurd q c0, fun _ => ⟨fun q => absurd q c1, fun _ => ⟨fun q => absurd q c2, fun _ => ⟨fun q => absurd q c3, fun _ => ⟨fun _ => ⟨hv, fun _ => trivial, fun q => absurd (by rw [cc]; exact hk2) q⟩, fun q => absurd rfl q⟩⟩⟩⟩⟩⟩, ⟨fun q => absurd q r7, fun _ => ⟨fun q => absurd q e, fun _ => ⟨fun _ => ⟨t0, fun _ => trivial, fun q => absurd (s0.trans hk2) q⟩, fun q => absurd rfl q⟩⟩⟩, ?_⟩
        rw [q_gLp, if_neg r6, if_neg c0, if_neg c1, if_neg c2, if_neg c3, if_pos rfl, cc, if_pos hk2, q_gLp, if_neg r7, q_gLp, if_neg e, if_pos rfl, q_gLp, s0, if_pos hk2]
      · have k01 : pf 1 k = 0 ∨ pf 1 k = 1 := by
          rcases RV_kind hV with q | q | q
          · exact Or.inl q
          · exact Or.inr q
          · exact absurd q hk2
        obtain ⟨m1, -, m3, m4⟩ := p_limit hk (hst k hk).1 hS5 hS.2.1 k01
        refine ⟨⟨fun q => absurd q r6, fun _ => ⟨fun q => absurd q c0, fun _ => ⟨fun q => absurd q c1, fun _ => ⟨fun q => absurd q c2, fun _ => ⟨fun q => absurd q c3, fun _ => ⟨fun _ => ⟨hv, fun q => absurd (by rw [cc] at q; exact q) hk2, fun _ => ⟨m3, trivial⟩⟩, fun q => absurd rfl q⟩⟩⟩⟩⟩⟩, ⟨fun q => absurd q r7, fun _ => ⟨fun q => absurd q e, fun _ => ⟨fun _ => ⟨t0, fun q => absurd (s0.symm.trans q) hk2, fun _ => ⟨m4, trivial⟩⟩, fun q => absurd rfl q⟩⟩⟩, ?_⟩
        rw [q_gLp, if_neg r6, if_neg c0, if_neg c1, if_neg c2, if_neg c3, if_pos rfl, cc, if_neg hk2, q_gLp, q_gLp, if_neg r7, q_gLp, if_neg e, if_pos rfl, q_gLp, s0, if_neg hk2, q_gLp, m1]
    have e : f_X7_in a2 0 4 = 0 := by
      by_cases q : a2 < 0
      · exact p_in1 q
      · obtain ⟨j, j1, j2⟩ := nI_of q
        subst j2
        refine p_in2 (nI_lt (a := 4) ?_ (by omega))
        by_cases q2 : 4 < j
        · exact q2
        · exfalso
          rcases (show j = 0 ∨ j = 1 ∨ j = 2 ∨ j = 3 ∨ j = 4 by omega) with rfl | rfl | rfl | rfl | rfl
          · exact c0 rfl
          · exact c1 rfl
          · exact c2 rfl
          · exact c3 rfl
          · exact c4 rfl
    refine ⟨⟨fun q => absurd q r6, fun _ => ⟨fun q => absurd q c0, fun _ => ⟨fun q => absurd q c1, fun _ => ⟨fun q => absurd q c2, fun _ => ⟨fun q => absurd q c3, fun _ => ⟨fun q => absurd q c4, fun _ => trivial⟩⟩⟩⟩⟩⟩, ⟨fun q => absurd q r7, fun _ => ⟨fun _ => trivial, fun q => absurd e q⟩⟩, ?_⟩
    rw [q_gLp, if_neg r6, if_neg c0, if_neg c1, if_neg c2, if_neg c3, if_neg c4, q_gLp, if_neg r7, q_gLp, if_pos e]
theorem pu_voltage (cx : (Nat → Int32)) (o : (Nat → Int32)) (st : (Nat → Int32)) (b : (Nat → Nat → Int32)) (pf : (Nat → Nat → Int32)) (g : (Nat → Nat → Int32)) (so : (Nat → Int32)) (sst : (Nat → Int32)) (sb : (Nat → Nat → Int32)) (sp : (Nat → Nat → Int32)) (sg : (Nat → Nat → Int32)) (hh : HVal) (t : (Nat → Nat → Int32)) (mo : (Nat → Int32)) (f : (Nat → Int32)) (fw : (Nat → Int32)) (fs : (Nat → Int32)) (tx : (Nat → Int32)) (a1 : Int32) (h : Rel cx o st b pf g so sst sb sp sg hh t mo f fw fs tx) : (ok_X6_voltage st b a1) ∧ (ok_X7_voltage f a1) ∧ (f_X6_voltage st b a1) = (f_X7_voltage f a1) ∧ Rel cx o st b pf g so sst sb sp sg hh t mo f fw fs tx := by
  obtain ⟨hS, k1, k2⟩ := Rel_now h
  obtain ⟨g1, g2, g3, -⟩ := p_high hS.1 hS.2.1 a1
  suffices hh' : ok_X6_voltage st b a1 ∧ ok_X7_voltage f a1 ∧ f_X6_voltage st b a1 = f_X7_voltage f a1 from ⟨hh'.1, hh'.2.1, hh'.2.2, h⟩
  unfold ok_X6_voltage ok_X7_voltage f_X6_voltage f_X7_voltage
  by_cases h1 : a1 < 0
  · have e := p_in1 (hi := 2000) h1
    refine ⟨⟨fun _ => trivial, fun q => absurd h1 q⟩, ⟨fun _ => trivial, fun q => absurd e q⟩, ?_⟩
    rw [if_pos h1, q_gLp, if_pos e]
  · by_cases h2 : a1 ≤ 2000
    · have e := q_1no (p_in3 h1 h2)
      refine ⟨⟨fun q => absurd q h1, fun _ => ⟨fun _ => ⟨g2, trivial⟩, fun q => absurd h2 q⟩⟩, ⟨fun q => absurd q e, fun _ => ⟨g3, trivial⟩⟩, ?_⟩
      rw [if_neg h1, if_pos h2, q_gLp, q_gLp, if_neg e, q_gLp, q_gLp]
      exact g1
    · have e : f_X7_in a1 0 2000 = 0 := p_in2 (Int32.not_le.mp h2)
      refine ⟨⟨fun q => absurd q h1, fun _ => ⟨fun q => absurd q h2, fun _ => trivial⟩⟩, ⟨fun _ => trivial, fun q => absurd e q⟩, ?_⟩
      rw [if_neg h1, if_neg h2, q_gLp, if_pos e]
theorem pu_current (cx : (Nat → Int32)) (o : (Nat → Int32)) (st : (Nat → Int32)) (b : (Nat → Nat → Int32)) (pf : (Nat → Nat → Int32)) (g : (Nat → Nat → Int32)) (so : (Nat → Int32)) (sst : (Nat → Int32)) (sb : (Nat → Nat → Int32)) (sp : (Nat → Nat → Int32)) (sg : (Nat → Nat → Int32)) (hh : HVal) (t : (Nat → Nat → Int32)) (mo : (Nat → Int32)) (f : (Nat → Int32)) (fw : (Nat → Int32)) (fs : (Nat → Int32)) (tx : (Nat → Int32)) (h : Rel cx o st b pf g so sst sb sp sg hh t mo f fw fs tx) : (ok_X6_current o st b pf) ∧ (ok_X7_current f) ∧ (f_X6_current o st b pf) = (f_X7_current f) ∧ Rel cx o st b pf g so sst sb sp sg hh t mo f fw fs tx := by
  obtain ⟨hS, k1, k2⟩ := Rel_now h
  have e0 : o 0 = f 73 := hS.2.2.2.1.1
  suffices hh' : ok_X6_current o st b pf ∧ ok_X7_current f ∧ f_X6_current o st b pf = f_X7_current f from ⟨hh'.1, hh'.2.1, hh'.2.2, h⟩
  by_cases h1 : o 0 = 1
  · have h1' : f 73 = 1 := e0.symm.trans h1
    obtain ⟨p1, p2⟩ := p_out (o := o) hS.2.1 h1
    obtain ⟨k, S, hK⟩ := SK_of hS.2.2.1 hS.2.2.2.1 h1
    obtain ⟨c1, c2, c3, c4⟩ := p_cur hK hS.2.1 hS.1
    unfold ok_X6_current ok_X7_current f_X6_current f_X7_current
    rcases p2 with p2 | p2
    · have hp := p1.trans p2
      refine ⟨⟨fun _ => ⟨fun _ => ⟨c1, trivial⟩, fun q => absurd hp q⟩, fun q => absurd h1 q⟩, ⟨fun _ => ⟨fun _ => ⟨c2, c3, trivial⟩, fun q => absurd p2 q⟩, fun q => absurd h1' q⟩, ?_⟩
      rw [if_pos h1, if_pos h1', q_gLp, if_pos hp, q_gLp, q_gLp, if_pos p2, q_gLp, q_gLp]
      rcases c4 with ⟨e1, e2⟩ | ⟨q, hq, e1, e2, e3⟩
      · rw [e1, e2, if_neg n10]
        decide
      · rw [e1, e3, if_pos rfl, e2, show (0 : Int32) = nI 0 from rfl, gmax_nI _ _ (by omega) (by omega), Nat.max_eq_right (Nat.zero_le _)]
    · have hp : ¬ f_X4_isPaused o st = 0 := q_1no (p1.trans p2)
      have hp2 : ¬ f_X7_isOut f = 0 := q_1no p2
      refine ⟨⟨fun _ => ⟨fun q => absurd q hp, fun _ => trivial⟩, fun q => absurd h1 q⟩, ⟨fun _ => ⟨fun q => absurd q hp2, fun _ => trivial⟩, fun q => absurd h1' q⟩, ?_⟩
      rw [if_pos h1, if_pos h1', q_gLp, if_neg hp, q_gLp, if_neg hp2]
  · have h1' : ¬ f 73 = 1 := fun q => h1 (e0.trans q)
    unfold ok_X6_current ok_X7_current f_X6_current f_X7_current
    refine ⟨⟨fun q => absurd q h1, fun _ => trivial⟩, ⟨fun q => absurd q h1', fun _ => trivial⟩, ?_⟩
    rw [if_neg h1, if_neg h1']
theorem p_fmod : ∀ X, X < 10 → ∀ B, B < 10 → f_J9_floorMod_7cf53 (nI X - 1 - nI B) 10 = nI ((X + 9 - B) % 10) := by decide +kernel
theorem p_out3 {x : Int32} (h1 : ¬ x < 0) (h2 : x ≤ 2) : x = 0 ∨ x = 1 ∨ x = 2 := by
  obtain ⟨j, j1, j2⟩ := q_rg (x := x) (M := 2) (n := 2) (by decide) (Int32.not_lt.mp h1) h2
  subst j2
  rcases (show j = 0 ∨ j = 1 ∨ j = 2 by omega) with rfl | rfl | rfl
  · exact Or.inl rfl
  · exact Or.inr (Or.inl rfl)
  · exact Or.inr (Or.inr rfl)
theorem pu_event (cx : (Nat → Int32)) (o : (Nat → Int32)) (st : (Nat → Int32)) (b : (Nat → Nat → Int32)) (pf : (Nat → Nat → Int32)) (g : (Nat → Nat → Int32)) (so : (Nat → Int32)) (sst : (Nat → Int32)) (sb : (Nat → Nat → Int32)) (sp : (Nat → Nat → Int32)) (sg : (Nat → Nat → Int32)) (hh : HVal) (t : (Nat → Nat → Int32)) (mo : (Nat → Int32)) (f : (Nat → Int32)) (fw : (Nat → Int32)) (fs : (Nat → Int32)) (tx : (Nat → Int32)) (a1 : Int32) (a2 : Int32) (h : Rel cx o st b pf g so sst sb sp sg hh t mo f fw fs tx) : (ok_X6_event g a1 a2) ∧ (ok_X7_event f a1 a2) ∧ (f_X6_event g a1 a2) = (f_X7_event f a1 a2) ∧ Rel cx o st b pf g so sst sb sp sg hh t mo f fw fs tx := by
  obtain ⟨hS, k1, k2⟩ := Rel_now h
  obtain ⟨E, X, hE, hX, g0, g1, f81, hj⟩ := hS.2.2.2.2
  suffices hh' : ok_X6_event g a1 a2 ∧ ok_X7_event f a1 a2 ∧ f_X6_event g a1 a2 = f_X7_event f a1 a2 from ⟨hh'.1, hh'.2.1, hh'.2.2, h⟩
  unfold ok_X6_event ok_X7_event f_X6_event f_X7_event
  by_cases h1 : a1 < 0
  · refine ⟨⟨fun _ => trivial, fun q => absurd h1 q⟩, ⟨fun _ => trivial, fun q => absurd h1 q⟩, ?_⟩
    rw [if_pos h1, if_pos h1]
  · by_cases h2 : a2 < 0
    · have e := p_in1 (hi := 2) h2
      refine ⟨⟨fun q => absurd q h1, fun _ => ⟨fun _ => trivial, fun q => absurd h2 q⟩⟩, ⟨fun q => absurd q h1, fun _ => ⟨fun _ => trivial, fun q => absurd e q⟩⟩, ?_⟩
      rw [if_neg h1, if_neg h1, if_pos h2, q_gLp, if_pos e]
    · by_cases h3 : a2 ≤ 2
      · have e := q_1no (p_in3 h2 h3)
        obtain ⟨B, B1, B2⟩ := nI_of h1
        subst B2
        rw [g0, f81]
        by_cases h4 : B < E
        · have c6 : nI B < nI E := nI_lt h4 (by omega)
          have c7 : ¬ nI E ≤ nI B := nI_ge h4 (by omega)
          have vp : f_X2_placeOf g (nI B) = nI ((X + 9 - B) % 10) := by unfold f_X2_placeOf; rw [q_gLp, g1]; exact p_fmod X hX B (by omega)
          have ok2 : ok_X2_placeOf := ⟨⟨by decide, trivial⟩, trivial⟩
          have hv : vp_in (f_X2_placeOf g (nI B)) 10 := by rw [vp]; exact vp_in_nI (by omega) (by omega)
          have cc : (f_X2_placeOf g (nI B)).toNatClampNeg = (X + 9 - B) % 10 := by rw [vp]; exact q_c (by omega)
          have ei : ∀ w : Nat, w < 3 → (82 + 3 * (nI E - 1 - nI B) + nI w : Int32) = nI (82 + 3 * (E - 1 - B) + w) := by
            intro w _
            rw [show (1 : Int32) = nI 1 from rfl, q_sub (by omega), q_sub (by omega), q_3, q_82, nI_add]
          rcases p_out3 h2 h3 with rfl | rfl | rfl
          · have ew : (82 + 3 * (nI E - 1 - nI B) + 0 : Int32) = nI (82 + 3 * (E - 1 - B) + 0) := ei 0 (by omega)
            refine ⟨⟨fun q => absurd q h1, fun _ => ⟨fun q => absurd q h2, fun _ => ⟨fun _ => ⟨fun _ => ⟨ok2, ⟨fun _ => ⟨hv, trivial⟩, fun _ => ⟨fun _ => ⟨hv, trivial⟩, fun _ => ⟨hv, trivial⟩⟩⟩⟩, fun q => absurd c6 q⟩, fun q => absurd h3 q⟩⟩⟩, ⟨fun q => absurd q h1, fun _ => ⟨fun q => absurd q e, fun _ => ⟨fun q => absurd q c7, fun _ => ⟨by rw [ew]; exact q_in (by omega), trivial⟩⟩⟩⟩, ?_⟩
            rw [if_neg h1, if_neg h2, if_pos h3, if_pos c6, q_gLp, if_pos rfl, cc, if_neg h1, q_gLp, if_neg e, if_neg c7, ew, q_c (by omega)]
            exact hj B 0 h4 (by omega)
          · have ew : (82 + 3 * (nI E - 1 - nI B) + 1 : Int32) = nI (82 + 3 * (E - 1 - B) + 1) := ei 1 (by omega)
            refine ⟨⟨fun q => absurd q h1, fun _ => ⟨fun q => absurd q h2, fun _ => ⟨fun _ => ⟨fun _ => ⟨ok2, ⟨fun _ => ⟨hv, trivial⟩, fun _ => ⟨fun _ => ⟨hv, trivial⟩, fun _ => ⟨hv, trivial⟩⟩⟩⟩, fun q => absurd c6 q⟩, fun q => absurd h3 q⟩⟩⟩, ⟨fun q => absurd q h1, fun _ => ⟨fun q => absurd q e, fun _ => ⟨fun q => absurd q c7, fun _ => ⟨by rw [ew]; exact q_in (by omega), trivial⟩⟩⟩⟩, ?_⟩
            rw [if_neg h1, if_neg h2, if_pos h3, if_pos c6, q_gLp, if_neg n10, if_pos rfl, cc, if_neg h1, q_gLp, if_neg e, if_neg c7, ew, q_c (by omega)]
            exact hj B 1 h4 (by omega)
          · have ew : (82 + 3 * (nI E - 1 - nI B) + 2 : Int32) = nI (82 + 3 * (E - 1 - B) + 2) := ei 2 (by omega)
            have n20 : ¬ (2 : Int32) = 0 := by decide
            have n21 : ¬ (2 : Int32) = 1 := by decide
            refine ⟨⟨fun q => absurd q h1, fun _ => ⟨fun q => absurd q h2, fun _ => ⟨fun _ => ⟨fun _ => ⟨ok2, ⟨fun _ => ⟨hv, trivial⟩, fun _ => ⟨fun _ => ⟨hv, trivial⟩, fun _ => ⟨hv, trivial⟩⟩⟩⟩, fun q => absurd c6 q⟩, fun q => absurd h3 q⟩⟩⟩, ⟨fun q => absurd q h1, fun _ => ⟨fun q => absurd q e, fun _ => ⟨fun q => absurd q c7, fun _ => ⟨by rw [ew]; exact q_in (by omega), trivial⟩⟩⟩⟩, ?_⟩
            rw [if_neg h1, if_neg h2, if_pos h3, if_pos c6, q_gLp, if_neg n20, if_neg n21, cc, if_neg h1, q_gLp, if_neg e, if_neg c7, ew, q_c (by omega)]
            exact hj B 2 h4 (by omega)
        · have c6 : ¬ nI B < nI E := nI_nlt (by omega) (by omega)
          have c7 : nI E ≤ nI B := nI_le (by omega) (by omega)
          refine ⟨⟨fun q => absurd q h1, fun _ => ⟨fun q => absurd q h2, fun _ => ⟨fun _ => ⟨fun q => absurd q c6, fun _ => trivial⟩, fun q => absurd h3 q⟩⟩⟩, ⟨fun q => absurd q h1, fun _ => ⟨fun q => absurd q e, fun _ => ⟨fun _ => trivial, fun q => absurd c7 q⟩⟩⟩, ?_⟩
          rw [if_neg h1, if_neg h2, if_pos h3, if_neg c6, if_neg h1, q_gLp, if_neg e, if_pos c7]
      · have e : f_X7_in a2 0 2 = 0 := p_in2 (Int32.not_le.mp h3)
        refine ⟨⟨fun q => absurd q h1, fun _ => ⟨fun q => absurd q h2, fun _ => ⟨fun q => absurd q h3, fun _ => trivial⟩⟩⟩, ⟨fun q => absurd q h1, fun _ => ⟨fun _ => trivial, fun q => absurd e q⟩⟩, ?_⟩
        rw [if_neg h1, if_neg h2, if_neg h3, if_neg h1, q_gLp, if_pos e]
